/-! ===== the reference: step ===== -/
theorem d147_0 : decode (zB 147) 0 = .ok (.aload_n 0, 1) := by decide +kernel
theorem d147_1 : decode (zB 147) 1 = .ok (.getfield 30, 3) := by decide +kernel
theorem d147_4 : decode (zB 147) 4 = .ok (.iload_n 1, 1) := by decide +kernel
theorem d147_5 : decode (zB 147) 5 = .ok (.aaload, 1) := by decide +kernel
theorem d147_6 : decode (zB 147) 6 = .ok (.iload_n 3, 1) := by decide +kernel
theorem d147_7 : decode (zB 147) 7 = .ok (.iaload, 1) := by decide +kernel
theorem d147_8 : decode (zB 147) 8 = .ok (.iload_n 2, 1) := by decide +kernel
theorem d147_9 : decode (zB 147) 9 = .ok (.ishr, 1) := by decide +kernel
theorem d147_10 : decode (zB 147) 10 = .ok (.iconst 1, 1) := by decide +kernel
theorem d147_11 : decode (zB 147) 11 = .ok (.iand, 1) := by decide +kernel
theorem d147_12 : decode (zB 147) 12 = .ok (.iconst 1, 1) := by decide +kernel
theorem d147_13 : decode (zB 147) 13 = .ok (.if_icmp .ne 7, 3) := by decide +kernel
theorem d147_16 : decode (zB 147) 16 = .ok (.iconst 1, 1) := by decide +kernel
theorem d147_17 : decode (zB 147) 17 = .ok (.goto 4, 3) := by decide +kernel
theorem d147_20 : decode (zB 147) 20 = .ok (.iconst 0, 1) := by decide +kernel
theorem d147_21 : decode (zB 147) 21 = .ok (.ireturn, 1) := by decide +kernel
theorem c147 {d : Nat} {M : zM} {Q : Option Value → zM → Prop} {T : yT} {t a b : Nat} (hX : SX M) (hT : XT1 M t T) (ho : OKT T) (ht : t < 6) (ha : a < tn T) (hb : b < tn T) (k : Q (some (.int (bI ((ta T b).testBit a)))) M) : qC (d + 1) 147 [.ref 136, .int (nI t), .int (nI a), .int (nI b)] M Q := by
  refine qC_of (by decide) (Nat.le_of_ble_eq_true rfl) ?_
  have hn := ho.n
  have hab := ho.a hb
  refine q_aload_n d147_0 rfl ?_
  refine q_getr (c := 8) (f := 7) d147_1 ⟨rfl, rfl⟩ (xk_136 hX) (xf_aheads hX) ?_
  refine q_iload_n d147_4 rfl ?_
  refine n_aald d147_5 (xk_aheads hX) (by decide) (by omega) (by decide) (xr_aheads hX (by omega)) ?_
  refine q_iload_n d147_6 rfl ?_
  refine n_iald d147_7 (xa_aheads hX (by omega)) (by omega) (by decide) (hT.2.2 _ (by omega)).2.2.2.2 ?_
  refine q_iload_n d147_8 rfl ?_
  refine q_ishr d147_9 ?_
  refine q_iconstN (z := 1) d147_10 ?_
  refine q_iand d147_11 ?_
  rw [n_bit (by omega) (by omega)]
  refine q_iconstN (z := 1) d147_12 ?_
  refine ic_ne 20 d147_13 (by decide) (fun h13 => ?_) (fun h13 => ?_)
  · refine q_iconstN (z := 0) d147_20 ?_
    refine q_zret d147_21 rfl (by decide) ?_
    exact bK0 k (bI_not h13)
  · refine q_iconstN (z := 1) d147_16 ?_
    refine q_goto 21 d147_17 (by decide) ?_
    refine q_zret d147_21 rfl (by decide) ?_
    exact bK1 k (bI_is h13)
theorem d149_0 : decode (zB 149) 0 = .ok (.iconst 0, 1) := by decide +kernel
theorem d149_1 : decode (zB 149) 1 = .ok (.istore_n 3, 1) := by decide +kernel
theorem d149_2 : decode (zB 149) 2 = .ok (.iconst 0, 1) := by decide +kernel
theorem d149_3 : decode (zB 149) 3 = .ok (.istore 4, 2) := by decide +kernel
theorem d149_5 : decode (zB 149) 5 = .ok (.iload 4, 2) := by decide +kernel
theorem d149_7 : decode (zB 149) 7 = .ok (.aload_n 0, 1) := by decide +kernel
theorem d149_8 : decode (zB 149) 8 = .ok (.getfield 9, 3) := by decide +kernel
theorem d149_11 : decode (zB 149) 11 = .ok (.iload_n 1, 1) := by decide +kernel
theorem d149_12 : decode (zB 149) 12 = .ok (.iaload, 1) := by decide +kernel
theorem d149_13 : decode (zB 149) 13 = .ok (.if_icmp .ge 44, 3) := by decide +kernel
theorem d149_16 : decode (zB 149) 16 = .ok (.iload 4, 2) := by decide +kernel
theorem d149_18 : decode (zB 149) 18 = .ok (.iload_n 2, 1) := by decide +kernel
theorem d149_19 : decode (zB 149) 19 = .ok (.if_icmp .eq 32, 3) := by decide +kernel
theorem d149_22 : decode (zB 149) 22 = .ok (.aload_n 0, 1) := by decide +kernel
theorem d149_23 : decode (zB 149) 23 = .ok (.iload_n 1, 1) := by decide +kernel
theorem d149_24 : decode (zB 149) 24 = .ok (.iload 4, 2) := by decide +kernel
theorem d149_26 : decode (zB 149) 26 = .ok (.iload_n 2, 1) := by decide +kernel
theorem d149_27 : decode (zB 149) 27 = .ok (.invokevirtual 206, 3) := by decide +kernel
theorem d149_30 : decode (zB 149) 30 = .ok (.ifCond .ne 21, 3) := by decide +kernel
theorem d149_33 : decode (zB 149) 33 = .ok (.aload_n 0, 1) := by decide +kernel
theorem d149_34 : decode (zB 149) 34 = .ok (.iload_n 1, 1) := by decide +kernel
theorem d149_35 : decode (zB 149) 35 = .ok (.iload_n 2, 1) := by decide +kernel
theorem d149_36 : decode (zB 149) 36 = .ok (.iload 4, 2) := by decide +kernel
theorem d149_38 : decode (zB 149) 38 = .ok (.invokevirtual 206, 3) := by decide +kernel
theorem d149_41 : decode (zB 149) 41 = .ok (.ifCond .ne 10, 3) := by decide +kernel
theorem d149_44 : decode (zB 149) 44 = .ok (.iload_n 3, 1) := by decide +kernel
theorem d149_45 : decode (zB 149) 45 = .ok (.iconst 1, 1) := by decide +kernel
theorem d149_46 : decode (zB 149) 46 = .ok (.iload 4, 2) := by decide +kernel
theorem d149_48 : decode (zB 149) 48 = .ok (.ishl, 1) := by decide +kernel
theorem d149_49 : decode (zB 149) 49 = .ok (.ior, 1) := by decide +kernel
theorem d149_50 : decode (zB 149) 50 = .ok (.istore_n 3, 1) := by decide +kernel
theorem d149_51 : decode (zB 149) 51 = .ok (.iinc 4 1, 3) := by decide +kernel
theorem d149_54 : decode (zB 149) 54 = .ok (.goto (-49), 3) := by decide +kernel
theorem d149_57 : decode (zB 149) 57 = .ok (.iload_n 3, 1) := by decide +kernel
theorem d149_58 : decode (zB 149) 58 = .ok (.ireturn, 1) := by decide +kernel
theorem l149 {d : Nat} {M : zM} {Q : Option Value → zM → Prop} {T : yT} {t s : Nat} (hX : SX M) (hT : XT1 M t T) (ho : OKT T) (ht : t < 6) (hs : s < tn T) (k : Q (some (.int (nI (ybd T s)))) M) : ∀ (r i : Nat), i ≤ tn T → tn T < i + r → qW (zEv (d + 1)) 149 Q 5 [(4, .int (nI i)), (3, .int (nI (ymk (fun k => !(k == s) && !(ta T s).testBit k && !(ta T k).testBit s) i))), (0, .ref 136), (1, .int (nI t)), (2, .int (nI s))] [] M := by
  intro r
  induction r with
  | zero => intros; omega
  | succ r ih =>
    intro i  h1 h2 
    have hn := ho.n
    refine q_iload d149_5 rfl ?_
    refine q_aload_n d149_7 rfl ?_
    refine q_getr (c := 8) (f := 1) d149_8 ⟨rfl, rfl⟩ (xk_136 hX) (xf_stepMany hX) ?_
    refine q_iload_n d149_11 rfl ?_
    refine n_iald d149_12 (xk_stepMany hX) (by omega) (by decide) hT.1 ?_
    refine nc_ge 57 d149_13 (by decide) (by omega) (by omega) (fun h13 => ?_) (fun h13 => ?_)
    · refine q_iload_n d149_57 rfl ?_
      refine q_iret d149_58 rfl ?_
      have e9 : i = tn T := by omega
      subst e9
      exact k
    · refine q_iload d149_16 rfl ?_
      refine q_iload_n d149_18 rfl ?_
      refine nc_eq 51 d149_19 (by decide) (by omega) (by omega) (fun h19 => ?_) (fun h19 => ?_)
      · refine n_iinc 1 d149_51 (by decide) rfl rfl ?_
        refine q_goto 5 d149_54 (by decide) ?_
        first
        | (have e9 : ymk (fun k => !(k == s) && !(ta T s).testBit k && !(ta T k).testBit s) (i + 1) = ymk (fun k => !(k == s) && !(ta T s).testBit k && !(ta T k).testBit s) i ||| 2 ^ i := by
             show ymk (fun k => !(k == s) && !(ta T s).testBit k && !(ta T k).testBit s) i ||| (if (!(i == s) && !(ta T s).testBit i && !(ta T i).testBit s) = true then 2 ^ i else 0) = _
             rw [if_pos (by simp [h19, h30, h41])]
           have ih1 := ih (i + 1) (by omega) (by omega)
           rw [e9] at ih1
           exact ih1)
        | (have e9 : ymk (fun k => !(k == s) && !(ta T s).testBit k && !(ta T k).testBit s) (i + 1) = ymk (fun k => !(k == s) && !(ta T s).testBit k && !(ta T k).testBit s) i := by
             show ymk (fun k => !(k == s) && !(ta T s).testBit k && !(ta T k).testBit s) i ||| (if (!(i == s) && !(ta T s).testBit i && !(ta T i).testBit s) = true then 2 ^ i else 0) = _
             rw [if_neg (by first | (simp [h19]; done) | (simp [h30]; done) | (simp [h41]; done))]
             exact Nat.or_zero _
           have ih1 := ih (i + 1) (by omega) (by omega)
           rw [e9] at ih1
           exact ih1)
      · refine q_aload_n d149_22 rfl ?_
        refine q_iload_n d149_23 rfl ?_
        refine q_iload d149_24 rfl ?_
        refine q_iload_n d149_26 rfl ?_
        refine q_v3 d149_27 rfl rfl (xk_136 hX) (Nat.le_of_ble_eq_true rfl) (c147 hX hT ho ht (by omega) (by omega) ?_)
        refine b0_ne 51 d149_30 (by decide) (fun h30 => ?_) (fun h30 => ?_)
        · refine n_iinc 1 d149_51 (by decide) rfl rfl ?_
          refine q_goto 5 d149_54 (by decide) ?_
          first
          | (have e9 : ymk (fun k => !(k == s) && !(ta T s).testBit k && !(ta T k).testBit s) (i + 1) = ymk (fun k => !(k == s) && !(ta T s).testBit k && !(ta T k).testBit s) i ||| 2 ^ i := by
               show ymk (fun k => !(k == s) && !(ta T s).testBit k && !(ta T k).testBit s) i ||| (if (!(i == s) && !(ta T s).testBit i && !(ta T i).testBit s) = true then 2 ^ i else 0) = _
               rw [if_pos (by simp [h19, h30, h41])]
             have ih1 := ih (i + 1) (by omega) (by omega)
             rw [e9] at ih1
             exact ih1)
          | (have e9 : ymk (fun k => !(k == s) && !(ta T s).testBit k && !(ta T k).testBit s) (i + 1) = ymk (fun k => !(k == s) && !(ta T s).testBit k && !(ta T k).testBit s) i := by
               show ymk (fun k => !(k == s) && !(ta T s).testBit k && !(ta T k).testBit s) i ||| (if (!(i == s) && !(ta T s).testBit i && !(ta T i).testBit s) = true then 2 ^ i else 0) = _
               rw [if_neg (by first | (simp [h19]; done) | (simp [h30]; done) | (simp [h41]; done))]
               exact Nat.or_zero _
             have ih1 := ih (i + 1) (by omega) (by omega)
             rw [e9] at ih1
             exact ih1)
        · refine q_aload_n d149_33 rfl ?_
          refine q_iload_n d149_34 rfl ?_
          refine q_iload_n d149_35 rfl ?_
          refine q_iload d149_36 rfl ?_
          refine q_v3 d149_38 rfl rfl (xk_136 hX) (Nat.le_of_ble_eq_true rfl) (c147 hX hT ho ht (by omega) (by omega) ?_)
          refine b0_ne 51 d149_41 (by decide) (fun h41 => ?_) (fun h41 => ?_)
          · refine n_iinc 1 d149_51 (by decide) rfl rfl ?_
            refine q_goto 5 d149_54 (by decide) ?_
            first
            | (have e9 : ymk (fun k => !(k == s) && !(ta T s).testBit k && !(ta T k).testBit s) (i + 1) = ymk (fun k => !(k == s) && !(ta T s).testBit k && !(ta T k).testBit s) i ||| 2 ^ i := by
                 show ymk (fun k => !(k == s) && !(ta T s).testBit k && !(ta T k).testBit s) i ||| (if (!(i == s) && !(ta T s).testBit i && !(ta T i).testBit s) = true then 2 ^ i else 0) = _
                 rw [if_pos (by simp [h19, h30, h41])]
               have ih1 := ih (i + 1) (by omega) (by omega)
               rw [e9] at ih1
               exact ih1)
            | (have e9 : ymk (fun k => !(k == s) && !(ta T s).testBit k && !(ta T k).testBit s) (i + 1) = ymk (fun k => !(k == s) && !(ta T s).testBit k && !(ta T k).testBit s) i := by
                 show ymk (fun k => !(k == s) && !(ta T s).testBit k && !(ta T k).testBit s) i ||| (if (!(i == s) && !(ta T s).testBit i && !(ta T i).testBit s) = true then 2 ^ i else 0) = _
                 rw [if_neg (by first | (simp [h19]; done) | (simp [h30]; done) | (simp [h41]; done))]
                 exact Nat.or_zero _
               have ih1 := ih (i + 1) (by omega) (by omega)
               rw [e9] at ih1
               exact ih1)
          · refine q_iload_n d149_44 rfl ?_
            refine q_iconstN (z := 1) d149_45 ?_
            refine q_iload d149_46 rfl ?_
            refine n_ishl1 d149_48 (by omega) ?_
            refine n_ior d149_49 ?_
            refine q_istore_n d149_50 (by decide) rfl ?_
            refine n_iinc 1 d149_51 (by decide) rfl rfl ?_
            refine q_goto 5 d149_54 (by decide) ?_
            first
            | (have e9 : ymk (fun k => !(k == s) && !(ta T s).testBit k && !(ta T k).testBit s) (i + 1) = ymk (fun k => !(k == s) && !(ta T s).testBit k && !(ta T k).testBit s) i ||| 2 ^ i := by
                 show ymk (fun k => !(k == s) && !(ta T s).testBit k && !(ta T k).testBit s) i ||| (if (!(i == s) && !(ta T s).testBit i && !(ta T i).testBit s) = true then 2 ^ i else 0) = _
                 rw [if_pos (by simp [h19, h30, h41])]
               have ih1 := ih (i + 1) (by omega) (by omega)
               rw [e9] at ih1
               exact ih1)
            | (have e9 : ymk (fun k => !(k == s) && !(ta T s).testBit k && !(ta T k).testBit s) (i + 1) = ymk (fun k => !(k == s) && !(ta T s).testBit k && !(ta T k).testBit s) i := by
                 show ymk (fun k => !(k == s) && !(ta T s).testBit k && !(ta T k).testBit s) i ||| (if (!(i == s) && !(ta T s).testBit i && !(ta T i).testBit s) = true then 2 ^ i else 0) = _
                 rw [if_neg (by first | (simp [h19]; done) | (simp [h30]; done) | (simp [h41]; done))]
                 exact Nat.or_zero _
               have ih1 := ih (i + 1) (by omega) (by omega)
               rw [e9] at ih1
               exact ih1)
theorem c149 {d : Nat} {M : zM} {Q : Option Value → zM → Prop} {T : yT} {t s : Nat} (hX : SX M) (hT : XT1 M t T) (ho : OKT T) (ht : t < 6) (hs : s < tn T) (k : Q (some (.int (nI (ybd T s)))) M) : qC (d + 2) 149 [.ref 136, .int (nI t), .int (nI s)] M Q := by
  refine qC_of (by decide) (Nat.le_of_ble_eq_true rfl) ?_
  refine q_iconstN (z := 0) d149_0 ?_
  refine q_istore_n d149_1 (by decide) rfl ?_
  refine q_iconstN (z := 0) d149_2 ?_
  refine q_istore d149_3 (by decide) rfl ?_
  exact l149 hX hT ho ht hs k (tn T + 1) 0 (by omega) (by omega)
theorem d165_0 : decode (zB 165) 0 = .ok (.aload_n 0, 1) := by decide +kernel
theorem d165_1 : decode (zB 165) 1 = .ok (.iload_n 1, 1) := by decide +kernel
theorem d165_2 : decode (zB 165) 2 = .ok (.iload_n 2, 1) := by decide +kernel
theorem d165_3 : decode (zB 165) 3 = .ok (.invokevirtual 264, 3) := by decide +kernel
theorem d165_6 : decode (zB 165) 6 = .ok (.ifCond .eq 12, 3) := by decide +kernel
theorem d165_9 : decode (zB 165) 9 = .ok (.iload_n 3, 1) := by decide +kernel
theorem d165_10 : decode (zB 165) 10 = .ok (.iconst 0, 1) := by decide +kernel
theorem d165_11 : decode (zB 165) 11 = .ok (.iconst 5, 1) := by decide +kernel
theorem d165_12 : decode (zB 165) 12 = .ok (.invokestatic 112, 3) := by decide +kernel
theorem d165_15 : decode (zB 165) 15 = .ok (.ifCond .ne 6, 3) := by decide +kernel
theorem d165_18 : decode (zB 165) 18 = .ok (.bipush (-2), 2) := by decide +kernel
theorem d165_20 : decode (zB 165) 20 = .ok (.ireturn, 1) := by decide +kernel
theorem d165_21 : decode (zB 165) 21 = .ok (.iload_n 3, 1) := by decide +kernel
theorem d165_22 : decode (zB 165) 22 = .ok (.tableswitch 79 0 4 #[34, 43, 52, 61, 70], 34) := by decide +kernel
theorem d165_56 : decode (zB 165) 56 = .ok (.aload_n 0, 1) := by decide +kernel
theorem d165_57 : decode (zB 165) 57 = .ok (.getfield 18, 3) := by decide +kernel
theorem d165_60 : decode (zB 165) 60 = .ok (.iload_n 1, 1) := by decide +kernel
theorem d165_61 : decode (zB 165) 61 = .ok (.aaload, 1) := by decide +kernel
theorem d165_62 : decode (zB 165) 62 = .ok (.iload_n 2, 1) := by decide +kernel
theorem d165_63 : decode (zB 165) 63 = .ok (.iaload, 1) := by decide +kernel
theorem d165_64 : decode (zB 165) 64 = .ok (.ireturn, 1) := by decide +kernel
theorem d165_65 : decode (zB 165) 65 = .ok (.aload_n 0, 1) := by decide +kernel
theorem d165_66 : decode (zB 165) 66 = .ok (.getfield 21, 3) := by decide +kernel
theorem d165_69 : decode (zB 165) 69 = .ok (.iload_n 1, 1) := by decide +kernel
theorem d165_70 : decode (zB 165) 70 = .ok (.aaload, 1) := by decide +kernel
theorem d165_71 : decode (zB 165) 71 = .ok (.iload_n 2, 1) := by decide +kernel
theorem d165_72 : decode (zB 165) 72 = .ok (.iaload, 1) := by decide +kernel
theorem d165_73 : decode (zB 165) 73 = .ok (.ireturn, 1) := by decide +kernel
theorem d165_74 : decode (zB 165) 74 = .ok (.aload_n 0, 1) := by decide +kernel
theorem d165_75 : decode (zB 165) 75 = .ok (.getfield 24, 3) := by decide +kernel
theorem d165_78 : decode (zB 165) 78 = .ok (.iload_n 1, 1) := by decide +kernel
theorem d165_79 : decode (zB 165) 79 = .ok (.aaload, 1) := by decide +kernel
theorem d165_80 : decode (zB 165) 80 = .ok (.iload_n 2, 1) := by decide +kernel
theorem d165_81 : decode (zB 165) 81 = .ok (.iaload, 1) := by decide +kernel
theorem d165_82 : decode (zB 165) 82 = .ok (.ireturn, 1) := by decide +kernel
theorem d165_83 : decode (zB 165) 83 = .ok (.aload_n 0, 1) := by decide +kernel
theorem d165_84 : decode (zB 165) 84 = .ok (.getfield 27, 3) := by decide +kernel
theorem d165_87 : decode (zB 165) 87 = .ok (.iload_n 1, 1) := by decide +kernel
theorem d165_88 : decode (zB 165) 88 = .ok (.aaload, 1) := by decide +kernel
theorem d165_89 : decode (zB 165) 89 = .ok (.iload_n 2, 1) := by decide +kernel
theorem d165_90 : decode (zB 165) 90 = .ok (.iaload, 1) := by decide +kernel
theorem d165_91 : decode (zB 165) 91 = .ok (.ireturn, 1) := by decide +kernel
theorem d165_92 : decode (zB 165) 92 = .ok (.aload_n 0, 1) := by decide +kernel
theorem d165_93 : decode (zB 165) 93 = .ok (.getfield 30, 3) := by decide +kernel
theorem d165_96 : decode (zB 165) 96 = .ok (.iload_n 1, 1) := by decide +kernel
theorem d165_97 : decode (zB 165) 97 = .ok (.aaload, 1) := by decide +kernel
theorem d165_98 : decode (zB 165) 98 = .ok (.iload_n 2, 1) := by decide +kernel
theorem d165_99 : decode (zB 165) 99 = .ok (.iaload, 1) := by decide +kernel
theorem d165_100 : decode (zB 165) 100 = .ok (.ireturn, 1) := by decide +kernel
theorem d165_101 : decode (zB 165) 101 = .ok (.aload_n 0, 1) := by decide +kernel
theorem d165_102 : decode (zB 165) 102 = .ok (.iload_n 1, 1) := by decide +kernel
theorem d165_103 : decode (zB 165) 103 = .ok (.iload_n 2, 1) := by decide +kernel
theorem d165_104 : decode (zB 165) 104 = .ok (.invokevirtual 219, 3) := by decide +kernel
theorem d165_107 : decode (zB 165) 107 = .ok (.ireturn, 1) := by decide +kernel
theorem x165 {d : Nat} {M : zM} {Q : Option Value → zM → Prop} {D : yD} {κ : Nat} {x y z : Int32} (hR : RX M D κ) (hD : OKD D) (hκ : κ + 4000 < 2147483648) (k : ∀ M', RX M' D κ → Fi FY M M' → Q (some (.int (sStep D x y z))) M') : qC (d + 4) 165 [.ref 136, .int x, .int y, .int z] M Q := by
  refine qC_of (by decide) (Nat.le_of_ble_eq_true rfl) ?_
  have hC := hR.1
  have hX := hC.1
  have hO : OKW (dT D) (dc D) (dW D) := hC.2.2.1
  have hc6 := hO.1.1
  have hL : XLo [] M (some (dL D)) := hC.2.2.2.2.2.2.1
  have hSa : ∀ s, s < 3 → XSa M s (dS D s) κ := hC.2.2.2.2.1
  have hTk := hC.k
  have hck := hC.2.2.2.2.2.1
  have h240 := hD.2.1
  unfold sStep at k
  rcases zix_c x (n := dc D) (by omega) with ⟨t, ht, rfl, et⟩ | ⟨et, nt⟩
  · rw [oz_s et] at k
    have ho := hO.1.2 _ ht
    have hn := ho.n
    rcases zix_c y (n := tn (dT D t)) (by omega) with ⟨i, hi, rfl, ei⟩ | ⟨ei, ni⟩
    · rw [oz_s ei] at k
      rcases zix_c z (n := 6) (by omega) with ⟨w, hw, rfl, ew⟩ | ⟨ew, nw⟩
      · rw [oz_s ew] at k
        rcases (show w = 0 ∨ w = 1 ∨ w = 2 ∨ w = 3 ∨ w = 4 ∨ w = 5 by omega) with rfl | rfl | rfl | rfl | rfl | rfl
        · refine q_aload_n d165_0 rfl ?_
          refine q_iload_n d165_1 rfl ?_
          refine q_iload_n d165_2 rfl ?_
          refine q_v2 d165_3 rfl rfl (xk_136 hX) (Nat.le_of_ble_eq_true rfl) (c166t hR (by omega) (by omega) ?_)
          refine n0_eq 18 d165_6 (by decide) (by decide) (fun q => absurd q (by decide)) (fun _ => ?_)
          refine q_iload_n d165_9 rfl ?_
          refine q_iconstN (z := 0) d165_10 ?_
          refine q_iconstN (z := 5) d165_11 ?_
          refine q_s3 d165_12 (Or.inl rfl) rfl (Nat.le_of_ble_eq_true rfl) (c131t ⟨by omega, by omega⟩ (by omega) ?_)
          refine n0_ne 21 d165_15 (by decide) (by decide) (fun _ => ?_) (fun q => absurd q (by decide))
          refine q_iload_n d165_21 rfl ?_
          refine n_tsI (34) 56 d165_22 (by decide) (by decide) rfl (by decide) ?_
          refine q_aload_n d165_56 rfl ?_
          refine q_getr (c := 8) (f := 3) d165_57 ⟨rfl, rfl⟩ (xk_136 hX) (xf_kinds hX) ?_
          refine q_iload_n d165_60 rfl ?_
          refine n_aald d165_61 (xk_kinds hX) (by decide) (by omega) (by decide) (xr_kinds hX (by omega)) ?_
          refine q_iload_n d165_62 rfl ?_
          refine n_iald d165_63 (xa_kinds hX (by omega)) (by omega) (by decide) ((hTk.1 _ ht).2.2 _ hi).1 ?_
          refine q_iret d165_64 rfl ?_
          exact k _ hR (Fi.refl _ _)
        · refine q_aload_n d165_0 rfl ?_
          refine q_iload_n d165_1 rfl ?_
          refine q_iload_n d165_2 rfl ?_
          refine q_v2 d165_3 rfl rfl (xk_136 hX) (Nat.le_of_ble_eq_true rfl) (c166t hR (by omega) (by omega) ?_)
          refine n0_eq 18 d165_6 (by decide) (by decide) (fun q => absurd q (by decide)) (fun _ => ?_)
          refine q_iload_n d165_9 rfl ?_
          refine q_iconstN (z := 0) d165_10 ?_
          refine q_iconstN (z := 5) d165_11 ?_
          refine q_s3 d165_12 (Or.inl rfl) rfl (Nat.le_of_ble_eq_true rfl) (c131t ⟨by omega, by omega⟩ (by omega) ?_)
          refine n0_ne 21 d165_15 (by decide) (by decide) (fun _ => ?_) (fun q => absurd q (by decide))
          refine q_iload_n d165_21 rfl ?_
          refine n_tsI (43) 65 d165_22 (by decide) (by decide) rfl (by decide) ?_
          refine q_aload_n d165_65 rfl ?_
          refine q_getr (c := 8) (f := 4) d165_66 ⟨rfl, rfl⟩ (xk_136 hX) (xf_firsts hX) ?_
          refine q_iload_n d165_69 rfl ?_
          refine n_aald d165_70 (xk_firsts hX) (by decide) (by omega) (by decide) (xr_firsts hX (by omega)) ?_
          refine q_iload_n d165_71 rfl ?_
          refine n_iald d165_72 (xa_firsts hX (by omega)) (by omega) (by decide) ((hTk.1 _ ht).2.2 _ hi).2.1 ?_
          refine q_iret d165_73 rfl ?_
          exact k _ hR (Fi.refl _ _)
        · refine q_aload_n d165_0 rfl ?_
          refine q_iload_n d165_1 rfl ?_
          refine q_iload_n d165_2 rfl ?_
          refine q_v2 d165_3 rfl rfl (xk_136 hX) (Nat.le_of_ble_eq_true rfl) (c166t hR (by omega) (by omega) ?_)
          refine n0_eq 18 d165_6 (by decide) (by decide) (fun q => absurd q (by decide)) (fun _ => ?_)
          refine q_iload_n d165_9 rfl ?_
          refine q_iconstN (z := 0) d165_10 ?_
          refine q_iconstN (z := 5) d165_11 ?_
          refine q_s3 d165_12 (Or.inl rfl) rfl (Nat.le_of_ble_eq_true rfl) (c131t ⟨by omega, by omega⟩ (by omega) ?_)
          refine n0_ne 21 d165_15 (by decide) (by decide) (fun _ => ?_) (fun q => absurd q (by decide))
          refine q_iload_n d165_21 rfl ?_
          refine n_tsI (52) 74 d165_22 (by decide) (by decide) rfl (by decide) ?_
          refine q_aload_n d165_74 rfl ?_
          refine q_getr (c := 8) (f := 5) d165_75 ⟨rfl, rfl⟩ (xk_136 hX) (xf_seconds hX) ?_
          refine q_iload_n d165_78 rfl ?_
          refine n_aald d165_79 (xk_seconds hX) (by decide) (by omega) (by decide) (xr_seconds hX (by omega)) ?_
          refine q_iload_n d165_80 rfl ?_
          refine n_iald d165_81 (xa_seconds hX (by omega)) (by omega) (by decide) ((hTk.1 _ ht).2.2 _ hi).2.2.1 ?_
          refine q_iret d165_82 rfl ?_
          exact k _ hR (Fi.refl _ _)
        · refine q_aload_n d165_0 rfl ?_
          refine q_iload_n d165_1 rfl ?_
          refine q_iload_n d165_2 rfl ?_
          refine q_v2 d165_3 rfl rfl (xk_136 hX) (Nat.le_of_ble_eq_true rfl) (c166t hR (by omega) (by omega) ?_)
          refine n0_eq 18 d165_6 (by decide) (by decide) (fun q => absurd q (by decide)) (fun _ => ?_)
          refine q_iload_n d165_9 rfl ?_
          refine q_iconstN (z := 0) d165_10 ?_
          refine q_iconstN (z := 5) d165_11 ?_
          refine q_s3 d165_12 (Or.inl rfl) rfl (Nat.le_of_ble_eq_true rfl) (c131t ⟨by omega, by omega⟩ (by omega) ?_)
          refine n0_ne 21 d165_15 (by decide) (by decide) (fun _ => ?_) (fun q => absurd q (by decide))
          refine q_iload_n d165_21 rfl ?_
          refine n_tsI (61) 83 d165_22 (by decide) (by decide) rfl (by decide) ?_
          refine q_aload_n d165_83 rfl ?_
          refine q_getr (c := 8) (f := 6) d165_84 ⟨rfl, rfl⟩ (xk_136 hX) (xf_numbers hX) ?_
          refine q_iload_n d165_87 rfl ?_
          refine n_aald d165_88 (xk_numbers hX) (by decide) (by omega) (by decide) (xr_numbers hX (by omega)) ?_
          refine q_iload_n d165_89 rfl ?_
          refine n_iald d165_90 (xa_numbers hX (by omega)) (by omega) (by decide) ((hTk.1 _ ht).2.2 _ hi).2.2.2.1 ?_
          refine q_iret d165_91 rfl ?_
          exact k _ hR (Fi.refl _ _)
        · refine q_aload_n d165_0 rfl ?_
          refine q_iload_n d165_1 rfl ?_
          refine q_iload_n d165_2 rfl ?_
          refine q_v2 d165_3 rfl rfl (xk_136 hX) (Nat.le_of_ble_eq_true rfl) (c166t hR (by omega) (by omega) ?_)
          refine n0_eq 18 d165_6 (by decide) (by decide) (fun q => absurd q (by decide)) (fun _ => ?_)
          refine q_iload_n d165_9 rfl ?_
          refine q_iconstN (z := 0) d165_10 ?_
          refine q_iconstN (z := 5) d165_11 ?_
          refine q_s3 d165_12 (Or.inl rfl) rfl (Nat.le_of_ble_eq_true rfl) (c131t ⟨by omega, by omega⟩ (by omega) ?_)
          refine n0_ne 21 d165_15 (by decide) (by decide) (fun _ => ?_) (fun q => absurd q (by decide))
          refine q_iload_n d165_21 rfl ?_
          refine n_tsI (70) 92 d165_22 (by decide) (by decide) rfl (by decide) ?_
          refine q_aload_n d165_92 rfl ?_
          refine q_getr (c := 8) (f := 7) d165_93 ⟨rfl, rfl⟩ (xk_136 hX) (xf_aheads hX) ?_
          refine q_iload_n d165_96 rfl ?_
          refine n_aald d165_97 (xk_aheads hX) (by decide) (by omega) (by decide) (xr_aheads hX (by omega)) ?_
          refine q_iload_n d165_98 rfl ?_
          refine n_iald d165_99 (xa_aheads hX (by omega)) (by omega) (by decide) ((hTk.1 _ ht).2.2 _ hi).2.2.2.2 ?_
          refine q_iret d165_100 rfl ?_
          exact k _ hR (Fi.refl _ _)
        · refine q_aload_n d165_0 rfl ?_
          refine q_iload_n d165_1 rfl ?_
          refine q_iload_n d165_2 rfl ?_
          refine q_v2 d165_3 rfl rfl (xk_136 hX) (Nat.le_of_ble_eq_true rfl) (c166t hR (by omega) (by omega) ?_)
          refine n0_eq 18 d165_6 (by decide) (by decide) (fun q => absurd q (by decide)) (fun _ => ?_)
          refine q_iload_n d165_9 rfl ?_
          refine q_iconstN (z := 0) d165_10 ?_
          refine q_iconstN (z := 5) d165_11 ?_
          refine q_s3 d165_12 (Or.inl rfl) rfl (Nat.le_of_ble_eq_true rfl) (c131t ⟨by omega, by omega⟩ (by omega) ?_)
          refine n0_ne 21 d165_15 (by decide) (by decide) (fun _ => ?_) (fun q => absurd q (by decide))
          refine q_iload_n d165_21 rfl ?_
          refine n_tsO 101 d165_22 (by omega) (Or.inr (by omega)) (by decide) ?_
          refine q_aload_n d165_101 rfl ?_
          refine q_iload_n d165_102 rfl ?_
          refine q_iload_n d165_103 rfl ?_
          refine q_v2 d165_104 rfl rfl (xk_136 hX) (Nat.le_of_ble_eq_true rfl) (c149 hX (hTk.1 _ ht) ho (by omega) hi ?_)
          refine q_iret d165_107 rfl ?_
          exact k _ hR (Fi.refl _ _)
      · rw [oz_n ew] at k
        refine q_aload_n d165_0 rfl ?_
        refine q_iload_n d165_1 rfl ?_
        refine q_iload_n d165_2 rfl ?_
        refine q_v2 d165_3 rfl rfl (xk_136 hX) (Nat.le_of_ble_eq_true rfl) (c166t hR (by omega) (by omega) ?_)
        refine n0_eq 18 d165_6 (by decide) (by decide) (fun q => absurd q (by decide)) (fun _ => ?_)
        refine q_iload_n d165_9 rfl ?_
        refine q_iconstN (z := 0) d165_10 ?_
        refine q_iconstN (z := 5) d165_11 ?_
        refine q_s3 d165_12 (Or.inl rfl) rfl (Nat.le_of_ble_eq_true rfl) (c131f (by decide) (by have := zix_none ew; omega) (by decide) ?_)
        refine n0_ne 21 d165_15 (by decide) (by decide) (fun q => absurd q (by decide)) (fun _ => ?_)
        refine q_bipush (x := (-2)) d165_18 rfl ?_
        refine q_iret d165_20 rfl ?_
        exact k _ hR (Fi.refl _ _)
    · rw [oz_n ei] at k
      refine q_aload_n d165_0 rfl ?_
      refine q_iload_n d165_1 rfl ?_
      refine q_iload_n d165_2 rfl ?_
      refine q_v2 d165_3 rfl rfl (xk_136 hX) (Nat.le_of_ble_eq_true rfl) (c166f hR (by omega) ei ?_)
      refine n0_eq 18 d165_6 (by decide) (by decide) (fun _ => ?_) (fun q => absurd q (by decide))
      refine q_bipush (x := (-2)) d165_18 rfl ?_
      refine q_iret d165_20 rfl ?_
      exact k _ hR (Fi.refl _ _)
  · rw [oz_n et] at k
    refine q_aload_n d165_0 rfl ?_
    refine q_iload_n d165_1 rfl ?_
    refine q_iload_n d165_2 rfl ?_
    refine q_v2 d165_3 rfl rfl (xk_136 hX) (Nat.le_of_ble_eq_true rfl) (c166x hR et ?_)
    refine n0_eq 18 d165_6 (by decide) (by decide) (fun _ => ?_) (fun q => absurd q (by decide))
    refine q_bipush (x := (-2)) d165_18 rfl ?_
    refine q_iret d165_20 rfl ?_
    exact k _ hR (Fi.refl _ _)
