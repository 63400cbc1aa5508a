/-! ===== contracts: RISKY sets ===== -/
/-- how many RISKY sets there are with just these of the steps below s, r steps from there -/
def yrk (T : yT) : Nat → Nat → Nat → (Nat → Int32) → Nat
  | 0, _, set, b => if ybl T (b, 0, 0) (ynx T set) then 1 else 0
  | r + 1, s, set, b =>
    if zdf (ta T s) set = 0 ∧ yob T (b, 0, 0) s (tu T s) 1 = 0 then yrk T r (s + 1) set b + yrk T r (s + 1) (set ||| 2 ^ s) (ych T (b, 0, 0) s (tu T s) 1).1
    else yrk T r (s + 1) set b
theorem ypu_1 {P P' : yP} {x m : Int32} (h : P.1 = P'.1) : (ypu P x m).1 = (ypu P' x m).1 := by
  unfold ypu; cases zix x 6 <;> simp only [h]
theorem yex_1 {P P' : yP} {x z : Int32} (h : P.1 = P'.1) : (yex P x z).1 = (yex P' x z).1 := by
  unfold yex; cases zix x 6 <;> cases zix z 6 <;> simp only [h]
theorem ych_1 {T : yT} {P P' : yP} {i : Nat} {n w : Int32} (h : P.1 = P'.1) : (ych T P i n w).1 = (ych T P' i n w).1 := by
  have h2 : (ypu (ypu P (tf T i) (w * yf1 (tk T i) n)) (ts T i) (w * yf2 (tk T i) n)).1 = (ypu (ypu P' (tf T i) (w * yf1 (tk T i) n)) (ts T i) (w * yf2 (tk T i) n)).1 := ypu_1 (ypu_1 h)
  unfold ych
  simp only []
  split
  · exact h2
  · split
    · exact yex_1 h2
    · split
      · exact h2
      · exact h2
theorem yob_1 {T : yT} {P P' : yP} {i : Nat} {n w : Int32} (h : P.1 = P'.1) : yob T P i n w = yob T P' i n w := by
  unfold yob ybe; rw [h]
theorem i_c0 (b z : Int32) : b + 1 * z + -1 * z = b := by rw [Int32.one_mul, m1_mul, Int32.add_assoc, Int32.add_right_neg, Int32.add_zero]
theorem i_c2 (b n : Int32) : b + 1 * -n + 1 * n + -1 * -n + -1 * n = b := by rw [Int32_c1, Int32_c1]
theorem ych_inv {T : yT} {P : yP} {i : Nat} {n : Int32} (hT : OKT T) (hi : i < tn T) : (ych T (ych T P i n 1) i n (-1)).1 = P.1 := by
  obtain ⟨k6, -, a5, an5, s24, sn, -, -⟩ := hT.2.2.2 i hi
  by_cases k5 : tk T i = 5
  · have e1 : (ych T P i n 1).1 = P.1 := by
      unfold ych
      rw [if_neg (by omega), if_neg (by omega), a5 k5, sn (by omega) (by omega), ypu_n, ypu_n]
      split <;> rfl
    rw [ych_1 e1]
    unfold ych
    rw [if_neg (by omega), if_neg (by omega), a5 k5, sn (by omega) (by omega), ypu_n, ypu_n]
    split <;> rfl
  · obtain ⟨a, ha, ea⟩ := an5 k5
    by_cases k24 : tk T i = 2 ∨ tk T i = 4
    · obtain ⟨b, hb, eb⟩ := s24 k24
      rcases k24 with k | k
      · have f1 : ∀ (P : yP) (w : Int32), (ych T P i n w).1 = yu (yu P.1 a (P.1 a + w * -n)) b (yu P.1 a (P.1 a + w * -n) b + w * n) := fun P w => by
          unfold ych
          rw [if_neg (by omega), if_neg (by omega), if_neg (by omega), ea, eb, ypu_a ha, ypu_a hb, k]; rfl
        rw [f1, f1]
        funext q
        by_cases e : b = a
        · subst e
          by_cases q1 : q = b
          · subst q1; simp only [yu_s]; exact i_c2 _ _
          · simp only [yu_n q1]
        · by_cases q1 : q = b
          · subst q1; simp only [yu_s, yu_n e, yu_n (fun h => e h.symm)]; exact i_c0 _ _
          · by_cases q2 : q = a
            · subst q2; simp only [yu_s, yu_n q1, yu_n (fun h => q1 h.symm)]; exact i_c0 _ _
            · simp only [yu_n q1, yu_n q2]
      · have f1 : ∀ (P : yP) (w : Int32), (ych T P i n w).1 = yu (yu P.1 a (P.1 b)) b (P.1 a) := fun P w => by
          have g : ∀ (P : yP) (c : Nat), c < 6 → ypu P (nI c) (w * 0) = P := fun P c hc => by
            rw [ypu_a hc, Int32.mul_zero, Int32.add_zero]
            have : yu P.1 c (P.1 c) = P.1 := by
              funext q; by_cases h : q = c
              · subst h; rw [yu_s]
              · rw [yu_n h]
            rw [this]
          unfold ych
          rw [if_neg (by omega), if_pos k, ea, eb, k]
          show (yex (ypu (ypu P (nI a) (w * 0)) (nI b) (w * 0)) (nI a) (nI b)).1 = _
          rw [g P a ha, g P b hb]
          unfold yex
          rw [zix_in ha (by omega), zix_in hb (by omega)]
        rw [f1, f1]
        funext q
        by_cases e : b = a
        · subst e
          by_cases q1 : q = b
          · subst q1; simp only [yu_s]
          · simp only [yu_n q1]
        · by_cases q1 : q = b
          · subst q1; simp only [yu_s, yu_n e, yu_n (fun h => e h.symm)]
          · by_cases q2 : q = a
            · subst q2; simp only [yu_s, yu_n q1, yu_n (fun h => q1 h.symm)]
            · simp only [yu_n q1, yu_n q2]
    · have f1 : ∀ (P : yP) (w : Int32), (ych T P i n w).1 = yu P.1 a (P.1 a + w * yf1 (tk T i) n) := fun P w => by
        unfold ych
        rw [sn (by omega) (by omega), ypu_n, ea, ypu_a ha]
        split
        · rfl
        · rw [if_neg (by omega)]; split <;> rfl
      rw [f1, f1]
      funext q
      by_cases q1 : q = a
      · subst q1; simp only [yu_s]; exact i_c0 _ _
      · simp only [yu_n q1]
theorem d43_0 : decode (zB 43) 0 = .ok (.iload_n 2, 1) := by decide +kernel
theorem d43_1 : decode (zB 43) 1 = .ok (.aload_n 0, 1) := by decide +kernel
theorem d43_2 : decode (zB 43) 2 = .ok (.getfield 80, 3) := by decide +kernel
theorem d43_5 : decode (zB 43) 5 = .ok (.if_icmp .lt 22, 3) := by decide +kernel
theorem d43_8 : decode (zB 43) 8 = .ok (.aload_n 1, 1) := by decide +kernel
theorem d43_9 : decode (zB 43) 9 = .ok (.aload_n 0, 1) := by decide +kernel
theorem d43_10 : decode (zB 43) 10 = .ok (.aload_n 0, 1) := by decide +kernel
theorem d43_11 : decode (zB 43) 11 = .ok (.iload_n 3, 1) := by decide +kernel
theorem d43_12 : decode (zB 43) 12 = .ok (.invokevirtual 306, 3) := by decide +kernel
theorem d43_15 : decode (zB 43) 15 = .ok (.invokevirtual 309, 3) := by decide +kernel
theorem d43_18 : decode (zB 43) 18 = .ok (.ifCond .eq 7, 3) := by decide +kernel
theorem d43_21 : decode (zB 43) 21 = .ok (.iconst 1, 1) := by decide +kernel
theorem d43_22 : decode (zB 43) 22 = .ok (.goto 4, 3) := by decide +kernel
theorem d43_25 : decode (zB 43) 25 = .ok (.iconst 0, 1) := by decide +kernel
theorem d43_26 : decode (zB 43) 26 = .ok (.ireturn, 1) := by decide +kernel
theorem d43_27 : decode (zB 43) 27 = .ok (.aload_n 0, 1) := by decide +kernel
theorem d43_28 : decode (zB 43) 28 = .ok (.aload_n 1, 1) := by decide +kernel
theorem d43_29 : decode (zB 43) 29 = .ok (.iload_n 2, 1) := by decide +kernel
theorem d43_30 : decode (zB 43) 30 = .ok (.iconst 1, 1) := by decide +kernel
theorem d43_31 : decode (zB 43) 31 = .ok (.iadd, 1) := by decide +kernel
theorem d43_32 : decode (zB 43) 32 = .ok (.iload_n 3, 1) := by decide +kernel
theorem d43_33 : decode (zB 43) 33 = .ok (.invokestatic 104, 3) := by decide +kernel
theorem d43_36 : decode (zB 43) 36 = .ok (.istore 4, 2) := by decide +kernel
theorem d43_38 : decode (zB 43) 38 = .ok (.aload_n 0, 1) := by decide +kernel
theorem d43_39 : decode (zB 43) 39 = .ok (.getfield 127, 3) := by decide +kernel
theorem d43_42 : decode (zB 43) 42 = .ok (.iload_n 2, 1) := by decide +kernel
theorem d43_43 : decode (zB 43) 43 = .ok (.iaload, 1) := by decide +kernel
theorem d43_44 : decode (zB 43) 44 = .ok (.istore 5, 2) := by decide +kernel
theorem d43_46 : decode (zB 43) 46 = .ok (.aload_n 0, 1) := by decide +kernel
theorem d43_47 : decode (zB 43) 47 = .ok (.getfield 130, 3) := by decide +kernel
theorem d43_50 : decode (zB 43) 50 = .ok (.iload_n 2, 1) := by decide +kernel
theorem d43_51 : decode (zB 43) 51 = .ok (.iaload, 1) := by decide +kernel
theorem d43_52 : decode (zB 43) 52 = .ok (.iload_n 3, 1) := by decide +kernel
theorem d43_53 : decode (zB 43) 53 = .ok (.iconst (-1), 1) := by decide +kernel
theorem d43_54 : decode (zB 43) 54 = .ok (.ixor, 1) := by decide +kernel
theorem d43_55 : decode (zB 43) 55 = .ok (.iand, 1) := by decide +kernel
theorem d43_56 : decode (zB 43) 56 = .ok (.ifCond .ne 7, 3) := by decide +kernel
theorem d43_59 : decode (zB 43) 59 = .ok (.iconst 1, 1) := by decide +kernel
theorem d43_60 : decode (zB 43) 60 = .ok (.goto 4, 3) := by decide +kernel
theorem d43_63 : decode (zB 43) 63 = .ok (.iconst 0, 1) := by decide +kernel
theorem d43_64 : decode (zB 43) 64 = .ok (.istore 6, 2) := by decide +kernel
theorem d43_66 : decode (zB 43) 66 = .ok (.iload 6, 2) := by decide +kernel
theorem d43_68 : decode (zB 43) 68 = .ok (.ifCond .eq 51, 3) := by decide +kernel
theorem d43_71 : decode (zB 43) 71 = .ok (.aload_n 1, 1) := by decide +kernel
theorem d43_72 : decode (zB 43) 72 = .ok (.aload_n 0, 1) := by decide +kernel
theorem d43_73 : decode (zB 43) 73 = .ok (.iload_n 2, 1) := by decide +kernel
theorem d43_74 : decode (zB 43) 74 = .ok (.iload 5, 2) := by decide +kernel
theorem d43_76 : decode (zB 43) 76 = .ok (.iconst 1, 1) := by decide +kernel
theorem d43_77 : decode (zB 43) 77 = .ok (.invokevirtual 313, 3) := by decide +kernel
theorem d43_80 : decode (zB 43) 80 = .ok (.ifCond .ne 39, 3) := by decide +kernel
theorem d43_83 : decode (zB 43) 83 = .ok (.aload_n 1, 1) := by decide +kernel
theorem d43_84 : decode (zB 43) 84 = .ok (.aload_n 0, 1) := by decide +kernel
theorem d43_85 : decode (zB 43) 85 = .ok (.iload_n 2, 1) := by decide +kernel
theorem d43_86 : decode (zB 43) 86 = .ok (.iload 5, 2) := by decide +kernel
theorem d43_88 : decode (zB 43) 88 = .ok (.iconst 1, 1) := by decide +kernel
theorem d43_89 : decode (zB 43) 89 = .ok (.invokevirtual 317, 3) := by decide +kernel
theorem d43_92 : decode (zB 43) 92 = .ok (.iload 4, 2) := by decide +kernel
theorem d43_94 : decode (zB 43) 94 = .ok (.aload_n 0, 1) := by decide +kernel
theorem d43_95 : decode (zB 43) 95 = .ok (.aload_n 1, 1) := by decide +kernel
theorem d43_96 : decode (zB 43) 96 = .ok (.iload_n 2, 1) := by decide +kernel
theorem d43_97 : decode (zB 43) 97 = .ok (.iconst 1, 1) := by decide +kernel
theorem d43_98 : decode (zB 43) 98 = .ok (.iadd, 1) := by decide +kernel
theorem d43_99 : decode (zB 43) 99 = .ok (.iload_n 3, 1) := by decide +kernel
theorem d43_100 : decode (zB 43) 100 = .ok (.iconst 1, 1) := by decide +kernel
theorem d43_101 : decode (zB 43) 101 = .ok (.iload_n 2, 1) := by decide +kernel
theorem d43_102 : decode (zB 43) 102 = .ok (.ishl, 1) := by decide +kernel
theorem d43_103 : decode (zB 43) 103 = .ok (.ior, 1) := by decide +kernel
theorem d43_104 : decode (zB 43) 104 = .ok (.invokestatic 104, 3) := by decide +kernel
theorem d43_107 : decode (zB 43) 107 = .ok (.iadd, 1) := by decide +kernel
theorem d43_108 : decode (zB 43) 108 = .ok (.istore 4, 2) := by decide +kernel
theorem d43_110 : decode (zB 43) 110 = .ok (.aload_n 1, 1) := by decide +kernel
theorem d43_111 : decode (zB 43) 111 = .ok (.aload_n 0, 1) := by decide +kernel
theorem d43_112 : decode (zB 43) 112 = .ok (.iload_n 2, 1) := by decide +kernel
theorem d43_113 : decode (zB 43) 113 = .ok (.iload 5, 2) := by decide +kernel
theorem d43_115 : decode (zB 43) 115 = .ok (.iconst (-1), 1) := by decide +kernel
theorem d43_116 : decode (zB 43) 116 = .ok (.invokevirtual 317, 3) := by decide +kernel
theorem d43_119 : decode (zB 43) 119 = .ok (.iload 4, 2) := by decide +kernel
theorem d43_121 : decode (zB 43) 121 = .ok (.ireturn, 1) := by decide +kernel
theorem c43 {d u a : Nat} {T : yT} (ho : OKT T) (hau : a + 7 ≤ u) : ∀ (r s set : Nat) (P : yP) (M : zM) {Q : Option Value → zM → Prop}, s + r = tn T → set < 4096 → SPu M u → RPu M u P → SPr M a → RP M a T → (∀ M' P', P'.1 = P.1 → RPu M' u P' → Fi (FU u) M M' → Q (some (.int (nI (yrk T r s set P.1)))) M') → qC (d + r + 4) 43 [.ref a, .ref u, .int (nI s), .int (nI set)] M Q := by
  have hn := ho.n
  intro r
  induction r with
  | zero =>
    intro s set P M Q hs hset hu hP hp hr k
    refine qC_of (by decide) (Nat.le_of_ble_eq_true rfl) ?_
    refine q_iload_n d43_0 rfl ?_
    refine q_aload_n d43_1 rfl ?_
    refine q_getv (c := 1) (f := 6) d43_2 ⟨rfl, by decide⟩ hp.1 hr.1 ?_
    refine nc_lt 27 d43_5 (by decide) (by omega) (by omega) (fun h5 => (False.elim (by omega))) (fun h5 => ?_)
    refine q_aload_n d43_8 rfl ?_
    refine q_aload_n d43_9 rfl ?_
    refine q_aload_n d43_10 rfl ?_
    refine q_iload_n d43_11 rfl ?_
    refine q_v1 d43_12 rfl rfl hp.1 (Nat.le_of_ble_eq_true rfl) (c44 hp hr ho hset ?_)
    refine q_v2 d43_15 rfl rfl hu.1 (Nat.le_of_ble_eq_true rfl) (c45 hu hP hp hr ho (ymk_lt12 _ hn) ?_)
    refine b0_eq 25 d43_18 (by decide) (fun h18 => ?_) (fun h18 => ?_)
    · refine q_iconstN (z := 0) d43_25 ?_
      refine q_iret d43_26 rfl ?_
      first
      | exact nK (k _ P rfl hP (Fi.refl _ _)) (by rw [yrk, if_pos (show ybl T (P.1, 0, 0) (ynx T set) = true from h18)])
      | exact nK (k _ P rfl hP (Fi.refl _ _)) (by rw [yrk, if_neg (show ¬ ybl T (P.1, 0, 0) (ynx T set) = true by rw [show ybl T (P.1, 0, 0) (ynx T set) = false from h18]; decide)])
    · refine q_iconstN (z := 1) d43_21 ?_
      refine q_goto 26 d43_22 (by decide) ?_
      refine q_iret d43_26 rfl ?_
      first
      | exact nK (k _ P rfl hP (Fi.refl _ _)) (by rw [yrk, if_pos (show ybl T (P.1, 0, 0) (ynx T set) = true from h18)])
      | exact nK (k _ P rfl hP (Fi.refl _ _)) (by rw [yrk, if_neg (show ¬ ybl T (P.1, 0, 0) (ynx T set) = true by rw [show ybl T (P.1, 0, 0) (ynx T set) = false from h18]; decide)])
  | succ r ih =>
    intro s set P M Q hs hset hu hP hp hr k
    have hi : s < tn T := by omega
    refine qC_of (d := d + r + 4) (by decide) (Nat.le_of_ble_eq_true rfl) ?_
    refine q_iload_n d43_0 rfl ?_
    refine q_aload_n d43_1 rfl ?_
    refine q_getv (c := 1) (f := 6) d43_2 ⟨rfl, by decide⟩ hp.1 hr.1 ?_
    refine nc_lt 27 d43_5 (by decide) (by omega) (by omega) (fun h5 => ?_) (fun h5 => (False.elim (by omega)))
    refine q_aload_n d43_27 rfl ?_
    refine q_aload_n d43_28 rfl ?_
    refine q_iload_n d43_29 rfl ?_
    refine q_iconstN (z := 1) d43_30 ?_
    refine n_iadd d43_31 ?_
    refine q_iload_n d43_32 rfl ?_
    refine q_s4 d43_33 (Or.inl rfl) rfl (Nat.le_of_ble_eq_true rfl) (ih (s + 1) set P _ (by omega) hset hu hP hp hr (fun M1 P1 e1 hP1 f1 => ?_))
    have hu1 := SPu_fi hu f1
    have hp1 := SPr_fi hp f1
    have hr1 := RP_fr hr f1.fr (FU_x hau)
    refine q_istore d43_36 (by decide) rfl ?_
    refine q_aload_n d43_38 rfl ?_
    refine q_getr (c := 1) (f := 3) d43_39 ⟨rfl, rfl⟩ hp1.1 (hp1.2 3 (by decide)).1 ?_
    refine q_iload_n d43_42 rfl ?_
    refine n_iald d43_43 (hp1.2 3 (by decide)).2 (by omega) (by decide) (hr1.2.2 _ (by omega)).2.2.2.1 ?_
    refine q_istore d43_44 (by decide) rfl ?_
    have hza := zdf_12 (b := set) (ho.a hi)
    refine q_aload_n d43_46 rfl ?_
    refine q_getr (c := 1) (f := 4) d43_47 ⟨rfl, rfl⟩ hp1.1 (hp1.2 4 (by decide)).1 ?_
    refine q_iload_n d43_50 rfl ?_
    refine n_iald d43_51 (hp1.2 4 (by decide)).2 (by omega) (by decide) (hr1.2.2 _ (by omega)).2.2.2.2 ?_
    refine q_iload_n d43_52 rfl ?_
    refine q_iconst (x := (-1)) d43_53 rfl ?_
    refine q_ixor d43_54 ?_
    refine n_iandn d43_55 ?_
    refine n0_ne 63 d43_56 (by decide) (by omega) (fun h56 => ?_) (fun h56 => ?_)
    · refine q_iconstN (z := 0) d43_63 ?_
      refine q_istore d43_64 (by decide) rfl ?_
      refine q_iload d43_66 rfl ?_
      refine n0_eq 119 d43_68 (by decide) (by decide) (fun _ => ?_) (fun q => absurd q (by decide))
      refine q_iload d43_119 rfl ?_
      refine q_iret d43_121 rfl ?_
      first
      | (refine nK (k _ _ ?_ hP4 (((f1.trans f2).trans f3).trans f4)) ?_
         · exact ((ych_1 e3).trans (ych_inv ho hi)).trans e1
         · rw [yrk, if_pos ⟨h56, (yob_1 (P := (P.1, 0, 0)) (P' := P1) e1.symm).trans h80⟩, ych_1 (P := P1) (P' := (P.1, 0, 0)) e1])
      | exact nK (k _ P1 e1 hP1 f1) (by rw [yrk, if_neg (fun q => h80 ((yob_1 (P := P1) (P' := (P.1, 0, 0)) e1).trans q.2))])
      | exact nK (k _ P1 e1 hP1 f1) (by rw [yrk, if_neg (fun q => h56 q.1)])
    · refine q_iconstN (z := 1) d43_59 ?_
      refine q_goto 64 d43_60 (by decide) ?_
      refine q_istore d43_64 (by decide) rfl ?_
      refine q_iload d43_66 rfl ?_
      refine n0_eq 119 d43_68 (by decide) (by decide) (fun q => absurd q (by decide)) (fun _ => ?_)
      refine q_aload_n d43_71 rfl ?_
      refine q_aload_n d43_72 rfl ?_
      refine q_iload_n d43_73 rfl ?_
      refine q_iload d43_74 rfl ?_
      refine q_iconstN (z := 1) d43_76 ?_
      refine q_v4 d43_77 rfl rfl hu1.1 (Nat.le_of_ble_eq_true rfl) (c46 (w := 1) hu1 hP1 hp1 hr1 ho hi ?_)
      refine i0_ne 119 d43_80 (by decide) (fun h80 => ?_) (fun h80 => ?_)
      · refine q_iload d43_119 rfl ?_
        refine q_iret d43_121 rfl ?_
        first
        | (refine nK (k _ _ ?_ hP4 (((f1.trans f2).trans f3).trans f4)) ?_
           · exact ((ych_1 e3).trans (ych_inv ho hi)).trans e1
           · rw [yrk, if_pos ⟨h56, (yob_1 (P := (P.1, 0, 0)) (P' := P1) e1.symm).trans h80⟩, ych_1 (P := P1) (P' := (P.1, 0, 0)) e1])
        | exact nK (k _ P1 e1 hP1 f1) (by rw [yrk, if_neg (fun q => h80 ((yob_1 (P := P1) (P' := (P.1, 0, 0)) e1).trans q.2))])
        | exact nK (k _ P1 e1 hP1 f1) (by rw [yrk, if_neg (fun q => h56 q.1)])
      · refine q_aload_n d43_83 rfl ?_
        refine q_aload_n d43_84 rfl ?_
        refine q_iload_n d43_85 rfl ?_
        refine q_iload d43_86 rfl ?_
        refine q_iconstN (z := 1) d43_88 ?_
        refine q_v4 d43_89 rfl rfl hu1.1 (Nat.le_of_ble_eq_true rfl) (c51 (w := 1) hu1 hP1 hp1 hr1 ho hi hau (fun M2 hP2 f2 => ?_))
        have hu2 := SPu_fi hu1 f2
        have hp2 := SPr_fi hp1 f2
        have hr2 := RP_fr hr1 f2.fr (FU_x hau)
        refine q_iload d43_92 rfl ?_
        refine q_aload_n d43_94 rfl ?_
        refine q_aload_n d43_95 rfl ?_
        refine q_iload_n d43_96 rfl ?_
        refine q_iconstN (z := 1) d43_97 ?_
        refine n_iadd d43_98 ?_
        refine q_iload_n d43_99 rfl ?_
        refine q_iconstN (z := 1) d43_100 ?_
        refine q_iload_n d43_101 rfl ?_
        refine n_ishl1 d43_102 (by omega) ?_
        refine n_ior d43_103 ?_
        refine q_s4 d43_104 (Or.inl rfl) rfl (Nat.le_of_ble_eq_true rfl) (ih (s + 1) (set ||| 2 ^ s) _ _ (by omega) (or_lt (n := 12) hset (pow_lt (by omega))) hu2 hP2 hp2 hr2 (fun M3 P3 e3 hP3 f3 => ?_))
        have hu3 := SPu_fi hu2 f3
        have hp3 := SPr_fi hp2 f3
        have hr3 := RP_fr hr2 f3.fr (FU_x hau)
        refine n_iadd d43_107 ?_
        refine q_istore d43_108 (by decide) rfl ?_
        refine q_aload_n d43_110 rfl ?_
        refine q_aload_n d43_111 rfl ?_
        refine q_iload_n d43_112 rfl ?_
        refine q_iload d43_113 rfl ?_
        refine q_iconst (x := (-1)) d43_115 rfl ?_
        refine q_v4 d43_116 rfl rfl hu3.1 (Nat.le_of_ble_eq_true rfl) (c51 hu3 hP3 hp3 hr3 ho hi hau (fun M4 hP4 f4 => ?_))
        refine q_iload d43_119 rfl ?_
        refine q_iret d43_121 rfl ?_
        first
        | (refine nK (k _ _ ?_ hP4 (((f1.trans f2).trans f3).trans f4)) ?_
           · exact ((ych_1 e3).trans (ych_inv ho hi)).trans e1
           · rw [yrk, if_pos ⟨h56, (yob_1 (P := (P.1, 0, 0)) (P' := P1) e1.symm).trans h80⟩, ych_1 (P := P1) (P' := (P.1, 0, 0)) e1])
        | exact nK (k _ P1 e1 hP1 f1) (by rw [yrk, if_neg (fun q => h80 ((yob_1 (P := P1) (P' := (P.1, 0, 0)) e1).trans q.2))])
        | exact nK (k _ P1 e1 hP1 f1) (by rw [yrk, if_neg (fun q => h56 q.1)])
