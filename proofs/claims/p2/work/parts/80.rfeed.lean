/-! ===== the reference: feed ===== -/
theorem CX.fr {G : List yL} {M M' : zM} {F : Nat → Nat → Prop} {T : Nat → yT} {c κ : Nat} {nm : Nat → Nat → Int32} {X : yX} (h : CX G M T c nm X κ) (f : Fi F M M') (hF : ∀ b k, F b k → (b = 136 ∧ (k = 0 ∨ 29 < k)) ∨ b = 208 ∨ 318 < b) : CX G M' T c nm X κ := by
  obtain ⟨h1, h2, h3, h4, h5, h6, h7, h8⟩ := h
  have n : ∀ b k, ¬ ((b = 136 ∧ (k = 0 ∨ 29 < k)) ∨ b = 208 ∨ 318 < b) → ¬ F b k := fun b k q p => q (hF b k p)
  exact ⟨SX_fi h1 f, XTx_fi h2 h3.1.1 f (fun b k b1 b2 => n b k (by omega)), h3, XPu_fi h4 f (fun b k q1 => n b k (by unfold GP at q1; omega)), fun s hs => (h5 s hs).fi f (fun b k q1 => n b k (by unfold GS at q1; omega)), (f.1 _ _ (n _ _ (by omega))).trans h6, h7.fi f (fun b k q => n b k (by unfold GL at q; omega)), h8.fi (fun k hk => f.1 _ _ (n _ _ (by omega))) (fun r hr hg => ⟨hg, rfl⟩)⟩
theorem RX.tp {M : zM} {D : yD} {κ k : Nat} {v : Int32} (h : RX M D κ) (hk : dn D ≤ k) : RX (zwi M 208 k v) D κ := by
  have f : Fi (fun b _ => b = 208) M (zwi M 208 k v) := (Fi.refl _ _).wi rfl
  obtain ⟨a1, a2, a3, ⟨a4, a5, a6⟩, a7⟩ := h
  exact ⟨a1.fr f (fun b k q => by omega), (f.1 _ _ (by omega)).trans a2, (f.1 _ _ (by omega)).trans a3, ⟨a4, (f.1 _ _ (by omega)).trans a5, fun j hj => (wi_n (by omega)).trans (a6 j hj)⟩, fun i hi => ⟨(f.1 _ _ (by omega)).trans (a7 i hi).1, (f.1 _ _ (by omega)).trans (a7 i hi).2⟩⟩
theorem RX.fed {M : zM} {D : yD} {κ n a b c e f : Nat} (h : RX M D κ) (h120 : dn D + n ≤ 120) (hz : ∀ j, j < n → zi M 208 (dn D + j) = nI (yby j a b c e f)) : RX (zwi M 136 30 (nI (dn D + n))) (yfd D n a b c e f) κ := by
  have g : Fi (fun b k => b = 136 ∧ k = 30) M (zwi M 136 30 (nI (dn D + n))) := (Fi.refl _ _).wi ⟨rfl, rfl⟩
  obtain ⟨a1, a2, a3, ⟨a4, a5, a6⟩, a7⟩ := h
  refine ⟨a1.fr g (fun b k q => by omega), (g.1 _ _ (by omega)).trans a2, (g.1 _ _ (by omega)).trans a3, ⟨h120, wi_s _ _ _ _, fun j hj => (g.1 _ _ (by omega)).trans ?_⟩, fun i hi => ⟨(g.1 _ _ (by omega)).trans (a7 i hi).1, (g.1 _ _ (by omega)).trans (a7 i hi).2⟩⟩
  have hj : j < dn D + n := hj
  show zi M 208 j = nI (if dn D ≤ j ∧ j < dn D + n then yby (j - dn D) a b c e f else db D j)
  by_cases h2 : dn D ≤ j
  · rw [if_pos ⟨h2, hj⟩]
    have q := hz (j - dn D) (by omega)
    rw [show dn D + (j - dn D) = j by omega] at q
    exact q
  · rw [if_neg (fun q => h2 q.1)]; exact a6 j (by omega)
theorem c131fd {d : Nat} {M : zM} {Q : Option Value → zM → Prop} {x : Int32} (h : zix x 6 = none) (k : Q (some (.int (nI 0))) M) : qC (d + 1) 131 [.int x, .int (nI 1), .int (nI 5)] M Q := c131f (by decide) (by have := zix_none h; omega) (by decide) k
theorem d130_0 : decode (zB 130) 0 = .ok (.iload_n 1, 1) := by decide +kernel
theorem d130_1 : decode (zB 130) 1 = .ok (.iconst 1, 1) := by decide +kernel
theorem d130_2 : decode (zB 130) 2 = .ok (.iconst 5, 1) := by decide +kernel
theorem d130_3 : decode (zB 130) 3 = .ok (.invokestatic 112, 3) := by decide +kernel
theorem d130_6 : decode (zB 130) 6 = .ok (.ifCond .eq 41, 3) := by decide +kernel
theorem d130_9 : decode (zB 130) 9 = .ok (.iload_n 2, 1) := by decide +kernel
theorem d130_10 : decode (zB 130) 10 = .ok (.invokestatic 119, 3) := by decide +kernel
theorem d130_13 : decode (zB 130) 13 = .ok (.ifCond .eq 34, 3) := by decide +kernel
theorem d130_16 : decode (zB 130) 16 = .ok (.iload_n 3, 1) := by decide +kernel
theorem d130_17 : decode (zB 130) 17 = .ok (.invokestatic 119, 3) := by decide +kernel
theorem d130_20 : decode (zB 130) 20 = .ok (.ifCond .eq 27, 3) := by decide +kernel
theorem d130_23 : decode (zB 130) 23 = .ok (.iload 4, 2) := by decide +kernel
theorem d130_25 : decode (zB 130) 25 = .ok (.invokestatic 119, 3) := by decide +kernel
theorem d130_28 : decode (zB 130) 28 = .ok (.ifCond .eq 19, 3) := by decide +kernel
theorem d130_31 : decode (zB 130) 31 = .ok (.iload 5, 2) := by decide +kernel
theorem d130_33 : decode (zB 130) 33 = .ok (.invokestatic 119, 3) := by decide +kernel
theorem d130_36 : decode (zB 130) 36 = .ok (.ifCond .eq 11, 3) := by decide +kernel
theorem d130_39 : decode (zB 130) 39 = .ok (.iload 6, 2) := by decide +kernel
theorem d130_41 : decode (zB 130) 41 = .ok (.invokestatic 119, 3) := by decide +kernel
theorem d130_44 : decode (zB 130) 44 = .ok (.ifCond .ne 6, 3) := by decide +kernel
theorem d130_47 : decode (zB 130) 47 = .ok (.bipush (-2), 2) := by decide +kernel
theorem d130_49 : decode (zB 130) 49 = .ok (.ireturn, 1) := by decide +kernel
theorem d130_50 : decode (zB 130) 50 = .ok (.aload_n 0, 1) := by decide +kernel
theorem d130_51 : decode (zB 130) 51 = .ok (.getfield 123, 3) := by decide +kernel
theorem d130_54 : decode (zB 130) 54 = .ok (.iload_n 1, 1) := by decide +kernel
theorem d130_55 : decode (zB 130) 55 = .ok (.iadd, 1) := by decide +kernel
theorem d130_56 : decode (zB 130) 56 = .ok (.bipush 120, 2) := by decide +kernel
theorem d130_58 : decode (zB 130) 58 = .ok (.if_icmp .le 6, 3) := by decide +kernel
theorem d130_61 : decode (zB 130) 61 = .ok (.bipush (-4), 2) := by decide +kernel
theorem d130_63 : decode (zB 130) 63 = .ok (.ireturn, 1) := by decide +kernel
theorem d130_64 : decode (zB 130) 64 = .ok (.iconst 0, 1) := by decide +kernel
theorem d130_65 : decode (zB 130) 65 = .ok (.istore 7, 2) := by decide +kernel
theorem d130_67 : decode (zB 130) 67 = .ok (.iload 7, 2) := by decide +kernel
theorem d130_69 : decode (zB 130) 69 = .ok (.iload_n 1, 1) := by decide +kernel
theorem d130_70 : decode (zB 130) 70 = .ok (.if_icmp .ge 64, 3) := by decide +kernel
theorem d130_73 : decode (zB 130) 73 = .ok (.aload_n 0, 1) := by decide +kernel
theorem d130_74 : decode (zB 130) 74 = .ok (.getfield 76, 3) := by decide +kernel
theorem d130_77 : decode (zB 130) 77 = .ok (.aload_n 0, 1) := by decide +kernel
theorem d130_78 : decode (zB 130) 78 = .ok (.getfield 123, 3) := by decide +kernel
theorem d130_81 : decode (zB 130) 81 = .ok (.iload 7, 2) := by decide +kernel
theorem d130_83 : decode (zB 130) 83 = .ok (.iadd, 1) := by decide +kernel
theorem d130_84 : decode (zB 130) 84 = .ok (.iload 7, 2) := by decide +kernel
theorem d130_86 : decode (zB 130) 86 = .ok (.ifCond .ne 7, 3) := by decide +kernel
theorem d130_89 : decode (zB 130) 89 = .ok (.iload_n 2, 1) := by decide +kernel
theorem d130_90 : decode (zB 130) 90 = .ok (.goto 37, 3) := by decide +kernel
theorem d130_93 : decode (zB 130) 93 = .ok (.iload 7, 2) := by decide +kernel
theorem d130_95 : decode (zB 130) 95 = .ok (.iconst 1, 1) := by decide +kernel
theorem d130_96 : decode (zB 130) 96 = .ok (.if_icmp .ne 7, 3) := by decide +kernel
theorem d130_99 : decode (zB 130) 99 = .ok (.iload_n 3, 1) := by decide +kernel
theorem d130_100 : decode (zB 130) 100 = .ok (.goto 27, 3) := by decide +kernel
theorem d130_103 : decode (zB 130) 103 = .ok (.iload 7, 2) := by decide +kernel
theorem d130_105 : decode (zB 130) 105 = .ok (.iconst 2, 1) := by decide +kernel
theorem d130_106 : decode (zB 130) 106 = .ok (.if_icmp .ne 8, 3) := by decide +kernel
theorem d130_109 : decode (zB 130) 109 = .ok (.iload 4, 2) := by decide +kernel
theorem d130_111 : decode (zB 130) 111 = .ok (.goto 16, 3) := by decide +kernel
theorem d130_114 : decode (zB 130) 114 = .ok (.iload 7, 2) := by decide +kernel
theorem d130_116 : decode (zB 130) 116 = .ok (.iconst 3, 1) := by decide +kernel
theorem d130_117 : decode (zB 130) 117 = .ok (.if_icmp .ne 8, 3) := by decide +kernel
theorem d130_120 : decode (zB 130) 120 = .ok (.iload 5, 2) := by decide +kernel
theorem d130_122 : decode (zB 130) 122 = .ok (.goto 5, 3) := by decide +kernel
theorem d130_125 : decode (zB 130) 125 = .ok (.iload 6, 2) := by decide +kernel
theorem d130_127 : decode (zB 130) 127 = .ok (.iastore, 1) := by decide +kernel
theorem d130_128 : decode (zB 130) 128 = .ok (.iinc 7 1, 3) := by decide +kernel
theorem d130_131 : decode (zB 130) 131 = .ok (.goto (-64), 3) := by decide +kernel
theorem d130_134 : decode (zB 130) 134 = .ok (.aload_n 0, 1) := by decide +kernel
theorem d130_135 : decode (zB 130) 135 = .ok (.dup, 1) := by decide +kernel
theorem d130_136 : decode (zB 130) 136 = .ok (.getfield 123, 3) := by decide +kernel
theorem d130_139 : decode (zB 130) 139 = .ok (.iload_n 1, 1) := by decide +kernel
theorem d130_140 : decode (zB 130) 140 = .ok (.iadd, 1) := by decide +kernel
theorem d130_141 : decode (zB 130) 141 = .ok (.putfield 123, 3) := by decide +kernel
theorem d130_144 : decode (zB 130) 144 = .ok (.aload_n 0, 1) := by decide +kernel
theorem d130_145 : decode (zB 130) 145 = .ok (.getfield 123, 3) := by decide +kernel
theorem d130_148 : decode (zB 130) 148 = .ok (.ireturn, 1) := by decide +kernel
theorem l130 {d : Nat} {Q : Option Value → zM → Prop} {D : yD} {M0 : zM} {n a b c e f κ : Nat} (hn : n ≤ 5) (h120 : dn D + n ≤ 120) (k : ∀ M', RX M' (yfd D n a b c e f) κ → Fi FY M0 M' → Q (some (.int (nI (dn D + n)))) M') : ∀ (r i : Nat) (M1 : zM), i ≤ n → n < i + r →  RX M1 D κ → Fi FY M0 M1 → (∀ j, j < i → zi M1 208 (dn D + j) = nI (yby j a b c e f)) → qW (zEv (d + 2)) 130 Q 67 [(7, .int (nI i)), (0, .ref 136), (1, .int (nI n)), (2, .int (nI a)), (3, .int (nI b)), (4, .int (nI c)), (5, .int (nI e)), (6, .int (nI f))] [] M1 := by
  intro r
  induction r with
  | zero => intros; omega
  | succ r ih =>
    intro i M1 h1 h2 hR1 hF hz
    refine q_iload d130_67 rfl ?_
    refine q_iload_n d130_69 rfl ?_
    refine nc_ge 134 d130_70 (by decide) (by omega) (by omega) (fun h70 => ?_) (fun h70 => ?_)
    · refine q_aload_n d130_134 rfl ?_
      refine q_dup d130_135 rfl ?_
      refine q_getv (c := 8) (f := 30) d130_136 ⟨rfl, by decide⟩ (xk_136 hR1.1.1) hR1.2.2.2.1.2.1 ?_
      refine q_iload_n d130_139 rfl ?_
      refine n_iadd d130_140 ?_
      refine q_puti (c := 8) (f := 30) d130_141 ⟨rfl, rfl, by decide⟩ (xk_136 hR1.1.1) ?_
      refine q_aload_n d130_144 rfl ?_
      refine q_getv (c := 8) (f := 30) d130_145 ⟨rfl, by decide⟩ (xk_136 hR1.1.1) (wi_s _ _ _ _) ?_
      refine q_iret d130_148 rfl ?_
      have e9 : i = n := by omega
      subst e9
      exact k _ (hR1.fed h120 hz) (hF.wi (by unfold FY; omega))
    · refine q_aload_n d130_73 rfl ?_
      refine q_getr (c := 8) (f := 29) d130_74 ⟨rfl, rfl⟩ (xk_136 hR1.1.1) (xf_tape hR1.1.1) ?_
      refine q_aload_n d130_77 rfl ?_
      refine q_getv (c := 8) (f := 30) d130_78 ⟨rfl, by decide⟩ (xk_136 hR1.1.1) hR1.2.2.2.1.2.1 ?_
      refine q_iload d130_81 rfl ?_
      refine n_iadd d130_83 ?_
      refine q_iload d130_84 rfl ?_
      refine n0_ne 93 d130_86 (by decide) (by omega) (fun h86 => ?_) (fun h86 => ?_)
      · refine q_iload d130_93 rfl ?_
        refine q_iconstN (z := 1) d130_95 ?_
        refine nc_ne 103 d130_96 (by decide) (by omega) (by omega) (fun h96 => ?_) (fun h96 => ?_)
        · refine q_iload d130_103 rfl ?_
          refine q_iconstN (z := 2) d130_105 ?_
          refine nc_ne 114 d130_106 (by decide) (by omega) (by omega) (fun h106 => ?_) (fun h106 => ?_)
          · refine q_iload d130_114 rfl ?_
            refine q_iconstN (z := 3) d130_116 ?_
            refine nc_ne 125 d130_117 (by decide) (by omega) (by omega) (fun h117 => ?_) (fun h117 => ?_)
            · refine q_iload d130_125 rfl ?_
              refine n_iast d130_127 (xk_tape hR1.1.1) (by omega) (by decide) ?_
              refine n_iinc 1 d130_128 (by decide) rfl rfl ?_
              refine q_goto 67 d130_131 (by decide) ?_
              exact ih (i + 1) _ (by omega) (by omega) (hR1.tp (by omega)) (hF.wi (by unfold FY; omega)) (fun j hj => by
                by_cases e9 : j = i
                · subst e9
                  rw [wi_s]
                  exact congrArg nI (by unfold yby; (repeat' split) <;> first | rfl | (exfalso; omega))
                · rw [wi_n (by omega)]; exact hz j (by omega))
            · refine q_iload d130_120 rfl ?_
              refine q_goto 127 d130_122 (by decide) ?_
              refine n_iast d130_127 (xk_tape hR1.1.1) (by omega) (by decide) ?_
              refine n_iinc 1 d130_128 (by decide) rfl rfl ?_
              refine q_goto 67 d130_131 (by decide) ?_
              exact ih (i + 1) _ (by omega) (by omega) (hR1.tp (by omega)) (hF.wi (by unfold FY; omega)) (fun j hj => by
                by_cases e9 : j = i
                · subst e9
                  rw [wi_s]
                  exact congrArg nI (by unfold yby; (repeat' split) <;> first | rfl | (exfalso; omega))
                · rw [wi_n (by omega)]; exact hz j (by omega))
          · refine q_iload d130_109 rfl ?_
            refine q_goto 127 d130_111 (by decide) ?_
            refine n_iast d130_127 (xk_tape hR1.1.1) (by omega) (by decide) ?_
            refine n_iinc 1 d130_128 (by decide) rfl rfl ?_
            refine q_goto 67 d130_131 (by decide) ?_
            exact ih (i + 1) _ (by omega) (by omega) (hR1.tp (by omega)) (hF.wi (by unfold FY; omega)) (fun j hj => by
              by_cases e9 : j = i
              · subst e9
                rw [wi_s]
                exact congrArg nI (by unfold yby; (repeat' split) <;> first | rfl | (exfalso; omega))
              · rw [wi_n (by omega)]; exact hz j (by omega))
        · refine q_iload_n d130_99 rfl ?_
          refine q_goto 127 d130_100 (by decide) ?_
          refine n_iast d130_127 (xk_tape hR1.1.1) (by omega) (by decide) ?_
          refine n_iinc 1 d130_128 (by decide) rfl rfl ?_
          refine q_goto 67 d130_131 (by decide) ?_
          exact ih (i + 1) _ (by omega) (by omega) (hR1.tp (by omega)) (hF.wi (by unfold FY; omega)) (fun j hj => by
            by_cases e9 : j = i
            · subst e9
              rw [wi_s]
              exact congrArg nI (by unfold yby; (repeat' split) <;> first | rfl | (exfalso; omega))
            · rw [wi_n (by omega)]; exact hz j (by omega))
      · refine q_iload_n d130_89 rfl ?_
        refine q_goto 127 d130_90 (by decide) ?_
        refine n_iast d130_127 (xk_tape hR1.1.1) (by omega) (by decide) ?_
        refine n_iinc 1 d130_128 (by decide) rfl rfl ?_
        refine q_goto 67 d130_131 (by decide) ?_
        exact ih (i + 1) _ (by omega) (by omega) (hR1.tp (by omega)) (hF.wi (by unfold FY; omega)) (fun j hj => by
          by_cases e9 : j = i
          · subst e9
            rw [wi_s]
            exact congrArg nI (by unfold yby; (repeat' split) <;> first | rfl | (exfalso; omega))
          · rw [wi_n (by omega)]; exact hz j (by omega))
theorem x130 {d : Nat} {M : zM} {Q : Option Value → zM → Prop} {D : yD} {κ : Nat} {x ax bx cx ex fx : Int32} (hR : RX M D κ) (hD : OKD D) (hκ : κ + 4000 < 2147483648) (k : ∀ M' κ', κ' ≤ κ + 240 → RX M' (sFeed D x ax bx cx ex fx).2 κ' → Fi FY M M' → Q (some (.int (sFeed D x ax bx cx ex fx).1)) M') : qC (d + 3) 130 [.ref 136, .int x, .int ax, .int bx, .int cx, .int ex, .int fx] M Q := by
  refine qC_of (by decide) (Nat.le_of_ble_eq_true rfl) ?_
  have hC := hR.1
  have hX := hC.1
  have hO : OKW (dT D) (dc D) (dW D) := hC.2.2.1
  have hc6 := hO.1.1
  have hL : XLo [] M (some (dL D)) := hC.2.2.2.2.2.2.1
  have hSa : ∀ s, s < 3 → XSa M s (dS D s) κ := hC.2.2.2.2.1
  have hTk := hC.k
  have hck := hC.2.2.2.2.2.1
  have h240 := hD.2.1
  unfold sFeed at k
  have h120 := hR.2.2.2.1.1
  rcases zix_c x (n := 6) (by omega) with ⟨n, hn, rfl, en⟩ | ⟨en, nn⟩
  · rw [oz_s en] at k
    by_cases h0 : n = 0
    · subst h0
      rw [if_pos rfl] at k
      refine q_iload_n d130_0 rfl ?_
      refine q_iconstN (z := 1) d130_1 ?_
      refine q_iconstN (z := 5) d130_2 ?_
      refine q_s3 d130_3 (Or.inl rfl) rfl (Nat.le_of_ble_eq_true rfl) (c131n (by decide) (by decide) (by decide) (by decide) ?_)
      refine n0_eq 47 d130_6 (by decide) (by decide) (fun _ => ?_) (fun q => absurd q (by decide))
      refine q_bipush (x := (-2)) d130_47 rfl ?_
      refine q_iret d130_49 rfl ?_
      exact k _ κ (Nat.le_add_right _ _) hR (Fi.refl _ _)
    · rw [if_neg h0] at k
      rcases zix_c ax (n := 256) (by omega) with ⟨a, ha, rfl, ea⟩ | ⟨ea, na⟩
      · rw [oz_s ea] at k
        rcases zix_c bx (n := 256) (by omega) with ⟨b, hb, rfl, eb⟩ | ⟨eb, nb⟩
        · rw [oz_s eb] at k
          rcases zix_c cx (n := 256) (by omega) with ⟨c, hc, rfl, ec⟩ | ⟨ec, nc⟩
          · rw [oz_s ec] at k
            rcases zix_c ex (n := 256) (by omega) with ⟨e, he, rfl, ee⟩ | ⟨ee, ne⟩
            · rw [oz_s ee] at k
              rcases zix_c fx (n := 256) (by omega) with ⟨f, hf, rfl, ef⟩ | ⟨ef, nf⟩
              · rw [oz_s ef] at k
                by_cases hfull : 120 < dn D + n
                · rw [if_pos hfull] at k
                  refine q_iload_n d130_0 rfl ?_
                  refine q_iconstN (z := 1) d130_1 ?_
                  refine q_iconstN (z := 5) d130_2 ?_
                  refine q_s3 d130_3 (Or.inl rfl) rfl (Nat.le_of_ble_eq_true rfl) (c131t ⟨by omega, by omega⟩ (by decide) ?_)
                  refine n0_eq 47 d130_6 (by decide) (by decide) (fun q => absurd q (by decide)) (fun _ => ?_)
                  refine q_iload_n d130_9 rfl ?_
                  refine q_s1 d130_10 (Or.inl rfl) rfl (Nat.le_of_ble_eq_true rfl) (c132t (by omega) ?_)
                  refine n0_eq 47 d130_13 (by decide) (by decide) (fun q => absurd q (by decide)) (fun _ => ?_)
                  refine q_iload_n d130_16 rfl ?_
                  refine q_s1 d130_17 (Or.inl rfl) rfl (Nat.le_of_ble_eq_true rfl) (c132t (by omega) ?_)
                  refine n0_eq 47 d130_20 (by decide) (by decide) (fun q => absurd q (by decide)) (fun _ => ?_)
                  refine q_iload d130_23 rfl ?_
                  refine q_s1 d130_25 (Or.inl rfl) rfl (Nat.le_of_ble_eq_true rfl) (c132t (by omega) ?_)
                  refine n0_eq 47 d130_28 (by decide) (by decide) (fun q => absurd q (by decide)) (fun _ => ?_)
                  refine q_iload d130_31 rfl ?_
                  refine q_s1 d130_33 (Or.inl rfl) rfl (Nat.le_of_ble_eq_true rfl) (c132t (by omega) ?_)
                  refine n0_eq 47 d130_36 (by decide) (by decide) (fun q => absurd q (by decide)) (fun _ => ?_)
                  refine q_iload d130_39 rfl ?_
                  refine q_s1 d130_41 (Or.inl rfl) rfl (Nat.le_of_ble_eq_true rfl) (c132t (by omega) ?_)
                  refine n0_ne 50 d130_44 (by decide) (by decide) (fun _ => ?_) (fun q => absurd q (by decide))
                  refine q_aload_n d130_50 rfl ?_
                  refine q_getv (c := 8) (f := 30) d130_51 ⟨rfl, by decide⟩ (xk_136 hX) hR.2.2.2.1.2.1 ?_
                  refine q_iload_n d130_54 rfl ?_
                  refine n_iadd d130_55 ?_
                  refine q_bipush (x := nI 120) d130_56 rfl ?_
                  refine nc_le 64 d130_58 (by decide) (by omega) (by omega) (fun h58 => (False.elim (by omega))) (fun h58 => ?_)
                  refine q_bipush (x := (-4)) d130_61 rfl ?_
                  refine q_iret d130_63 rfl ?_
                  exact k _ κ (Nat.le_add_right _ _) hR (Fi.refl _ _)
                · rw [if_neg hfull] at k
                  refine q_iload_n d130_0 rfl ?_
                  refine q_iconstN (z := 1) d130_1 ?_
                  refine q_iconstN (z := 5) d130_2 ?_
                  refine q_s3 d130_3 (Or.inl rfl) rfl (Nat.le_of_ble_eq_true rfl) (c131t ⟨by omega, by omega⟩ (by decide) ?_)
                  refine n0_eq 47 d130_6 (by decide) (by decide) (fun q => absurd q (by decide)) (fun _ => ?_)
                  refine q_iload_n d130_9 rfl ?_
                  refine q_s1 d130_10 (Or.inl rfl) rfl (Nat.le_of_ble_eq_true rfl) (c132t (by omega) ?_)
                  refine n0_eq 47 d130_13 (by decide) (by decide) (fun q => absurd q (by decide)) (fun _ => ?_)
                  refine q_iload_n d130_16 rfl ?_
                  refine q_s1 d130_17 (Or.inl rfl) rfl (Nat.le_of_ble_eq_true rfl) (c132t (by omega) ?_)
                  refine n0_eq 47 d130_20 (by decide) (by decide) (fun q => absurd q (by decide)) (fun _ => ?_)
                  refine q_iload d130_23 rfl ?_
                  refine q_s1 d130_25 (Or.inl rfl) rfl (Nat.le_of_ble_eq_true rfl) (c132t (by omega) ?_)
                  refine n0_eq 47 d130_28 (by decide) (by decide) (fun q => absurd q (by decide)) (fun _ => ?_)
                  refine q_iload d130_31 rfl ?_
                  refine q_s1 d130_33 (Or.inl rfl) rfl (Nat.le_of_ble_eq_true rfl) (c132t (by omega) ?_)
                  refine n0_eq 47 d130_36 (by decide) (by decide) (fun q => absurd q (by decide)) (fun _ => ?_)
                  refine q_iload d130_39 rfl ?_
                  refine q_s1 d130_41 (Or.inl rfl) rfl (Nat.le_of_ble_eq_true rfl) (c132t (by omega) ?_)
                  refine n0_ne 50 d130_44 (by decide) (by decide) (fun _ => ?_) (fun q => absurd q (by decide))
                  refine q_aload_n d130_50 rfl ?_
                  refine q_getv (c := 8) (f := 30) d130_51 ⟨rfl, by decide⟩ (xk_136 hX) hR.2.2.2.1.2.1 ?_
                  refine q_iload_n d130_54 rfl ?_
                  refine n_iadd d130_55 ?_
                  refine q_bipush (x := nI 120) d130_56 rfl ?_
                  refine nc_le 64 d130_58 (by decide) (by omega) (by omega) (fun h58 => ?_) (fun h58 => (False.elim (by omega)))
                  refine q_iconstN (z := 0) d130_64 ?_
                  refine q_istore d130_65 (by decide) rfl ?_
                  exact l130 (D := D) (by omega) (by omega) (fun M' q1 q2 => k M' κ (Nat.le_add_right _ _) q1 q2) (n + 1) 0 M (by omega) (by omega) hR (Fi.refl _ _) (fun j hj => by omega)
              · rw [oz_n ef] at k
                refine q_iload_n d130_0 rfl ?_
                refine q_iconstN (z := 1) d130_1 ?_
                refine q_iconstN (z := 5) d130_2 ?_
                refine q_s3 d130_3 (Or.inl rfl) rfl (Nat.le_of_ble_eq_true rfl) (c131t ⟨by omega, by omega⟩ (by decide) ?_)
                refine n0_eq 47 d130_6 (by decide) (by decide) (fun q => absurd q (by decide)) (fun _ => ?_)
                refine q_iload_n d130_9 rfl ?_
                refine q_s1 d130_10 (Or.inl rfl) rfl (Nat.le_of_ble_eq_true rfl) (c132t (by omega) ?_)
                refine n0_eq 47 d130_13 (by decide) (by decide) (fun q => absurd q (by decide)) (fun _ => ?_)
                refine q_iload_n d130_16 rfl ?_
                refine q_s1 d130_17 (Or.inl rfl) rfl (Nat.le_of_ble_eq_true rfl) (c132t (by omega) ?_)
                refine n0_eq 47 d130_20 (by decide) (by decide) (fun q => absurd q (by decide)) (fun _ => ?_)
                refine q_iload d130_23 rfl ?_
                refine q_s1 d130_25 (Or.inl rfl) rfl (Nat.le_of_ble_eq_true rfl) (c132t (by omega) ?_)
                refine n0_eq 47 d130_28 (by decide) (by decide) (fun q => absurd q (by decide)) (fun _ => ?_)
                refine q_iload d130_31 rfl ?_
                refine q_s1 d130_33 (Or.inl rfl) rfl (Nat.le_of_ble_eq_true rfl) (c132t (by omega) ?_)
                refine n0_eq 47 d130_36 (by decide) (by decide) (fun q => absurd q (by decide)) (fun _ => ?_)
                refine q_iload d130_39 rfl ?_
                refine q_s1 d130_41 (Or.inl rfl) rfl (Nat.le_of_ble_eq_true rfl) (c132f ef ?_)
                refine n0_ne 50 d130_44 (by decide) (by decide) (fun q => absurd q (by decide)) (fun _ => ?_)
                refine q_bipush (x := (-2)) d130_47 rfl ?_
                refine q_iret d130_49 rfl ?_
                exact k _ κ (Nat.le_add_right _ _) hR (Fi.refl _ _)
            · rw [oz_n ee] at k
              refine q_iload_n d130_0 rfl ?_
              refine q_iconstN (z := 1) d130_1 ?_
              refine q_iconstN (z := 5) d130_2 ?_
              refine q_s3 d130_3 (Or.inl rfl) rfl (Nat.le_of_ble_eq_true rfl) (c131t ⟨by omega, by omega⟩ (by decide) ?_)
              refine n0_eq 47 d130_6 (by decide) (by decide) (fun q => absurd q (by decide)) (fun _ => ?_)
              refine q_iload_n d130_9 rfl ?_
              refine q_s1 d130_10 (Or.inl rfl) rfl (Nat.le_of_ble_eq_true rfl) (c132t (by omega) ?_)
              refine n0_eq 47 d130_13 (by decide) (by decide) (fun q => absurd q (by decide)) (fun _ => ?_)
              refine q_iload_n d130_16 rfl ?_
              refine q_s1 d130_17 (Or.inl rfl) rfl (Nat.le_of_ble_eq_true rfl) (c132t (by omega) ?_)
              refine n0_eq 47 d130_20 (by decide) (by decide) (fun q => absurd q (by decide)) (fun _ => ?_)
              refine q_iload d130_23 rfl ?_
              refine q_s1 d130_25 (Or.inl rfl) rfl (Nat.le_of_ble_eq_true rfl) (c132t (by omega) ?_)
              refine n0_eq 47 d130_28 (by decide) (by decide) (fun q => absurd q (by decide)) (fun _ => ?_)
              refine q_iload d130_31 rfl ?_
              refine q_s1 d130_33 (Or.inl rfl) rfl (Nat.le_of_ble_eq_true rfl) (c132f ee ?_)
              refine n0_eq 47 d130_36 (by decide) (by decide) (fun _ => ?_) (fun q => absurd q (by decide))
              refine q_bipush (x := (-2)) d130_47 rfl ?_
              refine q_iret d130_49 rfl ?_
              exact k _ κ (Nat.le_add_right _ _) hR (Fi.refl _ _)
          · rw [oz_n ec] at k
            refine q_iload_n d130_0 rfl ?_
            refine q_iconstN (z := 1) d130_1 ?_
            refine q_iconstN (z := 5) d130_2 ?_
            refine q_s3 d130_3 (Or.inl rfl) rfl (Nat.le_of_ble_eq_true rfl) (c131t ⟨by omega, by omega⟩ (by decide) ?_)
            refine n0_eq 47 d130_6 (by decide) (by decide) (fun q => absurd q (by decide)) (fun _ => ?_)
            refine q_iload_n d130_9 rfl ?_
            refine q_s1 d130_10 (Or.inl rfl) rfl (Nat.le_of_ble_eq_true rfl) (c132t (by omega) ?_)
            refine n0_eq 47 d130_13 (by decide) (by decide) (fun q => absurd q (by decide)) (fun _ => ?_)
            refine q_iload_n d130_16 rfl ?_
            refine q_s1 d130_17 (Or.inl rfl) rfl (Nat.le_of_ble_eq_true rfl) (c132t (by omega) ?_)
            refine n0_eq 47 d130_20 (by decide) (by decide) (fun q => absurd q (by decide)) (fun _ => ?_)
            refine q_iload d130_23 rfl ?_
            refine q_s1 d130_25 (Or.inl rfl) rfl (Nat.le_of_ble_eq_true rfl) (c132f ec ?_)
            refine n0_eq 47 d130_28 (by decide) (by decide) (fun _ => ?_) (fun q => absurd q (by decide))
            refine q_bipush (x := (-2)) d130_47 rfl ?_
            refine q_iret d130_49 rfl ?_
            exact k _ κ (Nat.le_add_right _ _) hR (Fi.refl _ _)
        · rw [oz_n eb] at k
          refine q_iload_n d130_0 rfl ?_
          refine q_iconstN (z := 1) d130_1 ?_
          refine q_iconstN (z := 5) d130_2 ?_
          refine q_s3 d130_3 (Or.inl rfl) rfl (Nat.le_of_ble_eq_true rfl) (c131t ⟨by omega, by omega⟩ (by decide) ?_)
          refine n0_eq 47 d130_6 (by decide) (by decide) (fun q => absurd q (by decide)) (fun _ => ?_)
          refine q_iload_n d130_9 rfl ?_
          refine q_s1 d130_10 (Or.inl rfl) rfl (Nat.le_of_ble_eq_true rfl) (c132t (by omega) ?_)
          refine n0_eq 47 d130_13 (by decide) (by decide) (fun q => absurd q (by decide)) (fun _ => ?_)
          refine q_iload_n d130_16 rfl ?_
          refine q_s1 d130_17 (Or.inl rfl) rfl (Nat.le_of_ble_eq_true rfl) (c132f eb ?_)
          refine n0_eq 47 d130_20 (by decide) (by decide) (fun _ => ?_) (fun q => absurd q (by decide))
          refine q_bipush (x := (-2)) d130_47 rfl ?_
          refine q_iret d130_49 rfl ?_
          exact k _ κ (Nat.le_add_right _ _) hR (Fi.refl _ _)
      · rw [oz_n ea] at k
        refine q_iload_n d130_0 rfl ?_
        refine q_iconstN (z := 1) d130_1 ?_
        refine q_iconstN (z := 5) d130_2 ?_
        refine q_s3 d130_3 (Or.inl rfl) rfl (Nat.le_of_ble_eq_true rfl) (c131t ⟨by omega, by omega⟩ (by decide) ?_)
        refine n0_eq 47 d130_6 (by decide) (by decide) (fun q => absurd q (by decide)) (fun _ => ?_)
        refine q_iload_n d130_9 rfl ?_
        refine q_s1 d130_10 (Or.inl rfl) rfl (Nat.le_of_ble_eq_true rfl) (c132f ea ?_)
        refine n0_eq 47 d130_13 (by decide) (by decide) (fun _ => ?_) (fun q => absurd q (by decide))
        refine q_bipush (x := (-2)) d130_47 rfl ?_
        refine q_iret d130_49 rfl ?_
        exact k _ κ (Nat.le_add_right _ _) hR (Fi.refl _ _)
  · rw [oz_n en] at k
    refine q_iload_n d130_0 rfl ?_
    refine q_iconstN (z := 1) d130_1 ?_
    refine q_iconstN (z := 5) d130_2 ?_
    refine q_s3 d130_3 (Or.inl rfl) rfl (Nat.le_of_ble_eq_true rfl) (c131fd en ?_)
    refine n0_eq 47 d130_6 (by decide) (by decide) (fun _ => ?_) (fun q => absurd q (by decide))
    refine q_bipush (x := (-2)) d130_47 rfl ?_
    refine q_iret d130_49 rfl ?_
    exact k _ κ (Nat.le_add_right _ _) hR (Fi.refl _ _)
