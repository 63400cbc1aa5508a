/-! ===== the calls of the class: feed, text ===== -/
/-- the tape's cells change -/
theorem RC.tape {M M' : zM} {D : yD} {n : Nat} {b : Nat → Nat} (hR : RC M D) (ht : RTp M' n b) (f : Fi (fun a k => (a = 17 ∧ k = 1) ∨ a = 18) M M') : RC M' (dtS D n b) := by
  have hS' : SC M' := f.sc hR.1.1 (fun a k ha q => by omega)
  obtain ⟨⟨a1, a2, a3, a4, a5⟩, a6, a7, a8⟩ := hR
  exact ⟨⟨hS', a2, RTx_fr a3 a4.1.1 f.fr (fun b k b1 b2 q => by omega), a4, ⟨RPu_fr a5.1 f.fr (fun b k b1 b2 q => by omega), fun s hs3 => RS_fr (a5.2.1 s hs3) f.fr (fun b k b1 b2 q => by omega), RJ_fr a5.2.2 f.fr (fun b k b1 b2 q => by omega)⟩⟩,
    (f.1 _ _ (fun q => by omega)).trans a6, ht, fun i hi => ⟨(f.1 _ _ (fun q => by omega)).trans (a8 i hi).1, (f.1 _ _ (fun q => by omega)).trans (a8 i hi).2⟩⟩
theorem yfd_0 (D : yD) (a b c e f : Nat) : yfd D 0 a b c e f = D := by
  unfold yfd dtS
  have : (fun i => if dn D ≤ i ∧ i < dn D + 0 then yby (i - dn D) a b c e f else db D i) = db D := by
    funext i; rw [if_neg (by omega)]
  rw [this]
  rfl
theorem yfd_s {D : yD} {i v a b c e f : Nat} (hv : v = yby i a b c e f) : dtS (yfd D i a b c e f) (dn (yfd D i a b c e f) + 1) (yu (db (yfd D i a b c e f)) (dn (yfd D i a b c e f)) v) = yfd D (i + 1) a b c e f := by
  have : (yu (db (yfd D i a b c e f)) (dn (yfd D i a b c e f)) v) = (fun j => if dn D ≤ j ∧ j < dn D + (i + 1) then yby (j - dn D) a b c e f else db D j) := by
    funext j
    show (if j = dn D + i then v else if dn D ≤ j ∧ j < dn D + i then yby (j - dn D) a b c e f else db D j) = _
    by_cases h : j = dn D + i
    · rw [if_pos h, if_pos (by omega), hv, h, show dn D + i - dn D = i by omega]
    · rw [if_neg h]
      by_cases h2 : dn D ≤ j ∧ j < dn D + i
      · rw [if_pos h2, if_pos (by omega)]
      · rw [if_neg h2, if_neg (by omega)]
  rw [this]
  rfl
theorem RC.fed {M M' : zM} {D : yD} {i v a b c e f : Nat} (hR : RC M (yfd D i a b c e f)) (ht : RTp M' (dn (yfd D i a b c e f) + 1) (yu (db (yfd D i a b c e f)) (dn (yfd D i a b c e f)) v)) (hv : v = yby i a b c e f) (g : Fi (fun a k => (a = 17 ∧ k = 1) ∨ a = 18) M M') : RC M' (yfd D (i + 1) a b c e f) := by
  have h := hR.tape ht g
  rw [yfd_s hv] at h
  exact h
theorem d9_0 : decode (zB 9) 0 = .ok (.iload_n 1, 1) := by decide +kernel
theorem d9_1 : decode (zB 9) 1 = .ok (.iconst 1, 1) := by decide +kernel
theorem d9_2 : decode (zB 9) 2 = .ok (.iconst 5, 1) := by decide +kernel
theorem d9_3 : decode (zB 9) 3 = .ok (.invokestatic 55, 3) := by decide +kernel
theorem d9_6 : decode (zB 9) 6 = .ok (.ifCond .eq 41, 3) := by decide +kernel
theorem d9_9 : decode (zB 9) 9 = .ok (.iload_n 2, 1) := by decide +kernel
theorem d9_10 : decode (zB 9) 10 = .ok (.invokestatic 59, 3) := by decide +kernel
theorem d9_13 : decode (zB 9) 13 = .ok (.ifCond .eq 34, 3) := by decide +kernel
theorem d9_16 : decode (zB 9) 16 = .ok (.iload_n 3, 1) := by decide +kernel
theorem d9_17 : decode (zB 9) 17 = .ok (.invokestatic 59, 3) := by decide +kernel
theorem d9_20 : decode (zB 9) 20 = .ok (.ifCond .eq 27, 3) := by decide +kernel
theorem d9_23 : decode (zB 9) 23 = .ok (.iload 4, 2) := by decide +kernel
theorem d9_25 : decode (zB 9) 25 = .ok (.invokestatic 59, 3) := by decide +kernel
theorem d9_28 : decode (zB 9) 28 = .ok (.ifCond .eq 19, 3) := by decide +kernel
theorem d9_31 : decode (zB 9) 31 = .ok (.iload 5, 2) := by decide +kernel
theorem d9_33 : decode (zB 9) 33 = .ok (.invokestatic 59, 3) := by decide +kernel
theorem d9_36 : decode (zB 9) 36 = .ok (.ifCond .eq 11, 3) := by decide +kernel
theorem d9_39 : decode (zB 9) 39 = .ok (.iload 6, 2) := by decide +kernel
theorem d9_41 : decode (zB 9) 41 = .ok (.invokestatic 59, 3) := by decide +kernel
theorem d9_44 : decode (zB 9) 44 = .ok (.ifCond .ne 6, 3) := by decide +kernel
theorem d9_47 : decode (zB 9) 47 = .ok (.bipush (-2), 2) := by decide +kernel
theorem d9_49 : decode (zB 9) 49 = .ok (.ireturn, 1) := by decide +kernel
theorem d9_50 : decode (zB 9) 50 = .ok (.aload_n 0, 1) := by decide +kernel
theorem d9_51 : decode (zB 9) 51 = .ok (.getfield 10, 3) := by decide +kernel
theorem d9_54 : decode (zB 9) 54 = .ok (.getfield 63, 3) := by decide +kernel
theorem d9_57 : decode (zB 9) 57 = .ok (.iload_n 1, 1) := by decide +kernel
theorem d9_58 : decode (zB 9) 58 = .ok (.iadd, 1) := by decide +kernel
theorem d9_59 : decode (zB 9) 59 = .ok (.bipush 120, 2) := by decide +kernel
theorem d9_61 : decode (zB 9) 61 = .ok (.if_icmp .le 6, 3) := by decide +kernel
theorem d9_64 : decode (zB 9) 64 = .ok (.bipush (-4), 2) := by decide +kernel
theorem d9_66 : decode (zB 9) 66 = .ok (.ireturn, 1) := by decide +kernel
theorem d9_67 : decode (zB 9) 67 = .ok (.iconst 0, 1) := by decide +kernel
theorem d9_68 : decode (zB 9) 68 = .ok (.istore 7, 2) := by decide +kernel
theorem d9_70 : decode (zB 9) 70 = .ok (.iload 7, 2) := by decide +kernel
theorem d9_72 : decode (zB 9) 72 = .ok (.iload_n 1, 1) := by decide +kernel
theorem d9_73 : decode (zB 9) 73 = .ok (.if_icmp .ge 59, 3) := by decide +kernel
theorem d9_76 : decode (zB 9) 76 = .ok (.aload_n 0, 1) := by decide +kernel
theorem d9_77 : decode (zB 9) 77 = .ok (.getfield 10, 3) := by decide +kernel
theorem d9_80 : decode (zB 9) 80 = .ok (.iload 7, 2) := by decide +kernel
theorem d9_82 : decode (zB 9) 82 = .ok (.ifCond .ne 7, 3) := by decide +kernel
theorem d9_85 : decode (zB 9) 85 = .ok (.iload_n 2, 1) := by decide +kernel
theorem d9_86 : decode (zB 9) 86 = .ok (.goto 37, 3) := by decide +kernel
theorem d9_89 : decode (zB 9) 89 = .ok (.iload 7, 2) := by decide +kernel
theorem d9_91 : decode (zB 9) 91 = .ok (.iconst 1, 1) := by decide +kernel
theorem d9_92 : decode (zB 9) 92 = .ok (.if_icmp .ne 7, 3) := by decide +kernel
theorem d9_95 : decode (zB 9) 95 = .ok (.iload_n 3, 1) := by decide +kernel
theorem d9_96 : decode (zB 9) 96 = .ok (.goto 27, 3) := by decide +kernel
theorem d9_99 : decode (zB 9) 99 = .ok (.iload 7, 2) := by decide +kernel
theorem d9_101 : decode (zB 9) 101 = .ok (.iconst 2, 1) := by decide +kernel
theorem d9_102 : decode (zB 9) 102 = .ok (.if_icmp .ne 8, 3) := by decide +kernel
theorem d9_105 : decode (zB 9) 105 = .ok (.iload 4, 2) := by decide +kernel
theorem d9_107 : decode (zB 9) 107 = .ok (.goto 16, 3) := by decide +kernel
theorem d9_110 : decode (zB 9) 110 = .ok (.iload 7, 2) := by decide +kernel
theorem d9_112 : decode (zB 9) 112 = .ok (.iconst 3, 1) := by decide +kernel
theorem d9_113 : decode (zB 9) 113 = .ok (.if_icmp .ne 8, 3) := by decide +kernel
theorem d9_116 : decode (zB 9) 116 = .ok (.iload 5, 2) := by decide +kernel
theorem d9_118 : decode (zB 9) 118 = .ok (.goto 5, 3) := by decide +kernel
theorem d9_121 : decode (zB 9) 121 = .ok (.iload 6, 2) := by decide +kernel
theorem d9_123 : decode (zB 9) 123 = .ok (.invokevirtual 67, 3) := by decide +kernel
theorem d9_126 : decode (zB 9) 126 = .ok (.iinc 7 1, 3) := by decide +kernel
theorem d9_129 : decode (zB 9) 129 = .ok (.goto (-59), 3) := by decide +kernel
theorem d9_132 : decode (zB 9) 132 = .ok (.aload_n 0, 1) := by decide +kernel
theorem d9_133 : decode (zB 9) 133 = .ok (.getfield 10, 3) := by decide +kernel
theorem d9_136 : decode (zB 9) 136 = .ok (.getfield 63, 3) := by decide +kernel
theorem d9_139 : decode (zB 9) 139 = .ok (.ireturn, 1) := by decide +kernel
theorem l9 {d : Nat} {Q : Option Value → zM → Prop} {D : yD} {M0 : zM} {n a b c e f : Nat} (hn : n ≤ 5) (h120 : dn D + n ≤ 120) (ha : a < 256) (hb : b < 256) (hc : c < 256) (he : e < 256) (hf : f < 256) (k : ∀ M', RC M' (yfd D n a b c e f) → Fc M0 M' → Q (some (.int (nI (dn D + n)))) M') : ∀ (r i : Nat) (M1 : zM), i ≤ n → n < i + r →  RC M1 (yfd D i a b c e f) → Fc M0 M1 → qW (zEv (d + 2)) 9 Q 70 [(7, .int (nI i)), (0, .ref 16), (1, .int (nI n)), (2, .int (nI a)), (3, .int (nI b)), (4, .int (nI c)), (5, .int (nI e)), (6, .int (nI f))] [] M1 := by
  intro r
  induction r with
  | zero => intros; omega
  | succ r ih =>
    intro i M1 h1 h2 hR1 hF
    refine q_iload d9_70 rfl ?_
    refine q_iload_n d9_72 rfl ?_
    refine nc_ge 132 d9_73 (by decide) (by omega) (by omega) (fun h73 => ?_) (fun h73 => ?_)
    · refine q_aload_n d9_132 rfl ?_
      refine q_getr (c := 7) (f := 0) d9_133 ⟨rfl, rfl⟩ (hR1.1.1.1.1) (hR1.1.1.1.2.1) ?_
      refine q_getv (c := 3) (f := 1) d9_136 ⟨rfl, by decide⟩ hR1.1.1.2.1.1 hR1.2.2.1.2.1 ?_
      refine q_iret d9_139 rfl ?_
      have e9 : i = n := by omega
      rw [e9] at hR1 ⊢
      exact k _ hR1 hF
    · refine q_aload_n d9_76 rfl ?_
      refine q_getr (c := 7) (f := 0) d9_77 ⟨rfl, rfl⟩ (hR1.1.1.1.1) (hR1.1.1.1.2.1) ?_
      refine q_iload d9_80 rfl ?_
      refine n0_ne 89 d9_82 (by decide) (by omega) (fun h82 => ?_) (fun h82 => ?_)
      · refine q_iload d9_89 rfl ?_
        refine q_iconstN (z := 1) d9_91 ?_
        refine nc_ne 99 d9_92 (by decide) (by omega) (by omega) (fun h92 => ?_) (fun h92 => ?_)
        · refine q_iload d9_99 rfl ?_
          refine q_iconstN (z := 2) d9_101 ?_
          refine nc_ne 110 d9_102 (by decide) (by omega) (by omega) (fun h102 => ?_) (fun h102 => ?_)
          · refine q_iload d9_110 rfl ?_
            refine q_iconstN (z := 3) d9_112 ?_
            refine nc_ne 121 d9_113 (by decide) (by omega) (by omega) (fun h113 => ?_) (fun h113 => ?_)
            · refine q_iload d9_121 rfl ?_
              refine q_v1 d9_123 rfl rfl hR1.1.1.2.1.1 (Nat.le_of_ble_eq_true rfl) (c12 hR1.1.1.2.1 hR1.2.2.1 (by show dn D + i < 120; omega) (by omega) (fun M2 t2 f2 => ?_))
              have hR2 := hR1.fed (i := i) t2 (by unfold yby; (repeat' split) <;> first | rfl | (exfalso; omega)) f2
              refine n_iinc 1 d9_126 (by decide) rfl rfl ?_
              refine q_goto 70 d9_129 (by decide) ?_
              exact ih (i + 1) _ (by omega) (by omega) hR2 (hF.trans (f2.fr.c (fun a q ha e => by omega)))
            · refine q_iload d9_116 rfl ?_
              refine q_goto 123 d9_118 (by decide) ?_
              refine q_v1 d9_123 rfl rfl hR1.1.1.2.1.1 (Nat.le_of_ble_eq_true rfl) (c12 hR1.1.1.2.1 hR1.2.2.1 (by show dn D + i < 120; omega) (by omega) (fun M2 t2 f2 => ?_))
              have hR2 := hR1.fed (i := i) t2 (by unfold yby; (repeat' split) <;> first | rfl | (exfalso; omega)) f2
              refine n_iinc 1 d9_126 (by decide) rfl rfl ?_
              refine q_goto 70 d9_129 (by decide) ?_
              exact ih (i + 1) _ (by omega) (by omega) hR2 (hF.trans (f2.fr.c (fun a q ha e => by omega)))
          · refine q_iload d9_105 rfl ?_
            refine q_goto 123 d9_107 (by decide) ?_
            refine q_v1 d9_123 rfl rfl hR1.1.1.2.1.1 (Nat.le_of_ble_eq_true rfl) (c12 hR1.1.1.2.1 hR1.2.2.1 (by show dn D + i < 120; omega) (by omega) (fun M2 t2 f2 => ?_))
            have hR2 := hR1.fed (i := i) t2 (by unfold yby; (repeat' split) <;> first | rfl | (exfalso; omega)) f2
            refine n_iinc 1 d9_126 (by decide) rfl rfl ?_
            refine q_goto 70 d9_129 (by decide) ?_
            exact ih (i + 1) _ (by omega) (by omega) hR2 (hF.trans (f2.fr.c (fun a q ha e => by omega)))
        · refine q_iload_n d9_95 rfl ?_
          refine q_goto 123 d9_96 (by decide) ?_
          refine q_v1 d9_123 rfl rfl hR1.1.1.2.1.1 (Nat.le_of_ble_eq_true rfl) (c12 hR1.1.1.2.1 hR1.2.2.1 (by show dn D + i < 120; omega) (by omega) (fun M2 t2 f2 => ?_))
          have hR2 := hR1.fed (i := i) t2 (by unfold yby; (repeat' split) <;> first | rfl | (exfalso; omega)) f2
          refine n_iinc 1 d9_126 (by decide) rfl rfl ?_
          refine q_goto 70 d9_129 (by decide) ?_
          exact ih (i + 1) _ (by omega) (by omega) hR2 (hF.trans (f2.fr.c (fun a q ha e => by omega)))
      · refine q_iload_n d9_85 rfl ?_
        refine q_goto 123 d9_86 (by decide) ?_
        refine q_v1 d9_123 rfl rfl hR1.1.1.2.1.1 (Nat.le_of_ble_eq_true rfl) (c12 hR1.1.1.2.1 hR1.2.2.1 (by show dn D + i < 120; omega) (by omega) (fun M2 t2 f2 => ?_))
        have hR2 := hR1.fed (i := i) t2 (by unfold yby; (repeat' split) <;> first | rfl | (exfalso; omega)) f2
        refine n_iinc 1 d9_126 (by decide) rfl rfl ?_
        refine q_goto 70 d9_129 (by decide) ?_
        exact ih (i + 1) _ (by omega) (by omega) hR2 (hF.trans (f2.fr.c (fun a q ha e => by omega)))
theorem c10fd {d : Nat} {M : zM} {Q : Option Value → zM → Prop} {x : Int32} (h : zix x 6 = none) (k : Q (some (.int (nI 0))) M) : qC (d + 1) 10 [.int x, .int (nI 1), .int (nI 5)] M Q := c10f (by decide) (by have := zix_none h; omega) (by decide) k
theorem p9 {d : Nat} {M : zM} {Q : Option Value → zM → Prop} {D : yD} {x ax bx cx ex fx : Int32} (hR : RC M D) (hD : OKD D) (k : ∀ M', RC M' (sFeed D x ax bx cx ex fx).2 → Fc M M' → Q (some (.int (sFeed D x ax bx cx ex fx).1)) M') : qC (d + 3) 9 [.ref 16, .int x, .int ax, .int bx, .int cx, .int ex, .int fx] M Q := by
  refine qC_of (by decide) (Nat.le_of_ble_eq_true rfl) ?_
  have hS := hR.1.1
  have hT := hR.1.2.2.1
  have hO := hR.1.2.2.2.1
  have hRW := hR.1.2.2.2.2
  have hJ : RL M 62 (dL D) := hRW.2.2.2
  have hc6 := hO.1.1
  have h240 := hD.2.1
  have h120 := hR.2.2.1.1
  have hwr := hS.wo (Or.inl ⟨rfl, rfl, rfl, rfl⟩)
  have hwt := hS.wo (Or.inr ⟨rfl, rfl, rfl, rfl⟩)
  have hpr := hS.pu (Or.inl ⟨rfl, rfl, rfl, rfl⟩)
  have hpt := hS.pu (Or.inr ⟨rfl, rfl, rfl, rfl⟩)
  unfold sFeed at k
  rcases zix_c x (n := 6) (by omega) with ⟨n, hn, rfl, en⟩ | ⟨en, nn⟩
  · rw [oz_s en] at k
    by_cases h0 : n = 0
    · subst h0
      rw [if_pos rfl] at k
      refine q_iload_n d9_0 rfl ?_
      refine q_iconstN (z := 1) d9_1 ?_
      refine q_iconstN (z := 5) d9_2 ?_
      refine q_s3 d9_3 (Or.inl rfl) rfl (Nat.le_of_ble_eq_true rfl) (c10n (by decide) (by decide) (by decide) (by decide) ?_)
      refine n0_eq 47 d9_6 (by decide) (by decide) (fun _ => ?_) (fun q => absurd q (by decide))
      refine q_bipush (x := (-2)) d9_47 rfl ?_
      refine q_iret d9_49 rfl ?_
      exact k _ hR (Fc.refl _)
    · rw [if_neg h0] at k
      rcases zix_c ax (n := 256) (by omega) with ⟨a, ha, rfl, ea⟩ | ⟨ea, na⟩
      · rw [oz_s ea] at k
        rcases zix_c bx (n := 256) (by omega) with ⟨b, hb, rfl, eb⟩ | ⟨eb, nb⟩
        · rw [oz_s eb] at k
          rcases zix_c cx (n := 256) (by omega) with ⟨c, hc, rfl, ec⟩ | ⟨ec, nc⟩
          · rw [oz_s ec] at k
            rcases zix_c ex (n := 256) (by omega) with ⟨e, he, rfl, ee⟩ | ⟨ee, ne⟩
            · rw [oz_s ee] at k
              rcases zix_c fx (n := 256) (by omega) with ⟨f, hf, rfl, ef⟩ | ⟨ef, nf⟩
              · rw [oz_s ef] at k
                by_cases hfull : 120 < dn D + n
                · rw [if_pos hfull] at k
                  refine q_iload_n d9_0 rfl ?_
                  refine q_iconstN (z := 1) d9_1 ?_
                  refine q_iconstN (z := 5) d9_2 ?_
                  refine q_s3 d9_3 (Or.inl rfl) rfl (Nat.le_of_ble_eq_true rfl) (c10t ⟨by omega, by omega⟩ (by decide) ?_)
                  refine n0_eq 47 d9_6 (by decide) (by decide) (fun q => absurd q (by decide)) (fun _ => ?_)
                  refine q_iload_n d9_9 rfl ?_
                  refine q_s1 d9_10 (Or.inl rfl) rfl (Nat.le_of_ble_eq_true rfl) (c11t (by omega) ?_)
                  refine n0_eq 47 d9_13 (by decide) (by decide) (fun q => absurd q (by decide)) (fun _ => ?_)
                  refine q_iload_n d9_16 rfl ?_
                  refine q_s1 d9_17 (Or.inl rfl) rfl (Nat.le_of_ble_eq_true rfl) (c11t (by omega) ?_)
                  refine n0_eq 47 d9_20 (by decide) (by decide) (fun q => absurd q (by decide)) (fun _ => ?_)
                  refine q_iload d9_23 rfl ?_
                  refine q_s1 d9_25 (Or.inl rfl) rfl (Nat.le_of_ble_eq_true rfl) (c11t (by omega) ?_)
                  refine n0_eq 47 d9_28 (by decide) (by decide) (fun q => absurd q (by decide)) (fun _ => ?_)
                  refine q_iload d9_31 rfl ?_
                  refine q_s1 d9_33 (Or.inl rfl) rfl (Nat.le_of_ble_eq_true rfl) (c11t (by omega) ?_)
                  refine n0_eq 47 d9_36 (by decide) (by decide) (fun q => absurd q (by decide)) (fun _ => ?_)
                  refine q_iload d9_39 rfl ?_
                  refine q_s1 d9_41 (Or.inl rfl) rfl (Nat.le_of_ble_eq_true rfl) (c11t (by omega) ?_)
                  refine n0_ne 50 d9_44 (by decide) (by decide) (fun _ => ?_) (fun q => absurd q (by decide))
                  refine q_aload_n d9_50 rfl ?_
                  refine q_getr (c := 7) (f := 0) d9_51 ⟨rfl, rfl⟩ (hS.1.1) (hS.1.2.1) ?_
                  refine q_getv (c := 3) (f := 1) d9_54 ⟨rfl, by decide⟩ hS.2.1.1 hR.2.2.1.2.1 ?_
                  refine q_iload_n d9_57 rfl ?_
                  refine n_iadd d9_58 ?_
                  refine q_bipush (x := nI 120) d9_59 rfl ?_
                  refine nc_le 67 d9_61 (by decide) (by omega) (by omega) (fun h61 => (False.elim (by omega))) (fun h61 => ?_)
                  refine q_bipush (x := (-4)) d9_64 rfl ?_
                  refine q_iret d9_66 rfl ?_
                  exact k _ hR (Fc.refl _)
                · rw [if_neg hfull] at k
                  refine q_iload_n d9_0 rfl ?_
                  refine q_iconstN (z := 1) d9_1 ?_
                  refine q_iconstN (z := 5) d9_2 ?_
                  refine q_s3 d9_3 (Or.inl rfl) rfl (Nat.le_of_ble_eq_true rfl) (c10t ⟨by omega, by omega⟩ (by decide) ?_)
                  refine n0_eq 47 d9_6 (by decide) (by decide) (fun q => absurd q (by decide)) (fun _ => ?_)
                  refine q_iload_n d9_9 rfl ?_
                  refine q_s1 d9_10 (Or.inl rfl) rfl (Nat.le_of_ble_eq_true rfl) (c11t (by omega) ?_)
                  refine n0_eq 47 d9_13 (by decide) (by decide) (fun q => absurd q (by decide)) (fun _ => ?_)
                  refine q_iload_n d9_16 rfl ?_
                  refine q_s1 d9_17 (Or.inl rfl) rfl (Nat.le_of_ble_eq_true rfl) (c11t (by omega) ?_)
                  refine n0_eq 47 d9_20 (by decide) (by decide) (fun q => absurd q (by decide)) (fun _ => ?_)
                  refine q_iload d9_23 rfl ?_
                  refine q_s1 d9_25 (Or.inl rfl) rfl (Nat.le_of_ble_eq_true rfl) (c11t (by omega) ?_)
                  refine n0_eq 47 d9_28 (by decide) (by decide) (fun q => absurd q (by decide)) (fun _ => ?_)
                  refine q_iload d9_31 rfl ?_
                  refine q_s1 d9_33 (Or.inl rfl) rfl (Nat.le_of_ble_eq_true rfl) (c11t (by omega) ?_)
                  refine n0_eq 47 d9_36 (by decide) (by decide) (fun q => absurd q (by decide)) (fun _ => ?_)
                  refine q_iload d9_39 rfl ?_
                  refine q_s1 d9_41 (Or.inl rfl) rfl (Nat.le_of_ble_eq_true rfl) (c11t (by omega) ?_)
                  refine n0_ne 50 d9_44 (by decide) (by decide) (fun _ => ?_) (fun q => absurd q (by decide))
                  refine q_aload_n d9_50 rfl ?_
                  refine q_getr (c := 7) (f := 0) d9_51 ⟨rfl, rfl⟩ (hS.1.1) (hS.1.2.1) ?_
                  refine q_getv (c := 3) (f := 1) d9_54 ⟨rfl, by decide⟩ hS.2.1.1 hR.2.2.1.2.1 ?_
                  refine q_iload_n d9_57 rfl ?_
                  refine n_iadd d9_58 ?_
                  refine q_bipush (x := nI 120) d9_59 rfl ?_
                  refine nc_le 67 d9_61 (by decide) (by omega) (by omega) (fun h61 => ?_) (fun h61 => (False.elim (by omega)))
                  refine q_iconstN (z := 0) d9_67 ?_
                  refine q_istore d9_68 (by decide) rfl ?_
                  exact l9 (D := D) (by omega) (by omega) ha hb hc he hf k (n + 1) 0 M (by omega) (by omega) (by rw [yfd_0]; exact hR) (Fc.refl _)
              · rw [oz_n ef] at k
                refine q_iload_n d9_0 rfl ?_
                refine q_iconstN (z := 1) d9_1 ?_
                refine q_iconstN (z := 5) d9_2 ?_
                refine q_s3 d9_3 (Or.inl rfl) rfl (Nat.le_of_ble_eq_true rfl) (c10t ⟨by omega, by omega⟩ (by decide) ?_)
                refine n0_eq 47 d9_6 (by decide) (by decide) (fun q => absurd q (by decide)) (fun _ => ?_)
                refine q_iload_n d9_9 rfl ?_
                refine q_s1 d9_10 (Or.inl rfl) rfl (Nat.le_of_ble_eq_true rfl) (c11t (by omega) ?_)
                refine n0_eq 47 d9_13 (by decide) (by decide) (fun q => absurd q (by decide)) (fun _ => ?_)
                refine q_iload_n d9_16 rfl ?_
                refine q_s1 d9_17 (Or.inl rfl) rfl (Nat.le_of_ble_eq_true rfl) (c11t (by omega) ?_)
                refine n0_eq 47 d9_20 (by decide) (by decide) (fun q => absurd q (by decide)) (fun _ => ?_)
                refine q_iload d9_23 rfl ?_
                refine q_s1 d9_25 (Or.inl rfl) rfl (Nat.le_of_ble_eq_true rfl) (c11t (by omega) ?_)
                refine n0_eq 47 d9_28 (by decide) (by decide) (fun q => absurd q (by decide)) (fun _ => ?_)
                refine q_iload d9_31 rfl ?_
                refine q_s1 d9_33 (Or.inl rfl) rfl (Nat.le_of_ble_eq_true rfl) (c11t (by omega) ?_)
                refine n0_eq 47 d9_36 (by decide) (by decide) (fun q => absurd q (by decide)) (fun _ => ?_)
                refine q_iload d9_39 rfl ?_
                refine q_s1 d9_41 (Or.inl rfl) rfl (Nat.le_of_ble_eq_true rfl) (c11f ef ?_)
                refine n0_ne 50 d9_44 (by decide) (by decide) (fun q => absurd q (by decide)) (fun _ => ?_)
                refine q_bipush (x := (-2)) d9_47 rfl ?_
                refine q_iret d9_49 rfl ?_
                exact k _ hR (Fc.refl _)
            · rw [oz_n ee] at k
              refine q_iload_n d9_0 rfl ?_
              refine q_iconstN (z := 1) d9_1 ?_
              refine q_iconstN (z := 5) d9_2 ?_
              refine q_s3 d9_3 (Or.inl rfl) rfl (Nat.le_of_ble_eq_true rfl) (c10t ⟨by omega, by omega⟩ (by decide) ?_)
              refine n0_eq 47 d9_6 (by decide) (by decide) (fun q => absurd q (by decide)) (fun _ => ?_)
              refine q_iload_n d9_9 rfl ?_
              refine q_s1 d9_10 (Or.inl rfl) rfl (Nat.le_of_ble_eq_true rfl) (c11t (by omega) ?_)
              refine n0_eq 47 d9_13 (by decide) (by decide) (fun q => absurd q (by decide)) (fun _ => ?_)
              refine q_iload_n d9_16 rfl ?_
              refine q_s1 d9_17 (Or.inl rfl) rfl (Nat.le_of_ble_eq_true rfl) (c11t (by omega) ?_)
              refine n0_eq 47 d9_20 (by decide) (by decide) (fun q => absurd q (by decide)) (fun _ => ?_)
              refine q_iload d9_23 rfl ?_
              refine q_s1 d9_25 (Or.inl rfl) rfl (Nat.le_of_ble_eq_true rfl) (c11t (by omega) ?_)
              refine n0_eq 47 d9_28 (by decide) (by decide) (fun q => absurd q (by decide)) (fun _ => ?_)
              refine q_iload d9_31 rfl ?_
              refine q_s1 d9_33 (Or.inl rfl) rfl (Nat.le_of_ble_eq_true rfl) (c11f ee ?_)
              refine n0_eq 47 d9_36 (by decide) (by decide) (fun _ => ?_) (fun q => absurd q (by decide))
              refine q_bipush (x := (-2)) d9_47 rfl ?_
              refine q_iret d9_49 rfl ?_
              exact k _ hR (Fc.refl _)
          · rw [oz_n ec] at k
            refine q_iload_n d9_0 rfl ?_
            refine q_iconstN (z := 1) d9_1 ?_
            refine q_iconstN (z := 5) d9_2 ?_
            refine q_s3 d9_3 (Or.inl rfl) rfl (Nat.le_of_ble_eq_true rfl) (c10t ⟨by omega, by omega⟩ (by decide) ?_)
            refine n0_eq 47 d9_6 (by decide) (by decide) (fun q => absurd q (by decide)) (fun _ => ?_)
            refine q_iload_n d9_9 rfl ?_
            refine q_s1 d9_10 (Or.inl rfl) rfl (Nat.le_of_ble_eq_true rfl) (c11t (by omega) ?_)
            refine n0_eq 47 d9_13 (by decide) (by decide) (fun q => absurd q (by decide)) (fun _ => ?_)
            refine q_iload_n d9_16 rfl ?_
            refine q_s1 d9_17 (Or.inl rfl) rfl (Nat.le_of_ble_eq_true rfl) (c11t (by omega) ?_)
            refine n0_eq 47 d9_20 (by decide) (by decide) (fun q => absurd q (by decide)) (fun _ => ?_)
            refine q_iload d9_23 rfl ?_
            refine q_s1 d9_25 (Or.inl rfl) rfl (Nat.le_of_ble_eq_true rfl) (c11f ec ?_)
            refine n0_eq 47 d9_28 (by decide) (by decide) (fun _ => ?_) (fun q => absurd q (by decide))
            refine q_bipush (x := (-2)) d9_47 rfl ?_
            refine q_iret d9_49 rfl ?_
            exact k _ hR (Fc.refl _)
        · rw [oz_n eb] at k
          refine q_iload_n d9_0 rfl ?_
          refine q_iconstN (z := 1) d9_1 ?_
          refine q_iconstN (z := 5) d9_2 ?_
          refine q_s3 d9_3 (Or.inl rfl) rfl (Nat.le_of_ble_eq_true rfl) (c10t ⟨by omega, by omega⟩ (by decide) ?_)
          refine n0_eq 47 d9_6 (by decide) (by decide) (fun q => absurd q (by decide)) (fun _ => ?_)
          refine q_iload_n d9_9 rfl ?_
          refine q_s1 d9_10 (Or.inl rfl) rfl (Nat.le_of_ble_eq_true rfl) (c11t (by omega) ?_)
          refine n0_eq 47 d9_13 (by decide) (by decide) (fun q => absurd q (by decide)) (fun _ => ?_)
          refine q_iload_n d9_16 rfl ?_
          refine q_s1 d9_17 (Or.inl rfl) rfl (Nat.le_of_ble_eq_true rfl) (c11f eb ?_)
          refine n0_eq 47 d9_20 (by decide) (by decide) (fun _ => ?_) (fun q => absurd q (by decide))
          refine q_bipush (x := (-2)) d9_47 rfl ?_
          refine q_iret d9_49 rfl ?_
          exact k _ hR (Fc.refl _)
      · rw [oz_n ea] at k
        refine q_iload_n d9_0 rfl ?_
        refine q_iconstN (z := 1) d9_1 ?_
        refine q_iconstN (z := 5) d9_2 ?_
        refine q_s3 d9_3 (Or.inl rfl) rfl (Nat.le_of_ble_eq_true rfl) (c10t ⟨by omega, by omega⟩ (by decide) ?_)
        refine n0_eq 47 d9_6 (by decide) (by decide) (fun q => absurd q (by decide)) (fun _ => ?_)
        refine q_iload_n d9_9 rfl ?_
        refine q_s1 d9_10 (Or.inl rfl) rfl (Nat.le_of_ble_eq_true rfl) (c11f ea ?_)
        refine n0_eq 47 d9_13 (by decide) (by decide) (fun _ => ?_) (fun q => absurd q (by decide))
        refine q_bipush (x := (-2)) d9_47 rfl ?_
        refine q_iret d9_49 rfl ?_
        exact k _ hR (Fc.refl _)
  · rw [oz_n en] at k
    refine q_iload_n d9_0 rfl ?_
    refine q_iconstN (z := 1) d9_1 ?_
    refine q_iconstN (z := 5) d9_2 ?_
    refine q_s3 d9_3 (Or.inl rfl) rfl (Nat.le_of_ble_eq_true rfl) (c10fd en ?_)
    refine n0_eq 47 d9_6 (by decide) (by decide) (fun _ => ?_) (fun q => absurd q (by decide))
    refine q_bipush (x := (-2)) d9_47 rfl ?_
    refine q_iret d9_49 rfl ?_
    exact k _ hR (Fc.refl _)
/-! a text is read -/
def FT (c : Nat) : Nat → Nat → Prop := fun a k => FR c a k ∨ (a = 17 ∧ k = 1) ∨ (a = 16 ∧ k = 2)
theorem FT_w {c a k : Nat} (hc : c < 6) (h : FT c a k) : (a = 16 ∧ k = 2) ∨ (a = 17 ∧ k ≠ 0) ∨ (20 + 7 * c ≤ a ∧ a < 27 + 7 * c) := by
  unfold FT FR at h; omega
theorem RC.txE {M M' : zM} {D : yD} (hR : RC M D) (hc : dc D < 6) (hS : SC M') (f : Fr (FT (dc D)) M M') (h1 : zi M' 17 1 = nI 0) (h2 : zi M' 16 2 = nI (dc D)) : RC M' (dtS D 0 (db D)) := by
  obtain ⟨⟨a1, a2, a3, a4, a5⟩, a6, a7, a8⟩ := hR
  refine ⟨⟨hS, a2, fun i hi => RP_fr (a3 i hi) f (fun b k b1 b2 q => by have := FT_w hc q; have hi : i < dc D := hi; omega), a4, ⟨RPu_fr a5.1 f (fun b k b1 b2 q => by have := FT_w hc q; omega), fun s hs3 => RS_fr (a5.2.1 s hs3) f (fun b k b1 b2 q => by have := FT_w hc q; omega), RJ_fr a5.2.2 f (fun b k b1 b2 q => by have := FT_w hc q; omega)⟩⟩,
    h2, ⟨Nat.zero_le _, h1, fun k hk => absurd hk (Nat.not_lt_zero _)⟩, fun i hi => ⟨(f.i (fun q => by have := FT_w hc q; omega)).trans (a8 i hi).1, (f.i (fun q => by have := FT_w hc q; omega)).trans (a8 i hi).2⟩⟩
theorem gz_T {T : Nat → yT} {c : Nat} {X : yT} {S : yS} (h : gt S ≠ 0 → gx S < c) : gz (yu T c X) S = gz T S := by
  unfold gz
  by_cases h0 : gt S = 0
  · rw [if_pos h0, if_pos h0]
  · rw [if_neg h0, if_neg h0, yu_n (by have := h h0; omega)]
theorem OKW_T {T : Nat → yT} {c : Nat} {X : yT} {W : yW} (h : OKW T c W) (hX : OKT X) (hc : c < 6) : OKW (yu T c X) (c + 1) W := by
  refine ⟨⟨by omega, fun i hi => ?_⟩, h.2.1, fun s hs => ?_⟩
  · by_cases e : i = c
    · subst e; rw [yu_s]; exact hX
    · rw [yu_n e]; exact h.1.2 i (by omega)
  · obtain ⟨b1, b2, b3, b4, b5, b6⟩ := h.2.2 s hs
    exact ⟨b1, fun q => by have := b2 q; omega, b3, b4, fun i hi => b5 i (by rw [gz_T b2] at hi; exact hi), b6⟩
theorem RC.txO {M M' : zM} {D : yD} {X : yT} (hR : RC M D) (hc : dc D < 6) (hX : OKT X) (hS : SC M') (hp : RP M' (20 + 7 * dc D) X) (f : Fr (FT (dc D)) M M') (h1 : zi M' 17 1 = nI 0) (h2 : zi M' 16 2 = nI (dc D + 1)) : RC M' (dc D + 1, yu (dT D) (dc D) X, 0, D.2.2.2) := by
  obtain ⟨⟨a1, a2, a3, a4, a5⟩, a6, a7, a8⟩ := hR
  refine ⟨⟨hS, a2, fun i hi => ?_, OKW_T a4 hX hc, ⟨RPu_fr a5.1 f (fun b k b1 b2 q => by have := FT_w hc q; omega), fun s hs3 => ?_, RJ_fr a5.2.2 f (fun b k b1 b2 q => by have := FT_w hc q; omega)⟩⟩,
    h2, ⟨Nat.zero_le _, h1, fun k hk => absurd hk (Nat.not_lt_zero _)⟩, fun i hi => ⟨(f.i (fun q => by have := FT_w hc q; omega)).trans (a8 i hi).1, (f.i (fun q => by have := FT_w hc q; omega)).trans (a8 i hi).2⟩⟩
  · show RP M' (20 + 7 * i) (yu (dT D) (dc D) X i)
    by_cases e : i = dc D
    · subst e; rw [yu_s]; exact hp
    · rw [yu_n e]
      have hi : i < dc D + 1 := hi
      exact RP_fr (a3 i (by omega)) f (fun b k b1 b2 q => by have := FT_w hc q; omega)
  · obtain ⟨r1, r2, r3, r4, r5⟩ := RS_fr (a5.2.1 s hs3) f (fun b k b1 b2 q => by have := FT_w hc q; omega)
    have hx := (a4.2.2 s hs3).2.1
    refine ⟨r1, r2, r3, fun k hk => ?_, r5⟩
    have hk : k < gz (yu (dT D) (dc D) X) ((dX D).1.2 s) := hk
    rw [gz_T hx] at hk
    refine (r4 k hk).trans ?_
    have h0 : gt ((dX D).1.2 s) ≠ 0 := fun e => by unfold gz at hk; rw [if_pos e] at hk; omega
    show tu (dT D (gx ((dX D).1.2 s))) k = tu (yu (dT D) (dc D) X (gx ((dX D).1.2 s))) k
    rw [yu_n (by have := hx h0; omega)]
theorem d13_0 : decode (zB 13) 0 = .ok (.aload_n 0, 1) := by decide +kernel
theorem d13_1 : decode (zB 13) 1 = .ok (.getfield 70, 3) := by decide +kernel
theorem d13_4 : decode (zB 13) 4 = .ok (.bipush 6, 2) := by decide +kernel
theorem d13_6 : decode (zB 13) 6 = .ok (.if_icmp .lt 6, 3) := by decide +kernel
theorem d13_9 : decode (zB 13) 9 = .ok (.bipush (-4), 2) := by decide +kernel
theorem d13_11 : decode (zB 13) 11 = .ok (.ireturn, 1) := by decide +kernel
theorem d13_12 : decode (zB 13) 12 = .ok (.aload_n 0, 1) := by decide +kernel
theorem d13_13 : decode (zB 13) 13 = .ok (.getfield 10, 3) := by decide +kernel
theorem d13_16 : decode (zB 13) 16 = .ok (.aload_n 0, 1) := by decide +kernel
theorem d13_17 : decode (zB 13) 17 = .ok (.getfield 18, 3) := by decide +kernel
theorem d13_20 : decode (zB 13) 20 = .ok (.aload_n 0, 1) := by decide +kernel
theorem d13_21 : decode (zB 13) 21 = .ok (.getfield 70, 3) := by decide +kernel
theorem d13_24 : decode (zB 13) 24 = .ok (.aaload, 1) := by decide +kernel
theorem d13_25 : decode (zB 13) 25 = .ok (.invokevirtual 73, 3) := by decide +kernel
theorem d13_28 : decode (zB 13) 28 = .ok (.istore_n 1, 1) := by decide +kernel
theorem d13_29 : decode (zB 13) 29 = .ok (.aload_n 0, 1) := by decide +kernel
theorem d13_30 : decode (zB 13) 30 = .ok (.getfield 10, 3) := by decide +kernel
theorem d13_33 : decode (zB 13) 33 = .ok (.iconst 0, 1) := by decide +kernel
theorem d13_34 : decode (zB 13) 34 = .ok (.putfield 63, 3) := by decide +kernel
theorem d13_37 : decode (zB 13) 37 = .ok (.iload_n 1, 1) := by decide +kernel
theorem d13_38 : decode (zB 13) 38 = .ok (.iconst (-1), 1) := by decide +kernel
theorem d13_39 : decode (zB 13) 39 = .ok (.if_icmp .eq 8, 3) := by decide +kernel
theorem d13_42 : decode (zB 13) 42 = .ok (.bipush (-100), 2) := by decide +kernel
theorem d13_44 : decode (zB 13) 44 = .ok (.iload_n 1, 1) := by decide +kernel
theorem d13_45 : decode (zB 13) 45 = .ok (.isub, 1) := by decide +kernel
theorem d13_46 : decode (zB 13) 46 = .ok (.ireturn, 1) := by decide +kernel
theorem d13_47 : decode (zB 13) 47 = .ok (.aload_n 0, 1) := by decide +kernel
theorem d13_48 : decode (zB 13) 48 = .ok (.dup, 1) := by decide +kernel
theorem d13_49 : decode (zB 13) 49 = .ok (.getfield 70, 3) := by decide +kernel
theorem d13_52 : decode (zB 13) 52 = .ok (.iconst 1, 1) := by decide +kernel
theorem d13_53 : decode (zB 13) 53 = .ok (.iadd, 1) := by decide +kernel
theorem d13_54 : decode (zB 13) 54 = .ok (.putfield 70, 3) := by decide +kernel
theorem d13_57 : decode (zB 13) 57 = .ok (.aload_n 0, 1) := by decide +kernel
theorem d13_58 : decode (zB 13) 58 = .ok (.getfield 70, 3) := by decide +kernel
theorem d13_61 : decode (zB 13) 61 = .ok (.iconst 1, 1) := by decide +kernel
theorem d13_62 : decode (zB 13) 62 = .ok (.isub, 1) := by decide +kernel
theorem d13_63 : decode (zB 13) 63 = .ok (.ireturn, 1) := by decide +kernel
theorem p13 {d : Nat} {M : zM} {Q : Option Value → zM → Prop} {D : yD} (hR : RC M D) (hD : OKD D) (k : ∀ M', RC M' (sText D).2 → Fc M M' → Q (some (.int (sText D).1)) M') : qC (d + 23) 13 [.ref 16] M Q := by
  refine qC_of (by decide) (Nat.le_of_ble_eq_true rfl) ?_
  have hS := hR.1.1
  have hT := hR.1.2.2.1
  have hO := hR.1.2.2.2.1
  have hRW := hR.1.2.2.2.2
  have hJ : RL M 62 (dL D) := hRW.2.2.2
  have hc6 := hO.1.1
  have h240 := hD.2.1
  have h120 := hR.2.2.1.1
  have hwr := hS.wo (Or.inl ⟨rfl, rfl, rfl, rfl⟩)
  have hwt := hS.wo (Or.inr ⟨rfl, rfl, rfl, rfl⟩)
  have hpr := hS.pu (Or.inl ⟨rfl, rfl, rfl, rfl⟩)
  have hpt := hS.pu (Or.inr ⟨rfl, rfl, rfl, rfl⟩)
  unfold sText at k
  by_cases h6 : 6 ≤ dc D
  · rw [if_pos h6] at k
    refine q_aload_n d13_0 rfl ?_
    refine q_getv (c := 7) (f := 2) d13_1 ⟨rfl, by decide⟩ (hS.1.1) hR.2.1 ?_
    refine q_bipush (x := nI 6) d13_4 rfl ?_
    refine nc_lt 12 d13_6 (by decide) (by omega) (by omega) (fun h6 => (False.elim (by omega))) (fun h6 => ?_)
    refine q_bipush (x := (-4)) d13_9 rfl ?_
    refine q_iret d13_11 rfl ?_
    exact k _ hR (Fc.refl _)
  · rw [if_neg h6] at k
    have pv := pTx_v (n := dn D) (b := db D) (fun i hi => (hR.2.2.1.2.2 i hi).2)
    cases e : pTx (dn D) (db D) with
    | error f =>
      rw [e] at k pv
      refine q_aload_n d13_0 rfl ?_
      refine q_getv (c := 7) (f := 2) d13_1 ⟨rfl, by decide⟩ (hS.1.1) hR.2.1 ?_
      refine q_bipush (x := nI 6) d13_4 rfl ?_
      refine nc_lt 12 d13_6 (by decide) (by omega) (by omega) (fun h6 => ?_) (fun h6 => (False.elim (by omega)))
      refine q_aload_n d13_12 rfl ?_
      refine q_getr (c := 7) (f := 0) d13_13 ⟨rfl, rfl⟩ (hS.1.1) (hS.1.2.1) ?_
      refine q_aload_n d13_16 rfl ?_
      refine q_getr (c := 7) (f := 1) d13_17 ⟨rfl, rfl⟩ (hS.1.1) (hS.1.2.2.1) ?_
      refine q_aload_n d13_20 rfl ?_
      refine q_getv (c := 7) (f := 2) d13_21 ⟨rfl, by decide⟩ (hS.1.1) hR.2.1 ?_
      refine n_aald d13_24 (hS.1.2.2.2.1) (by decide) (by omega) (by decide) ((hS.1.2.2.2.2.1) _ (by omega)) ?_
      refine q_v1 d13_25 rfl rfl hS.2.1.1 (Nat.le_of_ble_eq_true rfl) (c14 hS (by omega) hR.2.2.1 (fun T M1 hp _ _ _ => by rw [e] at hp; cases hp) (fun f2 M1 hp hf f1 hS1 => ?_))
      rw [e] at hp
      cases hp
      have g1 : Fr (FT (dc D)) M M1 := f1.mono (fun a k q => Or.inl q)
      refine q_istore_n d13_28 (by decide) rfl ?_
      refine q_aload_n d13_29 rfl ?_
      refine q_getr (c := 7) (f := 0) d13_30 ⟨rfl, rfl⟩ hS1.1.1 hS1.1.2.1 ?_
      refine q_iconstN (z := 0) d13_33 ?_
      refine q_puti (c := 3) (f := 1) d13_34 ⟨rfl, rfl, by decide⟩ hS1.2.1.1 ?_
      refine q_iload_n d13_37 rfl ?_
      refine q_iconst (x := (-1)) d13_38 rfl ?_
      refine ic_eq 47 d13_39 (by decide) (fun h39 => (False.elim (nI_m1 (by omega) h39))) (fun h39 => ?_)
      refine q_bipush (x := (-100)) d13_42 rfl ?_
      refine q_iload_n d13_44 rfl ?_
      refine q_isub d13_45 ?_
      refine q_iret d13_46 rfl ?_
      exact k _ (hR.txE (by omega) (SC_wi hS1 (by omega)) (g1.wi (Or.inr (Or.inl ⟨rfl, rfl⟩))) (wi_s _ _ _ _) ((wi_n (Or.inl (by omega))).trans ((f1.i (by unfold FR; omega)).trans hR.2.1))) ((g1.wi (Or.inr (Or.inl ⟨rfl, rfl⟩))).c (fun a k ha q => by have := FT_w (by omega) q; omega))
    | ok X =>
      rw [e] at k pv
      refine q_aload_n d13_0 rfl ?_
      refine q_getv (c := 7) (f := 2) d13_1 ⟨rfl, by decide⟩ (hS.1.1) hR.2.1 ?_
      refine q_bipush (x := nI 6) d13_4 rfl ?_
      refine nc_lt 12 d13_6 (by decide) (by omega) (by omega) (fun h6 => ?_) (fun h6 => (False.elim (by omega)))
      refine q_aload_n d13_12 rfl ?_
      refine q_getr (c := 7) (f := 0) d13_13 ⟨rfl, rfl⟩ (hS.1.1) (hS.1.2.1) ?_
      refine q_aload_n d13_16 rfl ?_
      refine q_getr (c := 7) (f := 1) d13_17 ⟨rfl, rfl⟩ (hS.1.1) (hS.1.2.2.1) ?_
      refine q_aload_n d13_20 rfl ?_
      refine q_getv (c := 7) (f := 2) d13_21 ⟨rfl, by decide⟩ (hS.1.1) hR.2.1 ?_
      refine n_aald d13_24 (hS.1.2.2.2.1) (by decide) (by omega) (by decide) ((hS.1.2.2.2.2.1) _ (by omega)) ?_
      refine q_v1 d13_25 rfl rfl hS.2.1.1 (Nat.le_of_ble_eq_true rfl) (c14 hS (by omega) hR.2.2.1 (fun X2 M1 hp hrp f1 hS1 => ?_) (fun f2 M1 hp _ _ _ => by rw [e] at hp; cases hp))
      rw [e] at hp
      cases hp
      have g1 : Fr (FT (dc D)) M M1 := f1.mono (fun a k q => Or.inl q)
      refine q_istore_n d13_28 (by decide) rfl ?_
      refine q_aload_n d13_29 rfl ?_
      refine q_getr (c := 7) (f := 0) d13_30 ⟨rfl, rfl⟩ hS1.1.1 hS1.1.2.1 ?_
      refine q_iconstN (z := 0) d13_33 ?_
      refine q_puti (c := 3) (f := 1) d13_34 ⟨rfl, rfl, by decide⟩ hS1.2.1.1 ?_
      refine q_iload_n d13_37 rfl ?_
      refine q_iconst (x := (-1)) d13_38 rfl ?_
      refine ic_eq 47 d13_39 (by decide) (fun h39 => ?_) (fun h39 => (False.elim (h39 rfl)))
      refine q_aload_n d13_47 rfl ?_
      refine q_dup d13_48 rfl ?_
      refine q_getv (c := 7) (f := 2) d13_49 ⟨rfl, by decide⟩ hS1.1.1 (Eq.trans (by (repeat (first | rw [wi_n (Or.inl (by omega))] | rw [wi_n (Or.inr (by omega))] | rw [wi_s] | rw [wr_i] | rw [cp_n (by omega)]))) ((f1.i (by unfold FR; omega)).trans hR.2.1)) ?_
      refine q_iconstN (z := 1) d13_52 ?_
      refine n_iadd d13_53 ?_
      refine q_puti (c := 7) (f := 2) d13_54 ⟨rfl, rfl, by decide⟩ hS1.1.1 ?_
      refine q_aload_n d13_57 rfl ?_
      refine q_getv (c := 7) (f := 2) d13_58 ⟨rfl, by decide⟩ hS1.1.1 (wi_s _ _ _ _) ?_
      refine q_iconstN (z := 1) d13_61 ?_
      refine n_isub d13_62 (by omega) ?_
      refine q_iret d13_63 rfl ?_
      rw [show dc D + 1 - 1 = dc D by omega]
      exact k _ (hR.txO (by omega) pv (SC_wi (SC_wi hS1 (by omega)) (by omega)) (RP_fr hrp (S := fun a k => (a = 17 ∧ k = 1) ∨ (a = 16 ∧ k = 2)) (((Fr.refl _ M1).wi (Or.inl ⟨rfl, rfl⟩)).wi (Or.inr ⟨rfl, rfl⟩)) (fun b k b1 b2 q => by omega)) ((g1.wi (Or.inr (Or.inl ⟨rfl, rfl⟩))).wi (Or.inr (Or.inr ⟨rfl, rfl⟩))) ((wi_n (Or.inl (by omega))).trans (wi_s _ _ _ _)) (wi_s _ _ _ _)) (((g1.wi (Or.inr (Or.inl ⟨rfl, rfl⟩))).wi (Or.inr (Or.inr ⟨rfl, rfl⟩))).c (fun a k ha q => by have := FT_w (by omega) q; omega))
