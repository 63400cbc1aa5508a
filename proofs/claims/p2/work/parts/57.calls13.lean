/-! ===== the calls of the class: tells ===== -/
theorem c114t {d m : Nat} {M : zM} {Q : Option Value → zM → Prop} {x : Int32} (h : yqx x = some m) (k : Q (some (.int (nI 1))) M) : qC (d + 2) 114 [.int x] M Q := c114 (by rw [h]; exact k)
theorem c114f {d : Nat} {M : zM} {Q : Option Value → zM → Prop} {x : Int32} (h : yqx x = none) (k : Q (some (.int (nI 0))) M) : qC (d + 2) 114 [.int x] M Q := c114 (by rw [h]; exact k)
theorem yqx_s {x : Int32} {m : Nat} (h : yqx x = some m) : x = nI m ∧ yqm m = true ∧ m < 212 := by
  unfold yqx at h
  rcases zix_c x (n := 212) (by omega) with ⟨j, hj, rfl, e⟩ | ⟨e, hn⟩
  · rw [e] at h
    have h : (if yqm j = true then some j else none) = some m := h
    by_cases hw : yqm j = true
    · rw [if_pos hw] at h
      have := Option.some.inj h
      subst this
      exact ⟨rfl, hw, hj⟩
    · rw [if_neg hw] at h
      exact absurd h.symm (Option.some_ne_none _)
  · rw [e] at h
    exact absurd (Eq.symm h) (Option.some_ne_none _)
theorem zixN {k n : Nat} (hk : k < 2147483648) (hn : n ≤ 2147483648) (h : (zix (nI k) n).isSome = true) : k < n := by
  cases e : zix (nI k) n with
  | none => rw [e] at h; cases h
  | some j =>
    obtain ⟨h1, h2⟩ := zix_some e
    have := nI_inj hk (by omega) h2
    omega
theorem d112_0 : decode (zB 112) 0 = .ok (.iload_n 1, 1) := by decide +kernel
theorem d112_1 : decode (zB 112) 1 = .ok (.invokestatic 245, 3) := by decide +kernel
theorem d112_4 : decode (zB 112) 4 = .ok (.ifCond .eq 25, 3) := by decide +kernel
theorem d112_7 : decode (zB 112) 7 = .ok (.iload_n 2, 1) := by decide +kernel
theorem d112_8 : decode (zB 112) 8 = .ok (.invokestatic 202, 3) := by decide +kernel
theorem d112_11 : decode (zB 112) 11 = .ok (.ifCond .eq 18, 3) := by decide +kernel
theorem d112_14 : decode (zB 112) 14 = .ok (.iload_n 3, 1) := by decide +kernel
theorem d112_15 : decode (zB 112) 15 = .ok (.invokestatic 141, 3) := by decide +kernel
theorem d112_18 : decode (zB 112) 18 = .ok (.ifCond .eq 11, 3) := by decide +kernel
theorem d112_21 : decode (zB 112) 21 = .ok (.iload 4, 2) := by decide +kernel
theorem d112_23 : decode (zB 112) 23 = .ok (.invokestatic 248, 3) := by decide +kernel
theorem d112_26 : decode (zB 112) 26 = .ok (.ifCond .ne 6, 3) := by decide +kernel
theorem d112_29 : decode (zB 112) 29 = .ok (.bipush (-2), 2) := by decide +kernel
theorem d112_31 : decode (zB 112) 31 = .ok (.ireturn, 1) := by decide +kernel
theorem d112_32 : decode (zB 112) 32 = .ok (.iload 4, 2) := by decide +kernel
theorem d112_34 : decode (zB 112) 34 = .ok (.bipush 100, 2) := by decide +kernel
theorem d112_36 : decode (zB 112) 36 = .ok (.irem, 1) := by decide +kernel
theorem d112_37 : decode (zB 112) 37 = .ok (.istore 5, 2) := by decide +kernel
theorem d112_39 : decode (zB 112) 39 = .ok (.iload 4, 2) := by decide +kernel
theorem d112_41 : decode (zB 112) 41 = .ok (.bipush 100, 2) := by decide +kernel
theorem d112_43 : decode (zB 112) 43 = .ok (.if_icmp .lt 50, 3) := by decide +kernel
theorem d112_46 : decode (zB 112) 46 = .ok (.aload_n 0, 1) := by decide +kernel
theorem d112_47 : decode (zB 112) 47 = .ok (.getfield 37, 3) := by decide +kernel
theorem d112_50 : decode (zB 112) 50 = .ok (.getfield 144, 3) := by decide +kernel
theorem d112_53 : decode (zB 112) 53 = .ok (.iload_n 3, 1) := by decide +kernel
theorem d112_54 : decode (zB 112) 54 = .ok (.aaload, 1) := by decide +kernel
theorem d112_55 : decode (zB 112) 55 = .ok (.astore 6, 2) := by decide +kernel
theorem d112_57 : decode (zB 112) 57 = .ok (.aload 6, 2) := by decide +kernel
theorem d112_59 : decode (zB 112) 59 = .ok (.getfield 166, 3) := by decide +kernel
theorem d112_62 : decode (zB 112) 62 = .ok (.ifCond .ne 6, 3) := by decide +kernel
theorem d112_65 : decode (zB 112) 65 = .ok (.bipush (-3), 2) := by decide +kernel
theorem d112_67 : decode (zB 112) 67 = .ok (.ireturn, 1) := by decide +kernel
theorem d112_68 : decode (zB 112) 68 = .ok (.aload 6, 2) := by decide +kernel
theorem d112_70 : decode (zB 112) 70 = .ok (.iload 5, 2) := by decide +kernel
theorem d112_72 : decode (zB 112) 72 = .ok (.invokevirtual 251, 3) := by decide +kernel
theorem d112_75 : decode (zB 112) 75 = .ok (.ifCond .eq 15, 3) := by decide +kernel
theorem d112_78 : decode (zB 112) 78 = .ok (.aload 6, 2) := by decide +kernel
theorem d112_80 : decode (zB 112) 80 = .ok (.getfield 252, 3) := by decide +kernel
theorem d112_83 : decode (zB 112) 83 = .ok (.iload 5, 2) := by decide +kernel
theorem d112_85 : decode (zB 112) 85 = .ok (.iaload, 1) := by decide +kernel
theorem d112_86 : decode (zB 112) 86 = .ok (.iconst (-1), 1) := by decide +kernel
theorem d112_87 : decode (zB 112) 87 = .ok (.if_icmp .ne 6, 3) := by decide +kernel
theorem d112_90 : decode (zB 112) 90 = .ok (.bipush (-2), 2) := by decide +kernel
theorem d112_92 : decode (zB 112) 92 = .ok (.ireturn, 1) := by decide +kernel
theorem d112_93 : decode (zB 112) 93 = .ok (.aload_n 0, 1) := by decide +kernel
theorem d112_94 : decode (zB 112) 94 = .ok (.getfield 46, 3) := by decide +kernel
theorem d112_97 : decode (zB 112) 97 = .ok (.iload_n 1, 1) := by decide +kernel
theorem d112_98 : decode (zB 112) 98 = .ok (.aaload, 1) := by decide +kernel
theorem d112_99 : decode (zB 112) 99 = .ok (.astore 6, 2) := by decide +kernel
theorem d112_101 : decode (zB 112) 101 = .ok (.aload 6, 2) := by decide +kernel
theorem d112_103 : decode (zB 112) 103 = .ok (.getfield 253, 3) := by decide +kernel
theorem d112_106 : decode (zB 112) 106 = .ok (.iconst (-1), 1) := by decide +kernel
theorem d112_107 : decode (zB 112) 107 = .ok (.if_icmp .ne 6, 3) := by decide +kernel
theorem d112_110 : decode (zB 112) 110 = .ok (.bipush (-11), 2) := by decide +kernel
theorem d112_112 : decode (zB 112) 112 = .ok (.ireturn, 1) := by decide +kernel
theorem d112_113 : decode (zB 112) 113 = .ok (.aload 6, 2) := by decide +kernel
theorem d112_115 : decode (zB 112) 115 = .ok (.getfield 256, 3) := by decide +kernel
theorem d112_118 : decode (zB 112) 118 = .ok (.bipush 20, 2) := by decide +kernel
theorem d112_120 : decode (zB 112) 120 = .ok (.if_icmp .le 6, 3) := by decide +kernel
theorem d112_123 : decode (zB 112) 123 = .ok (.bipush (-2), 2) := by decide +kernel
theorem d112_125 : decode (zB 112) 125 = .ok (.ireturn, 1) := by decide +kernel
theorem d112_126 : decode (zB 112) 126 = .ok (.iload 4, 2) := by decide +kernel
theorem d112_128 : decode (zB 112) 128 = .ok (.ifCond .ne 22, 3) := by decide +kernel
theorem d112_131 : decode (zB 112) 131 = .ok (.aload_n 0, 1) := by decide +kernel
theorem d112_132 : decode (zB 112) 132 = .ok (.getfield 41, 3) := by decide +kernel
theorem d112_135 : decode (zB 112) 135 = .ok (.aload_n 0, 1) := by decide +kernel
theorem d112_136 : decode (zB 112) 136 = .ok (.getfield 37, 3) := by decide +kernel
theorem d112_139 : decode (zB 112) 139 = .ok (.invokevirtual 227, 3) := by decide +kernel
theorem d112_142 : decode (zB 112) 142 = .ok (.aload_n 0, 1) := by decide +kernel
theorem d112_143 : decode (zB 112) 143 = .ok (.aload 6, 2) := by decide +kernel
theorem d112_145 : decode (zB 112) 145 = .ok (.iload_n 2, 1) := by decide +kernel
theorem d112_146 : decode (zB 112) 146 = .ok (.invokevirtual 257, 3) := by decide +kernel
theorem d112_149 : decode (zB 112) 149 = .ok (.ireturn, 1) := by decide +kernel
theorem d112_150 : decode (zB 112) 150 = .ok (.iload 4, 2) := by decide +kernel
theorem d112_152 : decode (zB 112) 152 = .ok (.iconst 1, 1) := by decide +kernel
theorem d112_153 : decode (zB 112) 153 = .ok (.if_icmp .ne 10, 3) := by decide +kernel
theorem d112_156 : decode (zB 112) 156 = .ok (.aload_n 0, 1) := by decide +kernel
theorem d112_157 : decode (zB 112) 157 = .ok (.aload 6, 2) := by decide +kernel
theorem d112_159 : decode (zB 112) 159 = .ok (.invokevirtual 261, 3) := by decide +kernel
theorem d112_162 : decode (zB 112) 162 = .ok (.ireturn, 1) := by decide +kernel
theorem d112_163 : decode (zB 112) 163 = .ok (.aload_n 0, 1) := by decide +kernel
theorem d112_164 : decode (zB 112) 164 = .ok (.aload 6, 2) := by decide +kernel
theorem d112_166 : decode (zB 112) 166 = .ok (.iload_n 2, 1) := by decide +kernel
theorem d112_167 : decode (zB 112) 167 = .ok (.iload_n 3, 1) := by decide +kernel
theorem d112_168 : decode (zB 112) 168 = .ok (.iload 5, 2) := by decide +kernel
theorem d112_170 : decode (zB 112) 170 = .ok (.invokevirtual 265, 3) := by decide +kernel
theorem d112_173 : decode (zB 112) 173 = .ok (.istore 7, 2) := by decide +kernel
theorem d112_175 : decode (zB 112) 175 = .ok (.iload 4, 2) := by decide +kernel
theorem d112_177 : decode (zB 112) 177 = .ok (.sipush 200, 3) := by decide +kernel
theorem d112_180 : decode (zB 112) 180 = .ok (.if_icmp .ge 11, 3) := by decide +kernel
theorem d112_183 : decode (zB 112) 183 = .ok (.iload 7, 2) := by decide +kernel
theorem d112_185 : decode (zB 112) 185 = .ok (.invokestatic 233, 3) := by decide +kernel
theorem d112_188 : decode (zB 112) 188 = .ok (.goto 8, 3) := by decide +kernel
theorem d112_191 : decode (zB 112) 191 = .ok (.iload 7, 2) := by decide +kernel
theorem d112_193 : decode (zB 112) 193 = .ok (.invokestatic 269, 3) := by decide +kernel
theorem d112_196 : decode (zB 112) 196 = .ok (.ireturn, 1) := by decide +kernel
theorem p112 {d : Nat} {M : zM} {Q : Option Value → zM → Prop} {D : yD} {x y z w : Int32} (hR : RC M D) (hD : OKD D) (k : ∀ v M', RC M' D → Fc M M' → Q (some (.int v)) M') : qC (d + 8) 112 [.ref 16, .int x, .int y, .int z, .int w] M Q := by
  refine qC_of (by decide) (Nat.le_of_ble_eq_true rfl) ?_
  have hS := hR.1.1
  have hT := hR.1.2.2.1
  have hO := hR.1.2.2.2.1
  have hRW := hR.1.2.2.2.2
  have hJ : RL M 62 (dL D) := hRW.2.2.2
  have hc6 := hO.1.1
  have h240 := hD.2.1
  have h120 := hR.2.2.1.1
  have hwr := hS.wo (Or.inl ⟨rfl, rfl, rfl, rfl⟩)
  have hwt := hS.wo (Or.inr ⟨rfl, rfl, rfl, rfl⟩)
  have hpr := hS.pu (Or.inl ⟨rfl, rfl, rfl, rfl⟩)
  have hpt := hS.pu (Or.inr ⟨rfl, rfl, rfl, rfl⟩)
  rcases zix_c x (n := 4) (by omega) with ⟨h, hh, rfl, eh⟩ | ⟨eh, nh⟩
  · have _u := eh
    rcases zix_c y (n := 6) (by omega) with ⟨a, ha, rfl, ea⟩ | ⟨ea, na⟩
    · have _u := ea
      rcases zix_c z (n := 3) (by omega) with ⟨s, hs, rfl, es⟩ | ⟨es, ns⟩
      · have _u := es
        have hsg : SSg M (70 + 8 * s) := hS.sg (by unfold zSa; omega)
        have hg0 : zi M (70 + 8 * s) 0 = nI (gt (dS D s)) := (hRW.2.1 s hs).1.1
        have hg5 : gt (dS D s) ≤ 5 := (hO.2.2 s hs).1
        cases hv : yqx w with
        | none =>
          refine q_iload_n d112_0 rfl ?_
          refine q_s1 d112_1 (Or.inl rfl) rfl (Nat.le_of_ble_eq_true rfl) (c113t (by omega) ?_)
          refine n0_eq 29 d112_4 (by decide) (by decide) (fun q => absurd q (by decide)) (fun _ => ?_)
          refine q_iload_n d112_7 rfl ?_
          refine q_s1 d112_8 (Or.inl rfl) rfl (Nat.le_of_ble_eq_true rfl) (c26t (by omega) ?_)
          refine n0_eq 29 d112_11 (by decide) (by decide) (fun q => absurd q (by decide)) (fun _ => ?_)
          refine q_iload_n d112_14 rfl ?_
          refine q_s1 d112_15 (Or.inl rfl) rfl (Nat.le_of_ble_eq_true rfl) (c60t (by omega) ?_)
          refine n0_eq 29 d112_18 (by decide) (by decide) (fun q => absurd q (by decide)) (fun _ => ?_)
          refine q_iload d112_21 rfl ?_
          refine q_s1 d112_23 (Or.inl rfl) rfl (Nat.le_of_ble_eq_true rfl) (c114f hv ?_)
          refine n0_ne 32 d112_26 (by decide) (by decide) (fun q => absurd q (by decide)) (fun _ => ?_)
          refine q_bipush (x := (-2)) d112_29 rfl ?_
          refine q_iret d112_31 rfl ?_
          exact k _ _ hR (Fc.refl _)
        | some m =>
          obtain ⟨rfl, hm, h212⟩ := yqx_s hv
          simp only [yqm, Bool.or_eq_true, decide_eq_true_eq] at hm
          have hz40 := (hD.2.2.2.2 h hh).1
          refine q_iload_n d112_0 rfl ?_
          refine q_s1 d112_1 (Or.inl rfl) rfl (Nat.le_of_ble_eq_true rfl) (c113t (by omega) ?_)
          refine n0_eq 29 d112_4 (by decide) (by decide) (fun q => absurd q (by decide)) (fun _ => ?_)
          refine q_iload_n d112_7 rfl ?_
          refine q_s1 d112_8 (Or.inl rfl) rfl (Nat.le_of_ble_eq_true rfl) (c26t (by omega) ?_)
          refine n0_eq 29 d112_11 (by decide) (by decide) (fun q => absurd q (by decide)) (fun _ => ?_)
          refine q_iload_n d112_14 rfl ?_
          refine q_s1 d112_15 (Or.inl rfl) rfl (Nat.le_of_ble_eq_true rfl) (c60t (by omega) ?_)
          refine n0_eq 29 d112_18 (by decide) (by decide) (fun q => absurd q (by decide)) (fun _ => ?_)
          refine q_iload d112_21 rfl ?_
          refine q_s1 d112_23 (Or.inl rfl) rfl (Nat.le_of_ble_eq_true rfl) (c114t hv ?_)
          refine n0_ne 32 d112_26 (by decide) (by decide) (fun _ => ?_) (fun q => absurd q (by decide))
          refine q_iload d112_32 rfl ?_
          refine q_bipush (x := nI 100) d112_34 rfl ?_
          refine n_irem d112_36 (by omega) (by omega) (by omega) ?_
          refine q_istore d112_37 (by decide) rfl ?_
          refine q_iload d112_39 rfl ?_
          refine q_bipush (x := nI 100) d112_41 rfl ?_
          refine nc_lt 93 d112_43 (by decide) (by omega) (by omega) (fun h43 => ?_) (fun h43 => ?_)
          · refine q_aload_n d112_93 rfl ?_
            refine q_getr (c := 7) (f := 6) d112_94 ⟨rfl, rfl⟩ (hS.1.1) (hS.1.2.2.2.2.2.2.2.2.1) ?_
            refine q_iload_n d112_97 rfl ?_
            refine n_aald d112_98 (hS.1.2.2.2.2.2.2.2.2.2.1) (by decide) (by omega) (by decide) ((hS.1.2.2.2.2.2.2.2.2.2.2.1) _ (by omega)) ?_
            refine q_astore d112_99 (by decide) rfl ?_
            refine q_aload d112_101 rfl ?_
            refine q_getv (c := 4) (f := 0) d112_103 ⟨rfl, by decide⟩ (hS.2.2.2.2.2.2.2.2.2.2.2.1 _ (by omega)).1 (hR.2.2.2 _ (by omega)).1 ?_
            refine q_iconst (x := (-1)) d112_106 rfl ?_
            refine ic_ne 113 d112_107 (by decide) (fun h107 => ?_) (fun h107 => ?_)
            · refine q_aload d112_113 rfl ?_
              refine q_getv (c := 4) (f := 1) d112_115 ⟨rfl, by decide⟩ (hS.2.2.2.2.2.2.2.2.2.2.2.1 _ (by omega)).1 (hR.2.2.2 _ (by omega)).2 ?_
              refine q_bipush (x := nI 20) d112_118 rfl ?_
              refine nc_le 126 d112_120 (by decide) (by omega) (by omega) (fun h120 => ?_) (fun h120 => ?_)
              · refine q_iload d112_126 rfl ?_
                refine n0_ne 150 d112_128 (by decide) (by omega) (fun h128 => ?_) (fun h128 => ?_)
                · refine q_iload d112_150 rfl ?_
                  refine q_iconstN (z := 1) d112_152 ?_
                  refine nc_ne 163 d112_153 (by decide) (by omega) (by omega) (fun h153 => ?_) (fun h153 => ?_)
                  · have hst : m % 100 < 12 := by omega
                    refine q_aload_n d112_163 rfl ?_
                    refine q_aload d112_164 rfl ?_
                    refine q_iload_n d112_166 rfl ?_
                    refine q_iload_n d112_167 rfl ?_
                    refine q_iload d112_168 rfl ?_
                    refine q_v4 d112_170 rfl rfl (hS.1.1) (Nat.le_of_ble_eq_true rfl) (c118 hh ha hs hst (by omega) rfl hR (fun t3 M3 ht3 hR3 g3 => ?_))
                    refine q_istore d112_173 (by decide) rfl ?_
                    have ht3 : t3 < 1048576 := ht3
                    refine q_iload d112_175 rfl ?_
                    refine q_sipush (x := nI 200) d112_177 rfl ?_
                    refine nc_ge 191 d112_180 (by decide) (by omega) (by omega) (fun h180 => ?_) (fun h180 => ?_)
                    · refine q_iload d112_191 rfl ?_
                      refine q_s1 d112_193 (Or.inl rfl) rfl (Nat.le_of_ble_eq_true rfl) (c119 (by omega) (fun v9 => ?_))
                      refine q_iret d112_196 rfl ?_
                      exact k _ _ hR3 g3
                    · refine q_iload d112_183 rfl ?_
                      refine q_s1 d112_185 (Or.inl rfl) rfl (Nat.le_of_ble_eq_true rfl) (c105 ?_)
                      refine q_goto 196 d112_188 (by decide) ?_
                      refine q_iret d112_196 rfl ?_
                      exact k _ _ hR3 g3
                  · refine q_aload_n d112_156 rfl ?_
                    refine q_aload d112_157 rfl ?_
                    refine q_v1 d112_159 rfl rfl (hS.1.1) (Nat.le_of_ble_eq_true rfl) (c117 hh (by omega) rfl hR (fun v3 M3 hR3 g3 => ?_))
                    refine q_iret d112_162 rfl ?_
                    exact k _ _ hR3 g3
                · refine q_aload_n d112_131 rfl ?_
                  refine q_getr (c := 7) (f := 5) d112_132 ⟨rfl, rfl⟩ (hS.1.1) (hS.1.2.2.2.2.2.2.2.1) ?_
                  refine q_aload_n d112_135 rfl ?_
                  refine q_getr (c := 7) (f := 4) d112_136 ⟨rfl, rfl⟩ (hS.1.1) (hS.1.2.2.2.2.2.2.1) ?_
                  refine q_v1 d112_139 rfl rfl hwt.1 (Nat.le_of_ble_eq_true rfl) (c101 (nm := dnm D) (X := dX D) hR.1 (fun M1 hC1 f1 => ?_))
                  have ht1 := hR.th hC1.1 (f1.mono (fun b q e => ⟨by have := e.1; omega, by have := e.2; omega⟩))
                  refine q_aload_n d112_142 rfl ?_
                  refine q_aload d112_143 rfl ?_
                  refine q_iload_n d112_145 rfl ?_
                  refine q_v2 d112_146 rfl rfl (hC1.1.1.1) (Nat.le_of_ble_eq_true rfl) (c116 hh ha (by omega) rfl ht1.1 hC1 (fun v3 M3 hR3 g3 => ?_))
                  refine q_iret d112_149 rfl ?_
                  exact k _ _ hR3 (ht1.2.trans g3)
              · refine q_bipush (x := (-2)) d112_123 rfl ?_
                refine q_iret d112_125 rfl ?_
                exact k _ _ hR (Fc.refl _)
            · refine q_bipush (x := (-11)) d112_110 rfl ?_
              refine q_iret d112_112 rfl ?_
              exact k _ _ hR (Fc.refl _)
          · refine q_aload_n d112_46 rfl ?_
            refine q_getr (c := 7) (f := 4) d112_47 ⟨rfl, rfl⟩ (hS.1.1) (hS.1.2.2.2.2.2.2.1) ?_
            refine q_getr (c := 6) (f := 3) d112_50 ⟨rfl, rfl⟩ hwr.1 hwr.2.2.2.2.1 ?_
            refine q_iload_n d112_53 rfl ?_
            refine n_aald d112_54 hwr.2.2.2.2.2.1 (by decide) (by omega) (by decide) (hwr.2.2.2.2.2.2 _ (by omega)) ?_
            refine q_astore d112_55 (by decide) rfl ?_
            refine q_aload d112_57 rfl ?_
            refine q_getv (c := 5) (f := 0) d112_59 ⟨rfl, by decide⟩ hsg.1 hg0 ?_
            refine n0_ne 68 d112_62 (by decide) (by omega) (fun h62 => ?_) (fun h62 => ?_)
            · have h0 : gt (dS D s) ≠ 0 := h62
              have hgx : gx (dS D s) < dc D := (hO.2.2 s hs).2.1 h0
              have q2 : zr M (70 + 8 * s) 2 = some (20 + 7 * gx (dS D s)) := ((hRW.2.1 s hs).1.2.2).trans (if_neg h0)
              have hn := (hO.1.2 _ hgx).n
              refine q_aload d112_68 rfl ?_
              refine q_iload d112_70 rfl ?_
              refine q_v1 d112_72 rfl rfl hsg.1 (Nat.le_of_ble_eq_true rfl) (c115 hsg q2 (hS.pr (by omega)) (hT _ hgx) hn ?_)
              refine b0_eq 90 d112_75 (by decide) (fun h75 => ?_) (fun h75 => ?_)
              · refine q_bipush (x := (-2)) d112_90 rfl ?_
                refine q_iret d112_92 rfl ?_
                exact k _ _ hR (Fc.refl _)
              · have hk := zixN (by omega) (by omega) h75
                refine q_aload d112_78 rfl ?_
                refine q_getr (c := 5) (f := 8) d112_80 ⟨rfl, rfl⟩ hsg.1 (hsg.2.2.1 0 (by decide)) ?_
                refine q_iload d112_83 rfl ?_
                refine n_iald d112_85 (hsg.2.2.2 1 (by decide)) (by omega) (by decide) rfl ?_
                refine q_iconst (x := (-1)) d112_86 rfl ?_
                refine ic_ne 93 d112_87 (by decide) (fun h87 => ?_) (fun h87 => ?_)
                · refine q_aload_n d112_93 rfl ?_
                  refine q_getr (c := 7) (f := 6) d112_94 ⟨rfl, rfl⟩ (hS.1.1) (hS.1.2.2.2.2.2.2.2.2.1) ?_
                  refine q_iload_n d112_97 rfl ?_
                  refine n_aald d112_98 (hS.1.2.2.2.2.2.2.2.2.2.1) (by decide) (by omega) (by decide) ((hS.1.2.2.2.2.2.2.2.2.2.2.1) _ (by omega)) ?_
                  refine q_astore d112_99 (by decide) rfl ?_
                  refine q_aload d112_101 rfl ?_
                  refine q_getv (c := 4) (f := 0) d112_103 ⟨rfl, by decide⟩ (hS.2.2.2.2.2.2.2.2.2.2.2.1 _ (by omega)).1 (hR.2.2.2 _ (by omega)).1 ?_
                  refine q_iconst (x := (-1)) d112_106 rfl ?_
                  refine ic_ne 113 d112_107 (by decide) (fun h107 => ?_) (fun h107 => ?_)
                  · refine q_aload d112_113 rfl ?_
                    refine q_getv (c := 4) (f := 1) d112_115 ⟨rfl, by decide⟩ (hS.2.2.2.2.2.2.2.2.2.2.2.1 _ (by omega)).1 (hR.2.2.2 _ (by omega)).2 ?_
                    refine q_bipush (x := nI 20) d112_118 rfl ?_
                    refine nc_le 126 d112_120 (by decide) (by omega) (by omega) (fun h120 => ?_) (fun h120 => ?_)
                    · refine q_iload d112_126 rfl ?_
                      refine n0_ne 150 d112_128 (by decide) (by omega) (fun h128 => ?_) (fun h128 => ?_)
                      · refine q_iload d112_150 rfl ?_
                        refine q_iconstN (z := 1) d112_152 ?_
                        refine nc_ne 163 d112_153 (by decide) (by omega) (by omega) (fun h153 => ?_) (fun h153 => ?_)
                        · have hst : m % 100 < 12 := by omega
                          refine q_aload_n d112_163 rfl ?_
                          refine q_aload d112_164 rfl ?_
                          refine q_iload_n d112_166 rfl ?_
                          refine q_iload_n d112_167 rfl ?_
                          refine q_iload d112_168 rfl ?_
                          refine q_v4 d112_170 rfl rfl (hS.1.1) (Nat.le_of_ble_eq_true rfl) (c118 hh ha hs hst (by omega) rfl hR (fun t3 M3 ht3 hR3 g3 => ?_))
                          refine q_istore d112_173 (by decide) rfl ?_
                          have ht3 : t3 < 1048576 := ht3
                          refine q_iload d112_175 rfl ?_
                          refine q_sipush (x := nI 200) d112_177 rfl ?_
                          refine nc_ge 191 d112_180 (by decide) (by omega) (by omega) (fun h180 => ?_) (fun h180 => ?_)
                          · refine q_iload d112_191 rfl ?_
                            refine q_s1 d112_193 (Or.inl rfl) rfl (Nat.le_of_ble_eq_true rfl) (c119 (by omega) (fun v9 => ?_))
                            refine q_iret d112_196 rfl ?_
                            exact k _ _ hR3 g3
                          · refine q_iload d112_183 rfl ?_
                            refine q_s1 d112_185 (Or.inl rfl) rfl (Nat.le_of_ble_eq_true rfl) (c105 ?_)
                            refine q_goto 196 d112_188 (by decide) ?_
                            refine q_iret d112_196 rfl ?_
                            exact k _ _ hR3 g3
                        · refine q_aload_n d112_156 rfl ?_
                          refine q_aload d112_157 rfl ?_
                          refine q_v1 d112_159 rfl rfl (hS.1.1) (Nat.le_of_ble_eq_true rfl) (c117 hh (by omega) rfl hR (fun v3 M3 hR3 g3 => ?_))
                          refine q_iret d112_162 rfl ?_
                          exact k _ _ hR3 g3
                      · refine q_aload_n d112_131 rfl ?_
                        refine q_getr (c := 7) (f := 5) d112_132 ⟨rfl, rfl⟩ (hS.1.1) (hS.1.2.2.2.2.2.2.2.1) ?_
                        refine q_aload_n d112_135 rfl ?_
                        refine q_getr (c := 7) (f := 4) d112_136 ⟨rfl, rfl⟩ (hS.1.1) (hS.1.2.2.2.2.2.2.1) ?_
                        refine q_v1 d112_139 rfl rfl hwt.1 (Nat.le_of_ble_eq_true rfl) (c101 (nm := dnm D) (X := dX D) hR.1 (fun M1 hC1 f1 => ?_))
                        have ht1 := hR.th hC1.1 (f1.mono (fun b q e => ⟨by have := e.1; omega, by have := e.2; omega⟩))
                        refine q_aload_n d112_142 rfl ?_
                        refine q_aload d112_143 rfl ?_
                        refine q_iload_n d112_145 rfl ?_
                        refine q_v2 d112_146 rfl rfl (hC1.1.1.1) (Nat.le_of_ble_eq_true rfl) (c116 hh ha (by omega) rfl ht1.1 hC1 (fun v3 M3 hR3 g3 => ?_))
                        refine q_iret d112_149 rfl ?_
                        exact k _ _ hR3 (ht1.2.trans g3)
                    · refine q_bipush (x := (-2)) d112_123 rfl ?_
                      refine q_iret d112_125 rfl ?_
                      exact k _ _ hR (Fc.refl _)
                  · refine q_bipush (x := (-11)) d112_110 rfl ?_
                    refine q_iret d112_112 rfl ?_
                    exact k _ _ hR (Fc.refl _)
                · refine q_bipush (x := (-2)) d112_90 rfl ?_
                  refine q_iret d112_92 rfl ?_
                  exact k _ _ hR (Fc.refl _)
            · refine q_bipush (x := (-3)) d112_65 rfl ?_
              refine q_iret d112_67 rfl ?_
              exact k _ _ hR (Fc.refl _)
      · have _u := es
        refine q_iload_n d112_0 rfl ?_
        refine q_s1 d112_1 (Or.inl rfl) rfl (Nat.le_of_ble_eq_true rfl) (c113t (by omega) ?_)
        refine n0_eq 29 d112_4 (by decide) (by decide) (fun q => absurd q (by decide)) (fun _ => ?_)
        refine q_iload_n d112_7 rfl ?_
        refine q_s1 d112_8 (Or.inl rfl) rfl (Nat.le_of_ble_eq_true rfl) (c26t (by omega) ?_)
        refine n0_eq 29 d112_11 (by decide) (by decide) (fun q => absurd q (by decide)) (fun _ => ?_)
        refine q_iload_n d112_14 rfl ?_
        refine q_s1 d112_15 (Or.inl rfl) rfl (Nat.le_of_ble_eq_true rfl) (c60f es ?_)
        refine n0_eq 29 d112_18 (by decide) (by decide) (fun _ => ?_) (fun q => absurd q (by decide))
        refine q_bipush (x := (-2)) d112_29 rfl ?_
        refine q_iret d112_31 rfl ?_
        exact k _ _ hR (Fc.refl _)
    · have _u := ea
      refine q_iload_n d112_0 rfl ?_
      refine q_s1 d112_1 (Or.inl rfl) rfl (Nat.le_of_ble_eq_true rfl) (c113t (by omega) ?_)
      refine n0_eq 29 d112_4 (by decide) (by decide) (fun q => absurd q (by decide)) (fun _ => ?_)
      refine q_iload_n d112_7 rfl ?_
      refine q_s1 d112_8 (Or.inl rfl) rfl (Nat.le_of_ble_eq_true rfl) (c26f ea ?_)
      refine n0_eq 29 d112_11 (by decide) (by decide) (fun _ => ?_) (fun q => absurd q (by decide))
      refine q_bipush (x := (-2)) d112_29 rfl ?_
      refine q_iret d112_31 rfl ?_
      exact k _ _ hR (Fc.refl _)
  · have _u := eh
    refine q_iload_n d112_0 rfl ?_
    refine q_s1 d112_1 (Or.inl rfl) rfl (Nat.le_of_ble_eq_true rfl) (c113f eh ?_)
    refine n0_eq 29 d112_4 (by decide) (by decide) (fun _ => ?_) (fun q => absurd q (by decide))
    refine q_bipush (x := (-2)) d112_29 rfl ?_
    refine q_iret d112_31 rfl ?_
    exact k _ _ hR (Fc.refl _)
