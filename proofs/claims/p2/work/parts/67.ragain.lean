/-! ===== the reference: begins, again ===== -/
/-! the reference's sagas begin; a line is done again -/
theorem begins_Sa {M : zM} {s κ g t : Nat} (h1 : zi M 175 s = nI g) (h2 : zi M 176 s = txt (gtS (yS0.1, t, yS0.2.2) g)) (hr : ∀ a, a < 7 → ∀ k, k < 12 → zi M (178 + 4 * a + s) k = nI 0) : XSa M s (gtS (yS0.1, t, yS0.2.2) g) κ := by
  refine ⟨⟨h1, h2⟩, fun k hk => ⟨hr 0 (by decide) k hk, hr 3 (by decide) k hk, hr 4 (by decide) k hk, hr 5 (by decide) k hk, hr 6 (by decide) k hk⟩, fun k _ q => absurd q (show (0 : Nat) ≠ 1 by decide), fun _ => 0, fun i hi => ?_, List.Pairwise.nil⟩
  have hi : i ∈ ([] : List Nat) := hi
  cases hi
/-- the world alone -/
def WX (M : zM) (T : Nat → yT) (c : Nat) (W : yW) (κ : Nat) : Prop := SX M ∧ XTx M T c ∧ OKW T c W ∧ XPu M W.1 ∧ (∀ s, s < 3 → XSa M s (W.2 s) κ) ∧ zi M 136 20 = nI κ
def F3 (s : Nat) : Nat → Nat → Prop := fun b k => GP b k ∨ (b = 136 ∧ k = 20) ∨ GS s b k
theorem F3_B {s b k : Nat} (hs : s < 3) (h : F3 s b k) : FB b k := by unfold F3 GP GS at h; unfold FB; omega
theorem WX.sg {M M' : zM} {T : Nat → yT} {c s κ κ' : Nat} {W : yW} {P : yP} {S : yS} (h : WX M T c W κ) (hs : s < 3) (f : Fi (F3 s) M M') (hP : XPu M' P) (hS : XSa M' s S κ') (hk : κ ≤ κ') (hc : zi M' 136 20 = nI κ') (hO : OKW T c (P, yu W.2 s S)) : WX M' T c (P, yu W.2 s S) κ' := by
  obtain ⟨h1, h2, h3, h4, h5, h6⟩ := h
  refine ⟨SX_fi h1 f, XTx_fi h2 h3.1.1 f (fun b k b1 b2 q => by unfold F3 GP GS at q; omega), hO, hP, fun r hr => ?_, hc⟩
  show XSa M' r (yu W.2 s S r) κ'
  by_cases e : r = s
  · subst e; rw [yu_s]; exact hS
  · rw [yu_n e]
    exact ((h5 r hr).fi f (fun b k q1 q2 => by unfold GS at q1; unfold F3 GP GS at q2; omega)).up hk
def ZR (M : zM) (s i j : Nat) : Prop := ∀ a, a < 7 → ∀ k, k < 12 → (a < i ∨ (a = i ∧ k < j)) → zi M (178 + 4 * a + s) k = nI 0
theorem ZR_w {M : zM} {s i j : Nat} (h : ZR M s i j) : ZR (zwi M (178 + 4 * i + s) j (nI 0)) s i (j + 1) := by
  intro a ha k hk hq
  by_cases e : a = i ∧ k = j
  · obtain ⟨rfl, rfl⟩ := e; exact wi_s _ _ _ _
  · rw [wi_n (by omega)]; exact h a ha k hk (by omega)
theorem d170_0 : decode (zB 170) 0 = .ok (.aload_n 0, 1) := by decide +kernel
theorem d170_1 : decode (zB 170) 1 = .ok (.getfield 36, 3) := by decide +kernel
theorem d170_4 : decode (zB 170) 4 = .ok (.iload_n 1, 1) := by decide +kernel
theorem d170_5 : decode (zB 170) 5 = .ok (.iconst 1, 1) := by decide +kernel
theorem d170_6 : decode (zB 170) 6 = .ok (.iastore, 1) := by decide +kernel
theorem d170_7 : decode (zB 170) 7 = .ok (.aload_n 0, 1) := by decide +kernel
theorem d170_8 : decode (zB 170) 8 = .ok (.getfield 39, 3) := by decide +kernel
theorem d170_11 : decode (zB 170) 11 = .ok (.iload_n 1, 1) := by decide +kernel
theorem d170_12 : decode (zB 170) 12 = .ok (.iload_n 2, 1) := by decide +kernel
theorem d170_13 : decode (zB 170) 13 = .ok (.iastore, 1) := by decide +kernel
theorem d170_14 : decode (zB 170) 14 = .ok (.iconst 0, 1) := by decide +kernel
theorem d170_15 : decode (zB 170) 15 = .ok (.istore_n 3, 1) := by decide +kernel
theorem d170_16 : decode (zB 170) 16 = .ok (.iload_n 3, 1) := by decide +kernel
theorem d170_17 : decode (zB 170) 17 = .ok (.bipush 7, 2) := by decide +kernel
theorem d170_19 : decode (zB 170) 19 = .ok (.if_icmp .ge 35, 3) := by decide +kernel
theorem d170_22 : decode (zB 170) 22 = .ok (.iconst 0, 1) := by decide +kernel
theorem d170_23 : decode (zB 170) 23 = .ok (.istore 4, 2) := by decide +kernel
theorem d170_25 : decode (zB 170) 25 = .ok (.iload 4, 2) := by decide +kernel
theorem d170_27 : decode (zB 170) 27 = .ok (.bipush 12, 2) := by decide +kernel
theorem d170_29 : decode (zB 170) 29 = .ok (.if_icmp .ge 19, 3) := by decide +kernel
theorem d170_32 : decode (zB 170) 32 = .ok (.aload_n 0, 1) := by decide +kernel
theorem d170_33 : decode (zB 170) 33 = .ok (.iload_n 3, 1) := by decide +kernel
theorem d170_34 : decode (zB 170) 34 = .ok (.iload_n 1, 1) := by decide +kernel
theorem d170_35 : decode (zB 170) 35 = .ok (.invokevirtual 294, 3) := by decide +kernel
theorem d170_38 : decode (zB 170) 38 = .ok (.iload 4, 2) := by decide +kernel
theorem d170_40 : decode (zB 170) 40 = .ok (.iconst 0, 1) := by decide +kernel
theorem d170_41 : decode (zB 170) 41 = .ok (.iastore, 1) := by decide +kernel
theorem d170_42 : decode (zB 170) 42 = .ok (.iinc 4 1, 3) := by decide +kernel
theorem d170_45 : decode (zB 170) 45 = .ok (.goto (-20), 3) := by decide +kernel
theorem d170_48 : decode (zB 170) 48 = .ok (.iinc 3 1, 3) := by decide +kernel
theorem d170_51 : decode (zB 170) 51 = .ok (.goto (-35), 3) := by decide +kernel
theorem d170_54 : decode (zB 170) 54 = .ok (.return_, 1) := by decide +kernel
theorem l170b {d : Nat} {Q : Option Value → zM → Prop} {M0 : zM} {s q : Nat} {t : Int32} (hs : s < 3) (hq : q < 7) (k : ∀ M1, (zi M1 175 s = nI 1 ∧ zi M1 176 s = t) → (SX M1 ∧ Fi (GS s) M0 M1 ∧ ZR M1 s q 12) → qW (zEv (d + 1)) 170 Q 48 [(0, .ref 136), (1, .int (nI s)), (2, .int t), (3, .int (nI q)), (4, .int (nI 12))] [] M1) : ∀ (r i : Nat) (M1 : zM), i ≤ 12 → 12 < i + r →  (zi M1 175 s = nI 1 ∧ zi M1 176 s = t) → (SX M1 ∧ Fi (GS s) M0 M1 ∧ ZR M1 s q i) → qW (zEv (d + 1)) 170 Q 25 [(0, .ref 136), (1, .int (nI s)), (2, .int t), (3, .int (nI q)), (4, .int (nI i))] [] M1 := by
  intro r
  induction r with
  | zero => intros; omega
  | succ r ih =>
    intro i M1 h1 h2 h0 hv
    have hX := hv.1
    refine q_iload d170_25 rfl ?_
    refine q_bipush (x := nI 12) d170_27 rfl ?_
    refine nc_ge 48 d170_29 (by decide) (by omega) (by omega) (fun h29 => ?_) (fun h29 => ?_)
    · refine qW_srt rfl rfl ?_
      have e3 : i = 12 := by omega
      rw [e3] at hv ⊢
      exact k _ h0 hv
    · refine q_aload_n d170_32 rfl ?_
      refine q_iload_n d170_33 rfl ?_
      refine q_iload_n d170_34 rfl ?_
      refine q_v2 d170_35 rfl rfl (xk_136 hX) (Nat.le_of_ble_eq_true rfl) (c156 hX (by omega) (by omega) ?_)
      refine q_iload d170_38 rfl ?_
      refine q_iconstN (z := 0) d170_40 ?_
      refine n_iast d170_41 (xa_row hX (by omega) (by omega)) (by omega) (by decide) ?_
      refine n_iinc 1 d170_42 (by decide) rfl rfl ?_
      refine q_goto 25 d170_45 (by decide) ?_
      refine qW_srt rfl rfl ?_
      exact ih (i + 1) _ (by omega) (by omega) ⟨(wi_n (by omega)).trans h0.1, (wi_n (by omega)).trans h0.2⟩ ⟨SX_fi hX ((Fi.refl (GS s) _).wi (by unfold GS; omega)), hv.2.1.wi (by unfold GS; omega), ZR_w hv.2.2⟩
theorem l170 {d : Nat} {Q : Option Value → zM → Prop} {M0 : zM} {s : Nat} {t : Int32} (hs : s < 3) (k : ∀ M', (zi M' 175 s = nI 1 ∧ zi M' 176 s = t) → (∀ a, a < 7 → ∀ k, k < 12 → zi M' (178 + 4 * a + s) k = nI 0) → Fi (GS s) M0 M' → Q none M') : ∀ (r i : Nat) (M1 : zM), i ≤ 7 → 7 < i + r →  (zi M1 175 s = nI 1 ∧ zi M1 176 s = t) → (SX M1 ∧ Fi (GS s) M0 M1 ∧ ZR M1 s i 0) → qW (zEv (d + 1)) 170 Q 16 [(0, .ref 136), (1, .int (nI s)), (2, .int t), (3, .int (nI i)), (4, .int (nI 12))] [] M1 := by
  intro r
  induction r with
  | zero => intros; omega
  | succ r ih =>
    intro i M1 h1 h2 h0 hv
    have hX := hv.1
    refine q_iload_n d170_16 rfl ?_
    refine q_bipush (x := nI 7) d170_17 rfl ?_
    refine nc_ge 54 d170_19 (by decide) (by omega) (by omega) (fun h19 => ?_) (fun h19 => ?_)
    · refine q_ret d170_54 rfl ?_
      exact k _ h0 (fun a ha k hk => hv.2.2 a ha k hk (by omega)) hv.2.1
    · refine q_iconstN (z := 0) d170_22 ?_
      refine q_istore d170_23 (by decide) rfl ?_
      refine qW_srt rfl rfl ?_
      exact l170b hs (by omega) (fun M2 h02 hv2 => by
        refine n_iinc 1 d170_48 (by decide) rfl rfl ?_
        refine q_goto 16 d170_51 (by decide) ?_
        refine qW_srt rfl rfl ?_
        exact ih (i + 1) _ (by omega) (by omega) h02 (⟨hv2.1, hv2.2.1, fun a ha k hk hq => hv2.2.2 a ha k hk (by omega)⟩)) 13 0 _ (by omega) (by omega) h0 hv
theorem c170 {d : Nat} {M : zM} {Q : Option Value → zM → Prop} {s : Nat} {t : Int32} (hX : SX M) (hs : s < 3) (k : ∀ M', (zi M' 175 s = nI 1 ∧ zi M' 176 s = t) → (∀ a, a < 7 → ∀ k, k < 12 → zi M' (178 + 4 * a + s) k = nI 0) → Fi (GS s) M M' → Q none M') : qC (d + 2) 170 [.ref 136, .int (nI s), .int t] M Q := by
  refine qC_of (by decide) (Nat.le_of_ble_eq_true rfl) ?_
  refine q_aload_n d170_0 rfl ?_
  refine q_getr (c := 8) (f := 11) d170_1 ⟨rfl, rfl⟩ (xk_136 hX) (xf_states hX) ?_
  refine q_iload_n d170_4 rfl ?_
  refine q_iconstN (z := 1) d170_5 ?_
  refine n_iast d170_6 (xk_states hX) (by omega) (by decide) ?_
  refine q_aload_n d170_7 rfl ?_
  refine q_getr (c := 8) (f := 12) d170_8 ⟨rfl, rfl⟩ (xk_136 hX) (xf_textOf hX) ?_
  refine q_iload_n d170_11 rfl ?_
  refine q_iload_n d170_12 rfl ?_
  refine n_iast d170_13 (xk_textOf hX) (by omega) (by decide) ?_
  refine q_iconstN (z := 0) d170_14 ?_
  refine q_istore_n d170_15 (by decide) rfl ?_
  refine q_iload_n d170_16 rfl ?_
  refine q_bipush (x := nI 7) d170_17 rfl ?_
  refine nc_ge 54 d170_19 (by decide) (by decide) (by decide) (fun q => absurd q (by decide)) (fun _ => ?_)
  refine q_iconstN (z := 0) d170_22 ?_
  refine q_istore d170_23 (by decide) rfl ?_
  refine qW_srt rfl rfl ?_
  have f : Fi (GS s) M _ := ((Fi.refl (GS s) M).wi (a := 175) (k := s) (v := nI 1) (by unfold GS; omega)).wi (a := 176) (k := s) (v := t) (by unfold GS; omega)
  exact l170b hs (by omega) (fun M2 h02 hv2 => by
    refine n_iinc 1 d170_48 (by decide) rfl rfl ?_
    refine q_goto 16 d170_51 (by decide) ?_
    refine qW_srt rfl rfl ?_
    exact l170 hs k 8 1 _ (by omega) (by omega) h02 (⟨hv2.1, hv2.2.1, fun a ha k hk hq => hv2.2.2 a ha k hk (by omega)⟩)) 13 0 _ (by omega) (by omega) ⟨(wi_n (by omega)).trans (wi_s _ _ _ _), wi_s _ _ _ _⟩ ⟨SX_fi hX f, f, fun a ha k hk hq => by omega⟩
theorem d194_0 : decode (zB 194) 0 = .ok (.iconst 0, 1) := by decide +kernel
theorem d194_1 : decode (zB 194) 1 = .ok (.istore 4, 2) := by decide +kernel
theorem d194_3 : decode (zB 194) 3 = .ok (.iload_n 1, 1) := by decide +kernel
theorem d194_4 : decode (zB 194) 4 = .ok (.tableswitch 182 0 5 #[40, 49, 97, 127, 160, 172], 40) := by decide +kernel
theorem d194_44 : decode (zB 194) 44 = .ok (.aload_n 0, 1) := by decide +kernel
theorem d194_45 : decode (zB 194) 45 = .ok (.iload_n 2, 1) := by decide +kernel
theorem d194_46 : decode (zB 194) 46 = .ok (.iload_n 3, 1) := by decide +kernel
theorem d194_47 : decode (zB 194) 47 = .ok (.invokevirtual 348, 3) := by decide +kernel
theorem d194_50 : decode (zB 194) 50 = .ok (.goto 143, 3) := by decide +kernel
theorem d194_53 : decode (zB 194) 53 = .ok (.aload_n 0, 1) := by decide +kernel
theorem d194_54 : decode (zB 194) 54 = .ok (.aload_n 0, 1) := by decide +kernel
theorem d194_55 : decode (zB 194) 55 = .ok (.getfield 39, 3) := by decide +kernel
theorem d194_58 : decode (zB 194) 58 = .ok (.iload_n 2, 1) := by decide +kernel
theorem d194_59 : decode (zB 194) 59 = .ok (.iaload, 1) := by decide +kernel
theorem d194_60 : decode (zB 194) 60 = .ok (.iload_n 3, 1) := by decide +kernel
theorem d194_61 : decode (zB 194) 61 = .ok (.aload_n 0, 1) := by decide +kernel
theorem d194_62 : decode (zB 194) 62 = .ok (.getfield 27, 3) := by decide +kernel
theorem d194_65 : decode (zB 194) 65 = .ok (.aload_n 0, 1) := by decide +kernel
theorem d194_66 : decode (zB 194) 66 = .ok (.getfield 39, 3) := by decide +kernel
theorem d194_69 : decode (zB 194) 69 = .ok (.iload_n 2, 1) := by decide +kernel
theorem d194_70 : decode (zB 194) 70 = .ok (.iaload, 1) := by decide +kernel
theorem d194_71 : decode (zB 194) 71 = .ok (.aaload, 1) := by decide +kernel
theorem d194_72 : decode (zB 194) 72 = .ok (.iload_n 3, 1) := by decide +kernel
theorem d194_73 : decode (zB 194) 73 = .ok (.iaload, 1) := by decide +kernel
theorem d194_74 : decode (zB 194) 74 = .ok (.invokevirtual 229, 3) := by decide +kernel
theorem d194_77 : decode (zB 194) 77 = .ok (.istore 4, 2) := by decide +kernel
theorem d194_79 : decode (zB 194) 79 = .ok (.aload_n 0, 1) := by decide +kernel
theorem d194_80 : decode (zB 194) 80 = .ok (.iload_n 2, 1) := by decide +kernel
theorem d194_81 : decode (zB 194) 81 = .ok (.iload_n 3, 1) := by decide +kernel
theorem d194_82 : decode (zB 194) 82 = .ok (.aload_n 0, 1) := by decide +kernel
theorem d194_83 : decode (zB 194) 83 = .ok (.getfield 27, 3) := by decide +kernel
theorem d194_86 : decode (zB 194) 86 = .ok (.aload_n 0, 1) := by decide +kernel
theorem d194_87 : decode (zB 194) 87 = .ok (.getfield 39, 3) := by decide +kernel
theorem d194_90 : decode (zB 194) 90 = .ok (.iload_n 2, 1) := by decide +kernel
theorem d194_91 : decode (zB 194) 91 = .ok (.iaload, 1) := by decide +kernel
theorem d194_92 : decode (zB 194) 92 = .ok (.aaload, 1) := by decide +kernel
theorem d194_93 : decode (zB 194) 93 = .ok (.iload_n 3, 1) := by decide +kernel
theorem d194_94 : decode (zB 194) 94 = .ok (.iaload, 1) := by decide +kernel
theorem d194_95 : decode (zB 194) 95 = .ok (.invokevirtual 317, 3) := by decide +kernel
theorem d194_98 : decode (zB 194) 98 = .ok (.goto 95, 3) := by decide +kernel
theorem d194_101 : decode (zB 194) 101 = .ok (.aload_n 0, 1) := by decide +kernel
theorem d194_102 : decode (zB 194) 102 = .ok (.getfield 51, 3) := by decide +kernel
theorem d194_105 : decode (zB 194) 105 = .ok (.iload_n 2, 1) := by decide +kernel
theorem d194_106 : decode (zB 194) 106 = .ok (.aaload, 1) := by decide +kernel
theorem d194_107 : decode (zB 194) 107 = .ok (.iload_n 3, 1) := by decide +kernel
theorem d194_108 : decode (zB 194) 108 = .ok (.dup2, 1) := by decide +kernel
theorem d194_109 : decode (zB 194) 109 = .ok (.iaload, 1) := by decide +kernel
theorem d194_110 : decode (zB 194) 110 = .ok (.iconst 1, 1) := by decide +kernel
theorem d194_111 : decode (zB 194) 111 = .ok (.iadd, 1) := by decide +kernel
theorem d194_112 : decode (zB 194) 112 = .ok (.iastore, 1) := by decide +kernel
theorem d194_113 : decode (zB 194) 113 = .ok (.aload_n 0, 1) := by decide +kernel
theorem d194_114 : decode (zB 194) 114 = .ok (.iload_n 2, 1) := by decide +kernel
theorem d194_115 : decode (zB 194) 115 = .ok (.invokevirtual 320, 3) := by decide +kernel
theorem d194_118 : decode (zB 194) 118 = .ok (.ifCond .ne 75, 3) := by decide +kernel
theorem d194_121 : decode (zB 194) 121 = .ok (.aload_n 0, 1) := by decide +kernel
theorem d194_122 : decode (zB 194) 122 = .ok (.getfield 36, 3) := by decide +kernel
theorem d194_125 : decode (zB 194) 125 = .ok (.iload_n 2, 1) := by decide +kernel
theorem d194_126 : decode (zB 194) 126 = .ok (.iconst 2, 1) := by decide +kernel
theorem d194_127 : decode (zB 194) 127 = .ok (.iastore, 1) := by decide +kernel
theorem d194_128 : decode (zB 194) 128 = .ok (.goto 65, 3) := by decide +kernel
theorem d194_131 : decode (zB 194) 131 = .ok (.aload_n 0, 1) := by decide +kernel
theorem d194_132 : decode (zB 194) 132 = .ok (.aload_n 0, 1) := by decide +kernel
theorem d194_133 : decode (zB 194) 133 = .ok (.getfield 39, 3) := by decide +kernel
theorem d194_136 : decode (zB 194) 136 = .ok (.iload_n 2, 1) := by decide +kernel
theorem d194_137 : decode (zB 194) 137 = .ok (.iaload, 1) := by decide +kernel
theorem d194_138 : decode (zB 194) 138 = .ok (.iload_n 3, 1) := by decide +kernel
theorem d194_139 : decode (zB 194) 139 = .ok (.aload_n 0, 1) := by decide +kernel
theorem d194_140 : decode (zB 194) 140 = .ok (.getfield 48, 3) := by decide +kernel
theorem d194_143 : decode (zB 194) 143 = .ok (.iload_n 2, 1) := by decide +kernel
theorem d194_144 : decode (zB 194) 144 = .ok (.aaload, 1) := by decide +kernel
theorem d194_145 : decode (zB 194) 145 = .ok (.iload_n 3, 1) := by decide +kernel
theorem d194_146 : decode (zB 194) 146 = .ok (.iaload, 1) := by decide +kernel
theorem d194_147 : decode (zB 194) 147 = .ok (.invokevirtual 330, 3) := by decide +kernel
theorem d194_150 : decode (zB 194) 150 = .ok (.istore 4, 2) := by decide +kernel
theorem d194_152 : decode (zB 194) 152 = .ok (.aload_n 0, 1) := by decide +kernel
theorem d194_153 : decode (zB 194) 153 = .ok (.getfield 42, 3) := by decide +kernel
theorem d194_156 : decode (zB 194) 156 = .ok (.iload_n 2, 1) := by decide +kernel
theorem d194_157 : decode (zB 194) 157 = .ok (.aaload, 1) := by decide +kernel
theorem d194_158 : decode (zB 194) 158 = .ok (.iload_n 3, 1) := by decide +kernel
theorem d194_159 : decode (zB 194) 159 = .ok (.iconst 2, 1) := by decide +kernel
theorem d194_160 : decode (zB 194) 160 = .ok (.iastore, 1) := by decide +kernel
theorem d194_161 : decode (zB 194) 161 = .ok (.goto 32, 3) := by decide +kernel
theorem d194_164 : decode (zB 194) 164 = .ok (.aload_n 0, 1) := by decide +kernel
theorem d194_165 : decode (zB 194) 165 = .ok (.getfield 42, 3) := by decide +kernel
theorem d194_168 : decode (zB 194) 168 = .ok (.iload_n 2, 1) := by decide +kernel
theorem d194_169 : decode (zB 194) 169 = .ok (.aaload, 1) := by decide +kernel
theorem d194_170 : decode (zB 194) 170 = .ok (.iload_n 3, 1) := by decide +kernel
theorem d194_171 : decode (zB 194) 171 = .ok (.iconst 3, 1) := by decide +kernel
theorem d194_172 : decode (zB 194) 172 = .ok (.iastore, 1) := by decide +kernel
theorem d194_173 : decode (zB 194) 173 = .ok (.goto 20, 3) := by decide +kernel
theorem d194_176 : decode (zB 194) 176 = .ok (.aload_n 0, 1) := by decide +kernel
theorem d194_177 : decode (zB 194) 177 = .ok (.getfield 36, 3) := by decide +kernel
theorem d194_180 : decode (zB 194) 180 = .ok (.iload_n 2, 1) := by decide +kernel
theorem d194_181 : decode (zB 194) 181 = .ok (.iload_n 3, 1) := by decide +kernel
theorem d194_182 : decode (zB 194) 182 = .ok (.iastore, 1) := by decide +kernel
theorem d194_183 : decode (zB 194) 183 = .ok (.goto 10, 3) := by decide +kernel
theorem d194_186 : decode (zB 194) 186 = .ok (.aload_n 0, 1) := by decide +kernel
theorem d194_187 : decode (zB 194) 187 = .ok (.getfield 33, 3) := by decide +kernel
theorem d194_190 : decode (zB 194) 190 = .ok (.iload_n 2, 1) := by decide +kernel
theorem d194_191 : decode (zB 194) 191 = .ok (.iload_n 3, 1) := by decide +kernel
theorem d194_192 : decode (zB 194) 192 = .ok (.iastore, 1) := by decide +kernel
theorem d194_193 : decode (zB 194) 193 = .ok (.return_, 1) := by decide +kernel
theorem bI_is2 {p : Bool} (h : ¬ bI p = nI 0) : p = true := by
  cases p with
  | true => rfl
  | false => exact absurd rfl h
theorem bI_not2 {p : Bool} (h : bI p = nI 0) : p = false := by
  cases p with
  | false => rfl
  | true => exact absurd h (by decide)
theorem c194_0 {d : Nat} {M : zM} {Q : Option Value → zM → Prop} {T : Nat → yT} {c s i κ : Nat} {W : yW} (hW : WX M T c W κ) (hZ : yZ W) (hl : yle T c W (0, s, i)) (hs : s < 3) (hi : i < c) (hκ : κ + 1 < 2147483648) (k : ∀ M' κ', κ' ≤ κ + 1 → WX M' T c (yag T W (0, s, i)) κ' → Fi FB M M' → Q none M') : qC (d + 4) 194 [.ref 136, .int (nI 0), .int (nI s), .int (nI i)] M Q := by
  refine qC_of (by decide) (Nat.le_of_ble_eq_true rfl) ?_
  have hX := hW.1
  have hOK := yag_ok hW.2.2.1 hl
  refine q_iconstN (z := 0) d194_0 ?_
  refine q_istore d194_1 (by decide) rfl ?_
  refine q_iload_n d194_3 rfl ?_
  refine n_tsI (40) 44 d194_4 (by decide) (by decide) rfl (by decide) ?_
  refine q_aload_n d194_44 rfl ?_
  refine q_iload_n d194_45 rfl ?_
  refine q_iload_n d194_46 rfl ?_
  refine q_v2 d194_47 rfl rfl (xk_136 hX) (Nat.le_of_ble_eq_true rfl) (c170 hX hs (fun M1 h1 h2 f1 => ?_))
  refine q_goto 193 d194_50 (by decide) ?_
  refine q_ret d194_193 rfl ?_
  have f : Fi (F3 s) M M1 := f1.mono (fun b k q => Or.inr (Or.inr q))
  exact k _ κ (Nat.le_succ κ) (hW.sg hs f (XPu_fi hW.2.2.2.1 f1 (fun b k q1 q2 => by unfold GP at q1; unfold GS at q2; omega)) (begins_Sa (t := i) (g := 1) h1.1 h1.2 h2) (Nat.le_refl _) ((f1.1 _ _ (by unfold GS; omega)).trans hW.2.2.2.2.2) hOK) (f.mono (fun b k q => F3_B hs q))
theorem c194_1 {d : Nat} {M : zM} {Q : Option Value → zM → Prop} {T : Nat → yT} {c s i κ : Nat} {W : yW} (hW : WX M T c W κ) (hZ : yZ W) (hl : yle T c W (1, s, i)) (hs : s < 3) (h0 : gt (W.2 s) ≠ 0) (hi : i < tn (T (gx (W.2 s)))) (hd : gd (W.2 s) i = 0) (hob : yob (T (gx (W.2 s))) W.1 i (tu (T (gx (W.2 s))) i) 1 = 0) (hκ : κ + 1 < 2147483648) (k : ∀ M' κ', κ' ≤ κ + 1 → WX M' T c (yag T W (1, s, i)) κ' → Fi FB M M' → Q none M') : qC (d + 4) 194 [.ref 136, .int (nI 1), .int (nI s), .int (nI i)] M Q := by
  refine qC_of (by decide) (Nat.le_of_ble_eq_true rfl) ?_
  have hX := hW.1
  have hOK := yag_ok hW.2.2.1 hl
  have hOs : OKS T c (W.2 s) := hW.2.2.1.2.2 s hs
  have hx : gx (W.2 s) < c := hOs.2.1 h0
  have hoT := hW.2.2.1.1.2 _ hx
  have hn := hoT.n
  have hc6 := hW.2.2.1.1.1
  have hsa := hW.2.2.2.2.1 s hs
  have hx1 : zi M 176 s = nI (gx (W.2 s)) := hsa.1.2.trans (if_neg h0)
  have hni : i ∉ go (W.2 s) := fun q => by have := (hOs.2.2.2.1 i).mp q; omega
  refine q_iconstN (z := 0) d194_0 ?_
  refine q_istore d194_1 (by decide) rfl ?_
  refine q_iload_n d194_3 rfl ?_
  refine n_tsI (49) 53 d194_4 (by decide) (by decide) rfl (by decide) ?_
  refine q_aload_n d194_53 rfl ?_
  refine q_aload_n d194_54 rfl ?_
  refine q_getr (c := 8) (f := 12) d194_55 ⟨rfl, rfl⟩ (xk_136 hX) (xf_textOf hX) ?_
  refine q_iload_n d194_58 rfl ?_
  refine n_iald d194_59 (xk_textOf hX) (by omega) (by decide) hx1 ?_
  refine q_iload_n d194_60 rfl ?_
  refine q_aload_n d194_61 rfl ?_
  refine q_getr (c := 8) (f := 6) d194_62 ⟨rfl, rfl⟩ (xk_136 hX) (xf_numbers hX) ?_
  refine q_aload_n d194_65 rfl ?_
  refine q_getr (c := 8) (f := 12) d194_66 ⟨rfl, rfl⟩ (xk_136 hX) (xf_textOf hX) ?_
  refine q_iload_n d194_69 rfl ?_
  refine n_iald d194_70 (xk_textOf hX) (by omega) (by decide) hx1 ?_
  refine n_aald d194_71 (xk_numbers hX) (by decide) (by omega) (by decide) (xr_numbers hX (by omega)) ?_
  refine q_iload_n d194_72 rfl ?_
  refine n_iald d194_73 (xa_numbers hX (by omega)) (by omega) (by decide) ((hW.2.1 _ hx).2.2 _ (by omega)).2.2.2.1 ?_
  refine q_v3 d194_74 rfl rfl (xk_136 hX) (Nat.le_of_ble_eq_true rfl) (c157 hX hW.2.2.2.1 (hW.2.1 _ hx) hoT hW.2.2.1.2.1 (by omega) hi (fun M1 hP1 f1 => ?_))
  have hX1 := SX_fi hX f1
  have hsa1 := hsa.fi f1 (fun b k q1 q2 => by unfold GS at q1; unfold GP at q2; omega)
  have hc1 : zi M1 136 20 = nI κ := (f1.1 _ _ (by unfold GP; omega)).trans hW.2.2.2.2.2
  have hT1 := XTx_fi hW.2.1 hc6 f1 (fun b k b1 b2 q => by unfold GP at q; omega)
  have hx2 : zi M1 176 s = nI (gx (W.2 s)) := (f1.1 _ _ (by unfold GP; omega)).trans hx1
  have hP1 : XPu M1 (ych (T (gx (W.2 s))) W.1 i (tu (T (gx (W.2 s))) i) 1) := by have h := hP1; unfold xdo at h; rw [if_pos hob] at h; exact h
  refine q_istore d194_77 (by decide) rfl ?_
  refine q_aload_n d194_79 rfl ?_
  refine q_iload_n d194_80 rfl ?_
  refine q_iload_n d194_81 rfl ?_
  refine q_aload_n d194_82 rfl ?_
  refine q_getr (c := 8) (f := 6) d194_83 ⟨rfl, rfl⟩ (xk_136 hX1) (xf_numbers hX1) ?_
  refine q_aload_n d194_86 rfl ?_
  refine q_getr (c := 8) (f := 12) d194_87 ⟨rfl, rfl⟩ (xk_136 hX1) (xf_textOf hX1) ?_
  refine q_iload_n d194_90 rfl ?_
  refine n_iald d194_91 (xk_textOf hX1) (by omega) (by decide) hx2 ?_
  refine n_aald d194_92 (xk_numbers hX1) (by decide) (by omega) (by decide) (xr_numbers hX1 (by omega)) ?_
  refine q_iload_n d194_93 rfl ?_
  refine n_iald d194_94 (xa_numbers hX1 (by omega)) (by omega) (by decide) ((hT1 _ hx).2.2 _ (by omega)).2.2.2.1 ?_
  refine q_v3 d194_95 rfl rfl (xk_136 hX1) (Nat.le_of_ble_eq_true rfl) (c184 hX1 hs (by omega) hsa1 hc1 hκ hni (fun M2 hS2 hc2 f2 => ?_))
  refine q_goto 193 d194_98 (by decide) ?_
  refine q_ret d194_193 rfl ?_
  have f : Fi (F3 s) M M2 := (f1.mono (fun b k q => Or.inl q)).trans (f2.mono (fun b k q => by first | (unfold F3 GS; omega) | (unfold GS; omega)))
  exact k _ (κ + 1) (Nat.le_refl _) (hW.sg hs f (XPu_fi hP1 f2 (fun b k q1 q2 => by unfold GP at q1; omega)) hS2 (Nat.le_succ κ) hc2 hOK) (f.mono (fun b k q => F3_B hs q))
theorem c194_2 {d : Nat} {M : zM} {Q : Option Value → zM → Prop} {T : Nat → yT} {c s i κ : Nat} {W : yW} (hW : WX M T c W κ) (hZ : yZ W) (hl : yle T c W (2, s, i)) (hs : s < 3) (h0 : gt (W.2 s) ≠ 0) (hi : i < tn (T (gx (W.2 s)))) (hκ : κ + 1 < 2147483648) (k : ∀ M' κ', κ' ≤ κ + 1 → WX M' T c (yag T W (2, s, i)) κ' → Fi FB M M' → Q none M') : qC (d + 4) 194 [.ref 136, .int (nI 2), .int (nI s), .int (nI i)] M Q := by
  refine qC_of (by decide) (Nat.le_of_ble_eq_true rfl) ?_
  have hX := hW.1
  have hOK := yag_ok hW.2.2.1 hl
  have hOs : OKS T c (W.2 s) := hW.2.2.1.2.2 s hs
  have hx : gx (W.2 s) < c := hOs.2.1 h0
  have hoT := hW.2.2.1.1.2 _ hx
  have hn := hoT.n
  have hc6 := hW.2.2.1.1.1
  have hsa := hW.2.2.2.2.1 s hs
  have hx1 : zi M 176 s = nI (gx (W.2 s)) := hsa.1.2.trans (if_neg h0)
  have hyp : yps T (gfS (W.2 s) (yu (gf (W.2 s)) i (gf (W.2 s) i + 1))) = ypa (T (gx (W.2 s))) (gm (W.2 s) 1) := if_neg h0
  refine q_iconstN (z := 0) d194_0 ?_
  refine q_istore d194_1 (by decide) rfl ?_
  refine q_iload_n d194_3 rfl ?_
  refine n_tsI (97) 101 d194_4 (by decide) (by decide) rfl (by decide) ?_
  refine q_aload_n d194_101 rfl ?_
  refine q_getr (c := 8) (f := 16) d194_102 ⟨rfl, rfl⟩ (xk_136 hX) (xf_fails hX) ?_
  refine q_iload_n d194_105 rfl ?_
  refine n_aald d194_106 (xk_fails hX) (by decide) (by omega) (by decide) (xr_fails hX (by omega)) ?_
  refine q_iload_n d194_107 rfl ?_
  refine q_dup2 d194_108 rfl rfl ?_
  refine n_iald d194_109 (xa_fails hX (by omega)) (by omega) (by decide) (hsa.2.1 _ (by omega)).2.1 ?_
  refine q_iconstN (z := 1) d194_110 ?_
  refine q_iadd d194_111 ?_
  refine n_iast d194_112 (xa_fails hX (by omega)) (by omega) (by decide) ?_
  have f1 : Fi (fun b _ => b = 190 + s) M (zwi M (190 + s) i (gf (W.2 s) i + 1)) := (Fi.refl _ _).wi rfl
  have hX1 := SX_fi hX f1
  have hs1 : XSa _ s (gfS (W.2 s) (yu (gf (W.2 s)) i (gf (W.2 s) i + 1))) κ := hsa.wf hs
  have hT1 : XTk _ T c := ⟨XTx_fi hW.2.1 hc6 f1 (fun b k b1 b2 q => by omega), hW.2.2.1.1⟩
  refine q_aload_n d194_113 rfl ?_
  refine q_iload_n d194_114 rfl ?_
  refine q_v1 d194_115 rfl rfl (xk_136 hX1) (Nat.le_of_ble_eq_true rfl) (c185 (S := gfS (W.2 s) (yu (gf (W.2 s)) i (gf (W.2 s) i + 1))) hX1 hs hs1 hT1 hOs ?_)
  refine b0_ne 193 d194_118 (by decide) (fun h118 => ?_) (fun h118 => ?_)
  · refine q_ret d194_193 rfl ?_
    rw [hyp] at h118
    have hpp := h118
    have hOK : OKW T c (W.1, yu W.2 s (yfS (W.2 s) i 0 (ypa (T (gx (W.2 s))) (gm (W.2 s) 1)))) := hOK
    have k : ∀ M' κ', κ' ≤ κ + 1 → WX M' T c (W.1, yu W.2 s (yfS (W.2 s) i 0 (ypa (T (gx (W.2 s))) (gm (W.2 s) 1)))) κ' → Fi FB M M' → Q none M' := k
    have ew : yfS (W.2 s) i 0 (ypa (T (gx (W.2 s))) (gm (W.2 s) 1)) = gfS (W.2 s) (yu (gf (W.2 s)) i (gf (W.2 s) i + 1)) := by
      unfold yfS
      simp only []
      rw [gw_0 (fun k => (hZ s k).2.2), hpp]
      rfl
    rw [ew] at k hOK
    have f : Fi (F3 s) M _ := f1.mono (fun b k q => by unfold F3 GS; omega)
    exact k _ κ (Nat.le_succ κ) (hW.sg hs f (XPu_fi hW.2.2.2.1 f1 (fun b k q1 q2 => by unfold GP at q1; omega)) hs1 (Nat.le_refl _) ((f1.1 _ _ (by omega)).trans hW.2.2.2.2.2) hOK) (f.mono (fun b k q => F3_B hs q))
  · refine q_aload_n d194_121 rfl ?_
    refine q_getr (c := 8) (f := 11) d194_122 ⟨rfl, rfl⟩ (xk_136 hX1) (xf_states hX1) ?_
    refine q_iload_n d194_125 rfl ?_
    refine q_iconstN (z := 2) d194_126 ?_
    refine n_iast d194_127 (xk_states hX1) (by omega) (by decide) ?_
    refine q_goto 193 d194_128 (by decide) ?_
    refine q_ret d194_193 rfl ?_
    rw [hyp] at h118
    have hpp := h118
    have hOK : OKW T c (W.1, yu W.2 s (yfS (W.2 s) i 0 (ypa (T (gx (W.2 s))) (gm (W.2 s) 1)))) := hOK
    have k : ∀ M' κ', κ' ≤ κ + 1 → WX M' T c (W.1, yu W.2 s (yfS (W.2 s) i 0 (ypa (T (gx (W.2 s))) (gm (W.2 s) 1)))) κ' → Fi FB M M' → Q none M' := k
    have ew : yfS (W.2 s) i 0 (ypa (T (gx (W.2 s))) (gm (W.2 s) 1)) = gtS (gfS (W.2 s) (yu (gf (W.2 s)) i (gf (W.2 s) i + 1))) 2 := by
      unfold yfS
      simp only []
      rw [gw_0 (fun k => (hZ s k).2.2), hpp]
      rfl
    rw [ew] at k hOK
    have f2 : Fi (fun b k => b = 190 + s ∨ (b = 175 ∧ k = s)) M (zwi (zwi M (190 + s) i (gf (W.2 s) i + 1)) 175 s (nI 2)) := ((Fi.refl _ _).wi (Or.inl rfl)).wi (Or.inr ⟨rfl, rfl⟩)
    have f : Fi (F3 s) M _ := f2.mono (fun b k q => by unfold F3 GS; omega)
    exact k _ κ (Nat.le_succ κ) (hW.sg hs f (XPu_fi hW.2.2.2.1 f2 (fun b k q1 q2 => by unfold GP at q1; omega)) (hs1.wt (t := 2) h0 (by decide)) (Nat.le_refl _) ((f2.1 _ _ (by omega)).trans hW.2.2.2.2.2) hOK) (f.mono (fun b k q => F3_B hs q))
theorem c194_3 {d : Nat} {M : zM} {Q : Option Value → zM → Prop} {T : Nat → yT} {c s i κ : Nat} {W : yW} (hW : WX M T c W κ) (hZ : yZ W) (hl : yle T c W (3, s, i)) (hs : s < 3) (h0 : gt (W.2 s) ≠ 0) {l : List Nat} (hgo : go (W.2 s) = i :: l) (hob : yob (T (gx (W.2 s))) W.1 i (gb (W.2 s) i) (-1) = 0) (hκ : κ + 1 < 2147483648) (k : ∀ M' κ', κ' ≤ κ + 1 → WX M' T c (yag T W (3, s, i)) κ' → Fi FB M M' → Q none M') : qC (d + 4) 194 [.ref 136, .int (nI 3), .int (nI s), .int (nI i)] M Q := by
  refine qC_of (by decide) (Nat.le_of_ble_eq_true rfl) ?_
  have hX := hW.1
  have hOK := yag_ok hW.2.2.1 hl
  have hOs : OKS T c (W.2 s) := hW.2.2.1.2.2 s hs
  have hx : gx (W.2 s) < c := hOs.2.1 h0
  have hoT := hW.2.2.1.1.2 _ hx
  have hn := hoT.n
  have hc6 := hW.2.2.1.1.1
  have hsa := hW.2.2.2.2.1 s hs
  have hx1 : zi M 176 s = nI (gx (W.2 s)) := hsa.1.2.trans (if_neg h0)
  have hgd : gd (W.2 s) i = 1 := (hOs.2.2.2.1 i).mp (by rw [hgo]; exact List.mem_cons_self)
  have hz : gz T (W.2 s) = tn (T (gx (W.2 s))) := by unfold gz; rw [if_neg h0]
  have hi : i < tn (T (gx (W.2 s))) := Nat.lt_of_not_le (fun q => by have := hOs.2.2.2.2.1 i (by omega); omega)
  have hgb := hsa.2.2.1 i (by omega) hgd
  have et : (go (W.2 s)).tail = l := by rw [hgo]; rfl
  refine q_iconstN (z := 0) d194_0 ?_
  refine q_istore d194_1 (by decide) rfl ?_
  refine q_iload_n d194_3 rfl ?_
  refine n_tsI (127) 131 d194_4 (by decide) (by decide) rfl (by decide) ?_
  refine q_aload_n d194_131 rfl ?_
  refine q_aload_n d194_132 rfl ?_
  refine q_getr (c := 8) (f := 12) d194_133 ⟨rfl, rfl⟩ (xk_136 hX) (xf_textOf hX) ?_
  refine q_iload_n d194_136 rfl ?_
  refine n_iald d194_137 (xk_textOf hX) (by omega) (by decide) hx1 ?_
  refine q_iload_n d194_138 rfl ?_
  refine q_aload_n d194_139 rfl ?_
  refine q_getr (c := 8) (f := 15) d194_140 ⟨rfl, rfl⟩ (xk_136 hX) (xf_by hX) ?_
  refine q_iload_n d194_143 rfl ?_
  refine n_aald d194_144 (xk_by hX) (by decide) (by omega) (by decide) (xr_by hX (by omega)) ?_
  refine q_iload_n d194_145 rfl ?_
  refine n_iald d194_146 (xa_by hX (by omega)) (by omega) (by decide) hgb ?_
  refine q_v3 d194_147 rfl rfl (xk_136 hX) (Nat.le_of_ble_eq_true rfl) (c180 hX hW.2.2.2.1 (hW.2.1 _ hx) hoT hW.2.2.1.2.1 (by omega) hi (fun M1 hP1 f1 => ?_))
  have hX1 := SX_fi hX f1
  have hsa1 := hsa.fi f1 (fun b k q1 q2 => by unfold GS at q1; unfold GP at q2; omega)
  have hP1 : XPu M1 (ych (T (gx (W.2 s))) W.1 i (gb (W.2 s) i) (-1)) := by have h := hP1; unfold xdo at h; rw [if_pos hob] at h; exact h
  refine q_istore d194_150 (by decide) rfl ?_
  refine q_aload_n d194_152 rfl ?_
  refine q_getr (c := 8) (f := 13) d194_153 ⟨rfl, rfl⟩ (xk_136 hX1) (xf_stands hX1) ?_
  refine q_iload_n d194_156 rfl ?_
  refine n_aald d194_157 (xk_stands hX1) (by decide) (by omega) (by decide) (xr_stands hX1 (by omega)) ?_
  refine q_iload_n d194_158 rfl ?_
  refine q_iconstN (z := 2) d194_159 ?_
  refine n_iast d194_160 (xa_stands hX1 (by omega)) (by omega) (by decide) ?_
  refine q_goto 193 d194_161 (by decide) ?_
  refine q_ret d194_193 rfl ?_
  have f2 : Fi (fun b _ => b = 178 + s) M1 (zwi M1 (178 + s) i (nI 2)) := (Fi.refl _ _).wi rfl
  have f : Fi (F3 s) M _ := (f1.mono (fun b k q => Or.inl q)).trans (f2.mono (fun b k q => by first | (unfold F3 GS; omega) | (unfold GS; omega)))
  have hOK : OKW T c (ych (T (gx (W.2 s))) W.1 i (gb (W.2 s) i) (-1), yu W.2 s (goS (gdS (W.2 s) (yu (gd (W.2 s)) i 2)) (go (W.2 s)).tail)) := hOK
  refine k _ κ (Nat.le_succ κ) (hW.sg hs f (XPu_fi hP1 f2 (fun b k q1 q2 => by unfold GP at q1; omega)) ?_ (Nat.le_refl _) ((f2.1 _ _ (by omega)).trans ((f1.1 _ _ (by unfold GP; omega)).trans hW.2.2.2.2.2)) hOK) (f.mono (fun b k q => F3_B hs q))
  rw [et]
  exact hsa1.wu hs hgo (by decide)
theorem c194_4 {d : Nat} {M : zM} {Q : Option Value → zM → Prop} {T : Nat → yT} {c s i κ : Nat} {W : yW} (hW : WX M T c W κ) (hZ : yZ W) (hl : yle T c W (4, s, i)) (hs : s < 3) (h0 : gt (W.2 s) ≠ 0) {l : List Nat} (hgo : go (W.2 s) = i :: l) (hκ : κ + 1 < 2147483648) (k : ∀ M' κ', κ' ≤ κ + 1 → WX M' T c (yag T W (4, s, i)) κ' → Fi FB M M' → Q none M') : qC (d + 4) 194 [.ref 136, .int (nI 4), .int (nI s), .int (nI i)] M Q := by
  refine qC_of (by decide) (Nat.le_of_ble_eq_true rfl) ?_
  have hX := hW.1
  have hOK := yag_ok hW.2.2.1 hl
  have hOs : OKS T c (W.2 s) := hW.2.2.1.2.2 s hs
  have hx : gx (W.2 s) < c := hOs.2.1 h0
  have hoT := hW.2.2.1.1.2 _ hx
  have hn := hoT.n
  have hc6 := hW.2.2.1.1.1
  have hsa := hW.2.2.2.2.1 s hs
  have hx1 : zi M 176 s = nI (gx (W.2 s)) := hsa.1.2.trans (if_neg h0)
  have hgd : gd (W.2 s) i = 1 := (hOs.2.2.2.1 i).mp (by rw [hgo]; exact List.mem_cons_self)
  have hz : gz T (W.2 s) = tn (T (gx (W.2 s))) := by unfold gz; rw [if_neg h0]
  have hi : i < tn (T (gx (W.2 s))) := Nat.lt_of_not_le (fun q => by have := hOs.2.2.2.2.1 i (by omega); omega)
  have hgb := hsa.2.2.1 i (by omega) hgd
  have et : (go (W.2 s)).tail = l := by rw [hgo]; rfl
  refine q_iconstN (z := 0) d194_0 ?_
  refine q_istore d194_1 (by decide) rfl ?_
  refine q_iload_n d194_3 rfl ?_
  refine n_tsI (160) 164 d194_4 (by decide) (by decide) rfl (by decide) ?_
  refine q_aload_n d194_164 rfl ?_
  refine q_getr (c := 8) (f := 13) d194_165 ⟨rfl, rfl⟩ (xk_136 hX) (xf_stands hX) ?_
  refine q_iload_n d194_168 rfl ?_
  refine n_aald d194_169 (xk_stands hX) (by decide) (by omega) (by decide) (xr_stands hX (by omega)) ?_
  refine q_iload_n d194_170 rfl ?_
  refine q_iconstN (z := 3) d194_171 ?_
  refine n_iast d194_172 (xa_stands hX (by omega)) (by omega) (by decide) ?_
  refine q_goto 193 d194_173 (by decide) ?_
  refine q_ret d194_193 rfl ?_
  have f2 : Fi (fun b _ => b = 178 + s) M (zwi M (178 + s) i (nI 3)) := (Fi.refl _ _).wi rfl
  have f : Fi (F3 s) M _ := f2.mono (fun b k q => by unfold F3 GS; omega)
  have hOK : OKW T c (W.1, yu W.2 s (gwS (goS (gdS (W.2 s) (yu (gd (W.2 s)) i 3)) (go (W.2 s)).tail) (yu (gw (W.2 s)) i 0))) := hOK
  refine k _ κ (Nat.le_succ κ) (hW.sg hs f (XPu_fi hW.2.2.2.1 f2 (fun b k q1 q2 => by unfold GP at q1; omega)) ?_ (Nat.le_refl _) ((f2.1 _ _ (by omega)).trans hW.2.2.2.2.2) hOK) (f.mono (fun b k q => F3_B hs q))
  rw [et, gw_0 (fun k => (hZ s k).2.2)]
  exact hsa.wu hs hgo (by decide)
theorem c194_5 {d : Nat} {M : zM} {Q : Option Value → zM → Prop} {T : Nat → yT} {c s i κ : Nat} {W : yW} (hW : WX M T c W κ) (hZ : yZ W) (hl : yle T c W (5, s, i)) (hs : s < 3) (h0 : gt (W.2 s) ≠ 0) (h35 : 3 ≤ i ∧ i ≤ 5) (hκ : κ + 1 < 2147483648) (k : ∀ M' κ', κ' ≤ κ + 1 → WX M' T c (yag T W (5, s, i)) κ' → Fi FB M M' → Q none M') : qC (d + 4) 194 [.ref 136, .int (nI 5), .int (nI s), .int (nI i)] M Q := by
  refine qC_of (by decide) (Nat.le_of_ble_eq_true rfl) ?_
  have hX := hW.1
  have hOK := yag_ok hW.2.2.1 hl
  have hOs : OKS T c (W.2 s) := hW.2.2.1.2.2 s hs
  have hx : gx (W.2 s) < c := hOs.2.1 h0
  have hoT := hW.2.2.1.1.2 _ hx
  have hn := hoT.n
  have hc6 := hW.2.2.1.1.1
  have hsa := hW.2.2.2.2.1 s hs
  have hx1 : zi M 176 s = nI (gx (W.2 s)) := hsa.1.2.trans (if_neg h0)
  refine q_iconstN (z := 0) d194_0 ?_
  refine q_istore d194_1 (by decide) rfl ?_
  refine q_iload_n d194_3 rfl ?_
  refine n_tsI (172) 176 d194_4 (by decide) (by decide) rfl (by decide) ?_
  refine q_aload_n d194_176 rfl ?_
  refine q_getr (c := 8) (f := 11) d194_177 ⟨rfl, rfl⟩ (xk_136 hX) (xf_states hX) ?_
  refine q_iload_n d194_180 rfl ?_
  refine q_iload_n d194_181 rfl ?_
  refine n_iast d194_182 (xk_states hX) (by omega) (by decide) ?_
  refine q_goto 193 d194_183 (by decide) ?_
  refine q_ret d194_193 rfl ?_
  have f2 : Fi (fun b k => b = 175 ∧ k = s) M (zwi M 175 s (nI i)) := (Fi.refl _ _).wi ⟨rfl, rfl⟩
  have f : Fi (F3 s) M _ := f2.mono (fun b k q => by unfold F3 GS; omega)
  exact k _ κ (Nat.le_succ κ) (hW.sg hs f (XPu_fi hW.2.2.2.1 f2 (fun b k q1 q2 => by unfold GP at q1; omega)) (hsa.wt h0 (by omega)) (Nat.le_refl _) ((f2.1 _ _ (by omega)).trans hW.2.2.2.2.2) hOK) (f.mono (fun b k q => F3_B hs q))
theorem c194_6 {d : Nat} {M : zM} {Q : Option Value → zM → Prop} {T : Nat → yT} {c s i κ : Nat} {W : yW} (hW : WX M T c W κ) (hZ : yZ W) (hl : yle T c W (6, s, i)) (hs : s < 6) (hκ : κ + 1 < 2147483648) (k : ∀ M' κ', κ' ≤ κ + 1 → WX M' T c (yag T W (6, s, i)) κ' → Fi FB M M' → Q none M') : qC (d + 4) 194 [.ref 136, .int (nI 6), .int (nI s), .int (nI i)] M Q := by
  refine qC_of (by decide) (Nat.le_of_ble_eq_true rfl) ?_
  have hX := hW.1
  have hOK := yag_ok hW.2.2.1 hl
  refine q_iconstN (z := 0) d194_0 ?_
  refine q_istore d194_1 (by decide) rfl ?_
  refine q_iload_n d194_3 rfl ?_
  refine n_tsO 186 d194_4 (by omega) (Or.inr (by omega)) (by decide) ?_
  refine q_aload_n d194_186 rfl ?_
  refine q_getr (c := 8) (f := 8) d194_187 ⟨rfl, rfl⟩ (xk_136 hX) (xf_balances hX) ?_
  refine q_iload_n d194_190 rfl ?_
  refine q_iload_n d194_191 rfl ?_
  refine n_iast d194_192 (xk_balances hX) (by omega) (by decide) ?_
  refine q_ret d194_193 rfl ?_
  have f : Fi (fun b _ => b = 174) M (zwi M 174 s (nI i)) := (Fi.refl _ _).wi rfl
  exact k _ κ (Nat.le_succ κ) ⟨SX_fi hX f, XTx_fi hW.2.1 hW.2.2.1.1.1 f (fun b k b1 b2 q => by omega), hOK, ⟨fun k hk => wi_or rfl (hW.2.2.2.1.1 k hk), (wi_n (by omega)).trans hW.2.2.2.1.2.1, (wi_n (by omega)).trans hW.2.2.2.1.2.2⟩, fun r hr => (hW.2.2.2.2.1 r hr).fi f (fun b k q1 q2 => by unfold GS at q1; omega), (wi_n (by omega)).trans hW.2.2.2.2.2⟩ (f.mono (fun b k q => by unfold FB; omega))
/-- a line of the log is done again -/
theorem c194 {d : Nat} {M : zM} {Q : Option Value → zM → Prop} {T : Nat → yT} {c s i e κ : Nat} {W : yW} (hW : WX M T c W κ) (hZ : yZ W) (hl : yle T c W (e, s, i)) (hκ : κ + 1 < 2147483648) (k : ∀ M' κ', κ' ≤ κ + 1 → WX M' T c (yag T W (e, s, i)) κ' → Fi FB M M' → Q none M') : qC (d + 4) 194 [.ref 136, .int (nI e), .int (nI s), .int (nI i)] M Q := by
  have hl0 := hl
  rcases hl with ⟨rfl, h1, h2⟩ | ⟨rfl, h1, h2, h3, h4, h5⟩ | ⟨rfl, h1, h2, h3⟩ | ⟨rfl, h1, h2, ⟨t, h3⟩, h5⟩ | ⟨rfl, h1, h2, ⟨t, h3⟩⟩ | ⟨rfl, h1, h2, h3⟩ | ⟨rfl, h1, h2⟩
  · exact c194_0 hW hZ hl0 h1 h2 hκ k
  · have h2 : gt (W.2 s) = 1 := h2
    exact c194_1 hW hZ hl0 h1 (by omega) h3 h4 h5 hκ k
  · have h2 : gt (W.2 s) = 1 := h2
    exact c194_2 hW hZ hl0 h1 (by omega) h3 hκ k
  · exact c194_3 hW hZ hl0 h1 h2 h3 h5 hκ k
  · exact c194_4 hW hZ hl0 h1 h2 h3 hκ k
  · exact c194_5 hW hZ hl0 h1 h2 h3 hκ k
  · exact c194_6 hW hZ hl0 h1 hκ k
