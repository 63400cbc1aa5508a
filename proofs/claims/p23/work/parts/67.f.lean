/-! ===== the reference: begins, again ===== -/
/-! the reference's sagas begin; a line is done again -/
theorem begins_Sa {M : zM} {s κ g t : Nat} (h1 : zi M 175 s = nI g) (h2 : zi M 176 s = txt (gtS (yS0.1, t, yS0.2.2) g)) (hr : ∀ a, a < 7 → ∀ k, k < 12 → zi M (178 + 4 * a + s) k = nI 0) : XSa M s (gtS (yS0.1, t, yS0.2.2) g) κ := by
  refine ⟨⟨h1, h2⟩, fun k hk => ⟨hr 0 (by decide) k hk, hr 3 (by decide) k hk, hr 4 (by decide) k hk, hr 5 (by decide) k hk, hr 6 (by decide) k hk⟩, fun k _ q => absurd q (show (0 : Nat) ≠ 1 by decide), fun _ => 0, fun i hi => ?_, List.Pairwise.nil⟩
  have hi : i ∈ ([] : List Nat) := hi
  cases hi
/-- the world alone -/
def WX (M : zM) (T : Nat → yT) (c : Nat) (W : yW) (κ : Nat) : Prop := SX M ∧ XTx M T c ∧ OKW T c W ∧ XPu M W.1 ∧ (∀ s, s < 3 → XSa M s (W.2 s) κ) ∧ zi M 136 20 = nI κ
def F3 (s : Nat) : Nat → Nat → Prop := fun b k => GP b k ∨ (b = 136 ∧ k = 20) ∨ GS s b k
theorem F3_B {s b k : Nat} (hs : s < 3) (h : F3 s b k) : FB b k := by unfold F3 GP GS at h; unfold FB; omega
theorem WX.sg {M M' : zM} {T : Nat → yT} {c s κ κ' : Nat} {W : yW} {P : yP} {S : yS} (h : WX M T c W κ) (hs : s < 3) (f : Fi (F3 s) M M') (hP : XPu M' P) (hS : XSa M' s S κ') (hk : κ ≤ κ') (hc : zi M' 136 20 = nI κ') (hO : OKW T c (P, yu W.2 s S)) : WX M' T c (P, yu W.2 s S) κ' := by
  obtain ⟨h1, h2, h3, h4, h5, h6⟩ := h
  refine ⟨SX_fi h1 f, XTx_fi h2 h3.1.1 f (fun b k b1 b2 q => by unfold F3 GP GS at q; omega), hO, hP, fun r hr => ?_, hc⟩
  show XSa M' r (yu W.2 s S r) κ'
  by_cases e : r = s
  · subst e; rw [yu_s]; exact hS
  · rw [yu_n e]
    exact ((h5 r hr).fi f (fun b k q1 q2 => by unfold GS at q1; unfold F3 GP GS at q2; omega)).up hk
def ZR (M : zM) (s i j : Nat) : Prop := ∀ a, a < 7 → ∀ k, k < 12 → (a < i ∨ (a = i ∧ k < j)) → zi M (178 + 4 * a + s) k = nI 0
theorem ZR_w {M : zM} {s i j : Nat} (h : ZR M s i j) : ZR (zwi M (178 + 4 * i + s) j (nI 0)) s i (j + 1) := by
  intro a ha k hk hq
  by_cases e : a = i ∧ k = j
  · obtain ⟨rfl, rfl⟩ := e; exact wi_s _ _ _ _
  · rw [wi_n (by omega)]; exact h a ha k hk (by omega)
theorem d170_0 : decode (zB 170) 0 = .ok (.aload_n 0, 1) := (congrArg (fun c => decode c 0) zeq170).trans (by decide +kernel)
theorem d170_1 : decode (zB 170) 1 = .ok (.getfield 36, 3) := (congrArg (fun c => decode c 1) zeq170).trans (by decide +kernel)
theorem d170_4 : decode (zB 170) 4 = .ok (.iload_n 1, 1) := (congrArg (fun c => decode c 4) zeq170).trans (by decide +kernel)
theorem d170_5 : decode (zB 170) 5 = .ok (.iconst 1, 1) := (congrArg (fun c => decode c 5) zeq170).trans (by decide +kernel)
theorem d170_6 : decode (zB 170) 6 = .ok (.iastore, 1) := (congrArg (fun c => decode c 6) zeq170).trans (by decide +kernel)
theorem d170_7 : decode (zB 170) 7 = .ok (.aload_n 0, 1) := (congrArg (fun c => decode c 7) zeq170).trans (by decide +kernel)
theorem d170_8 : decode (zB 170) 8 = .ok (.getfield 39, 3) := (congrArg (fun c => decode c 8) zeq170).trans (by decide +kernel)
theorem d170_11 : decode (zB 170) 11 = .ok (.iload_n 1, 1) := (congrArg (fun c => decode c 11) zeq170).trans (by decide +kernel)
theorem d170_12 : decode (zB 170) 12 = .ok (.iload_n 2, 1) := (congrArg (fun c => decode c 12) zeq170).trans (by decide +kernel)
theorem d170_13 : decode (zB 170) 13 = .ok (.iastore, 1) := (congrArg (fun c => decode c 13) zeq170).trans (by decide +kernel)
theorem d170_14 : decode (zB 170) 14 = .ok (.iconst 0, 1) := (congrArg (fun c => decode c 14) zeq170).trans (by decide +kernel)
theorem d170_15 : decode (zB 170) 15 = .ok (.istore_n 3, 1) := (congrArg (fun c => decode c 15) zeq170).trans (by decide +kernel)
theorem d170_16 : decode (zB 170) 16 = .ok (.iload_n 3, 1) := (congrArg (fun c => decode c 16) zeq170).trans (by decide +kernel)
theorem d170_17 : decode (zB 170) 17 = .ok (.bipush 7, 2) := (congrArg (fun c => decode c 17) zeq170).trans (by decide +kernel)
theorem d170_19 : decode (zB 170) 19 = .ok (.if_icmp .ge 35, 3) := (congrArg (fun c => decode c 19) zeq170).trans (by decide +kernel)
theorem d170_22 : decode (zB 170) 22 = .ok (.iconst 0, 1) := (congrArg (fun c => decode c 22) zeq170).trans (by decide +kernel)
theorem d170_23 : decode (zB 170) 23 = .ok (.istore 4, 2) := (congrArg (fun c => decode c 23) zeq170).trans (by decide +kernel)
theorem d170_25 : decode (zB 170) 25 = .ok (.iload 4, 2) := (congrArg (fun c => decode c 25) zeq170).trans (by decide +kernel)
theorem d170_27 : decode (zB 170) 27 = .ok (.bipush 12, 2) := (congrArg (fun c => decode c 27) zeq170).trans (by decide +kernel)
theorem d170_29 : decode (zB 170) 29 = .ok (.if_icmp .ge 19, 3) := (congrArg (fun c => decode c 29) zeq170).trans (by decide +kernel)
theorem d170_32 : decode (zB 170) 32 = .ok (.aload_n 0, 1) := (congrArg (fun c => decode c 32) zeq170).trans (by decide +kernel)
theorem d170_33 : decode (zB 170) 33 = .ok (.iload_n 3, 1) := (congrArg (fun c => decode c 33) zeq170).trans (by decide +kernel)
theorem d170_34 : decode (zB 170) 34 = .ok (.iload_n 1, 1) := (congrArg (fun c => decode c 34) zeq170).trans (by decide +kernel)
theorem d170_35 : decode (zB 170) 35 = .ok (.invokevirtual 294, 3) := (congrArg (fun c => decode c 35) zeq170).trans (by decide +kernel)
theorem d170_38 : decode (zB 170) 38 = .ok (.iload 4, 2) := (congrArg (fun c => decode c 38) zeq170).trans (by decide +kernel)
theorem d170_40 : decode (zB 170) 40 = .ok (.iconst 0, 1) := (congrArg (fun c => decode c 40) zeq170).trans (by decide +kernel)
theorem d170_41 : decode (zB 170) 41 = .ok (.iastore, 1) := (congrArg (fun c => decode c 41) zeq170).trans (by decide +kernel)
theorem d170_42 : decode (zB 170) 42 = .ok (.iinc 4 1, 3) := (congrArg (fun c => decode c 42) zeq170).trans (by decide +kernel)
theorem d170_45 : decode (zB 170) 45 = .ok (.goto (-20), 3) := (congrArg (fun c => decode c 45) zeq170).trans (by decide +kernel)
theorem d170_48 : decode (zB 170) 48 = .ok (.iinc 3 1, 3) := (congrArg (fun c => decode c 48) zeq170).trans (by decide +kernel)
theorem d170_51 : decode (zB 170) 51 = .ok (.goto (-35), 3) := (congrArg (fun c => decode c 51) zeq170).trans (by decide +kernel)
theorem d170_54 : decode (zB 170) 54 = .ok (.return_, 1) := (congrArg (fun c => decode c 54) zeq170).trans (by decide +kernel)
theorem l170b {d : Nat} {Q : Option Value → zM → Prop} {M0 : zM} {s q : Nat} {t : Int32} (hs : s < 3) (hq : q < 7) (k : ∀ M1, (zi M1 175 s = nI 1 ∧ zi M1 176 s = t) → (SX M1 ∧ Fi (GS s) M0 M1 ∧ ZR M1 s q 12) → qW (zEv (d + 1)) 170 Q 48 [(0, .ref 136), (1, .int (nI s)), (2, .int t), (3, .int (nI q)), (4, .int (nI 12))] [] M1) : ∀ (r i : Nat) (M1 : zM), i ≤ 12 → 12 < i + r →  (zi M1 175 s = nI 1 ∧ zi M1 176 s = t) → (SX M1 ∧ Fi (GS s) M0 M1 ∧ ZR M1 s q i) → qW (zEv (d + 1)) 170 Q 25 [(0, .ref 136), (1, .int (nI s)), (2, .int t), (3, .int (nI q)), (4, .int (nI i))] [] M1 := by
  intro r
  induction r with
  | zero => intros; omega
  | succ r ih =>
    intro i M1 h1 h2 h0 hv
    have hX := hv.1
    refine q_iload d170_25 rfl ?_
    refine q_bipush (x := nI 12) d170_27 rfl ?_
    refine nc_ge 48 d170_29 (by decide) (by omega) (by omega) (fun h29 => ?_) (fun h29 => ?_)
    · refine qW_srt rfl rfl ?_
      have e3 : i = 12 := by omega
      rw [e3] at hv ⊢
      exact k _ h0 hv
    · refine q_aload_n d170_32 rfl ?_
      refine q_iload_n d170_33 rfl ?_
      refine q_iload_n d170_34 rfl ?_
      refine q_v2 d170_35 rfl rfl (xk_136 hX) (Nat.le_of_ble_eq_true rfl) (c156 hX (by omega) (by omega) ?_)
      refine q_iload d170_38 rfl ?_
      refine q_iconstN (z := 0) d170_40 ?_
      refine n_iast d170_41 (xa_row hX (by omega) (by omega)) (by omega) (by decide) ?_
      refine n_iinc 1 d170_42 (by decide) rfl rfl ?_
      refine q_goto 25 d170_45 (by decide) ?_
      refine qW_srt rfl rfl ?_
      exact ih (i + 1) _ (by omega) (by omega) ⟨(wi_n (by omega)).trans h0.1, (wi_n (by omega)).trans h0.2⟩ ⟨SX_fi hX ((Fi.refl (GS s) _).wi (by unfold GS; omega)), hv.2.1.wi (by unfold GS; omega), ZR_w hv.2.2⟩
theorem l170 {d : Nat} {Q : Option Value → zM → Prop} {M0 : zM} {s : Nat} {t : Int32} (hs : s < 3) (k : ∀ M', (zi M' 175 s = nI 1 ∧ zi M' 176 s = t) → (∀ a, a < 7 → ∀ k, k < 12 → zi M' (178 + 4 * a + s) k = nI 0) → Fi (GS s) M0 M' → Q none M') : ∀ (r i : Nat) (M1 : zM), i ≤ 7 → 7 < i + r →  (zi M1 175 s = nI 1 ∧ zi M1 176 s = t) → (SX M1 ∧ Fi (GS s) M0 M1 ∧ ZR M1 s i 0) → qW (zEv (d + 1)) 170 Q 16 [(0, .ref 136), (1, .int (nI s)), (2, .int t), (3, .int (nI i)), (4, .int (nI 12))] [] M1 := by
  intro r
  induction r with
  | zero => intros; omega
  | succ r ih =>
    intro i M1 h1 h2 h0 hv
    have hX := hv.1
    refine q_iload_n d170_16 rfl ?_
    refine q_bipush (x := nI 7) d170_17 rfl ?_
    refine nc_ge 54 d170_19 (by decide) (by omega) (by omega) (fun h19 => ?_) (fun h19 => ?_)
    · refine q_ret d170_54 rfl ?_
      exact k _ h0 (fun a ha k hk => hv.2.2 a ha k hk (by omega)) hv.2.1
    · refine q_iconstN (z := 0) d170_22 ?_
      refine q_istore d170_23 (by decide) rfl ?_
      refine qW_srt rfl rfl ?_
      exact l170b hs (by omega) (fun M2 h02 hv2 => by
        refine n_iinc 1 d170_48 (by decide) rfl rfl ?_
        refine q_goto 16 d170_51 (by decide) ?_
        refine qW_srt rfl rfl ?_
        exact ih (i + 1) _ (by omega) (by omega) h02 (⟨hv2.1, hv2.2.1, fun a ha k hk hq => hv2.2.2 a ha k hk (by omega)⟩)) 13 0 _ (by omega) (by omega) h0 hv
theorem c170 {d : Nat} {M : zM} {Q : Option Value → zM → Prop} {s : Nat} {t : Int32} (hX : SX M) (hs : s < 3) (k : ∀ M', (zi M' 175 s = nI 1 ∧ zi M' 176 s = t) → (∀ a, a < 7 → ∀ k, k < 12 → zi M' (178 + 4 * a + s) k = nI 0) → Fi (GS s) M M' → Q none M') : qC (d + 2) 170 [.ref 136, .int (nI s), .int t] M Q := by
  refine qC_of (by decide) (Nat.le_of_ble_eq_true rfl) ?_
  refine q_aload_n d170_0 rfl ?_
  refine q_getr (c := 8) (f := 11) d170_1 ⟨rfl, rfl⟩ (xk_136 hX) (xf_states hX) ?_
  refine q_iload_n d170_4 rfl ?_
  refine q_iconstN (z := 1) d170_5 ?_
  refine n_iast d170_6 (xk_states hX) (by omega) (by decide) ?_
  refine q_aload_n d170_7 rfl ?_
  refine q_getr (c := 8) (f := 12) d170_8 ⟨rfl, rfl⟩ (xk_136 hX) (xf_textOf hX) ?_
  refine q_iload_n d170_11 rfl ?_
  refine q_iload_n d170_12 rfl ?_
  refine n_iast d170_13 (xk_textOf hX) (by omega) (by decide) ?_
  refine q_iconstN (z := 0) d170_14 ?_
  refine q_istore_n d170_15 (by decide) rfl ?_
  refine q_iload_n d170_16 rfl ?_
  refine q_bipush (x := nI 7) d170_17 rfl ?_
  refine nc_ge 54 d170_19 (by decide) (by decide) (by decide) (fun q => absurd q (by decide)) (fun _ => ?_)
  refine q_iconstN (z := 0) d170_22 ?_
  refine q_istore d170_23 (by decide) rfl ?_
  refine qW_srt rfl rfl ?_
  have f : Fi (GS s) M _ := ((Fi.refl (GS s) M).wi (a := 175) (k := s) (v := nI 1) (by unfold GS; omega)).wi (a := 176) (k := s) (v := t) (by unfold GS; omega)
  exact l170b hs (by omega) (fun M2 h02 hv2 => by
    refine n_iinc 1 d170_48 (by decide) rfl rfl ?_
    refine q_goto 16 d170_51 (by decide) ?_
    refine qW_srt rfl rfl ?_
    exact l170 hs k 8 1 _ (by omega) (by omega) h02 (⟨hv2.1, hv2.2.1, fun a ha k hk hq => hv2.2.2 a ha k hk (by omega)⟩)) 13 0 _ (by omega) (by omega) ⟨(wi_n (by omega)).trans (wi_s _ _ _ _), wi_s _ _ _ _⟩ ⟨SX_fi hX f, f, fun a ha k hk hq => by omega⟩
theorem d194_0 : decode (zB 194) 0 = .ok (.iconst 0, 1) := (congrArg (fun c => decode c 0) zeq194).trans (by decide +kernel)
theorem d194_1 : decode (zB 194) 1 = .ok (.istore 4, 2) := (congrArg (fun c => decode c 1) zeq194).trans (by decide +kernel)
theorem d194_3 : decode (zB 194) 3 = .ok (.iload_n 1, 1) := (congrArg (fun c => decode c 3) zeq194).trans (by decide +kernel)
theorem d194_4 : decode (zB 194) 4 = .ok (.tableswitch 182 0 5 #[40, 49, 97, 127, 160, 172], 40) := (congrArg (fun c => decode c 4) zeq194).trans (by decide +kernel)
theorem d194_44 : decode (zB 194) 44 = .ok (.aload_n 0, 1) := (congrArg (fun c => decode c 44) zeq194).trans (by decide +kernel)
theorem d194_45 : decode (zB 194) 45 = .ok (.iload_n 2, 1) := (congrArg (fun c => decode c 45) zeq194).trans (by decide +kernel)
theorem d194_46 : decode (zB 194) 46 = .ok (.iload_n 3, 1) := (congrArg (fun c => decode c 46) zeq194).trans (by decide +kernel)
theorem d194_47 : decode (zB 194) 47 = .ok (.invokevirtual 348, 3) := (congrArg (fun c => decode c 47) zeq194).trans (by decide +kernel)
theorem d194_50 : decode (zB 194) 50 = .ok (.goto 143, 3) := (congrArg (fun c => decode c 50) zeq194).trans (by decide +kernel)
theorem d194_53 : decode (zB 194) 53 = .ok (.aload_n 0, 1) := (congrArg (fun c => decode c 53) zeq194).trans (by decide +kernel)
theorem d194_54 : decode (zB 194) 54 = .ok (.aload_n 0, 1) := (congrArg (fun c => decode c 54) zeq194).trans (by decide +kernel)
theorem d194_55 : decode (zB 194) 55 = .ok (.getfield 39, 3) := (congrArg (fun c => decode c 55) zeq194).trans (by decide +kernel)
theorem d194_58 : decode (zB 194) 58 = .ok (.iload_n 2, 1) := (congrArg (fun c => decode c 58) zeq194).trans (by decide +kernel)
theorem d194_59 : decode (zB 194) 59 = .ok (.iaload, 1) := (congrArg (fun c => decode c 59) zeq194).trans (by decide +kernel)
theorem d194_60 : decode (zB 194) 60 = .ok (.iload_n 3, 1) := (congrArg (fun c => decode c 60) zeq194).trans (by decide +kernel)
theorem d194_61 : decode (zB 194) 61 = .ok (.aload_n 0, 1) := (congrArg (fun c => decode c 61) zeq194).trans (by decide +kernel)
theorem d194_62 : decode (zB 194) 62 = .ok (.getfield 27, 3) := (congrArg (fun c => decode c 62) zeq194).trans (by decide +kernel)
theorem d194_65 : decode (zB 194) 65 = .ok (.aload_n 0, 1) := (congrArg (fun c => decode c 65) zeq194).trans (by decide +kernel)
theorem d194_66 : decode (zB 194) 66 = .ok (.getfield 39, 3) := (congrArg (fun c => decode c 66) zeq194).trans (by decide +kernel)
theorem d194_69 : decode (zB 194) 69 = .ok (.iload_n 2, 1) := (congrArg (fun c => decode c 69) zeq194).trans (by decide +kernel)
theorem d194_70 : decode (zB 194) 70 = .ok (.iaload, 1) := (congrArg (fun c => decode c 70) zeq194).trans (by decide +kernel)
theorem d194_71 : decode (zB 194) 71 = .ok (.aaload, 1) := (congrArg (fun c => decode c 71) zeq194).trans (by decide +kernel)
theorem d194_72 : decode (zB 194) 72 = .ok (.iload_n 3, 1) := (congrArg (fun c => decode c 72) zeq194).trans (by decide +kernel)
theorem d194_73 : decode (zB 194) 73 = .ok (.iaload, 1) := (congrArg (fun c => decode c 73) zeq194).trans (by decide +kernel)
theorem d194_74 : decode (zB 194) 74 = .ok (.invokevirtual 229, 3) := (congrArg (fun c => decode c 74) zeq194).trans (by decide +kernel)
theorem d194_77 : decode (zB 194) 77 = .ok (.istore 4, 2) := (congrArg (fun c => decode c 77) zeq194).trans (by decide +kernel)
theorem d194_79 : decode (zB 194) 79 = .ok (.aload_n 0, 1) := (congrArg (fun c => decode c 79) zeq194).trans (by decide +kernel)
theorem d194_80 : decode (zB 194) 80 = .ok (.iload_n 2, 1) := (congrArg (fun c => decode c 80) zeq194).trans (by decide +kernel)
theorem d194_81 : decode (zB 194) 81 = .ok (.iload_n 3, 1) := (congrArg (fun c => decode c 81) zeq194).trans (by decide +kernel)
theorem d194_82 : decode (zB 194) 82 = .ok (.aload_n 0, 1) := (congrArg (fun c => decode c 82) zeq194).trans (by decide +kernel)
theorem d194_83 : decode (zB 194) 83 = .ok (.getfield 27, 3) := (congrArg (fun c => decode c 83) zeq194).trans (by decide +kernel)
theorem d194_86 : decode (zB 194) 86 = .ok (.aload_n 0, 1) := (congrArg (fun c => decode c 86) zeq194).trans (by decide +kernel)
theorem d194_87 : decode (zB 194) 87 = .ok (.getfield 39, 3) := (congrArg (fun c => decode c 87) zeq194).trans (by decide +kernel)
theorem d194_90 : decode (zB 194) 90 = .ok (.iload_n 2, 1) := (congrArg (fun c => decode c 90) zeq194).trans (by decide +kernel)
theorem d194_91 : decode (zB 194) 91 = .ok (.iaload, 1) := (congrArg (fun c => decode c 91) zeq194).trans (by decide +kernel)
theorem d194_92 : decode (zB 194) 92 = .ok (.aaload, 1) := (congrArg (fun c => decode c 92) zeq194).trans (by decide +kernel)
theorem d194_93 : decode (zB 194) 93 = .ok (.iload_n 3, 1) := (congrArg (fun c => decode c 93) zeq194).trans (by decide +kernel)
theorem d194_94 : decode (zB 194) 94 = .ok (.iaload, 1) := (congrArg (fun c => decode c 94) zeq194).trans (by decide +kernel)
theorem d194_95 : decode (zB 194) 95 = .ok (.invokevirtual 317, 3) := (congrArg (fun c => decode c 95) zeq194).trans (by decide +kernel)
theorem d194_98 : decode (zB 194) 98 = .ok (.goto 95, 3) := (congrArg (fun c => decode c 98) zeq194).trans (by decide +kernel)
theorem d194_101 : decode (zB 194) 101 = .ok (.aload_n 0, 1) := (congrArg (fun c => decode c 101) zeq194).trans (by decide +kernel)
theorem d194_102 : decode (zB 194) 102 = .ok (.getfield 51, 3) := (congrArg (fun c => decode c 102) zeq194).trans (by decide +kernel)
theorem d194_105 : decode (zB 194) 105 = .ok (.iload_n 2, 1) := (congrArg (fun c => decode c 105) zeq194).trans (by decide +kernel)
theorem d194_106 : decode (zB 194) 106 = .ok (.aaload, 1) := (congrArg (fun c => decode c 106) zeq194).trans (by decide +kernel)
theorem d194_107 : decode (zB 194) 107 = .ok (.iload_n 3, 1) := (congrArg (fun c => decode c 107) zeq194).trans (by decide +kernel)
theorem d194_108 : decode (zB 194) 108 = .ok (.dup2, 1) := (congrArg (fun c => decode c 108) zeq194).trans (by decide +kernel)
theorem d194_109 : decode (zB 194) 109 = .ok (.iaload, 1) := (congrArg (fun c => decode c 109) zeq194).trans (by decide +kernel)
theorem d194_110 : decode (zB 194) 110 = .ok (.iconst 1, 1) := (congrArg (fun c => decode c 110) zeq194).trans (by decide +kernel)
theorem d194_111 : decode (zB 194) 111 = .ok (.iadd, 1) := (congrArg (fun c => decode c 111) zeq194).trans (by decide +kernel)
theorem d194_112 : decode (zB 194) 112 = .ok (.iastore, 1) := (congrArg (fun c => decode c 112) zeq194).trans (by decide +kernel)
theorem d194_113 : decode (zB 194) 113 = .ok (.aload_n 0, 1) := (congrArg (fun c => decode c 113) zeq194).trans (by decide +kernel)
theorem d194_114 : decode (zB 194) 114 = .ok (.iload_n 2, 1) := (congrArg (fun c => decode c 114) zeq194).trans (by decide +kernel)
theorem d194_115 : decode (zB 194) 115 = .ok (.invokevirtual 320, 3) := (congrArg (fun c => decode c 115) zeq194).trans (by decide +kernel)
theorem d194_118 : decode (zB 194) 118 = .ok (.ifCond .ne 75, 3) := (congrArg (fun c => decode c 118) zeq194).trans (by decide +kernel)
theorem d194_121 : decode (zB 194) 121 = .ok (.aload_n 0, 1) := (congrArg (fun c => decode c 121) zeq194).trans (by decide +kernel)
theorem d194_122 : decode (zB 194) 122 = .ok (.getfield 36, 3) := (congrArg (fun c => decode c 122) zeq194).trans (by decide +kernel)
theorem d194_125 : decode (zB 194) 125 = .ok (.iload_n 2, 1) := (congrArg (fun c => decode c 125) zeq194).trans (by decide +kernel)
theorem d194_126 : decode (zB 194) 126 = .ok (.iconst 2, 1) := (congrArg (fun c => decode c 126) zeq194).trans (by decide +kernel)
theorem d194_127 : decode (zB 194) 127 = .ok (.iastore, 1) := (congrArg (fun c => decode c 127) zeq194).trans (by decide +kernel)
theorem d194_128 : decode (zB 194) 128 = .ok (.goto 65, 3) := (congrArg (fun c => decode c 128) zeq194).trans (by decide +kernel)
theorem d194_131 : decode (zB 194) 131 = .ok (.aload_n 0, 1) := (congrArg (fun c => decode c 131) zeq194).trans (by decide +kernel)
theorem d194_132 : decode (zB 194) 132 = .ok (.aload_n 0, 1) := (congrArg (fun c => decode c 132) zeq194).trans (by decide +kernel)
theorem d194_133 : decode (zB 194) 133 = .ok (.getfield 39, 3) := (congrArg (fun c => decode c 133) zeq194).trans (by decide +kernel)
theorem d194_136 : decode (zB 194) 136 = .ok (.iload_n 2, 1) := (congrArg (fun c => decode c 136) zeq194).trans (by decide +kernel)
theorem d194_137 : decode (zB 194) 137 = .ok (.iaload, 1) := (congrArg (fun c => decode c 137) zeq194).trans (by decide +kernel)
theorem d194_138 : decode (zB 194) 138 = .ok (.iload_n 3, 1) := (congrArg (fun c => decode c 138) zeq194).trans (by decide +kernel)
theorem d194_139 : decode (zB 194) 139 = .ok (.aload_n 0, 1) := (congrArg (fun c => decode c 139) zeq194).trans (by decide +kernel)
theorem d194_140 : decode (zB 194) 140 = .ok (.getfield 48, 3) := (congrArg (fun c => decode c 140) zeq194).trans (by decide +kernel)
theorem d194_143 : decode (zB 194) 143 = .ok (.iload_n 2, 1) := (congrArg (fun c => decode c 143) zeq194).trans (by decide +kernel)
theorem d194_144 : decode (zB 194) 144 = .ok (.aaload, 1) := (congrArg (fun c => decode c 144) zeq194).trans (by decide +kernel)
theorem d194_145 : decode (zB 194) 145 = .ok (.iload_n 3, 1) := (congrArg (fun c => decode c 145) zeq194).trans (by decide +kernel)
theorem d194_146 : decode (zB 194) 146 = .ok (.iaload, 1) := (congrArg (fun c => decode c 146) zeq194).trans (by decide +kernel)
theorem d194_147 : decode (zB 194) 147 = .ok (.invokevirtual 330, 3) := (congrArg (fun c => decode c 147) zeq194).trans (by decide +kernel)
theorem d194_150 : decode (zB 194) 150 = .ok (.istore 4, 2) := (congrArg (fun c => decode c 150) zeq194).trans (by decide +kernel)
theorem d194_152 : decode (zB 194) 152 = .ok (.aload_n 0, 1) := (congrArg (fun c => decode c 152) zeq194).trans (by decide +kernel)
theorem d194_153 : decode (zB 194) 153 = .ok (.getfield 42, 3) := (congrArg (fun c => decode c 153) zeq194).trans (by decide +kernel)
theorem d194_156 : decode (zB 194) 156 = .ok (.iload_n 2, 1) := (congrArg (fun c => decode c 156) zeq194).trans (by decide +kernel)
theorem d194_157 : decode (zB 194) 157 = .ok (.aaload, 1) := (congrArg (fun c => decode c 157) zeq194).trans (by decide +kernel)
theorem d194_158 : decode (zB 194) 158 = .ok (.iload_n 3, 1) := (congrArg (fun c => decode c 158) zeq194).trans (by decide +kernel)
theorem d194_159 : decode (zB 194) 159 = .ok (.iconst 2, 1) := (congrArg (fun c => decode c 159) zeq194).trans (by decide +kernel)
theorem d194_160 : decode (zB 194) 160 = .ok (.iastore, 1) := (congrArg (fun c => decode c 160) zeq194).trans (by decide +kernel)
theorem d194_161 : decode (zB 194) 161 = .ok (.goto 32, 3) := (congrArg (fun c => decode c 161) zeq194).trans (by decide +kernel)
theorem d194_164 : decode (zB 194) 164 = .ok (.aload_n 0, 1) := (congrArg (fun c => decode c 164) zeq194).trans (by decide +kernel)
theorem d194_165 : decode (zB 194) 165 = .ok (.getfield 42, 3) := (congrArg (fun c => decode c 165) zeq194).trans (by decide +kernel)
theorem d194_168 : decode (zB 194) 168 = .ok (.iload_n 2, 1) := (congrArg (fun c => decode c 168) zeq194).trans (by decide +kernel)
theorem d194_169 : decode (zB 194) 169 = .ok (.aaload, 1) := (congrArg (fun c => decode c 169) zeq194).trans (by decide +kernel)
theorem d194_170 : decode (zB 194) 170 = .ok (.iload_n 3, 1) := (congrArg (fun c => decode c 170) zeq194).trans (by decide +kernel)
theorem d194_171 : decode (zB 194) 171 = .ok (.iconst 3, 1) := (congrArg (fun c => decode c 171) zeq194).trans (by decide +kernel)
theorem d194_172 : decode (zB 194) 172 = .ok (.iastore, 1) := (congrArg (fun c => decode c 172) zeq194).trans (by decide +kernel)
theorem d194_173 : decode (zB 194) 173 = .ok (.goto 20, 3) := (congrArg (fun c => decode c 173) zeq194).trans (by decide +kernel)
theorem d194_176 : decode (zB 194) 176 = .ok (.aload_n 0, 1) := (congrArg (fun c => decode c 176) zeq194).trans (by decide +kernel)
theorem d194_177 : decode (zB 194) 177 = .ok (.getfield 36, 3) := (congrArg (fun c => decode c 177) zeq194).trans (by decide +kernel)
theorem d194_180 : decode (zB 194) 180 = .ok (.iload_n 2, 1) := (congrArg (fun c => decode c 180) zeq194).trans (by decide +kernel)
theorem d194_181 : decode (zB 194) 181 = .ok (.iload_n 3, 1) := (congrArg (fun c => decode c 181) zeq194).trans (by decide +kernel)
theorem d194_182 : decode (zB 194) 182 = .ok (.iastore, 1) := (congrArg (fun c => decode c 182) zeq194).trans (by decide +kernel)
theorem d194_183 : decode (zB 194) 183 = .ok (.goto 10, 3) := (congrArg (fun c => decode c 183) zeq194).trans (by decide +kernel)
theorem d194_186 : decode (zB 194) 186 = .ok (.aload_n 0, 1) := (congrArg (fun c => decode c 186) zeq194).trans (by decide +kernel)
theorem d194_187 : decode (zB 194) 187 = .ok (.getfield 33, 3) := (congrArg (fun c => decode c 187) zeq194).trans (by decide +kernel)
theorem d194_190 : decode (zB 194) 190 = .ok (.iload_n 2, 1) := (congrArg (fun c => decode c 190) zeq194).trans (by decide +kernel)
theorem d194_191 : decode (zB 194) 191 = .ok (.iload_n 3, 1) := (congrArg (fun c => decode c 191) zeq194).trans (by decide +kernel)
theorem d194_192 : decode (zB 194) 192 = .ok (.iastore, 1) := (congrArg (fun c => decode c 192) zeq194).trans (by decide +kernel)
theorem d194_193 : decode (zB 194) 193 = .ok (.return_, 1) := (congrArg (fun c => decode c 193) zeq194).trans (by decide +kernel)
theorem bI_is2 {p : Bool} (h : ¬ bI p = nI 0) : p = true := by
  cases p with
  | true => rfl
  | false => exact absurd rfl h
theorem bI_not2 {p : Bool} (h : bI p = nI 0) : p = false := by
  cases p with
  | false => rfl
  | true => exact absurd h (by decide)
theorem c194_0 {d : Nat} {M : zM} {Q : Option Value → zM → Prop} {T : Nat → yT} {c s i κ : Nat} {W : yW} (hW : WX M T c W κ) (hZ : yZ W) (hl : yle T c W (0, s, i)) (hs : s < 3) (hi : i < c) (hκ : κ + 1 < 2147483648) (k : ∀ M' κ', κ' ≤ κ + 1 → WX M' T c (yag T W (0, s, i)) κ' → Fi FB M M' → Q none M') : qC (d + 4) 194 [.ref 136, .int (nI 0), .int (nI s), .int (nI i)] M Q := by
  refine qC_of (by decide) (Nat.le_of_ble_eq_true rfl) ?_
  have hX := hW.1
  have hOK := yag_ok hW.2.2.1 hl
  refine q_iconstN (z := 0) d194_0 ?_
  refine q_istore d194_1 (by decide) rfl ?_
  refine q_iload_n d194_3 rfl ?_
  refine n_tsI (40) 44 d194_4 (by decide) (by decide) rfl (by decide) ?_
  refine q_aload_n d194_44 rfl ?_
  refine q_iload_n d194_45 rfl ?_
  refine q_iload_n d194_46 rfl ?_
  refine q_v2 d194_47 rfl rfl (xk_136 hX) (Nat.le_of_ble_eq_true rfl) (c170 hX hs (fun M1 h1 h2 f1 => ?_))
  refine q_goto 193 d194_50 (by decide) ?_
  refine q_ret d194_193 rfl ?_
  have f : Fi (F3 s) M M1 := f1.mono (fun b k q => Or.inr (Or.inr q))
  exact k _ κ (Nat.le_succ κ) (hW.sg hs f (XPu_fi hW.2.2.2.1 f1 (fun b k q1 q2 => by unfold GP at q1; unfold GS at q2; omega)) (begins_Sa (t := i) (g := 1) h1.1 h1.2 h2) (Nat.le_refl _) ((f1.1 _ _ (by unfold GS; omega)).trans hW.2.2.2.2.2) hOK) (f.mono (fun b k q => F3_B hs q))
theorem c194_1 {d : Nat} {M : zM} {Q : Option Value → zM → Prop} {T : Nat → yT} {c s i κ : Nat} {W : yW} (hW : WX M T c W κ) (hZ : yZ W) (hl : yle T c W (1, s, i)) (hs : s < 3) (h0 : gt (W.2 s) ≠ 0) (hi : i < tn (T (gx (W.2 s)))) (hd : gd (W.2 s) i = 0) (hob : yob (T (gx (W.2 s))) W.1 i (tu (T (gx (W.2 s))) i) 1 = 0) (hκ : κ + 1 < 2147483648) (k : ∀ M' κ', κ' ≤ κ + 1 → WX M' T c (yag T W (1, s, i)) κ' → Fi FB M M' → Q none M') : qC (d + 4) 194 [.ref 136, .int (nI 1), .int (nI s), .int (nI i)] M Q := by
  refine qC_of (by decide) (Nat.le_of_ble_eq_true rfl) ?_
  have hX := hW.1
  have hOK := yag_ok hW.2.2.1 hl
  have hOs : OKS T c (W.2 s) := hW.2.2.1.2.2 s hs
  have hx : gx (W.2 s) < c := hOs.2.1 h0
  have hoT := hW.2.2.1.1.2 _ hx
  have hn := hoT.n
  have hc6 := hW.2.2.1.1.1
  have hsa := hW.2.2.2.2.1 s hs
  have hx1 : zi M 176 s = nI (gx (W.2 s)) := hsa.1.2.trans (if_neg h0)
  have hni : i ∉ go (W.2 s) := fun q => by have := (hOs.2.2.2.1 i).mp q; omega
  refine q_iconstN (z := 0) d194_0 ?_
  refine q_istore d194_1 (by decide) rfl ?_
  refine q_iload_n d194_3 rfl ?_
  refine n_tsI (49) 53 d194_4 (by decide) (by decide) rfl (by decide) ?_
  refine q_aload_n d194_53 rfl ?_
  refine q_aload_n d194_54 rfl ?_
  refine q_getr (c := 8) (f := 12) d194_55 ⟨rfl, rfl⟩ (xk_136 hX) (xf_textOf hX) ?_
  refine q_iload_n d194_58 rfl ?_
  refine n_iald d194_59 (xk_textOf hX) (by omega) (by decide) hx1 ?_
  refine q_iload_n d194_60 rfl ?_
  refine q_aload_n d194_61 rfl ?_
  refine q_getr (c := 8) (f := 6) d194_62 ⟨rfl, rfl⟩ (xk_136 hX) (xf_numbers hX) ?_
  refine q_aload_n d194_65 rfl ?_
  refine q_getr (c := 8) (f := 12) d194_66 ⟨rfl, rfl⟩ (xk_136 hX) (xf_textOf hX) ?_
  refine q_iload_n d194_69 rfl ?_
  refine n_iald d194_70 (xk_textOf hX) (by omega) (by decide) hx1 ?_
  refine n_aald d194_71 (xk_numbers hX) (by decide) (by omega) (by decide) (xr_numbers hX (by omega)) ?_
  refine q_iload_n d194_72 rfl ?_
  refine n_iald d194_73 (xa_numbers hX (by omega)) (by omega) (by decide) ((hW.2.1 _ hx).2.2 _ (by omega)).2.2.2.1 ?_
  refine q_v3 d194_74 rfl rfl (xk_136 hX) (Nat.le_of_ble_eq_true rfl) (c157 hX hW.2.2.2.1 (hW.2.1 _ hx) hoT hW.2.2.1.2.1 (by omega) hi (fun M1 hP1 f1 => ?_))
  have hX1 := SX_fi hX f1
  have hsa1 := hsa.fi f1 (fun b k q1 q2 => by unfold GS at q1; unfold GP at q2; omega)
  have hc1 : zi M1 136 20 = nI κ := (f1.1 _ _ (by unfold GP; omega)).trans hW.2.2.2.2.2
  have hT1 := XTx_fi hW.2.1 hc6 f1 (fun b k b1 b2 q => by unfold GP at q; omega)
  have hx2 : zi M1 176 s = nI (gx (W.2 s)) := (f1.1 _ _ (by unfold GP; omega)).trans hx1
  have hP1 : XPu M1 (ych (T (gx (W.2 s))) W.1 i (tu (T (gx (W.2 s))) i) 1) := by have h := hP1; unfold xdo at h; rw [if_pos hob] at h; exact h
  refine q_istore d194_77 (by decide) rfl ?_
  refine q_aload_n d194_79 rfl ?_
  refine q_iload_n d194_80 rfl ?_
  refine q_iload_n d194_81 rfl ?_
  refine q_aload_n d194_82 rfl ?_
  refine q_getr (c := 8) (f := 6) d194_83 ⟨rfl, rfl⟩ (xk_136 hX1) (xf_numbers hX1) ?_
  refine q_aload_n d194_86 rfl ?_
  refine q_getr (c := 8) (f := 12) d194_87 ⟨rfl, rfl⟩ (xk_136 hX1) (xf_textOf hX1) ?_
  refine q_iload_n d194_90 rfl ?_
  refine n_iald d194_91 (xk_textOf hX1) (by omega) (by decide) hx2 ?_
  refine n_aald d194_92 (xk_numbers hX1) (by decide) (by omega) (by decide) (xr_numbers hX1 (by omega)) ?_
  refine q_iload_n d194_93 rfl ?_
  refine n_iald d194_94 (xa_numbers hX1 (by omega)) (by omega) (by decide) ((hT1 _ hx).2.2 _ (by omega)).2.2.2.1 ?_
  refine q_v3 d194_95 rfl rfl (xk_136 hX1) (Nat.le_of_ble_eq_true rfl) (c184 hX1 hs (by omega) hsa1 hc1 hκ hni (fun M2 hS2 hc2 f2 => ?_))
  refine q_goto 193 d194_98 (by decide) ?_
  refine q_ret d194_193 rfl ?_
  have f : Fi (F3 s) M M2 := (f1.mono (fun b k q => Or.inl q)).trans (f2.mono (fun b k q => by first | (unfold F3 GS; omega) | (unfold GS; omega)))
  exact k _ (κ + 1) (Nat.le_refl _) (hW.sg hs f (XPu_fi hP1 f2 (fun b k q1 q2 => by unfold GP at q1; omega)) hS2 (Nat.le_succ κ) hc2 hOK) (f.mono (fun b k q => F3_B hs q))
theorem c194_2 {d : Nat} {M : zM} {Q : Option Value → zM → Prop} {T : Nat → yT} {c s i κ : Nat} {W : yW} (hW : WX M T c W κ) (hZ : yZ W) (hl : yle T c W (2, s, i)) (hs : s < 3) (h0 : gt (W.2 s) ≠ 0) (hi : i < tn (T (gx (W.2 s)))) (hκ : κ + 1 < 2147483648) (k : ∀ M' κ', κ' ≤ κ + 1 → WX M' T c (yag T W (2, s, i)) κ' → Fi FB M M' → Q none M') : qC (d + 4) 194 [.ref 136, .int (nI 2), .int (nI s), .int (nI i)] M Q := by
  refine qC_of (by decide) (Nat.le_of_ble_eq_true rfl) ?_
  have hX := hW.1
  have hOK := yag_ok hW.2.2.1 hl
  have hOs : OKS T c (W.2 s) := hW.2.2.1.2.2 s hs
  have hx : gx (W.2 s) < c := hOs.2.1 h0
  have hoT := hW.2.2.1.1.2 _ hx
  have hn := hoT.n
  have hc6 := hW.2.2.1.1.1
  have hsa := hW.2.2.2.2.1 s hs
  have hx1 : zi M 176 s = nI (gx (W.2 s)) := hsa.1.2.trans (if_neg h0)
  have hyp : yps T (gfS (W.2 s) (yu (gf (W.2 s)) i (gf (W.2 s) i + 1))) = ypa (T (gx (W.2 s))) (gm (W.2 s) 1) := if_neg h0
  refine q_iconstN (z := 0) d194_0 ?_
  refine q_istore d194_1 (by decide) rfl ?_
  refine q_iload_n d194_3 rfl ?_
  refine n_tsI (97) 101 d194_4 (by decide) (by decide) rfl (by decide) ?_
  refine q_aload_n d194_101 rfl ?_
  refine q_getr (c := 8) (f := 16) d194_102 ⟨rfl, rfl⟩ (xk_136 hX) (xf_fails hX) ?_
  refine q_iload_n d194_105 rfl ?_
  refine n_aald d194_106 (xk_fails hX) (by decide) (by omega) (by decide) (xr_fails hX (by omega)) ?_
  refine q_iload_n d194_107 rfl ?_
  refine q_dup2 d194_108 rfl rfl ?_
  refine n_iald d194_109 (xa_fails hX (by omega)) (by omega) (by decide) (hsa.2.1 _ (by omega)).2.1 ?_
  refine q_iconstN (z := 1) d194_110 ?_
  refine q_iadd d194_111 ?_
  refine n_iast d194_112 (xa_fails hX (by omega)) (by omega) (by decide) ?_
  have f1 : Fi (fun b _ => b = 190 + s) M (zwi M (190 + s) i (gf (W.2 s) i + 1)) := (Fi.refl _ _).wi rfl
  have hX1 := SX_fi hX f1
  have hs1 : XSa _ s (gfS (W.2 s) (yu (gf (W.2 s)) i (gf (W.2 s) i + 1))) κ := hsa.wf hs
  have hT1 : XTk _ T c := ⟨XTx_fi hW.2.1 hc6 f1 (fun b k b1 b2 q => by omega), hW.2.2.1.1⟩
  refine q_aload_n d194_113 rfl ?_
  refine q_iload_n d194_114 rfl ?_
  refine q_v1 d194_115 rfl rfl (xk_136 hX1) (Nat.le_of_ble_eq_true rfl) (c185 (S := gfS (W.2 s) (yu (gf (W.2 s)) i (gf (W.2 s) i + 1))) hX1 hs hs1 hT1 hOs ?_)
  refine b0_ne 193 d194_118 (by decide) (fun h118 => ?_) (fun h118 => ?_)
  · refine q_ret d194_193 rfl ?_
    rw [hyp] at h118
    have hpp := h118
    have hOK : OKW T c (W.1, yu W.2 s (yfS (W.2 s) i 0 (ypa (T (gx (W.2 s))) (gm (W.2 s) 1)))) := hOK
    have k : ∀ M' κ', κ' ≤ κ + 1 → WX M' T c (W.1, yu W.2 s (yfS (W.2 s) i 0 (ypa (T (gx (W.2 s))) (gm (W.2 s) 1)))) κ' → Fi FB M M' → Q none M' := k
    have ew : yfS (W.2 s) i 0 (ypa (T (gx (W.2 s))) (gm (W.2 s) 1)) = gfS (W.2 s) (yu (gf (W.2 s)) i (gf (W.2 s) i + 1)) := by
      unfold yfS
      simp only []
      rw [gw_0 (fun k => (hZ s k).2.2), hpp]
      rfl
    rw [ew] at k hOK
    have f : Fi (F3 s) M _ := f1.mono (fun b k q => by unfold F3 GS; omega)
    exact k _ κ (Nat.le_succ κ) (hW.sg hs f (XPu_fi hW.2.2.2.1 f1 (fun b k q1 q2 => by unfold GP at q1; omega)) hs1 (Nat.le_refl _) ((f1.1 _ _ (by omega)).trans hW.2.2.2.2.2) hOK) (f.mono (fun b k q => F3_B hs q))
  · refine q_aload_n d194_121 rfl ?_
    refine q_getr (c := 8) (f := 11) d194_122 ⟨rfl, rfl⟩ (xk_136 hX1) (xf_states hX1) ?_
    refine q_iload_n d194_125 rfl ?_
    refine q_iconstN (z := 2) d194_126 ?_
    refine n_iast d194_127 (xk_states hX1) (by omega) (by decide) ?_
    refine q_goto 193 d194_128 (by decide) ?_
    refine q_ret d194_193 rfl ?_
    rw [hyp] at h118
    have hpp := h118
    have hOK : OKW T c (W.1, yu W.2 s (yfS (W.2 s) i 0 (ypa (T (gx (W.2 s))) (gm (W.2 s) 1)))) := hOK
    have k : ∀ M' κ', κ' ≤ κ + 1 → WX M' T c (W.1, yu W.2 s (yfS (W.2 s) i 0 (ypa (T (gx (W.2 s))) (gm (W.2 s) 1)))) κ' → Fi FB M M' → Q none M' := k
    have ew : yfS (W.2 s) i 0 (ypa (T (gx (W.2 s))) (gm (W.2 s) 1)) = gtS (gfS (W.2 s) (yu (gf (W.2 s)) i (gf (W.2 s) i + 1))) 2 := by
      unfold yfS
      simp only []
      rw [gw_0 (fun k => (hZ s k).2.2), hpp]
      rfl
    rw [ew] at k hOK
    have f2 : Fi (fun b k => b = 190 + s ∨ (b = 175 ∧ k = s)) M (zwi (zwi M (190 + s) i (gf (W.2 s) i + 1)) 175 s (nI 2)) := ((Fi.refl _ _).wi (Or.inl rfl)).wi (Or.inr ⟨rfl, rfl⟩)
    have f : Fi (F3 s) M _ := f2.mono (fun b k q => by unfold F3 GS; omega)
    exact k _ κ (Nat.le_succ κ) (hW.sg hs f (XPu_fi hW.2.2.2.1 f2 (fun b k q1 q2 => by unfold GP at q1; omega)) (hs1.wt (t := 2) h0 (by decide)) (Nat.le_refl _) ((f2.1 _ _ (by omega)).trans hW.2.2.2.2.2) hOK) (f.mono (fun b k q => F3_B hs q))
theorem c194_3 {d : Nat} {M : zM} {Q : Option Value → zM → Prop} {T : Nat → yT} {c s i κ : Nat} {W : yW} (hW : WX M T c W κ) (hZ : yZ W) (hl : yle T c W (3, s, i)) (hs : s < 3) (h0 : gt (W.2 s) ≠ 0) {l : List Nat} (hgo : go (W.2 s) = i :: l) (hob : yob (T (gx (W.2 s))) W.1 i (gb (W.2 s) i) (-1) = 0) (hκ : κ + 1 < 2147483648) (k : ∀ M' κ', κ' ≤ κ + 1 → WX M' T c (yag T W (3, s, i)) κ' → Fi FB M M' → Q none M') : qC (d + 4) 194 [.ref 136, .int (nI 3), .int (nI s), .int (nI i)] M Q := by
  refine qC_of (by decide) (Nat.le_of_ble_eq_true rfl) ?_
  have hX := hW.1
  have hOK := yag_ok hW.2.2.1 hl
  have hOs : OKS T c (W.2 s) := hW.2.2.1.2.2 s hs
  have hx : gx (W.2 s) < c := hOs.2.1 h0
  have hoT := hW.2.2.1.1.2 _ hx
  have hn := hoT.n
  have hc6 := hW.2.2.1.1.1
  have hsa := hW.2.2.2.2.1 s hs
  have hx1 : zi M 176 s = nI (gx (W.2 s)) := hsa.1.2.trans (if_neg h0)
  have hgd : gd (W.2 s) i = 1 := (hOs.2.2.2.1 i).mp (by rw [hgo]; exact List.mem_cons_self)
  have hz : gz T (W.2 s) = tn (T (gx (W.2 s))) := by unfold gz; rw [if_neg h0]
  have hi : i < tn (T (gx (W.2 s))) := Nat.lt_of_not_le (fun q => by have := hOs.2.2.2.2.1 i (by omega); omega)
  have hgb := hsa.2.2.1 i (by omega) hgd
  have et : (go (W.2 s)).tail = l := by rw [hgo]; rfl
  refine q_iconstN (z := 0) d194_0 ?_
  refine q_istore d194_1 (by decide) rfl ?_
  refine q_iload_n d194_3 rfl ?_
  refine n_tsI (127) 131 d194_4 (by decide) (by decide) rfl (by decide) ?_
  refine q_aload_n d194_131 rfl ?_
  refine q_aload_n d194_132 rfl ?_
  refine q_getr (c := 8) (f := 12) d194_133 ⟨rfl, rfl⟩ (xk_136 hX) (xf_textOf hX) ?_
  refine q_iload_n d194_136 rfl ?_
  refine n_iald d194_137 (xk_textOf hX) (by omega) (by decide) hx1 ?_
  refine q_iload_n d194_138 rfl ?_
  refine q_aload_n d194_139 rfl ?_
  refine q_getr (c := 8) (f := 15) d194_140 ⟨rfl, rfl⟩ (xk_136 hX) (xf_by hX) ?_
  refine q_iload_n d194_143 rfl ?_
  refine n_aald d194_144 (xk_by hX) (by decide) (by omega) (by decide) (xr_by hX (by omega)) ?_
  refine q_iload_n d194_145 rfl ?_
  refine n_iald d194_146 (xa_by hX (by omega)) (by omega) (by decide) hgb ?_
  refine q_v3 d194_147 rfl rfl (xk_136 hX) (Nat.le_of_ble_eq_true rfl) (c180 hX hW.2.2.2.1 (hW.2.1 _ hx) hoT hW.2.2.1.2.1 (by omega) hi (fun M1 hP1 f1 => ?_))
  have hX1 := SX_fi hX f1
  have hsa1 := hsa.fi f1 (fun b k q1 q2 => by unfold GS at q1; unfold GP at q2; omega)
  have hP1 : XPu M1 (ych (T (gx (W.2 s))) W.1 i (gb (W.2 s) i) (-1)) := by have h := hP1; unfold xdo at h; rw [if_pos hob] at h; exact h
  refine q_istore d194_150 (by decide) rfl ?_
  refine q_aload_n d194_152 rfl ?_
  refine q_getr (c := 8) (f := 13) d194_153 ⟨rfl, rfl⟩ (xk_136 hX1) (xf_stands hX1) ?_
  refine q_iload_n d194_156 rfl ?_
  refine n_aald d194_157 (xk_stands hX1) (by decide) (by omega) (by decide) (xr_stands hX1 (by omega)) ?_
  refine q_iload_n d194_158 rfl ?_
  refine q_iconstN (z := 2) d194_159 ?_
  refine n_iast d194_160 (xa_stands hX1 (by omega)) (by omega) (by decide) ?_
  refine q_goto 193 d194_161 (by decide) ?_
  refine q_ret d194_193 rfl ?_
  have f2 : Fi (fun b _ => b = 178 + s) M1 (zwi M1 (178 + s) i (nI 2)) := (Fi.refl _ _).wi rfl
  have f : Fi (F3 s) M _ := (f1.mono (fun b k q => Or.inl q)).trans (f2.mono (fun b k q => by first | (unfold F3 GS; omega) | (unfold GS; omega)))
  have hOK : OKW T c (ych (T (gx (W.2 s))) W.1 i (gb (W.2 s) i) (-1), yu W.2 s (goS (gdS (W.2 s) (yu (gd (W.2 s)) i 2)) (go (W.2 s)).tail)) := hOK
  refine k _ κ (Nat.le_succ κ) (hW.sg hs f (XPu_fi hP1 f2 (fun b k q1 q2 => by unfold GP at q1; omega)) ?_ (Nat.le_refl _) ((f2.1 _ _ (by omega)).trans ((f1.1 _ _ (by unfold GP; omega)).trans hW.2.2.2.2.2)) hOK) (f.mono (fun b k q => F3_B hs q))
  rw [et]
  exact hsa1.wu hs hgo (by decide)
theorem c194_4 {d : Nat} {M : zM} {Q : Option Value → zM → Prop} {T : Nat → yT} {c s i κ : Nat} {W : yW} (hW : WX M T c W κ) (hZ : yZ W) (hl : yle T c W (4, s, i)) (hs : s < 3) (h0 : gt (W.2 s) ≠ 0) {l : List Nat} (hgo : go (W.2 s) = i :: l) (hκ : κ + 1 < 2147483648) (k : ∀ M' κ', κ' ≤ κ + 1 → WX M' T c (yag T W (4, s, i)) κ' → Fi FB M M' → Q none M') : qC (d + 4) 194 [.ref 136, .int (nI 4), .int (nI s), .int (nI i)] M Q := by
  refine qC_of (by decide) (Nat.le_of_ble_eq_true rfl) ?_
  have hX := hW.1
  have hOK := yag_ok hW.2.2.1 hl
  have hOs : OKS T c (W.2 s) := hW.2.2.1.2.2 s hs
  have hx : gx (W.2 s) < c := hOs.2.1 h0
  have hoT := hW.2.2.1.1.2 _ hx
  have hn := hoT.n
  have hc6 := hW.2.2.1.1.1
  have hsa := hW.2.2.2.2.1 s hs
  have hx1 : zi M 176 s = nI (gx (W.2 s)) := hsa.1.2.trans (if_neg h0)
  have hgd : gd (W.2 s) i = 1 := (hOs.2.2.2.1 i).mp (by rw [hgo]; exact List.mem_cons_self)
  have hz : gz T (W.2 s) = tn (T (gx (W.2 s))) := by unfold gz; rw [if_neg h0]
  have hi : i < tn (T (gx (W.2 s))) := Nat.lt_of_not_le (fun q => by have := hOs.2.2.2.2.1 i (by omega); omega)
  have hgb := hsa.2.2.1 i (by omega) hgd
  have et : (go (W.2 s)).tail = l := by rw [hgo]; rfl
  refine q_iconstN (z := 0) d194_0 ?_
  refine q_istore d194_1 (by decide) rfl ?_
  refine q_iload_n d194_3 rfl ?_
  refine n_tsI (160) 164 d194_4 (by decide) (by decide) rfl (by decide) ?_
  refine q_aload_n d194_164 rfl ?_
  refine q_getr (c := 8) (f := 13) d194_165 ⟨rfl, rfl⟩ (xk_136 hX) (xf_stands hX) ?_
  refine q_iload_n d194_168 rfl ?_
  refine n_aald d194_169 (xk_stands hX) (by decide) (by omega) (by decide) (xr_stands hX (by omega)) ?_
  refine q_iload_n d194_170 rfl ?_
  refine q_iconstN (z := 3) d194_171 ?_
  refine n_iast d194_172 (xa_stands hX (by omega)) (by omega) (by decide) ?_
  refine q_goto 193 d194_173 (by decide) ?_
  refine q_ret d194_193 rfl ?_
  have f2 : Fi (fun b _ => b = 178 + s) M (zwi M (178 + s) i (nI 3)) := (Fi.refl _ _).wi rfl
  have f : Fi (F3 s) M _ := f2.mono (fun b k q => by unfold F3 GS; omega)
  have hOK : OKW T c (W.1, yu W.2 s (gwS (goS (gdS (W.2 s) (yu (gd (W.2 s)) i 3)) (go (W.2 s)).tail) (yu (gw (W.2 s)) i 0))) := hOK
  refine k _ κ (Nat.le_succ κ) (hW.sg hs f (XPu_fi hW.2.2.2.1 f2 (fun b k q1 q2 => by unfold GP at q1; omega)) ?_ (Nat.le_refl _) ((f2.1 _ _ (by omega)).trans hW.2.2.2.2.2) hOK) (f.mono (fun b k q => F3_B hs q))
  rw [et, gw_0 (fun k => (hZ s k).2.2)]
  exact hsa.wu hs hgo (by decide)
theorem c194_5 {d : Nat} {M : zM} {Q : Option Value → zM → Prop} {T : Nat → yT} {c s i κ : Nat} {W : yW} (hW : WX M T c W κ) (hZ : yZ W) (hl : yle T c W (5, s, i)) (hs : s < 3) (h0 : gt (W.2 s) ≠ 0) (h35 : 3 ≤ i ∧ i ≤ 5) (hκ : κ + 1 < 2147483648) (k : ∀ M' κ', κ' ≤ κ + 1 → WX M' T c (yag T W (5, s, i)) κ' → Fi FB M M' → Q none M') : qC (d + 4) 194 [.ref 136, .int (nI 5), .int (nI s), .int (nI i)] M Q := by
  refine qC_of (by decide) (Nat.le_of_ble_eq_true rfl) ?_
  have hX := hW.1
  have hOK := yag_ok hW.2.2.1 hl
  have hOs : OKS T c (W.2 s) := hW.2.2.1.2.2 s hs
  have hx : gx (W.2 s) < c := hOs.2.1 h0
  have hoT := hW.2.2.1.1.2 _ hx
  have hn := hoT.n
  have hc6 := hW.2.2.1.1.1
  have hsa := hW.2.2.2.2.1 s hs
  have hx1 : zi M 176 s = nI (gx (W.2 s)) := hsa.1.2.trans (if_neg h0)
  refine q_iconstN (z := 0) d194_0 ?_
  refine q_istore d194_1 (by decide) rfl ?_
  refine q_iload_n d194_3 rfl ?_
  refine n_tsI (172) 176 d194_4 (by decide) (by decide) rfl (by decide) ?_
  refine q_aload_n d194_176 rfl ?_
  refine q_getr (c := 8) (f := 11) d194_177 ⟨rfl, rfl⟩ (xk_136 hX) (xf_states hX) ?_
  refine q_iload_n d194_180 rfl ?_
  refine q_iload_n d194_181 rfl ?_
  refine n_iast d194_182 (xk_states hX) (by omega) (by decide) ?_
  refine q_goto 193 d194_183 (by decide) ?_
  refine q_ret d194_193 rfl ?_
  have f2 : Fi (fun b k => b = 175 ∧ k = s) M (zwi M 175 s (nI i)) := (Fi.refl _ _).wi ⟨rfl, rfl⟩
  have f : Fi (F3 s) M _ := f2.mono (fun b k q => by unfold F3 GS; omega)
  exact k _ κ (Nat.le_succ κ) (hW.sg hs f (XPu_fi hW.2.2.2.1 f2 (fun b k q1 q2 => by unfold GP at q1; omega)) (hsa.wt h0 (by omega)) (Nat.le_refl _) ((f2.1 _ _ (by omega)).trans hW.2.2.2.2.2) hOK) (f.mono (fun b k q => F3_B hs q))
theorem c194_6 {d : Nat} {M : zM} {Q : Option Value → zM → Prop} {T : Nat → yT} {c s i κ : Nat} {W : yW} (hW : WX M T c W κ) (hZ : yZ W) (hl : yle T c W (6, s, i)) (hs : s < 6) (hκ : κ + 1 < 2147483648) (k : ∀ M' κ', κ' ≤ κ + 1 → WX M' T c (yag T W (6, s, i)) κ' → Fi FB M M' → Q none M') : qC (d + 4) 194 [.ref 136, .int (nI 6), .int (nI s), .int (nI i)] M Q := by
  refine qC_of (by decide) (Nat.le_of_ble_eq_true rfl) ?_
  have hX := hW.1
  have hOK := yag_ok hW.2.2.1 hl
  refine q_iconstN (z := 0) d194_0 ?_
  refine q_istore d194_1 (by decide) rfl ?_
  refine q_iload_n d194_3 rfl ?_
  refine n_tsO 186 d194_4 (by omega) (Or.inr (by omega)) (by decide) ?_
  refine q_aload_n d194_186 rfl ?_
  refine q_getr (c := 8) (f := 8) d194_187 ⟨rfl, rfl⟩ (xk_136 hX) (xf_balances hX) ?_
  refine q_iload_n d194_190 rfl ?_
  refine q_iload_n d194_191 rfl ?_
  refine n_iast d194_192 (xk_balances hX) (by omega) (by decide) ?_
  refine q_ret d194_193 rfl ?_
  have f : Fi (fun b _ => b = 174) M (zwi M 174 s (nI i)) := (Fi.refl _ _).wi rfl
  exact k _ κ (Nat.le_succ κ) ⟨SX_fi hX f, XTx_fi hW.2.1 hW.2.2.1.1.1 f (fun b k b1 b2 q => by omega), hOK, ⟨fun k hk => wi_or rfl (hW.2.2.2.1.1 k hk), (wi_n (by omega)).trans hW.2.2.2.1.2.1, (wi_n (by omega)).trans hW.2.2.2.1.2.2⟩, fun r hr => (hW.2.2.2.2.1 r hr).fi f (fun b k q1 q2 => by unfold GS at q1; omega), (wi_n (by omega)).trans hW.2.2.2.2.2⟩ (f.mono (fun b k q => by unfold FB; omega))
/-- a line of the log is done again -/
theorem c194 {d : Nat} {M : zM} {Q : Option Value → zM → Prop} {T : Nat → yT} {c s i e κ : Nat} {W : yW} (hW : WX M T c W κ) (hZ : yZ W) (hl : yle T c W (e, s, i)) (hκ : κ + 1 < 2147483648) (k : ∀ M' κ', κ' ≤ κ + 1 → WX M' T c (yag T W (e, s, i)) κ' → Fi FB M M' → Q none M') : qC (d + 4) 194 [.ref 136, .int (nI e), .int (nI s), .int (nI i)] M Q := by
  have hl0 := hl
  rcases hl with ⟨rfl, h1, h2⟩ | ⟨rfl, h1, h2, h3, h4, h5⟩ | ⟨rfl, h1, h2, h3⟩ | ⟨rfl, h1, h2, ⟨t, h3⟩, h5⟩ | ⟨rfl, h1, h2, ⟨t, h3⟩⟩ | ⟨rfl, h1, h2, h3⟩ | ⟨rfl, h1, h2⟩
  · exact c194_0 hW hZ hl0 h1 h2 hκ k
  · have h2 : gt (W.2 s) = 1 := h2
    exact c194_1 hW hZ hl0 h1 (by omega) h3 h4 h5 hκ k
  · have h2 : gt (W.2 s) = 1 := h2
    exact c194_2 hW hZ hl0 h1 (by omega) h3 hκ k
  · exact c194_3 hW hZ hl0 h1 h2 h3 h5 hκ k
  · exact c194_4 hW hZ hl0 h1 h2 h3 hκ k
  · exact c194_5 hW hZ hl0 h1 h2 h3 hκ k
  · exact c194_6 hW hZ hl0 h1 hκ k
/-! ===== the reference: replays ===== -/
/-! the reference's replays -/
theorem XLg_fb {M M' : zM} {L : List yL} (h : XLg M L) (f : Fi FB M M') : XLg M' L :=
  ⟨(f.1 _ _ (by unfold FB; omega)).trans h.1, fun k hk => ⟨(f.1 _ _ (by unfold FB; omega)).trans (h.2 k hk).1, (f.1 _ _ (by unfold FB; omega)).trans (h.2 k hk).2.1, (f.1 _ _ (by unfold FB; omega)).trans (h.2 k hk).2.2⟩⟩
theorem yZ_0 : yZ yW0 := fun _ _ => ⟨rfl, rfl, rfl⟩
theorem d193_0 : decode (zB 193) 0 = .ok (.iconst 0, 1) := (congrArg (fun c => decode c 0) zeq193).trans (by decide +kernel)
theorem d193_1 : decode (zB 193) 1 = .ok (.istore_n 2, 1) := (congrArg (fun c => decode c 1) zeq193).trans (by decide +kernel)
theorem d193_2 : decode (zB 193) 2 = .ok (.iload_n 2, 1) := (congrArg (fun c => decode c 2) zeq193).trans (by decide +kernel)
theorem d193_3 : decode (zB 193) 3 = .ok (.bipush 6, 2) := (congrArg (fun c => decode c 3) zeq193).trans (by decide +kernel)
theorem d193_5 : decode (zB 193) 5 = .ok (.if_icmp .ge 17, 3) := (congrArg (fun c => decode c 5) zeq193).trans (by decide +kernel)
theorem d193_8 : decode (zB 193) 8 = .ok (.aload_n 0, 1) := (congrArg (fun c => decode c 8) zeq193).trans (by decide +kernel)
theorem d193_9 : decode (zB 193) 9 = .ok (.getfield 33, 3) := (congrArg (fun c => decode c 9) zeq193).trans (by decide +kernel)
theorem d193_12 : decode (zB 193) 12 = .ok (.iload_n 2, 1) := (congrArg (fun c => decode c 12) zeq193).trans (by decide +kernel)
theorem d193_13 : decode (zB 193) 13 = .ok (.bipush 100, 2) := (congrArg (fun c => decode c 13) zeq193).trans (by decide +kernel)
theorem d193_15 : decode (zB 193) 15 = .ok (.iastore, 1) := (congrArg (fun c => decode c 15) zeq193).trans (by decide +kernel)
theorem d193_16 : decode (zB 193) 16 = .ok (.iinc 2 1, 3) := (congrArg (fun c => decode c 16) zeq193).trans (by decide +kernel)
theorem d193_19 : decode (zB 193) 19 = .ok (.goto (-17), 3) := (congrArg (fun c => decode c 19) zeq193).trans (by decide +kernel)
theorem d193_22 : decode (zB 193) 22 = .ok (.aload_n 0, 1) := (congrArg (fun c => decode c 22) zeq193).trans (by decide +kernel)
theorem d193_23 : decode (zB 193) 23 = .ok (.iconst 0, 1) := (congrArg (fun c => decode c 23) zeq193).trans (by decide +kernel)
theorem d193_24 : decode (zB 193) 24 = .ok (.putfield 276, 3) := (congrArg (fun c => decode c 24) zeq193).trans (by decide +kernel)
theorem d193_27 : decode (zB 193) 27 = .ok (.aload_n 0, 1) := (congrArg (fun c => decode c 27) zeq193).trans (by decide +kernel)
theorem d193_28 : decode (zB 193) 28 = .ok (.iconst 0, 1) := (congrArg (fun c => decode c 28) zeq193).trans (by decide +kernel)
theorem d193_29 : decode (zB 193) 29 = .ok (.putfield 282, 3) := (congrArg (fun c => decode c 29) zeq193).trans (by decide +kernel)
theorem d193_32 : decode (zB 193) 32 = .ok (.iconst 0, 1) := (congrArg (fun c => decode c 32) zeq193).trans (by decide +kernel)
theorem d193_33 : decode (zB 193) 33 = .ok (.istore_n 2, 1) := (congrArg (fun c => decode c 33) zeq193).trans (by decide +kernel)
theorem d193_34 : decode (zB 193) 34 = .ok (.iload_n 2, 1) := (congrArg (fun c => decode c 34) zeq193).trans (by decide +kernel)
theorem d193_35 : decode (zB 193) 35 = .ok (.iconst 3, 1) := (congrArg (fun c => decode c 35) zeq193).trans (by decide +kernel)
theorem d193_36 : decode (zB 193) 36 = .ok (.if_icmp .ge 22, 3) := (congrArg (fun c => decode c 36) zeq193).trans (by decide +kernel)
theorem d193_39 : decode (zB 193) 39 = .ok (.aload_n 0, 1) := (congrArg (fun c => decode c 39) zeq193).trans (by decide +kernel)
theorem d193_40 : decode (zB 193) 40 = .ok (.iload_n 2, 1) := (congrArg (fun c => decode c 40) zeq193).trans (by decide +kernel)
theorem d193_41 : decode (zB 193) 41 = .ok (.iconst (-1), 1) := (congrArg (fun c => decode c 41) zeq193).trans (by decide +kernel)
theorem d193_42 : decode (zB 193) 42 = .ok (.invokevirtual 348, 3) := (congrArg (fun c => decode c 42) zeq193).trans (by decide +kernel)
theorem d193_45 : decode (zB 193) 45 = .ok (.aload_n 0, 1) := (congrArg (fun c => decode c 45) zeq193).trans (by decide +kernel)
theorem d193_46 : decode (zB 193) 46 = .ok (.getfield 36, 3) := (congrArg (fun c => decode c 46) zeq193).trans (by decide +kernel)
theorem d193_49 : decode (zB 193) 49 = .ok (.iload_n 2, 1) := (congrArg (fun c => decode c 49) zeq193).trans (by decide +kernel)
theorem d193_50 : decode (zB 193) 50 = .ok (.iconst 0, 1) := (congrArg (fun c => decode c 50) zeq193).trans (by decide +kernel)
theorem d193_51 : decode (zB 193) 51 = .ok (.iastore, 1) := (congrArg (fun c => decode c 51) zeq193).trans (by decide +kernel)
theorem d193_52 : decode (zB 193) 52 = .ok (.iinc 2 1, 3) := (congrArg (fun c => decode c 52) zeq193).trans (by decide +kernel)
theorem d193_55 : decode (zB 193) 55 = .ok (.goto (-21), 3) := (congrArg (fun c => decode c 55) zeq193).trans (by decide +kernel)
theorem d193_58 : decode (zB 193) 58 = .ok (.iconst 0, 1) := (congrArg (fun c => decode c 58) zeq193).trans (by decide +kernel)
theorem d193_59 : decode (zB 193) 59 = .ok (.istore_n 2, 1) := (congrArg (fun c => decode c 59) zeq193).trans (by decide +kernel)
theorem d193_60 : decode (zB 193) 60 = .ok (.iload_n 2, 1) := (congrArg (fun c => decode c 60) zeq193).trans (by decide +kernel)
theorem d193_61 : decode (zB 193) 61 = .ok (.iload_n 1, 1) := (congrArg (fun c => decode c 61) zeq193).trans (by decide +kernel)
theorem d193_62 : decode (zB 193) 62 = .ok (.if_icmp .ge 31, 3) := (congrArg (fun c => decode c 62) zeq193).trans (by decide +kernel)
theorem d193_65 : decode (zB 193) 65 = .ok (.aload_n 0, 1) := (congrArg (fun c => decode c 65) zeq193).trans (by decide +kernel)
theorem d193_66 : decode (zB 193) 66 = .ok (.aload_n 0, 1) := (congrArg (fun c => decode c 66) zeq193).trans (by decide +kernel)
theorem d193_67 : decode (zB 193) 67 = .ok (.getfield 67, 3) := (congrArg (fun c => decode c 67) zeq193).trans (by decide +kernel)
theorem d193_70 : decode (zB 193) 70 = .ok (.iload_n 2, 1) := (congrArg (fun c => decode c 70) zeq193).trans (by decide +kernel)
theorem d193_71 : decode (zB 193) 71 = .ok (.iaload, 1) := (congrArg (fun c => decode c 71) zeq193).trans (by decide +kernel)
theorem d193_72 : decode (zB 193) 72 = .ok (.aload_n 0, 1) := (congrArg (fun c => decode c 72) zeq193).trans (by decide +kernel)
theorem d193_73 : decode (zB 193) 73 = .ok (.getfield 70, 3) := (congrArg (fun c => decode c 73) zeq193).trans (by decide +kernel)
theorem d193_76 : decode (zB 193) 76 = .ok (.iload_n 2, 1) := (congrArg (fun c => decode c 76) zeq193).trans (by decide +kernel)
theorem d193_77 : decode (zB 193) 77 = .ok (.iaload, 1) := (congrArg (fun c => decode c 77) zeq193).trans (by decide +kernel)
theorem d193_78 : decode (zB 193) 78 = .ok (.aload_n 0, 1) := (congrArg (fun c => decode c 78) zeq193).trans (by decide +kernel)
theorem d193_79 : decode (zB 193) 79 = .ok (.getfield 73, 3) := (congrArg (fun c => decode c 79) zeq193).trans (by decide +kernel)
theorem d193_82 : decode (zB 193) 82 = .ok (.iload_n 2, 1) := (congrArg (fun c => decode c 82) zeq193).trans (by decide +kernel)
theorem d193_83 : decode (zB 193) 83 = .ok (.iaload, 1) := (congrArg (fun c => decode c 83) zeq193).trans (by decide +kernel)
theorem d193_84 : decode (zB 193) 84 = .ok (.invokevirtual 360, 3) := (congrArg (fun c => decode c 84) zeq193).trans (by decide +kernel)
theorem d193_87 : decode (zB 193) 87 = .ok (.iinc 2 1, 3) := (congrArg (fun c => decode c 87) zeq193).trans (by decide +kernel)
theorem d193_90 : decode (zB 193) 90 = .ok (.goto (-30), 3) := (congrArg (fun c => decode c 90) zeq193).trans (by decide +kernel)
theorem d193_93 : decode (zB 193) 93 = .ok (.return_, 1) := (congrArg (fun c => decode c 93) zeq193).trans (by decide +kernel)
theorem l193a {d : Nat} {Q : Option Value → zM → Prop} {M0 : zM} {n : Nat} (hX0 : SX M0) (k : ∀ M1, XPu M1 yP0 → Fi FB M0 M1 → zi M1 136 20 = zi M0 136 20 → qW (zEv (d + 4)) 193 Q 34 [(0, .ref 136), (1, .int (nI n)), (2, .int (nI 0))] [] M1) : ∀ (r i : Nat) (M1 : zM), i ≤ 6 → 6 < i + r →  Fi FB M0 M1 → zi M1 136 20 = zi M0 136 20 → (∀ j, j < i → zi M1 174 j = nI 100) → qW (zEv (d + 4)) 193 Q 2 [(0, .ref 136), (1, .int (nI n)), (2, .int (nI i))] [] M1 := by
  intro r
  induction r with
  | zero => intros; omega
  | succ r ih =>
    intro i M1 h1 h2 hf hc hb
    have hX := SX_fi hX0 hf
    refine q_iload_n d193_2 rfl ?_
    refine q_bipush (x := nI 6) d193_3 rfl ?_
    refine nc_ge 22 d193_5 (by decide) (by omega) (by omega) (fun h5 => ?_) (fun h5 => ?_)
    · refine q_aload_n d193_22 rfl ?_
      refine q_iconstN (z := 0) d193_23 ?_
      refine q_puti (c := 8) (f := 9) d193_24 ⟨rfl, rfl, by decide⟩ (xk_136 hX) ?_
      refine q_aload_n d193_27 rfl ?_
      refine q_iconstN (z := 0) d193_28 ?_
      refine q_puti (c := 8) (f := 10) d193_29 ⟨rfl, rfl, by decide⟩ (xk_136 hX) ?_
      refine q_iconstN (z := 0) d193_32 ?_
      refine q_istore_n d193_33 (by decide) rfl ?_
      refine qW_srt rfl rfl ?_
      exact k _ ⟨fun j hj => (wi_n (by omega)).trans ((wi_n (by omega)).trans (hb j (by omega))), (wi_n (by omega)).trans (wi_s _ _ _ _), wi_s _ _ _ _⟩ ((hf.wi (by unfold FB; omega)).wi (by unfold FB; omega)) ((wi_n (by omega)).trans ((wi_n (by omega)).trans hc))
    · refine q_aload_n d193_8 rfl ?_
      refine q_getr (c := 8) (f := 8) d193_9 ⟨rfl, rfl⟩ (xk_136 hX) (xf_balances hX) ?_
      refine q_iload_n d193_12 rfl ?_
      refine q_bipush (x := nI 100) d193_13 rfl ?_
      refine n_iast d193_15 (xk_balances hX) (by omega) (by decide) ?_
      refine n_iinc 1 d193_16 (by decide) rfl rfl ?_
      refine q_goto 2 d193_19 (by decide) ?_
      refine qW_srt rfl rfl ?_
      exact ih (i + 1) _ (by omega) (by omega) (hf.wi (by unfold FB; omega)) ((wi_n (by omega)).trans hc) (fun j hj => by by_cases e : j = i; (subst e; exact wi_s _ _ _ _); (rw [wi_n (by omega)]; exact hb j (by omega)))
theorem l193b {d : Nat} {Q : Option Value → zM → Prop} {M0 : zM} {n κ : Nat} (hX0 : SX M0) (k : ∀ M1, XPu M1 yP0 → Fi FB M0 M1 → zi M1 136 20 = zi M0 136 20 → (∀ r, r < 3 → XSa M1 r yS0 κ) → qW (zEv (d + 4)) 193 Q 60 [(0, .ref 136), (1, .int (nI n)), (2, .int (nI 0))] [] M1) : ∀ (r i : Nat) (M1 : zM), i ≤ 3 → 3 < i + r →  XPu M1 yP0 → Fi FB M0 M1 → zi M1 136 20 = zi M0 136 20 → (∀ r, r < i → XSa M1 r yS0 κ) → qW (zEv (d + 4)) 193 Q 34 [(0, .ref 136), (1, .int (nI n)), (2, .int (nI i))] [] M1 := by
  intro r
  induction r with
  | zero => intros; omega
  | succ r ih =>
    intro i M1 h1 h2 hP hf hc hb
    have hX := SX_fi hX0 hf
    refine q_iload_n d193_34 rfl ?_
    refine q_iconstN (z := 3) d193_35 ?_
    refine nc_ge 58 d193_36 (by decide) (by omega) (by omega) (fun h36 => ?_) (fun h36 => ?_)
    · refine q_iconstN (z := 0) d193_58 ?_
      refine q_istore_n d193_59 (by decide) rfl ?_
      refine qW_srt rfl rfl ?_
      exact k _ hP hf hc (fun r hr => hb r (by omega))
    · refine q_aload_n d193_39 rfl ?_
      refine q_iload_n d193_40 rfl ?_
      refine q_iconst (x := (-1)) d193_41 rfl ?_
      refine q_v2 d193_42 rfl rfl (xk_136 hX) (Nat.le_of_ble_eq_true rfl) (c170 hX (by omega) (fun M2 q1 q2 f2 => ?_))
      have hX2 := SX_fi hX f2
      refine q_aload_n d193_45 rfl ?_
      refine q_getr (c := 8) (f := 11) d193_46 ⟨rfl, rfl⟩ (xk_136 hX2) (xf_states hX2) ?_
      refine q_iload_n d193_49 rfl ?_
      refine q_iconstN (z := 0) d193_50 ?_
      refine n_iast d193_51 (xk_states hX2) (by omega) (by decide) ?_
      refine n_iinc 1 d193_52 (by decide) rfl rfl ?_
      refine q_goto 34 d193_55 (by decide) ?_
      refine qW_srt rfl rfl ?_
      have f3 : Fi (GS i) M1 (zwi M2 175 i (nI 0)) := f2.wi (by unfold GS; omega)
      exact ih (i + 1) _ (by omega) (by omega) (XPu_fi hP f3 (fun b k q1 q2 => by unfold GP at q1; unfold GS at q2; omega)) (hf.trans (f3.mono (fun b k q => by unfold GS at q; unfold FB; omega))) ((f3.1 _ _ (by unfold GS; omega)).trans hc) (fun r hr => by
        by_cases e : r = i
        · subst e
          exact begins_Sa (t := 0) (g := 0) (wi_s _ _ _ _) ((wi_n (by omega)).trans q1.2) (fun a ha k hk => (wi_n (by omega)).trans (q2 a ha k hk))
        · exact (hb r (by omega)).fi f3 (fun b k q1 q2 => by unfold GS at q1 q2; omega))
theorem l193c {d : Nat} {Q : Option Value → zM → Prop} {M0 : zM} {T : Nat → yT} {c n κ : Nat} {L : List yL} (hL : XLg M0 L) (hn : n ≤ L.length) (hlen : L.length ≤ 240) (hv : yva T c L) (hκ : κ + 240 < 2147483648) (k : ∀ M' κ', κ' ≤ κ + 240 → WX M' T c (yre T (L.take n)) κ' → Fi FB M0 M' → Q none M') : ∀ (r i : Nat) (κ1 : Nat) (M1 : zM), i ≤ n → n < i + r →  WX M1 T c (yre T (L.take i)) κ1 → Fi FB M0 M1 → κ1 ≤ κ + i → yZ (yre T (L.take i)) → qW (zEv (d + 4)) 193 Q 60 [(0, .ref 136), (1, .int (nI n)), (2, .int (nI i))] [] M1 := by
  intro r
  induction r with
  | zero => intros; omega
  | succ r ih =>
    intro i κ1 M1 h1 h2 hW hf hk1 hZ
    have hL1 := XLg_fb hL hf
    refine q_iload_n d193_60 rfl ?_
    refine q_iload_n d193_61 rfl ?_
    refine nc_ge 93 d193_62 (by decide) (by omega) (by omega) (fun h62 => ?_) (fun h62 => ?_)
    · refine q_ret d193_93 rfl ?_
      have e : i = n := by omega
      subst e
      exact k _ κ1 (by omega) hW hf
    · have hl := hv i (by omega)
      refine q_aload_n d193_65 rfl ?_
      refine q_aload_n d193_66 rfl ?_
      refine q_getr (c := 8) (f := 26) d193_67 ⟨rfl, rfl⟩ (xk_136 hW.1) (xf_acts hW.1) ?_
      refine q_iload_n d193_70 rfl ?_
      refine n_iald d193_71 (xk_acts hW.1) (by omega) (by decide) (hL1.2 _ (by omega)).1 ?_
      refine q_aload_n d193_72 rfl ?_
      refine q_getr (c := 8) (f := 27) d193_73 ⟨rfl, rfl⟩ (xk_136 hW.1) (xf_whose hW.1) ?_
      refine q_iload_n d193_76 rfl ?_
      refine n_iald d193_77 (xk_whose hW.1) (by omega) (by decide) (hL1.2 _ (by omega)).2.1 ?_
      refine q_aload_n d193_78 rfl ?_
      refine q_getr (c := 8) (f := 28) d193_79 ⟨rfl, rfl⟩ (xk_136 hW.1) (xf_which hW.1) ?_
      refine q_iload_n d193_82 rfl ?_
      refine n_iald d193_83 (xk_which hW.1) (by omega) (by decide) (hL1.2 _ (by omega)).2.2 ?_
      refine q_v3 d193_84 rfl rfl (xk_136 hW.1) (Nat.le_of_ble_eq_true rfl) (c194 hW hZ hl (by omega) (fun M2 κ2 hk2 hW2 f2 => ?_))
      refine n_iinc 1 d193_87 (by decide) rfl rfl ?_
      refine q_goto 60 d193_90 (by decide) ?_
      refine qW_srt rfl rfl ?_
      have e := yre_S (T := T) (L := L) (i := i) (by omega)
      exact ih (i + 1) κ2 _ (by omega) (by omega) (by rw [e]; exact hW2) (hf.trans f2) (by omega) (by rw [e]; exact yag_z hZ hl)
/-- all is as the first lines say -/
theorem c193 {d : Nat} {M : zM} {Q : Option Value → zM → Prop} {T : Nat → yT} {c n κ : Nat} {L : List yL} (hX : SX M) (hT : XTx M T c) (hok : c ≤ 6 ∧ ∀ i, i < c → OKT (T i)) (hL : XLg M L) (hn : n ≤ L.length) (hlen : L.length ≤ 240) (hv : yva T c L) (hc : zi M 136 20 = nI κ) (hκ : κ + 240 < 2147483648) (k : ∀ M' κ', κ' ≤ κ + 240 → WX M' T c (yre T (L.take n)) κ' → Fi FB M M' → Q none M') : qC (d + 5) 193 [.ref 136, .int (nI n)] M Q := by
  refine qC_of (by decide) (Nat.le_of_ble_eq_true rfl) ?_
  refine q_iconstN (z := 0) d193_0 ?_
  refine q_istore_n d193_1 (by decide) rfl ?_
  refine qW_srt rfl rfl ?_
  exact l193a hX (fun M1 hP1 f1 c1 => l193b (κ := κ) (SX_fi hX f1) (fun M2 hP2 f2 c2 hS2 => by
    have f12 := f1.trans f2
    exact l193c (XLg_fb hL f12) hn hlen hv hκ (fun M' κ' q1 q2 q3 => k M' κ' q1 q2 (f12.trans q3)) (n + 1) 0 κ M2 (Nat.zero_le _) (by omega) ⟨SX_fi hX f12, XTx_fi hT hok.1 f12 (fun b k b1 b2 q => by unfold FB at q; omega), ⟨hok, OKP_0, fun _ _ => OKS_0⟩, hP2, hS2, c2.trans (c1.trans hc)⟩ (Fi.refl _ _) (Nat.le_refl _) yZ_0) 4 0 _ (by omega) (by omega) hP1 (Fi.refl _ _) rfl (fun r hr => by omega)) 7 0 _ (by omega) (by omega) (Fi.refl _ _) rfl (fun j hj => by omega)
/-! ===== the reference: its desk ===== -/
/-! the reference's desk -/
def FWd : Nat → Nat → Prop := fun b k => (b = 136 ∧ (k = 9 ∨ k = 10 ∨ k = 20 ∨ k = 24)) ∨ (173 < b ∧ b < 208)
def FY : Nat → Nat → Prop := fun b _ => 135 < b
theorem FWd_Y {b k : Nat} (h : FWd b k) : FY b k := by unfold FWd at h; unfold FY; omega
theorem FX_W {b k : Nat} (h : FX b k) : FWd b k := by unfold FX at h; unfold FWd; omega
theorem FB_W {b k : Nat} (h : FB b k) : FWd b k := by unfold FB at h; unfold FWd; omega
def RX (M : zM) (D : yD) (κ : Nat) : Prop := CX [] M (dT D) (dc D) (dnm D) (dX D) κ ∧ zi M 136 21 = -1 ∧ zi M 136 0 = nI (dc D) ∧ (dn D ≤ 120 ∧ zi M 136 30 = nI (dn D) ∧ ∀ k, k < dn D → zi M 208 k = nI (db D k)) ∧ ∀ i, i < 4 → zi M 319 i = (dR D i).1 ∧ zi M 320 i = nI (dR D i).2
/-- the world is another -/
theorem RX.up {M M' : zM} {D : yD} {κ κ' : Nat} {W : yW} {L : List yL} (h : RX M D κ) (f : Fi FWd M M') (hO : OKW (dT D) (dc D) W) (hP : XPu M' W.1) (hS : ∀ s, s < 3 → XSa M' s (W.2 s) κ') (hc : zi M' 136 20 = nI κ') (hL : XLo [] M' (some L)) : RX M' (dwS D W L) κ' := by
  obtain ⟨h1, h2, h3, ⟨h4, h5, h6⟩, h7⟩ := h
  have b21 : zi M' 136 21 = -1 := (f.1 _ _ (by unfold FWd; omega)).trans h2
  exact ⟨⟨SX_fi h1.1 f, XTx_fi h1.2.1 hO.1.1 f (fun b k b1 b2 q => by unfold FWd at q; omega), hO, hP, hS, hc, hL, ⟨none, b21, fun s hs h0 k hk => rfl⟩⟩, b21, (f.1 _ _ (by unfold FWd; omega)).trans h3, ⟨h4, (f.1 _ _ (by unfold FWd; omega)).trans h5, fun k hk => (f.1 _ _ (by unfold FWd; omega)).trans (h6 k hk)⟩, fun i hi => ⟨(f.1 _ _ (by unfold FWd; omega)).trans (h7 i hi).1, (f.1 _ _ (by unfold FWd; omega)).trans (h7 i hi).2⟩⟩
theorem c131st {d : Nat} {M : zM} {Q : Option Value → zM → Prop} {x b : Nat} (h : x < b) (hb : b < 2147483648) (k : Q (some (.int (nI 1))) M) : qC (d + 1) 131 [.int (nI x), .int (nI 0), .int (nI b - nI 1)] M Q := c131s hb (by rw [zix_in h (by omega)]; exact k)
theorem c131sf {d : Nat} {M : zM} {Q : Option Value → zM → Prop} {x : Int32} {b : Nat} (h : zix x b = none) (hb : b < 2147483648) (k : Q (some (.int (nI 0))) M) : qC (d + 1) 131 [.int x, .int (nI 0), .int (nI b - nI 1)] M Q := c131s hb (by rw [h]; exact k)
def sRef (D : yD) (x y : Int32) : Int32 := oz x 3 (-2) (fun s => oz y (yms D s) (-2) (fun _ => if gt (dS D s) = 0 then -3 else nI 0))
theorem d145_0 : decode (zB 145) 0 = .ok (.iload_n 1, 1) := (congrArg (fun c => decode c 0) zeq145).trans (by decide +kernel)
theorem d145_1 : decode (zB 145) 1 = .ok (.iconst 0, 1) := (congrArg (fun c => decode c 1) zeq145).trans (by decide +kernel)
theorem d145_2 : decode (zB 145) 2 = .ok (.aload_n 0, 1) := (congrArg (fun c => decode c 2) zeq145).trans (by decide +kernel)
theorem d145_3 : decode (zB 145) 3 = .ok (.getfield 116, 3) := (congrArg (fun c => decode c 3) zeq145).trans (by decide +kernel)
theorem d145_6 : decode (zB 145) 6 = .ok (.iconst 1, 1) := (congrArg (fun c => decode c 6) zeq145).trans (by decide +kernel)
theorem d145_7 : decode (zB 145) 7 = .ok (.isub, 1) := (congrArg (fun c => decode c 7) zeq145).trans (by decide +kernel)
theorem d145_8 : decode (zB 145) 8 = .ok (.invokestatic 112, 3) := (congrArg (fun c => decode c 8) zeq145).trans (by decide +kernel)
theorem d145_11 : decode (zB 145) 11 = .ok (.ireturn, 1) := (congrArg (fun c => decode c 11) zeq145).trans (by decide +kernel)
theorem c145 {d : Nat} {M : zM} {Q : Option Value → zM → Prop} {D : yD} {κ : Nat} {x : Int32} (hR : RX M D κ) (k : Q (some (.int (bI (zix x (dc D)).isSome))) M) : qC (d + 2) 145 [.ref 136, .int x] M Q := by
  have hC := hR.1
  have hX := hC.1
  have hO : OKW (dT D) (dc D) (dW D) := hC.2.2.1
  have hc6 := hO.1.1
  have hL : XLo [] M (some (dL D)) := hC.2.2.2.2.2.2.1
  have hSa : ∀ s, s < 3 → XSa M s (dS D s) κ := hC.2.2.2.2.1
  have hTk := hC.k
  have hck := hC.2.2.2.2.2.1
  refine qC_of (by decide) (Nat.le_of_ble_eq_true rfl) ?_
  refine q_iload_n d145_0 rfl ?_
  refine q_iconstN (z := 0) d145_1 ?_
  refine q_aload_n d145_2 rfl ?_
  refine q_getv (c := 8) (f := 0) d145_3 ⟨rfl, by decide⟩ (xk_136 hX) hR.2.2.1 ?_
  refine q_iconstN (z := 1) d145_6 ?_
  refine q_isub d145_7 ?_
  refine q_s3 d145_8 (Or.inl rfl) rfl (Nat.le_of_ble_eq_true rfl) (c131s (by omega) ?_)
  refine b_ret d145_11 rfl ?_
  exact k
theorem c145t {d t : Nat} {M : zM} {Q : Option Value → zM → Prop} {D : yD} {κ : Nat} (hR : RX M D κ) (h : t < dc D) (k : Q (some (.int (nI 1))) M) : qC (d + 2) 145 [.ref 136, .int (nI t)] M Q := c145 hR (by rw [zix_in h (by have := hR.1.2.2.1.1.1; omega)]; exact k)
theorem c145f {d : Nat} {M : zM} {Q : Option Value → zM → Prop} {D : yD} {κ : Nat} {x : Int32} (hR : RX M D κ) (h : zix x (dc D) = none) (k : Q (some (.int (nI 0))) M) : qC (d + 2) 145 [.ref 136, .int x] M Q := c145 hR (by rw [h]; exact k)
theorem d173_0 : decode (zB 173) 0 = .ok (.iload_n 1, 1) := (congrArg (fun c => decode c 0) zeq173).trans (by decide +kernel)
theorem d173_1 : decode (zB 173) 1 = .ok (.invokestatic 345, 3) := (congrArg (fun c => decode c 1) zeq173).trans (by decide +kernel)
theorem d173_4 : decode (zB 173) 4 = .ok (.ifCond .eq 13, 3) := (congrArg (fun c => decode c 4) zeq173).trans (by decide +kernel)
theorem d173_7 : decode (zB 173) 7 = .ok (.iload_n 2, 1) := (congrArg (fun c => decode c 7) zeq173).trans (by decide +kernel)
theorem d173_8 : decode (zB 173) 8 = .ok (.iconst 0, 1) := (congrArg (fun c => decode c 8) zeq173).trans (by decide +kernel)
theorem d173_9 : decode (zB 173) 9 = .ok (.bipush 11, 2) := (congrArg (fun c => decode c 9) zeq173).trans (by decide +kernel)
theorem d173_11 : decode (zB 173) 11 = .ok (.invokestatic 112, 3) := (congrArg (fun c => decode c 11) zeq173).trans (by decide +kernel)
theorem d173_14 : decode (zB 173) 14 = .ok (.ifCond .ne 6, 3) := (congrArg (fun c => decode c 14) zeq173).trans (by decide +kernel)
theorem d173_17 : decode (zB 173) 17 = .ok (.bipush (-2), 2) := (congrArg (fun c => decode c 17) zeq173).trans (by decide +kernel)
theorem d173_19 : decode (zB 173) 19 = .ok (.ireturn, 1) := (congrArg (fun c => decode c 19) zeq173).trans (by decide +kernel)
theorem d173_20 : decode (zB 173) 20 = .ok (.aload_n 0, 1) := (congrArg (fun c => decode c 20) zeq173).trans (by decide +kernel)
theorem d173_21 : decode (zB 173) 21 = .ok (.getfield 36, 3) := (congrArg (fun c => decode c 21) zeq173).trans (by decide +kernel)
theorem d173_24 : decode (zB 173) 24 = .ok (.iload_n 1, 1) := (congrArg (fun c => decode c 24) zeq173).trans (by decide +kernel)
theorem d173_25 : decode (zB 173) 25 = .ok (.iaload, 1) := (congrArg (fun c => decode c 25) zeq173).trans (by decide +kernel)
theorem d173_26 : decode (zB 173) 26 = .ok (.ifCond .ne 6, 3) := (congrArg (fun c => decode c 26) zeq173).trans (by decide +kernel)
theorem d173_29 : decode (zB 173) 29 = .ok (.bipush (-3), 2) := (congrArg (fun c => decode c 29) zeq173).trans (by decide +kernel)
theorem d173_31 : decode (zB 173) 31 = .ok (.ireturn, 1) := (congrArg (fun c => decode c 31) zeq173).trans (by decide +kernel)
theorem d173_32 : decode (zB 173) 32 = .ok (.iload_n 2, 1) := (congrArg (fun c => decode c 32) zeq173).trans (by decide +kernel)
theorem d173_33 : decode (zB 173) 33 = .ok (.aload_n 0, 1) := (congrArg (fun c => decode c 33) zeq173).trans (by decide +kernel)
theorem d173_34 : decode (zB 173) 34 = .ok (.getfield 9, 3) := (congrArg (fun c => decode c 34) zeq173).trans (by decide +kernel)
theorem d173_37 : decode (zB 173) 37 = .ok (.aload_n 0, 1) := (congrArg (fun c => decode c 37) zeq173).trans (by decide +kernel)
theorem d173_38 : decode (zB 173) 38 = .ok (.getfield 39, 3) := (congrArg (fun c => decode c 38) zeq173).trans (by decide +kernel)
theorem d173_41 : decode (zB 173) 41 = .ok (.iload_n 1, 1) := (congrArg (fun c => decode c 41) zeq173).trans (by decide +kernel)
theorem d173_42 : decode (zB 173) 42 = .ok (.iaload, 1) := (congrArg (fun c => decode c 42) zeq173).trans (by decide +kernel)
theorem d173_43 : decode (zB 173) 43 = .ok (.iaload, 1) := (congrArg (fun c => decode c 43) zeq173).trans (by decide +kernel)
theorem d173_44 : decode (zB 173) 44 = .ok (.if_icmp .ge 7, 3) := (congrArg (fun c => decode c 44) zeq173).trans (by decide +kernel)
theorem d173_47 : decode (zB 173) 47 = .ok (.iconst 0, 1) := (congrArg (fun c => decode c 47) zeq173).trans (by decide +kernel)
theorem d173_48 : decode (zB 173) 48 = .ok (.goto 5, 3) := (congrArg (fun c => decode c 48) zeq173).trans (by decide +kernel)
theorem d173_51 : decode (zB 173) 51 = .ok (.bipush (-2), 2) := (congrArg (fun c => decode c 51) zeq173).trans (by decide +kernel)
theorem d173_53 : decode (zB 173) 53 = .ok (.ireturn, 1) := (congrArg (fun c => decode c 53) zeq173).trans (by decide +kernel)
theorem c173 {d : Nat} {M : zM} {Q : Option Value → zM → Prop} {D : yD} {κ : Nat} {x y : Int32} (hR : RX M D κ) (k : Q (some (.int (sRef D x y))) M) : qC (d + 3) 173 [.ref 136, .int x, .int y] M Q := by
  refine qC_of (by decide) (Nat.le_of_ble_eq_true rfl) ?_
  have hC := hR.1
  have hX := hC.1
  have hO : OKW (dT D) (dc D) (dW D) := hC.2.2.1
  have hc6 := hO.1.1
  have hL : XLo [] M (some (dL D)) := hC.2.2.2.2.2.2.1
  have hSa : ∀ s, s < 3 → XSa M s (dS D s) κ := hC.2.2.2.2.1
  have hTk := hC.k
  have hck := hC.2.2.2.2.2.1
  unfold sRef at k
  rcases zix_c x (n := 3) (by omega) with ⟨s, hs, rfl, es⟩ | ⟨es, ns⟩
  · rw [oz_s es] at k
    have hOs : OKS (dT D) (dc D) (dS D s) := hO.2.2 s hs
    have hg5 := hOs.1
    have hsa := hSa s hs
    by_cases h0 : gt (dS D s) = 0
    · have ey : yms D s = 12 := if_pos h0
      rw [ey, if_pos h0] at k
      rcases zix_c y (n := 12) (by omega) with ⟨i, hi, rfl, ei⟩ | ⟨ei, ni⟩
      · rw [oz_s ei] at k
        refine q_iload_n d173_0 rfl ?_
        refine q_s1 d173_1 (Or.inl rfl) rfl (Nat.le_of_ble_eq_true rfl) (c169t (by omega) ?_)
        refine n0_eq 17 d173_4 (by decide) (by decide) (fun q => absurd q (by decide)) (fun _ => ?_)
        refine q_iload_n d173_7 rfl ?_
        refine q_iconstN (z := 0) d173_8 ?_
        refine q_bipush (x := nI 11) d173_9 rfl ?_
        refine q_s3 d173_11 (Or.inl rfl) rfl (Nat.le_of_ble_eq_true rfl) (c131t ⟨by omega, by omega⟩ (by omega) ?_)
        refine n0_ne 20 d173_14 (by decide) (by decide) (fun _ => ?_) (fun q => absurd q (by decide))
        refine q_aload_n d173_20 rfl ?_
        refine q_getr (c := 8) (f := 11) d173_21 ⟨rfl, rfl⟩ (xk_136 hX) (xf_states hX) ?_
        refine q_iload_n d173_24 rfl ?_
        refine n_iald d173_25 (xk_states hX) (by omega) (by decide) (hSa _ (by omega)).1.1 ?_
        refine n0_ne 32 d173_26 (by decide) (by omega) (fun h26 => (False.elim (h26 h0))) (fun h26 => ?_)
        refine q_bipush (x := (-3)) d173_29 rfl ?_
        refine q_iret d173_31 rfl ?_
        exact k
      · rw [oz_n ei] at k
        refine q_iload_n d173_0 rfl ?_
        refine q_s1 d173_1 (Or.inl rfl) rfl (Nat.le_of_ble_eq_true rfl) (c169t (by omega) ?_)
        refine n0_eq 17 d173_4 (by decide) (by decide) (fun q => absurd q (by decide)) (fun _ => ?_)
        refine q_iload_n d173_7 rfl ?_
        refine q_iconstN (z := 0) d173_8 ?_
        refine q_bipush (x := nI 11) d173_9 rfl ?_
        refine q_s3 d173_11 (Or.inl rfl) rfl (Nat.le_of_ble_eq_true rfl) (c131f (by decide) (by have := zix_none ei; omega) (by decide) ?_)
        refine n0_ne 20 d173_14 (by decide) (by decide) (fun q => absurd q (by decide)) (fun _ => ?_)
        refine q_bipush (x := (-2)) d173_17 rfl ?_
        refine q_iret d173_19 rfl ?_
        exact k
    · have hx : gx (dS D s) < dc D := hOs.2.1 h0
      have hn := (hO.1.2 _ hx).n
      have hx1 : zi M 176 s = nI (gx (dS D s)) := hsa.1.2.trans (if_neg h0)
      have ey : yms D s = tn (dT D (gx (dS D s))) := if_neg h0
      rw [ey, if_neg h0] at k
      rcases zix_c y (n := tn (dT D (gx (dS D s)))) (by omega) with ⟨i, hi, rfl, ei⟩ | ⟨ei, ni⟩
      · rw [oz_s ei] at k
        refine q_iload_n d173_0 rfl ?_
        refine q_s1 d173_1 (Or.inl rfl) rfl (Nat.le_of_ble_eq_true rfl) (c169t (by omega) ?_)
        refine n0_eq 17 d173_4 (by decide) (by decide) (fun q => absurd q (by decide)) (fun _ => ?_)
        refine q_iload_n d173_7 rfl ?_
        refine q_iconstN (z := 0) d173_8 ?_
        refine q_bipush (x := nI 11) d173_9 rfl ?_
        refine q_s3 d173_11 (Or.inl rfl) rfl (Nat.le_of_ble_eq_true rfl) (c131t ⟨by omega, by omega⟩ (by omega) ?_)
        refine n0_ne 20 d173_14 (by decide) (by decide) (fun _ => ?_) (fun q => absurd q (by decide))
        refine q_aload_n d173_20 rfl ?_
        refine q_getr (c := 8) (f := 11) d173_21 ⟨rfl, rfl⟩ (xk_136 hX) (xf_states hX) ?_
        refine q_iload_n d173_24 rfl ?_
        refine n_iald d173_25 (xk_states hX) (by omega) (by decide) (hSa _ (by omega)).1.1 ?_
        refine n0_ne 32 d173_26 (by decide) (by omega) (fun h26 => ?_) (fun h26 => (False.elim (h0 h26)))
        refine q_iload_n d173_32 rfl ?_
        refine q_aload_n d173_33 rfl ?_
        refine q_getr (c := 8) (f := 1) d173_34 ⟨rfl, rfl⟩ (xk_136 hX) (xf_stepMany hX) ?_
        refine q_aload_n d173_37 rfl ?_
        refine q_getr (c := 8) (f := 12) d173_38 ⟨rfl, rfl⟩ (xk_136 hX) (xf_textOf hX) ?_
        refine q_iload_n d173_41 rfl ?_
        refine n_iald d173_42 (xk_textOf hX) (by omega) (by decide) hx1 ?_
        refine n_iald d173_43 (xk_stepMany hX) (by omega) (by decide) (hTk.1 _ (by omega)).1 ?_
        refine nc_ge 51 d173_44 (by decide) (by omega) (by omega) (fun h44 => (False.elim (by omega))) (fun h44 => ?_)
        refine q_iconstN (z := 0) d173_47 ?_
        refine q_goto 53 d173_48 (by decide) ?_
        refine q_iret d173_53 rfl ?_
        exact k
      · rw [oz_n ei] at k
        rcases zix_c y (n := 12) (by omega) with ⟨j, hj, rfl, ej⟩ | ⟨ej, nj⟩
        · have hj2 : tn (dT D (gx (dS D s))) ≤ j := Nat.le_of_not_lt (fun q => by rw [zix_in q (by omega)] at ei; cases ei)
          refine q_iload_n d173_0 rfl ?_
          refine q_s1 d173_1 (Or.inl rfl) rfl (Nat.le_of_ble_eq_true rfl) (c169t (by omega) ?_)
          refine n0_eq 17 d173_4 (by decide) (by decide) (fun q => absurd q (by decide)) (fun _ => ?_)
          refine q_iload_n d173_7 rfl ?_
          refine q_iconstN (z := 0) d173_8 ?_
          refine q_bipush (x := nI 11) d173_9 rfl ?_
          refine q_s3 d173_11 (Or.inl rfl) rfl (Nat.le_of_ble_eq_true rfl) (c131t ⟨by omega, by omega⟩ (by omega) ?_)
          refine n0_ne 20 d173_14 (by decide) (by decide) (fun _ => ?_) (fun q => absurd q (by decide))
          refine q_aload_n d173_20 rfl ?_
          refine q_getr (c := 8) (f := 11) d173_21 ⟨rfl, rfl⟩ (xk_136 hX) (xf_states hX) ?_
          refine q_iload_n d173_24 rfl ?_
          refine n_iald d173_25 (xk_states hX) (by omega) (by decide) (hSa _ (by omega)).1.1 ?_
          refine n0_ne 32 d173_26 (by decide) (by omega) (fun h26 => ?_) (fun h26 => (False.elim (h0 h26)))
          refine q_iload_n d173_32 rfl ?_
          refine q_aload_n d173_33 rfl ?_
          refine q_getr (c := 8) (f := 1) d173_34 ⟨rfl, rfl⟩ (xk_136 hX) (xf_stepMany hX) ?_
          refine q_aload_n d173_37 rfl ?_
          refine q_getr (c := 8) (f := 12) d173_38 ⟨rfl, rfl⟩ (xk_136 hX) (xf_textOf hX) ?_
          refine q_iload_n d173_41 rfl ?_
          refine n_iald d173_42 (xk_textOf hX) (by omega) (by decide) hx1 ?_
          refine n_iald d173_43 (xk_stepMany hX) (by omega) (by decide) (hTk.1 _ (by omega)).1 ?_
          refine nc_ge 51 d173_44 (by decide) (by omega) (by omega) (fun h44 => ?_) (fun h44 => (False.elim (by omega)))
          refine q_bipush (x := (-2)) d173_51 rfl ?_
          refine q_iret d173_53 rfl ?_
          exact k
        · refine q_iload_n d173_0 rfl ?_
          refine q_s1 d173_1 (Or.inl rfl) rfl (Nat.le_of_ble_eq_true rfl) (c169t (by omega) ?_)
          refine n0_eq 17 d173_4 (by decide) (by decide) (fun q => absurd q (by decide)) (fun _ => ?_)
          refine q_iload_n d173_7 rfl ?_
          refine q_iconstN (z := 0) d173_8 ?_
          refine q_bipush (x := nI 11) d173_9 rfl ?_
          refine q_s3 d173_11 (Or.inl rfl) rfl (Nat.le_of_ble_eq_true rfl) (c131f (by decide) (by have := zix_none ej; omega) (by decide) ?_)
          refine n0_ne 20 d173_14 (by decide) (by decide) (fun q => absurd q (by decide)) (fun _ => ?_)
          refine q_bipush (x := (-2)) d173_17 rfl ?_
          refine q_iret d173_19 rfl ?_
          exact k
  · rw [oz_n es] at k
    refine q_iload_n d173_0 rfl ?_
    refine q_s1 d173_1 (Or.inl rfl) rfl (Nat.le_of_ble_eq_true rfl) (c169f es ?_)
    refine n0_eq 17 d173_4 (by decide) (by decide) (fun _ => ?_) (fun q => absurd q (by decide))
    refine q_bipush (x := (-2)) d173_17 rfl ?_
    refine q_iret d173_19 rfl ?_
    exact k
theorem c173r {d : Nat} {M : zM} {Q : Option Value → zM → Prop} {D : yD} {κ : Nat} {x y r : Int32} (hR : RX M D κ) (h : sRef D x y = r) (k : Q (some (.int r)) M) : qC (d + 3) 173 [.ref 136, .int x, .int y] M Q := c173 hR (by rw [h]; exact k)
theorem d190_0 : decode (zB 190) 0 = .ok (.iload_n 2, 1) := (congrArg (fun c => decode c 0) zeq190).trans (by decide +kernel)
theorem d190_1 : decode (zB 190) 1 = .ok (.iconst 0, 1) := (congrArg (fun c => decode c 1) zeq190).trans (by decide +kernel)
theorem d190_2 : decode (zB 190) 2 = .ok (.iconst 2, 1) := (congrArg (fun c => decode c 2) zeq190).trans (by decide +kernel)
theorem d190_3 : decode (zB 190) 3 = .ok (.invokestatic 112, 3) := (congrArg (fun c => decode c 3) zeq190).trans (by decide +kernel)
theorem d190_6 : decode (zB 190) 6 = .ok (.ifCond .ne 6, 3) := (congrArg (fun c => decode c 6) zeq190).trans (by decide +kernel)
theorem d190_9 : decode (zB 190) 9 = .ok (.bipush (-2), 2) := (congrArg (fun c => decode c 9) zeq190).trans (by decide +kernel)
theorem d190_11 : decode (zB 190) 11 = .ok (.ireturn, 1) := (congrArg (fun c => decode c 11) zeq190).trans (by decide +kernel)
theorem d190_12 : decode (zB 190) 12 = .ok (.iload_n 1, 1) := (congrArg (fun c => decode c 12) zeq190).trans (by decide +kernel)
theorem d190_13 : decode (zB 190) 13 = .ok (.iconst 0, 1) := (congrArg (fun c => decode c 13) zeq190).trans (by decide +kernel)
theorem d190_14 : decode (zB 190) 14 = .ok (.aload_n 0, 1) := (congrArg (fun c => decode c 14) zeq190).trans (by decide +kernel)
theorem d190_15 : decode (zB 190) 15 = .ok (.getfield 301, 3) := (congrArg (fun c => decode c 15) zeq190).trans (by decide +kernel)
theorem d190_18 : decode (zB 190) 18 = .ok (.iconst 1, 1) := (congrArg (fun c => decode c 18) zeq190).trans (by decide +kernel)
theorem d190_19 : decode (zB 190) 19 = .ok (.isub, 1) := (congrArg (fun c => decode c 19) zeq190).trans (by decide +kernel)
theorem d190_20 : decode (zB 190) 20 = .ok (.invokestatic 112, 3) := (congrArg (fun c => decode c 20) zeq190).trans (by decide +kernel)
theorem d190_23 : decode (zB 190) 23 = .ok (.ifCond .ne 6, 3) := (congrArg (fun c => decode c 23) zeq190).trans (by decide +kernel)
theorem d190_26 : decode (zB 190) 26 = .ok (.bipush (-12), 2) := (congrArg (fun c => decode c 26) zeq190).trans (by decide +kernel)
theorem d190_28 : decode (zB 190) 28 = .ok (.ireturn, 1) := (congrArg (fun c => decode c 28) zeq190).trans (by decide +kernel)
theorem d190_29 : decode (zB 190) 29 = .ok (.iload_n 2, 1) := (congrArg (fun c => decode c 29) zeq190).trans (by decide +kernel)
theorem d190_30 : decode (zB 190) 30 = .ok (.ifCond .ne 12, 3) := (congrArg (fun c => decode c 30) zeq190).trans (by decide +kernel)
theorem d190_33 : decode (zB 190) 33 = .ok (.aload_n 0, 1) := (congrArg (fun c => decode c 33) zeq190).trans (by decide +kernel)
theorem d190_34 : decode (zB 190) 34 = .ok (.getfield 67, 3) := (congrArg (fun c => decode c 34) zeq190).trans (by decide +kernel)
theorem d190_37 : decode (zB 190) 37 = .ok (.iload_n 1, 1) := (congrArg (fun c => decode c 37) zeq190).trans (by decide +kernel)
theorem d190_38 : decode (zB 190) 38 = .ok (.iaload, 1) := (congrArg (fun c => decode c 38) zeq190).trans (by decide +kernel)
theorem d190_39 : decode (zB 190) 39 = .ok (.goto 23, 3) := (congrArg (fun c => decode c 39) zeq190).trans (by decide +kernel)
theorem d190_42 : decode (zB 190) 42 = .ok (.iload_n 2, 1) := (congrArg (fun c => decode c 42) zeq190).trans (by decide +kernel)
theorem d190_43 : decode (zB 190) 43 = .ok (.iconst 1, 1) := (congrArg (fun c => decode c 43) zeq190).trans (by decide +kernel)
theorem d190_44 : decode (zB 190) 44 = .ok (.if_icmp .ne 12, 3) := (congrArg (fun c => decode c 44) zeq190).trans (by decide +kernel)
theorem d190_47 : decode (zB 190) 47 = .ok (.aload_n 0, 1) := (congrArg (fun c => decode c 47) zeq190).trans (by decide +kernel)
theorem d190_48 : decode (zB 190) 48 = .ok (.getfield 70, 3) := (congrArg (fun c => decode c 48) zeq190).trans (by decide +kernel)
theorem d190_51 : decode (zB 190) 51 = .ok (.iload_n 1, 1) := (congrArg (fun c => decode c 51) zeq190).trans (by decide +kernel)
theorem d190_52 : decode (zB 190) 52 = .ok (.iaload, 1) := (congrArg (fun c => decode c 52) zeq190).trans (by decide +kernel)
theorem d190_53 : decode (zB 190) 53 = .ok (.goto 9, 3) := (congrArg (fun c => decode c 53) zeq190).trans (by decide +kernel)
theorem d190_56 : decode (zB 190) 56 = .ok (.aload_n 0, 1) := (congrArg (fun c => decode c 56) zeq190).trans (by decide +kernel)
theorem d190_57 : decode (zB 190) 57 = .ok (.getfield 73, 3) := (congrArg (fun c => decode c 57) zeq190).trans (by decide +kernel)
theorem d190_60 : decode (zB 190) 60 = .ok (.iload_n 1, 1) := (congrArg (fun c => decode c 60) zeq190).trans (by decide +kernel)
theorem d190_61 : decode (zB 190) 61 = .ok (.iaload, 1) := (congrArg (fun c => decode c 61) zeq190).trans (by decide +kernel)
theorem d190_62 : decode (zB 190) 62 = .ok (.ireturn, 1) := (congrArg (fun c => decode c 62) zeq190).trans (by decide +kernel)
theorem x190 {d : Nat} {M : zM} {Q : Option Value → zM → Prop} {D : yD} {κ : Nat} {x y : Int32} (hR : RX M D κ) (hD : OKD D) (hκ : κ + 4000 < 2147483648) (k : ∀ M', RX M' D κ → Fi FY M M' → Q (some (.int (sLine D x y))) M') : qC (d + 2) 190 [.ref 136, .int x, .int y] M Q := by
  refine qC_of (by decide) (Nat.le_of_ble_eq_true rfl) ?_
  have hC := hR.1
  have hX := hC.1
  have hO : OKW (dT D) (dc D) (dW D) := hC.2.2.1
  have hc6 := hO.1.1
  have hL : XLo [] M (some (dL D)) := hC.2.2.2.2.2.2.1
  have hSa : ∀ s, s < 3 → XSa M s (dS D s) κ := hC.2.2.2.2.1
  have hTk := hC.k
  have hck := hC.2.2.2.2.2.1
  have h240 := hD.2.1
  unfold sLine at k
  rcases zix_c y (n := 3) (by omega) with ⟨w, hw, rfl, ew⟩ | ⟨ew, nw⟩
  · rw [oz_s ew] at k
    rcases zix_c x (n := (dL D).length) (by omega) with ⟨j, hj, rfl, ej⟩ | ⟨ej, nj⟩
    · rw [oz_s ej] at k
      rcases (show w = 0 ∨ w = 1 ∨ w = 2 by omega) with rfl | rfl | rfl
      · refine q_iload_n d190_0 rfl ?_
        refine q_iconstN (z := 0) d190_1 ?_
        refine q_iconstN (z := 2) d190_2 ?_
        refine q_s3 d190_3 (Or.inl rfl) rfl (Nat.le_of_ble_eq_true rfl) (c131t ⟨by omega, by omega⟩ (by omega) ?_)
        refine n0_ne 12 d190_6 (by decide) (by decide) (fun _ => ?_) (fun q => absurd q (by decide))
        refine q_iload_n d190_12 rfl ?_
        refine q_iconstN (z := 0) d190_13 ?_
        refine q_aload_n d190_14 rfl ?_
        refine q_getv (c := 8) (f := 24) d190_15 ⟨rfl, by decide⟩ (xk_136 hX) hL.2.1 ?_
        refine q_iconstN (z := 1) d190_18 ?_
        refine q_isub d190_19 ?_
        refine q_s3 d190_20 (Or.inl rfl) rfl (Nat.le_of_ble_eq_true rfl) (c131st (by omega) (by omega) ?_)
        refine n0_ne 29 d190_23 (by decide) (by decide) (fun _ => ?_) (fun q => absurd q (by decide))
        refine q_iload_n d190_29 rfl ?_
        refine n0_ne 42 d190_30 (by decide) (by decide) (fun q => absurd q (by decide)) (fun _ => ?_)
        refine q_aload_n d190_33 rfl ?_
        refine q_getr (c := 8) (f := 26) d190_34 ⟨rfl, rfl⟩ (xk_136 hX) (xf_acts hX) ?_
        refine q_iload_n d190_37 rfl ?_
        refine n_iald d190_38 (xk_acts hX) (by omega) (by decide) (hL.2.2 _ (by omega)).1 ?_
        refine q_goto 62 d190_39 (by decide) ?_
        refine q_iret d190_62 rfl ?_
        exact k _ hR (Fi.refl _ _)
      · refine q_iload_n d190_0 rfl ?_
        refine q_iconstN (z := 0) d190_1 ?_
        refine q_iconstN (z := 2) d190_2 ?_
        refine q_s3 d190_3 (Or.inl rfl) rfl (Nat.le_of_ble_eq_true rfl) (c131t ⟨by omega, by omega⟩ (by omega) ?_)
        refine n0_ne 12 d190_6 (by decide) (by decide) (fun _ => ?_) (fun q => absurd q (by decide))
        refine q_iload_n d190_12 rfl ?_
        refine q_iconstN (z := 0) d190_13 ?_
        refine q_aload_n d190_14 rfl ?_
        refine q_getv (c := 8) (f := 24) d190_15 ⟨rfl, by decide⟩ (xk_136 hX) hL.2.1 ?_
        refine q_iconstN (z := 1) d190_18 ?_
        refine q_isub d190_19 ?_
        refine q_s3 d190_20 (Or.inl rfl) rfl (Nat.le_of_ble_eq_true rfl) (c131st (by omega) (by omega) ?_)
        refine n0_ne 29 d190_23 (by decide) (by decide) (fun _ => ?_) (fun q => absurd q (by decide))
        refine q_iload_n d190_29 rfl ?_
        refine n0_ne 42 d190_30 (by decide) (by decide) (fun _ => ?_) (fun q => absurd q (by decide))
        refine q_iload_n d190_42 rfl ?_
        refine q_iconstN (z := 1) d190_43 ?_
        refine nc_ne 56 d190_44 (by decide) (by decide) (by decide) (fun q => absurd q (by decide)) (fun _ => ?_)
        refine q_aload_n d190_47 rfl ?_
        refine q_getr (c := 8) (f := 27) d190_48 ⟨rfl, rfl⟩ (xk_136 hX) (xf_whose hX) ?_
        refine q_iload_n d190_51 rfl ?_
        refine n_iald d190_52 (xk_whose hX) (by omega) (by decide) (hL.2.2 _ (by omega)).2.1 ?_
        refine q_goto 62 d190_53 (by decide) ?_
        refine q_iret d190_62 rfl ?_
        exact k _ hR (Fi.refl _ _)
      · refine q_iload_n d190_0 rfl ?_
        refine q_iconstN (z := 0) d190_1 ?_
        refine q_iconstN (z := 2) d190_2 ?_
        refine q_s3 d190_3 (Or.inl rfl) rfl (Nat.le_of_ble_eq_true rfl) (c131t ⟨by omega, by omega⟩ (by omega) ?_)
        refine n0_ne 12 d190_6 (by decide) (by decide) (fun _ => ?_) (fun q => absurd q (by decide))
        refine q_iload_n d190_12 rfl ?_
        refine q_iconstN (z := 0) d190_13 ?_
        refine q_aload_n d190_14 rfl ?_
        refine q_getv (c := 8) (f := 24) d190_15 ⟨rfl, by decide⟩ (xk_136 hX) hL.2.1 ?_
        refine q_iconstN (z := 1) d190_18 ?_
        refine q_isub d190_19 ?_
        refine q_s3 d190_20 (Or.inl rfl) rfl (Nat.le_of_ble_eq_true rfl) (c131st (by omega) (by omega) ?_)
        refine n0_ne 29 d190_23 (by decide) (by decide) (fun _ => ?_) (fun q => absurd q (by decide))
        refine q_iload_n d190_29 rfl ?_
        refine n0_ne 42 d190_30 (by decide) (by decide) (fun _ => ?_) (fun q => absurd q (by decide))
        refine q_iload_n d190_42 rfl ?_
        refine q_iconstN (z := 1) d190_43 ?_
        refine nc_ne 56 d190_44 (by decide) (by decide) (by decide) (fun _ => ?_) (fun q => absurd q (by decide))
        refine q_aload_n d190_56 rfl ?_
        refine q_getr (c := 8) (f := 28) d190_57 ⟨rfl, rfl⟩ (xk_136 hX) (xf_which hX) ?_
        refine q_iload_n d190_60 rfl ?_
        refine n_iald d190_61 (xk_which hX) (by omega) (by decide) (hL.2.2 _ (by omega)).2.2 ?_
        refine q_iret d190_62 rfl ?_
        exact k _ hR (Fi.refl _ _)
    · rw [oz_n ej] at k
      refine q_iload_n d190_0 rfl ?_
      refine q_iconstN (z := 0) d190_1 ?_
      refine q_iconstN (z := 2) d190_2 ?_
      refine q_s3 d190_3 (Or.inl rfl) rfl (Nat.le_of_ble_eq_true rfl) (c131t ⟨by omega, by omega⟩ (by omega) ?_)
      refine n0_ne 12 d190_6 (by decide) (by decide) (fun _ => ?_) (fun q => absurd q (by decide))
      refine q_iload_n d190_12 rfl ?_
      refine q_iconstN (z := 0) d190_13 ?_
      refine q_aload_n d190_14 rfl ?_
      refine q_getv (c := 8) (f := 24) d190_15 ⟨rfl, by decide⟩ (xk_136 hX) hL.2.1 ?_
      refine q_iconstN (z := 1) d190_18 ?_
      refine q_isub d190_19 ?_
      refine q_s3 d190_20 (Or.inl rfl) rfl (Nat.le_of_ble_eq_true rfl) (c131sf ej (by omega) ?_)
      refine n0_ne 29 d190_23 (by decide) (by decide) (fun q => absurd q (by decide)) (fun _ => ?_)
      refine q_bipush (x := (-12)) d190_26 rfl ?_
      refine q_iret d190_28 rfl ?_
      exact k _ hR (Fi.refl _ _)
  · rw [oz_n ew] at k
    refine q_iload_n d190_0 rfl ?_
    refine q_iconstN (z := 0) d190_1 ?_
    refine q_iconstN (z := 2) d190_2 ?_
    refine q_s3 d190_3 (Or.inl rfl) rfl (Nat.le_of_ble_eq_true rfl) (c131f (by decide) (by have := zix_none ew; omega) (by decide) ?_)
    refine n0_ne 12 d190_6 (by decide) (by decide) (fun q => absurd q (by decide)) (fun _ => ?_)
    refine q_bipush (x := (-2)) d190_9 rfl ?_
    refine q_iret d190_11 rfl ?_
    exact k _ hR (Fi.refl _ _)
theorem d187_0 : decode (zB 187) 0 = .ok (.aload_n 0, 1) := (congrArg (fun c => decode c 0) zeq187).trans (by decide +kernel)
theorem d187_1 : decode (zB 187) 1 = .ok (.iload_n 1, 1) := (congrArg (fun c => decode c 1) zeq187).trans (by decide +kernel)
theorem d187_2 : decode (zB 187) 2 = .ok (.iload_n 2, 1) := (congrArg (fun c => decode c 2) zeq187).trans (by decide +kernel)
theorem d187_3 : decode (zB 187) 3 = .ok (.invokevirtual 351, 3) := (congrArg (fun c => decode c 3) zeq187).trans (by decide +kernel)
theorem d187_6 : decode (zB 187) 6 = .ok (.istore_n 3, 1) := (congrArg (fun c => decode c 6) zeq187).trans (by decide +kernel)
theorem d187_7 : decode (zB 187) 7 = .ok (.iload_n 3, 1) := (congrArg (fun c => decode c 7) zeq187).trans (by decide +kernel)
theorem d187_8 : decode (zB 187) 8 = .ok (.ifCond .eq 7, 3) := (congrArg (fun c => decode c 8) zeq187).trans (by decide +kernel)
theorem d187_11 : decode (zB 187) 11 = .ok (.iload_n 3, 1) := (congrArg (fun c => decode c 11) zeq187).trans (by decide +kernel)
theorem d187_12 : decode (zB 187) 12 = .ok (.goto 11, 3) := (congrArg (fun c => decode c 12) zeq187).trans (by decide +kernel)
theorem d187_15 : decode (zB 187) 15 = .ok (.aload_n 0, 1) := (congrArg (fun c => decode c 15) zeq187).trans (by decide +kernel)
theorem d187_16 : decode (zB 187) 16 = .ok (.getfield 54, 3) := (congrArg (fun c => decode c 16) zeq187).trans (by decide +kernel)
theorem d187_19 : decode (zB 187) 19 = .ok (.iload_n 1, 1) := (congrArg (fun c => decode c 19) zeq187).trans (by decide +kernel)
theorem d187_20 : decode (zB 187) 20 = .ok (.aaload, 1) := (congrArg (fun c => decode c 20) zeq187).trans (by decide +kernel)
theorem d187_21 : decode (zB 187) 21 = .ok (.iload_n 2, 1) := (congrArg (fun c => decode c 21) zeq187).trans (by decide +kernel)
theorem d187_22 : decode (zB 187) 22 = .ok (.iaload, 1) := (congrArg (fun c => decode c 22) zeq187).trans (by decide +kernel)
theorem d187_23 : decode (zB 187) 23 = .ok (.ireturn, 1) := (congrArg (fun c => decode c 23) zeq187).trans (by decide +kernel)
theorem x187 {d : Nat} {M : zM} {Q : Option Value → zM → Prop} {D : yD} {κ : Nat} {x y : Int32} (hR : RX M D κ) (hD : OKD D) (hκ : κ + 4000 < 2147483648) (k : ∀ M', RX M' D κ → Fi FY M M' → Q (some (.int (sWhy D x y))) M') : qC (d + 4) 187 [.ref 136, .int x, .int y] M Q := by
  refine qC_of (by decide) (Nat.le_of_ble_eq_true rfl) ?_
  have hC := hR.1
  have hX := hC.1
  have hO : OKW (dT D) (dc D) (dW D) := hC.2.2.1
  have hc6 := hO.1.1
  have hL : XLo [] M (some (dL D)) := hC.2.2.2.2.2.2.1
  have hSa : ∀ s, s < 3 → XSa M s (dS D s) κ := hC.2.2.2.2.1
  have hTk := hC.k
  have hck := hC.2.2.2.2.2.1
  have h240 := hD.2.1
  unfold sWhy at k
  rcases zix_c x (n := 3) (by omega) with ⟨s, hs, rfl, es⟩ | ⟨es, ns⟩
  · rw [oz_s es] at k
    have hOs : OKS (dT D) (dc D) (dS D s) := hO.2.2 s hs
    have hg5 := hOs.1
    have hsa := hSa s hs
    have hym : yms D s ≤ 12 := by
      unfold yms
      by_cases h0 : gt (dS D s) = 0
      · rw [if_pos h0]; omega
      · rw [if_neg h0]; exact (hO.1.2 _ (hOs.2.1 h0)).n
    rcases zix_c y (n := yms D s) (by omega) with ⟨i, hi, rfl, ei⟩ | ⟨ei, ni⟩
    · rw [oz_s ei] at k
      by_cases h0 : gt (dS D s) = 0
      · rw [if_pos h0] at k
        refine q_aload_n d187_0 rfl ?_
        refine q_iload_n d187_1 rfl ?_
        refine q_iload_n d187_2 rfl ?_
        refine q_v2 d187_3 rfl rfl (xk_136 hX) (Nat.le_of_ble_eq_true rfl) (c173r hR (by unfold sRef; rw [oz_s es, oz_s ei, if_pos h0]) ?_)
        refine q_istore_n d187_6 (by decide) rfl ?_
        refine q_iload_n d187_7 rfl ?_
        refine i0_eq 15 d187_8 (by decide) (fun h8 => (False.elim (absurd h8 (by decide)))) (fun h8 => ?_)
        refine q_iload_n d187_11 rfl ?_
        refine q_goto 23 d187_12 (by decide) ?_
        refine q_iret d187_23 rfl ?_
        exact k _ hR (Fi.refl _ _)
      · rw [if_neg h0] at k
        have hx : gx (dS D s) < dc D := hOs.2.1 h0
        have hn := (hO.1.2 _ hx).n
        have hx1 : zi M 176 s = nI (gx (dS D s)) := hsa.1.2.trans (if_neg h0)
        have ey : yms D s = tn (dT D (gx (dS D s))) := if_neg h0
        have hi2 : i < tn (dT D (gx (dS D s))) := by rw [← ey]; exact hi
        refine q_aload_n d187_0 rfl ?_
        refine q_iload_n d187_1 rfl ?_
        refine q_iload_n d187_2 rfl ?_
        refine q_v2 d187_3 rfl rfl (xk_136 hX) (Nat.le_of_ble_eq_true rfl) (c173r hR (by unfold sRef; rw [oz_s es, oz_s ei, if_neg h0]) ?_)
        refine q_istore_n d187_6 (by decide) rfl ?_
        refine q_iload_n d187_7 rfl ?_
        refine n0_eq 15 d187_8 (by decide) (by decide) (fun _ => ?_) (fun q => absurd q (by decide))
        refine q_aload_n d187_15 rfl ?_
        refine q_getr (c := 8) (f := 17) d187_16 ⟨rfl, rfl⟩ (xk_136 hX) (xf_whys hX) ?_
        refine q_iload_n d187_19 rfl ?_
        refine n_aald d187_20 (xk_whys hX) (by decide) (by omega) (by decide) (xr_whys hX (by omega)) ?_
        refine q_iload_n d187_21 rfl ?_
        refine n_iald d187_22 (xa_whys hX (by omega)) (by omega) (by decide) ((hSa _ (by omega)).2.1 _ (by omega)).2.2.1 ?_
        refine q_iret d187_23 rfl ?_
        exact k _ hR (Fi.refl _ _)
    · rw [oz_n ei] at k
      refine q_aload_n d187_0 rfl ?_
      refine q_iload_n d187_1 rfl ?_
      refine q_iload_n d187_2 rfl ?_
      refine q_v2 d187_3 rfl rfl (xk_136 hX) (Nat.le_of_ble_eq_true rfl) (c173r hR (by unfold sRef; rw [oz_s es, oz_n ei]) ?_)
      refine q_istore_n d187_6 (by decide) rfl ?_
      refine q_iload_n d187_7 rfl ?_
      refine i0_eq 15 d187_8 (by decide) (fun h8 => (False.elim (absurd h8 (by decide)))) (fun h8 => ?_)
      refine q_iload_n d187_11 rfl ?_
      refine q_goto 23 d187_12 (by decide) ?_
      refine q_iret d187_23 rfl ?_
      exact k _ hR (Fi.refl _ _)
  · rw [oz_n es] at k
    refine q_aload_n d187_0 rfl ?_
    refine q_iload_n d187_1 rfl ?_
    refine q_iload_n d187_2 rfl ?_
    refine q_v2 d187_3 rfl rfl (xk_136 hX) (Nat.le_of_ble_eq_true rfl) (c173r hR (by unfold sRef; rw [oz_n es]) ?_)
    refine q_istore_n d187_6 (by decide) rfl ?_
    refine q_iload_n d187_7 rfl ?_
    refine i0_eq 15 d187_8 (by decide) (fun h8 => (False.elim (absurd h8 (by decide)))) (fun h8 => ?_)
    refine q_iload_n d187_11 rfl ?_
    refine q_goto 23 d187_12 (by decide) ?_
    refine q_iret d187_23 rfl ?_
    exact k _ hR (Fi.refl _ _)
/-! ===== the reference: its calls ===== -/
theorem d188_0 : decode (zB 188) 0 = .ok (.iload_n 1, 1) := (congrArg (fun c => decode c 0) zeq188).trans (by decide +kernel)
theorem d188_1 : decode (zB 188) 1 = .ok (.invokestatic 357, 3) := (congrArg (fun c => decode c 1) zeq188).trans (by decide +kernel)
theorem d188_4 : decode (zB 188) 4 = .ok (.ifCond .eq 14, 3) := (congrArg (fun c => decode c 4) zeq188).trans (by decide +kernel)
theorem d188_7 : decode (zB 188) 7 = .ok (.iload_n 2, 1) := (congrArg (fun c => decode c 7) zeq188).trans (by decide +kernel)
theorem d188_8 : decode (zB 188) 8 = .ok (.iconst 0, 1) := (congrArg (fun c => decode c 8) zeq188).trans (by decide +kernel)
theorem d188_9 : decode (zB 188) 9 = .ok (.sipush 9999, 3) := (congrArg (fun c => decode c 9) zeq188).trans (by decide +kernel)
theorem d188_12 : decode (zB 188) 12 = .ok (.invokestatic 112, 3) := (congrArg (fun c => decode c 12) zeq188).trans (by decide +kernel)
theorem d188_15 : decode (zB 188) 15 = .ok (.ifCond .ne 6, 3) := (congrArg (fun c => decode c 15) zeq188).trans (by decide +kernel)
theorem d188_18 : decode (zB 188) 18 = .ok (.bipush (-2), 2) := (congrArg (fun c => decode c 18) zeq188).trans (by decide +kernel)
theorem d188_20 : decode (zB 188) 20 = .ok (.ireturn, 1) := (congrArg (fun c => decode c 20) zeq188).trans (by decide +kernel)
theorem d188_21 : decode (zB 188) 21 = .ok (.aload_n 0, 1) := (congrArg (fun c => decode c 21) zeq188).trans (by decide +kernel)
theorem d188_22 : decode (zB 188) 22 = .ok (.getfield 301, 3) := (congrArg (fun c => decode c 22) zeq188).trans (by decide +kernel)
theorem d188_25 : decode (zB 188) 25 = .ok (.sipush 240, 3) := (congrArg (fun c => decode c 25) zeq188).trans (by decide +kernel)
theorem d188_28 : decode (zB 188) 28 = .ok (.if_icmp .ne 6, 3) := (congrArg (fun c => decode c 28) zeq188).trans (by decide +kernel)
theorem d188_31 : decode (zB 188) 31 = .ok (.bipush (-4), 2) := (congrArg (fun c => decode c 31) zeq188).trans (by decide +kernel)
theorem d188_33 : decode (zB 188) 33 = .ok (.ireturn, 1) := (congrArg (fun c => decode c 33) zeq188).trans (by decide +kernel)
theorem d188_34 : decode (zB 188) 34 = .ok (.aload_n 0, 1) := (congrArg (fun c => decode c 34) zeq188).trans (by decide +kernel)
theorem d188_35 : decode (zB 188) 35 = .ok (.getfield 33, 3) := (congrArg (fun c => decode c 35) zeq188).trans (by decide +kernel)
theorem d188_38 : decode (zB 188) 38 = .ok (.iload_n 1, 1) := (congrArg (fun c => decode c 38) zeq188).trans (by decide +kernel)
theorem d188_39 : decode (zB 188) 39 = .ok (.iaload, 1) := (congrArg (fun c => decode c 39) zeq188).trans (by decide +kernel)
theorem d188_40 : decode (zB 188) 40 = .ok (.istore_n 3, 1) := (congrArg (fun c => decode c 40) zeq188).trans (by decide +kernel)
theorem d188_41 : decode (zB 188) 41 = .ok (.aload_n 0, 1) := (congrArg (fun c => decode c 41) zeq188).trans (by decide +kernel)
theorem d188_42 : decode (zB 188) 42 = .ok (.getfield 33, 3) := (congrArg (fun c => decode c 42) zeq188).trans (by decide +kernel)
theorem d188_45 : decode (zB 188) 45 = .ok (.iload_n 1, 1) := (congrArg (fun c => decode c 45) zeq188).trans (by decide +kernel)
theorem d188_46 : decode (zB 188) 46 = .ok (.iload_n 2, 1) := (congrArg (fun c => decode c 46) zeq188).trans (by decide +kernel)
theorem d188_47 : decode (zB 188) 47 = .ok (.iastore, 1) := (congrArg (fun c => decode c 47) zeq188).trans (by decide +kernel)
theorem d188_48 : decode (zB 188) 48 = .ok (.aload_n 0, 1) := (congrArg (fun c => decode c 48) zeq188).trans (by decide +kernel)
theorem d188_49 : decode (zB 188) 49 = .ok (.bipush 6, 2) := (congrArg (fun c => decode c 49) zeq188).trans (by decide +kernel)
theorem d188_51 : decode (zB 188) 51 = .ok (.iload_n 1, 1) := (congrArg (fun c => decode c 51) zeq188).trans (by decide +kernel)
theorem d188_52 : decode (zB 188) 52 = .ok (.iload_n 2, 1) := (congrArg (fun c => decode c 52) zeq188).trans (by decide +kernel)
theorem d188_53 : decode (zB 188) 53 = .ok (.invokevirtual 307, 3) := (congrArg (fun c => decode c 53) zeq188).trans (by decide +kernel)
theorem d188_56 : decode (zB 188) 56 = .ok (.iload_n 3, 1) := (congrArg (fun c => decode c 56) zeq188).trans (by decide +kernel)
theorem d188_57 : decode (zB 188) 57 = .ok (.ireturn, 1) := (congrArg (fun c => decode c 57) zeq188).trans (by decide +kernel)
theorem x188 {d : Nat} {M : zM} {Q : Option Value → zM → Prop} {D : yD} {κ : Nat} {x y : Int32} (hR : RX M D κ) (hD : OKD D) (hκ : κ + 4000 < 2147483648) (k : ∀ M' κ', κ' ≤ κ + 240 → RX M' (sSet D x y).2 κ' → Fi FY M M' → Q (some (.int (sSet D x y).1)) M') : qC (d + 3) 188 [.ref 136, .int x, .int y] M Q := by
  refine qC_of (by decide) (Nat.le_of_ble_eq_true rfl) ?_
  have hC := hR.1
  have hX := hC.1
  have hO : OKW (dT D) (dc D) (dW D) := hC.2.2.1
  have hc6 := hO.1.1
  have hL : XLo [] M (some (dL D)) := hC.2.2.2.2.2.2.1
  have hSa : ∀ s, s < 3 → XSa M s (dS D s) κ := hC.2.2.2.2.1
  have hTk := hC.k
  have hck := hC.2.2.2.2.2.1
  have h240 := hD.2.1
  unfold sSet at k
  rcases zix_c x (n := 6) (by omega) with ⟨a, ha, rfl, ea⟩ | ⟨ea, na⟩
  · rw [oz_s ea] at k
    rcases zix_c y (n := 10000) (by omega) with ⟨v, hv, rfl, ev⟩ | ⟨ev, nv⟩
    · rw [oz_s ev] at k
      by_cases hf : 240 ≤ (dL D).length
      · rw [if_pos hf] at k
        refine q_iload_n d188_0 rfl ?_
        refine q_s1 d188_1 (Or.inl rfl) rfl (Nat.le_of_ble_eq_true rfl) (c189t (by omega) ?_)
        refine n0_eq 18 d188_4 (by decide) (by decide) (fun q => absurd q (by decide)) (fun _ => ?_)
        refine q_iload_n d188_7 rfl ?_
        refine q_iconstN (z := 0) d188_8 ?_
        refine q_sipush (x := nI 9999) d188_9 rfl ?_
        refine q_s3 d188_12 (Or.inl rfl) rfl (Nat.le_of_ble_eq_true rfl) (c131t ⟨by omega, by omega⟩ (by omega) ?_)
        refine n0_ne 21 d188_15 (by decide) (by decide) (fun _ => ?_) (fun q => absurd q (by decide))
        refine q_aload_n d188_21 rfl ?_
        refine q_getv (c := 8) (f := 24) d188_22 ⟨rfl, by decide⟩ (xk_136 hX) hL.2.1 ?_
        refine q_sipush (x := nI 240) d188_25 rfl ?_
        refine nc_ne 34 d188_28 (by decide) (by omega) (by omega) (fun h28 => (False.elim (by omega))) (fun h28 => ?_)
        refine q_bipush (x := (-4)) d188_31 rfl ?_
        refine q_iret d188_33 rfl ?_
        exact k _ κ (Nat.le_add_right _ _) hR (Fi.refl _ _)
      · rw [if_neg hf] at k
        refine q_iload_n d188_0 rfl ?_
        refine q_s1 d188_1 (Or.inl rfl) rfl (Nat.le_of_ble_eq_true rfl) (c189t (by omega) ?_)
        refine n0_eq 18 d188_4 (by decide) (by decide) (fun q => absurd q (by decide)) (fun _ => ?_)
        refine q_iload_n d188_7 rfl ?_
        refine q_iconstN (z := 0) d188_8 ?_
        refine q_sipush (x := nI 9999) d188_9 rfl ?_
        refine q_s3 d188_12 (Or.inl rfl) rfl (Nat.le_of_ble_eq_true rfl) (c131t ⟨by omega, by omega⟩ (by omega) ?_)
        refine n0_ne 21 d188_15 (by decide) (by decide) (fun _ => ?_) (fun q => absurd q (by decide))
        refine q_aload_n d188_21 rfl ?_
        refine q_getv (c := 8) (f := 24) d188_22 ⟨rfl, by decide⟩ (xk_136 hX) hL.2.1 ?_
        refine q_sipush (x := nI 240) d188_25 rfl ?_
        refine nc_ne 34 d188_28 (by decide) (by omega) (by omega) (fun h28 => ?_) (fun h28 => (False.elim (by omega)))
        refine q_aload_n d188_34 rfl ?_
        refine q_getr (c := 8) (f := 8) d188_35 ⟨rfl, rfl⟩ (xk_136 hX) (xf_balances hX) ?_
        refine q_iload_n d188_38 rfl ?_
        refine n_iald d188_39 (xk_balances hX) (by omega) (by decide) (hC.2.2.2.1.1 _ (by omega)) ?_
        refine q_istore_n d188_40 (by decide) rfl ?_
        refine q_aload_n d188_41 rfl ?_
        refine q_getr (c := 8) (f := 8) d188_42 ⟨rfl, rfl⟩ (xk_136 hX) (xf_balances hX) ?_
        refine q_iload_n d188_45 rfl ?_
        refine q_iload_n d188_46 rfl ?_
        refine n_iast d188_47 (xk_balances hX) (by omega) (by decide) ?_
        have f1 : Fi (fun b _ => b = 174) M (zwi M 174 a (nI v)) := (Fi.refl _ _).wi rfl
        have hX1 := SX_fi hX f1
        have hL1 := hL.fi f1 (fun b k q => by unfold GL at q; omega)
        have hP1 : XPu (zwi M 174 a (nI v)) (yu (dW D).1.1 a (nI v), (dW D).1.2) := ⟨fun j hj => wi_or rfl (hC.2.2.2.1.1 j hj), (wi_n (by omega)).trans hC.2.2.2.1.2.1, (wi_n (by omega)).trans hC.2.2.2.1.2.2⟩
        refine q_aload_n d188_48 rfl ?_
        refine q_bipush (x := nI 6) d188_49 rfl ?_
        refine q_iload_n d188_51 rfl ?_
        refine q_iload_n d188_52 rfl ?_
        refine q_v3 d188_53 rfl rfl (xk_136 hX) (Nat.le_of_ble_eq_true rfl) (c171 hX1 hL1 (by show (dL D).length + 1 ≤ 240; omega) (fun M2 hL2 f2 => ?_))
        refine q_iload_n d188_56 rfl ?_
        refine q_iret d188_57 rfl ?_
        have hO2 : OKW (dT D) (dc D) ((yu (dW D).1.1 a (nI v), (dW D).1.2), (dW D).2) := ⟨hO.1, OKP_u hO.2.1 ⟨nI_pos' (by omega), nI_le (by omega) (by omega)⟩, hO.2.2⟩
        have fz : Fi FWd M M2 := (f1.mono (fun b k q => by unfold FWd; omega)).trans (f2.mono (fun b k q => by unfold GL at q; unfold FWd; omega))
        exact k _ κ (Nat.le_add_right _ _) (hR.up fz hO2 (XPu_fi hP1 f2 (fun b k q1 q2 => by unfold GP at q1; unfold GL at q2; omega)) (fun s hs => ((hSa s hs).fi f1 (fun b k q1 q2 => by unfold GS at q1; omega)).fi f2 (fun b k q1 q2 => by unfold GS at q1; unfold GL at q2; omega)) ((f2.1 _ _ (by unfold GL; omega)).trans ((f1.1 _ _ (by omega)).trans hck)) hL2) (fz.mono (fun b k q => FWd_Y q))
    · rw [oz_n ev] at k
      refine q_iload_n d188_0 rfl ?_
      refine q_s1 d188_1 (Or.inl rfl) rfl (Nat.le_of_ble_eq_true rfl) (c189t (by omega) ?_)
      refine n0_eq 18 d188_4 (by decide) (by decide) (fun q => absurd q (by decide)) (fun _ => ?_)
      refine q_iload_n d188_7 rfl ?_
      refine q_iconstN (z := 0) d188_8 ?_
      refine q_sipush (x := nI 9999) d188_9 rfl ?_
      refine q_s3 d188_12 (Or.inl rfl) rfl (Nat.le_of_ble_eq_true rfl) (c131f (by decide) (by have := zix_none ev; omega) (by decide) ?_)
      refine n0_ne 21 d188_15 (by decide) (by decide) (fun q => absurd q (by decide)) (fun _ => ?_)
      refine q_bipush (x := (-2)) d188_18 rfl ?_
      refine q_iret d188_20 rfl ?_
      exact k _ κ (Nat.le_add_right _ _) hR (Fi.refl _ _)
  · rw [oz_n ea] at k
    refine q_iload_n d188_0 rfl ?_
    refine q_s1 d188_1 (Or.inl rfl) rfl (Nat.le_of_ble_eq_true rfl) (c189f ea ?_)
    refine n0_eq 18 d188_4 (by decide) (by decide) (fun _ => ?_) (fun q => absurd q (by decide))
    refine q_bipush (x := (-2)) d188_18 rfl ?_
    refine q_iret d188_20 rfl ?_
    exact k _ κ (Nat.le_add_right _ _) hR (Fi.refl _ _)
theorem d168_0 : decode (zB 168) 0 = .ok (.iload_n 1, 1) := (congrArg (fun c => decode c 0) zeq168).trans (by decide +kernel)
theorem d168_1 : decode (zB 168) 1 = .ok (.invokestatic 345, 3) := (congrArg (fun c => decode c 1) zeq168).trans (by decide +kernel)
theorem d168_4 : decode (zB 168) 4 = .ok (.ifCond .eq 11, 3) := (congrArg (fun c => decode c 4) zeq168).trans (by decide +kernel)
theorem d168_7 : decode (zB 168) 7 = .ok (.aload_n 0, 1) := (congrArg (fun c => decode c 7) zeq168).trans (by decide +kernel)
theorem d168_8 : decode (zB 168) 8 = .ok (.iload_n 2, 1) := (congrArg (fun c => decode c 8) zeq168).trans (by decide +kernel)
theorem d168_9 : decode (zB 168) 9 = .ok (.invokevirtual 243, 3) := (congrArg (fun c => decode c 9) zeq168).trans (by decide +kernel)
theorem d168_12 : decode (zB 168) 12 = .ok (.ifCond .ne 6, 3) := (congrArg (fun c => decode c 12) zeq168).trans (by decide +kernel)
theorem d168_15 : decode (zB 168) 15 = .ok (.bipush (-2), 2) := (congrArg (fun c => decode c 15) zeq168).trans (by decide +kernel)
theorem d168_17 : decode (zB 168) 17 = .ok (.ireturn, 1) := (congrArg (fun c => decode c 17) zeq168).trans (by decide +kernel)
theorem d168_18 : decode (zB 168) 18 = .ok (.aload_n 0, 1) := (congrArg (fun c => decode c 18) zeq168).trans (by decide +kernel)
theorem d168_19 : decode (zB 168) 19 = .ok (.getfield 36, 3) := (congrArg (fun c => decode c 19) zeq168).trans (by decide +kernel)
theorem d168_22 : decode (zB 168) 22 = .ok (.iload_n 1, 1) := (congrArg (fun c => decode c 22) zeq168).trans (by decide +kernel)
theorem d168_23 : decode (zB 168) 23 = .ok (.iaload, 1) := (congrArg (fun c => decode c 23) zeq168).trans (by decide +kernel)
theorem d168_24 : decode (zB 168) 24 = .ok (.iconst 1, 1) := (congrArg (fun c => decode c 24) zeq168).trans (by decide +kernel)
theorem d168_25 : decode (zB 168) 25 = .ok (.if_icmp .eq 13, 3) := (congrArg (fun c => decode c 25) zeq168).trans (by decide +kernel)
theorem d168_28 : decode (zB 168) 28 = .ok (.aload_n 0, 1) := (congrArg (fun c => decode c 28) zeq168).trans (by decide +kernel)
theorem d168_29 : decode (zB 168) 29 = .ok (.getfield 36, 3) := (congrArg (fun c => decode c 29) zeq168).trans (by decide +kernel)
theorem d168_32 : decode (zB 168) 32 = .ok (.iload_n 1, 1) := (congrArg (fun c => decode c 32) zeq168).trans (by decide +kernel)
theorem d168_33 : decode (zB 168) 33 = .ok (.iaload, 1) := (congrArg (fun c => decode c 33) zeq168).trans (by decide +kernel)
theorem d168_34 : decode (zB 168) 34 = .ok (.iconst 2, 1) := (congrArg (fun c => decode c 34) zeq168).trans (by decide +kernel)
theorem d168_35 : decode (zB 168) 35 = .ok (.if_icmp .ne 6, 3) := (congrArg (fun c => decode c 35) zeq168).trans (by decide +kernel)
theorem d168_38 : decode (zB 168) 38 = .ok (.bipush (-3), 2) := (congrArg (fun c => decode c 38) zeq168).trans (by decide +kernel)
theorem d168_40 : decode (zB 168) 40 = .ok (.ireturn, 1) := (congrArg (fun c => decode c 40) zeq168).trans (by decide +kernel)
theorem d168_41 : decode (zB 168) 41 = .ok (.aload_n 0, 1) := (congrArg (fun c => decode c 41) zeq168).trans (by decide +kernel)
theorem d168_42 : decode (zB 168) 42 = .ok (.getfield 301, 3) := (congrArg (fun c => decode c 42) zeq168).trans (by decide +kernel)
theorem d168_45 : decode (zB 168) 45 = .ok (.sipush 240, 3) := (congrArg (fun c => decode c 45) zeq168).trans (by decide +kernel)
theorem d168_48 : decode (zB 168) 48 = .ok (.if_icmp .ne 6, 3) := (congrArg (fun c => decode c 48) zeq168).trans (by decide +kernel)
theorem d168_51 : decode (zB 168) 51 = .ok (.bipush (-4), 2) := (congrArg (fun c => decode c 51) zeq168).trans (by decide +kernel)
theorem d168_53 : decode (zB 168) 53 = .ok (.ireturn, 1) := (congrArg (fun c => decode c 53) zeq168).trans (by decide +kernel)
theorem d168_54 : decode (zB 168) 54 = .ok (.aload_n 0, 1) := (congrArg (fun c => decode c 54) zeq168).trans (by decide +kernel)
theorem d168_55 : decode (zB 168) 55 = .ok (.iload_n 1, 1) := (congrArg (fun c => decode c 55) zeq168).trans (by decide +kernel)
theorem d168_56 : decode (zB 168) 56 = .ok (.iload_n 2, 1) := (congrArg (fun c => decode c 56) zeq168).trans (by decide +kernel)
theorem d168_57 : decode (zB 168) 57 = .ok (.invokevirtual 348, 3) := (congrArg (fun c => decode c 57) zeq168).trans (by decide +kernel)
theorem d168_60 : decode (zB 168) 60 = .ok (.aload_n 0, 1) := (congrArg (fun c => decode c 60) zeq168).trans (by decide +kernel)
theorem d168_61 : decode (zB 168) 61 = .ok (.iconst 0, 1) := (congrArg (fun c => decode c 61) zeq168).trans (by decide +kernel)
theorem d168_62 : decode (zB 168) 62 = .ok (.iload_n 1, 1) := (congrArg (fun c => decode c 62) zeq168).trans (by decide +kernel)
theorem d168_63 : decode (zB 168) 63 = .ok (.iload_n 2, 1) := (congrArg (fun c => decode c 63) zeq168).trans (by decide +kernel)
theorem d168_64 : decode (zB 168) 64 = .ok (.invokevirtual 307, 3) := (congrArg (fun c => decode c 64) zeq168).trans (by decide +kernel)
theorem d168_67 : decode (zB 168) 67 = .ok (.aload_n 0, 1) := (congrArg (fun c => decode c 67) zeq168).trans (by decide +kernel)
theorem d168_68 : decode (zB 168) 68 = .ok (.getfield 9, 3) := (congrArg (fun c => decode c 68) zeq168).trans (by decide +kernel)
theorem d168_71 : decode (zB 168) 71 = .ok (.iload_n 2, 1) := (congrArg (fun c => decode c 71) zeq168).trans (by decide +kernel)
theorem d168_72 : decode (zB 168) 72 = .ok (.iaload, 1) := (congrArg (fun c => decode c 72) zeq168).trans (by decide +kernel)
theorem d168_73 : decode (zB 168) 73 = .ok (.ireturn, 1) := (congrArg (fun c => decode c 73) zeq168).trans (by decide +kernel)
theorem x168 {d : Nat} {M : zM} {Q : Option Value → zM → Prop} {D : yD} {κ : Nat} {x y : Int32} (hR : RX M D κ) (hD : OKD D) (hκ : κ + 4000 < 2147483648) (k : ∀ M' κ', κ' ≤ κ + 240 → RX M' (sBegin D x y).2 κ' → Fi FY M M' → Q (some (.int (sBegin D x y).1)) M') : qC (d + 3) 168 [.ref 136, .int x, .int y] M Q := by
  refine qC_of (by decide) (Nat.le_of_ble_eq_true rfl) ?_
  have hC := hR.1
  have hX := hC.1
  have hO : OKW (dT D) (dc D) (dW D) := hC.2.2.1
  have hc6 := hO.1.1
  have hL : XLo [] M (some (dL D)) := hC.2.2.2.2.2.2.1
  have hSa : ∀ s, s < 3 → XSa M s (dS D s) κ := hC.2.2.2.2.1
  have hTk := hC.k
  have hck := hC.2.2.2.2.2.1
  have h240 := hD.2.1
  unfold sBegin at k
  rcases zix_c x (n := 3) (by omega) with ⟨s, hs, rfl, es⟩ | ⟨es, ns⟩
  · rw [oz_s es] at k
    have hOs : OKS (dT D) (dc D) (dS D s) := hO.2.2 s hs
    have hg5 := hOs.1
    have hsa := hSa s hs
    rcases zix_c y (n := dc D) (by omega) with ⟨t, ht, rfl, et⟩ | ⟨et, nt⟩
    · rw [oz_s et] at k
      by_cases h1 : gt (dS D s) = 1
      · rw [if_pos (Or.inl h1)] at k
        refine q_iload_n d168_0 rfl ?_
        refine q_s1 d168_1 (Or.inl rfl) rfl (Nat.le_of_ble_eq_true rfl) (c169t (by omega) ?_)
        refine n0_eq 15 d168_4 (by decide) (by decide) (fun q => absurd q (by decide)) (fun _ => ?_)
        refine q_aload_n d168_7 rfl ?_
        refine q_iload_n d168_8 rfl ?_
        refine q_v1 d168_9 rfl rfl (xk_136 hX) (Nat.le_of_ble_eq_true rfl) (c145t hR (by omega) ?_)
        refine n0_ne 18 d168_12 (by decide) (by decide) (fun _ => ?_) (fun q => absurd q (by decide))
        refine q_aload_n d168_18 rfl ?_
        refine q_getr (c := 8) (f := 11) d168_19 ⟨rfl, rfl⟩ (xk_136 hX) (xf_states hX) ?_
        refine q_iload_n d168_22 rfl ?_
        refine n_iald d168_23 (xk_states hX) (by omega) (by decide) (hSa _ (by omega)).1.1 ?_
        refine q_iconstN (z := 1) d168_24 ?_
        refine nc_eq 38 d168_25 (by decide) (by omega) (by omega) (fun h25 => ?_) (fun h25 => (False.elim (h25 h1)))
        refine q_bipush (x := (-3)) d168_38 rfl ?_
        refine q_iret d168_40 rfl ?_
        exact k _ κ (Nat.le_add_right _ _) hR (Fi.refl _ _)
      · by_cases h2 : gt (dS D s) = 2
        · rw [if_pos (Or.inr h2)] at k
          refine q_iload_n d168_0 rfl ?_
          refine q_s1 d168_1 (Or.inl rfl) rfl (Nat.le_of_ble_eq_true rfl) (c169t (by omega) ?_)
          refine n0_eq 15 d168_4 (by decide) (by decide) (fun q => absurd q (by decide)) (fun _ => ?_)
          refine q_aload_n d168_7 rfl ?_
          refine q_iload_n d168_8 rfl ?_
          refine q_v1 d168_9 rfl rfl (xk_136 hX) (Nat.le_of_ble_eq_true rfl) (c145t hR (by omega) ?_)
          refine n0_ne 18 d168_12 (by decide) (by decide) (fun _ => ?_) (fun q => absurd q (by decide))
          refine q_aload_n d168_18 rfl ?_
          refine q_getr (c := 8) (f := 11) d168_19 ⟨rfl, rfl⟩ (xk_136 hX) (xf_states hX) ?_
          refine q_iload_n d168_22 rfl ?_
          refine n_iald d168_23 (xk_states hX) (by omega) (by decide) (hSa _ (by omega)).1.1 ?_
          refine q_iconstN (z := 1) d168_24 ?_
          refine nc_eq 38 d168_25 (by decide) (by omega) (by omega) (fun h25 => (False.elim (h1 h25))) (fun h25 => ?_)
          refine q_aload_n d168_28 rfl ?_
          refine q_getr (c := 8) (f := 11) d168_29 ⟨rfl, rfl⟩ (xk_136 hX) (xf_states hX) ?_
          refine q_iload_n d168_32 rfl ?_
          refine n_iald d168_33 (xk_states hX) (by omega) (by decide) (hSa _ (by omega)).1.1 ?_
          refine q_iconstN (z := 2) d168_34 ?_
          refine nc_ne 41 d168_35 (by decide) (by omega) (by omega) (fun h35 => (False.elim (h35 h2))) (fun h35 => ?_)
          refine q_bipush (x := (-3)) d168_38 rfl ?_
          refine q_iret d168_40 rfl ?_
          exact k _ κ (Nat.le_add_right _ _) hR (Fi.refl _ _)
        · rw [if_neg (by omega)] at k
          by_cases hf : 240 ≤ (dL D).length
          · rw [if_pos hf] at k
            refine q_iload_n d168_0 rfl ?_
            refine q_s1 d168_1 (Or.inl rfl) rfl (Nat.le_of_ble_eq_true rfl) (c169t (by omega) ?_)
            refine n0_eq 15 d168_4 (by decide) (by decide) (fun q => absurd q (by decide)) (fun _ => ?_)
            refine q_aload_n d168_7 rfl ?_
            refine q_iload_n d168_8 rfl ?_
            refine q_v1 d168_9 rfl rfl (xk_136 hX) (Nat.le_of_ble_eq_true rfl) (c145t hR (by omega) ?_)
            refine n0_ne 18 d168_12 (by decide) (by decide) (fun _ => ?_) (fun q => absurd q (by decide))
            refine q_aload_n d168_18 rfl ?_
            refine q_getr (c := 8) (f := 11) d168_19 ⟨rfl, rfl⟩ (xk_136 hX) (xf_states hX) ?_
            refine q_iload_n d168_22 rfl ?_
            refine n_iald d168_23 (xk_states hX) (by omega) (by decide) (hSa _ (by omega)).1.1 ?_
            refine q_iconstN (z := 1) d168_24 ?_
            refine nc_eq 38 d168_25 (by decide) (by omega) (by omega) (fun h25 => (False.elim (h1 h25))) (fun h25 => ?_)
            refine q_aload_n d168_28 rfl ?_
            refine q_getr (c := 8) (f := 11) d168_29 ⟨rfl, rfl⟩ (xk_136 hX) (xf_states hX) ?_
            refine q_iload_n d168_32 rfl ?_
            refine n_iald d168_33 (xk_states hX) (by omega) (by decide) (hSa _ (by omega)).1.1 ?_
            refine q_iconstN (z := 2) d168_34 ?_
            refine nc_ne 41 d168_35 (by decide) (by omega) (by omega) (fun h35 => ?_) (fun h35 => (False.elim (h2 h35)))
            refine q_aload_n d168_41 rfl ?_
            refine q_getv (c := 8) (f := 24) d168_42 ⟨rfl, by decide⟩ (xk_136 hX) hL.2.1 ?_
            refine q_sipush (x := nI 240) d168_45 rfl ?_
            refine nc_ne 54 d168_48 (by decide) (by omega) (by omega) (fun h48 => (False.elim (by omega))) (fun h48 => ?_)
            refine q_bipush (x := (-4)) d168_51 rfl ?_
            refine q_iret d168_53 rfl ?_
            exact k _ κ (Nat.le_add_right _ _) hR (Fi.refl _ _)
          · rw [if_neg hf] at k
            refine q_iload_n d168_0 rfl ?_
            refine q_s1 d168_1 (Or.inl rfl) rfl (Nat.le_of_ble_eq_true rfl) (c169t (by omega) ?_)
            refine n0_eq 15 d168_4 (by decide) (by decide) (fun q => absurd q (by decide)) (fun _ => ?_)
            refine q_aload_n d168_7 rfl ?_
            refine q_iload_n d168_8 rfl ?_
            refine q_v1 d168_9 rfl rfl (xk_136 hX) (Nat.le_of_ble_eq_true rfl) (c145t hR (by omega) ?_)
            refine n0_ne 18 d168_12 (by decide) (by decide) (fun _ => ?_) (fun q => absurd q (by decide))
            refine q_aload_n d168_18 rfl ?_
            refine q_getr (c := 8) (f := 11) d168_19 ⟨rfl, rfl⟩ (xk_136 hX) (xf_states hX) ?_
            refine q_iload_n d168_22 rfl ?_
            refine n_iald d168_23 (xk_states hX) (by omega) (by decide) (hSa _ (by omega)).1.1 ?_
            refine q_iconstN (z := 1) d168_24 ?_
            refine nc_eq 38 d168_25 (by decide) (by omega) (by omega) (fun h25 => (False.elim (h1 h25))) (fun h25 => ?_)
            refine q_aload_n d168_28 rfl ?_
            refine q_getr (c := 8) (f := 11) d168_29 ⟨rfl, rfl⟩ (xk_136 hX) (xf_states hX) ?_
            refine q_iload_n d168_32 rfl ?_
            refine n_iald d168_33 (xk_states hX) (by omega) (by decide) (hSa _ (by omega)).1.1 ?_
            refine q_iconstN (z := 2) d168_34 ?_
            refine nc_ne 41 d168_35 (by decide) (by omega) (by omega) (fun h35 => ?_) (fun h35 => (False.elim (h2 h35)))
            refine q_aload_n d168_41 rfl ?_
            refine q_getv (c := 8) (f := 24) d168_42 ⟨rfl, by decide⟩ (xk_136 hX) hL.2.1 ?_
            refine q_sipush (x := nI 240) d168_45 rfl ?_
            refine nc_ne 54 d168_48 (by decide) (by omega) (by omega) (fun h48 => ?_) (fun h48 => (False.elim (by omega)))
            refine q_aload_n d168_54 rfl ?_
            refine q_iload_n d168_55 rfl ?_
            refine q_iload_n d168_56 rfl ?_
            refine q_v2 d168_57 rfl rfl (xk_136 hX) (Nat.le_of_ble_eq_true rfl) (c170 hX hs (fun M1 q1 q2 f1 => ?_))
            have hX1 := SX_fi hX f1
            have hS1 : XSa M1 s (ySt t) κ := begins_Sa (t := t) (g := 1) q1.1 q1.2 q2
            have hL1 := hL.fi f1 (fun b k q => by unfold GL at q; unfold GS; omega)
            refine q_aload_n d168_60 rfl ?_
            refine q_iconstN (z := 0) d168_61 ?_
            refine q_iload_n d168_62 rfl ?_
            refine q_iload_n d168_63 rfl ?_
            refine q_v3 d168_64 rfl rfl (xk_136 hX1) (Nat.le_of_ble_eq_true rfl) (c171 hX1 hL1 (by show (dL D).length + 1 ≤ 240; omega) (fun M2 hL2 f2 => ?_))
            have hX2 := SX_fi hX1 f2
            have hsm : zi M2 137 t = nI (tn (dT D t)) := (f2.1 _ _ (by unfold GL; omega)).trans ((f1.1 _ _ (by unfold GS; omega)).trans (hTk.1 t ht).1)
            refine q_aload_n d168_67 rfl ?_
            refine q_getr (c := 8) (f := 1) d168_68 ⟨rfl, rfl⟩ (xk_136 hX2) (xf_stepMany hX2) ?_
            refine q_iload_n d168_71 rfl ?_
            refine n_iald d168_72 (xk_stepMany hX2) (by omega) (by decide) hsm ?_
            refine q_iret d168_73 rfl ?_
            have fz : Fi FWd M M2 := (f1.mono (fun b k q => by unfold GS at q; unfold FWd; omega)).trans (f2.mono (fun b k q => by unfold GL at q; unfold FWd; omega))
            have hO2 : OKW (dT D) (dc D) ((dW D).1, yu (dW D).2 s (ySt t)) := OKW_ss (X := dX D) hO (OKS_St ht)
            exact k _ κ (Nat.le_add_right _ _) (hR.up fz hO2 (XPu_fi (XPu_fi hC.2.2.2.1 f1 (fun b k q1 q2 => by unfold GP at q1; unfold GS at q2; omega)) f2 (fun b k q1 q2 => by unfold GP at q1; unfold GL at q2; omega)) (fun r hr => by
              show XSa M2 r (yu (dW D).2 s (ySt t) r) κ
              by_cases e : r = s
              · subst e; rw [yu_s]; exact hS1.fi f2 (fun b k q1 q2 => by unfold GS at q1; unfold GL at q2; omega)
              · rw [yu_n e]; exact ((hSa r hr).fi f1 (fun b k q1 q2 => by unfold GS at q1 q2; omega)).fi f2 (fun b k q1 q2 => by unfold GS at q1; unfold GL at q2; omega)) ((f2.1 _ _ (by unfold GL; omega)).trans ((f1.1 _ _ (by unfold GS; omega)).trans hck)) hL2) (fz.mono (fun b k q => FWd_Y q))
    · rw [oz_n et] at k
      refine q_iload_n d168_0 rfl ?_
      refine q_s1 d168_1 (Or.inl rfl) rfl (Nat.le_of_ble_eq_true rfl) (c169t (by omega) ?_)
      refine n0_eq 15 d168_4 (by decide) (by decide) (fun q => absurd q (by decide)) (fun _ => ?_)
      refine q_aload_n d168_7 rfl ?_
      refine q_iload_n d168_8 rfl ?_
      refine q_v1 d168_9 rfl rfl (xk_136 hX) (Nat.le_of_ble_eq_true rfl) (c145f hR et ?_)
      refine n0_ne 18 d168_12 (by decide) (by decide) (fun q => absurd q (by decide)) (fun _ => ?_)
      refine q_bipush (x := (-2)) d168_15 rfl ?_
      refine q_iret d168_17 rfl ?_
      exact k _ κ (Nat.le_add_right _ _) hR (Fi.refl _ _)
  · rw [oz_n es] at k
    refine q_iload_n d168_0 rfl ?_
    refine q_s1 d168_1 (Or.inl rfl) rfl (Nat.le_of_ble_eq_true rfl) (c169f es ?_)
    refine n0_eq 15 d168_4 (by decide) (by decide) (fun _ => ?_) (fun q => absurd q (by decide))
    refine q_bipush (x := (-2)) d168_15 rfl ?_
    refine q_iret d168_17 rfl ?_
    exact k _ κ (Nat.le_add_right _ _) hR (Fi.refl _ _)
-- tick
theorem d174_0 : decode (zB 174) 0 = .ok (.aload_n 0, 1) := (congrArg (fun c => decode c 0) zeq174).trans (by decide +kernel)
theorem d174_1 : decode (zB 174) 1 = .ok (.getfield 301, 3) := (congrArg (fun c => decode c 1) zeq174).trans (by decide +kernel)
theorem d174_4 : decode (zB 174) 4 = .ok (.sipush 190, 3) := (congrArg (fun c => decode c 4) zeq174).trans (by decide +kernel)
theorem d174_7 : decode (zB 174) 7 = .ok (.if_icmp .le 6, 3) := (congrArg (fun c => decode c 7) zeq174).trans (by decide +kernel)
theorem d174_10 : decode (zB 174) 10 = .ok (.bipush (-4), 2) := (congrArg (fun c => decode c 10) zeq174).trans (by decide +kernel)
theorem d174_12 : decode (zB 174) 12 = .ok (.ireturn, 1) := (congrArg (fun c => decode c 12) zeq174).trans (by decide +kernel)
theorem d174_13 : decode (zB 174) 13 = .ok (.aload_n 0, 1) := (congrArg (fun c => decode c 13) zeq174).trans (by decide +kernel)
theorem d174_14 : decode (zB 174) 14 = .ok (.getfield 301, 3) := (congrArg (fun c => decode c 14) zeq174).trans (by decide +kernel)
theorem d174_17 : decode (zB 174) 17 = .ok (.istore_n 1, 1) := (congrArg (fun c => decode c 17) zeq174).trans (by decide +kernel)
theorem d174_18 : decode (zB 174) 18 = .ok (.aload_n 0, 1) := (congrArg (fun c => decode c 18) zeq174).trans (by decide +kernel)
theorem d174_19 : decode (zB 174) 19 = .ok (.invokevirtual 354, 3) := (congrArg (fun c => decode c 19) zeq174).trans (by decide +kernel)
theorem d174_22 : decode (zB 174) 22 = .ok (.aload_n 0, 1) := (congrArg (fun c => decode c 22) zeq174).trans (by decide +kernel)
theorem d174_23 : decode (zB 174) 23 = .ok (.getfield 301, 3) := (congrArg (fun c => decode c 23) zeq174).trans (by decide +kernel)
theorem d174_26 : decode (zB 174) 26 = .ok (.iload_n 1, 1) := (congrArg (fun c => decode c 26) zeq174).trans (by decide +kernel)
theorem d174_27 : decode (zB 174) 27 = .ok (.isub, 1) := (congrArg (fun c => decode c 27) zeq174).trans (by decide +kernel)
theorem d174_28 : decode (zB 174) 28 = .ok (.ireturn, 1) := (congrArg (fun c => decode c 28) zeq174).trans (by decide +kernel)
theorem x174 {d : Nat} {M : zM} {Q : Option Value → zM → Prop} {D : yD} {κ : Nat} (hR : RX M D κ) (hD : OKD D) (hκ : κ + 4000 < 2147483648) (k : ∀ M' κ', κ' ≤ κ + 240 → RX M' (sTick D).2 κ' → Fi FY M M' → Q (some (.int (sTick D).1)) M') : qC (d + 7) 174 [.ref 136] M Q := by
  refine qC_of (by decide) (Nat.le_of_ble_eq_true rfl) ?_
  have hC := hR.1
  have hX := hC.1
  have hO : OKW (dT D) (dc D) (dW D) := hC.2.2.1
  have hc6 := hO.1.1
  have hL : XLo [] M (some (dL D)) := hC.2.2.2.2.2.2.1
  have hSa : ∀ s, s < 3 → XSa M s (dS D s) κ := hC.2.2.2.2.1
  have hTk := hC.k
  have hck := hC.2.2.2.2.2.1
  have h240 := hD.2.1
  unfold sTick at k
  by_cases hf : 190 < (dL D).length
  · rw [if_pos hf] at k
    refine q_aload_n d174_0 rfl ?_
    refine q_getv (c := 8) (f := 24) d174_1 ⟨rfl, by decide⟩ (xk_136 hX) hL.2.1 ?_
    refine q_sipush (x := nI 190) d174_4 rfl ?_
    refine nc_le 13 d174_7 (by decide) (by omega) (by omega) (fun h7 => (False.elim (by omega))) (fun h7 => ?_)
    refine q_bipush (x := (-4)) d174_10 rfl ?_
    refine q_iret d174_12 rfl ?_
    exact k _ κ (Nat.le_add_right _ _) hR (Fi.refl _ _)
  · rw [if_neg hf] at k
    refine q_aload_n d174_0 rfl ?_
    refine q_getv (c := 8) (f := 24) d174_1 ⟨rfl, by decide⟩ (xk_136 hX) hL.2.1 ?_
    refine q_sipush (x := nI 190) d174_4 rfl ?_
    refine nc_le 13 d174_7 (by decide) (by omega) (by omega) (fun h7 => ?_) (fun h7 => (False.elim (by omega)))
    refine q_aload_n d174_13 rfl ?_
    refine q_getv (c := 8) (f := 24) d174_14 ⟨rfl, by decide⟩ (xk_136 hX) hL.2.1 ?_
    refine q_istore_n d174_17 (by decide) rfl ?_
    refine q_aload_n d174_18 rfl ?_
    refine q_v0 d174_19 rfl rfl (xk_136 hX) (Nat.le_of_ble_eq_true rfl) (c175 hC (by show (dL D).length + 39 ≤ 240; omega) (by omega) (fun M2 κ2 hk2 hC2 f2 => ?_))
    obtain ⟨W', A, e, hO2, hg, hlen⟩ := yti_D (D := D) hO
    rw [e] at hC2 k
    have fz : Fi FWd M M2 := f2.mono (fun b k q => FX_W q)
    have hlen2 : (dL D ++ A).length = (dL D).length + A.length := List.length_append
    have hl2 : zi M2 136 24 = nI (dL D ++ A).length := hC2.2.2.2.2.2.2.1.2.1
    refine q_aload_n d174_22 rfl ?_
    refine q_getv (c := 8) (f := 24) d174_23 ⟨rfl, by decide⟩ (xk_136 hC2.1) hl2 ?_
    refine q_iload_n d174_26 rfl ?_
    refine n_isub d174_27 (by omega) ?_
    refine q_iret d174_28 rfl ?_
    exact k _ κ2 (by omega) (hR.up fz hO2 hC2.2.2.2.1 hC2.2.2.2.2.1 hC2.2.2.2.2.2.1 hC2.2.2.2.2.2.2.1) (fz.mono (fun b k q => FWd_Y q))
/-! ===== the reference: views, replays ===== -/
theorem d192_0 : decode (zB 192) 0 = .ok (.iload_n 0, 1) := (congrArg (fun c => decode c 0) zeq192).trans (by decide +kernel)
theorem d192_1 : decode (zB 192) 1 = .ok (.iconst 0, 1) := (congrArg (fun c => decode c 1) zeq192).trans (by decide +kernel)
theorem d192_2 : decode (zB 192) 2 = .ok (.bipush 7, 2) := (congrArg (fun c => decode c 2) zeq192).trans (by decide +kernel)
theorem d192_4 : decode (zB 192) 4 = .ok (.invokestatic 112, 3) := (congrArg (fun c => decode c 4) zeq192).trans (by decide +kernel)
theorem d192_7 : decode (zB 192) 7 = .ok (.ifCond .ne 47, 3) := (congrArg (fun c => decode c 7) zeq192).trans (by decide +kernel)
theorem d192_10 : decode (zB 192) 10 = .ok (.iload_n 0, 1) := (congrArg (fun c => decode c 10) zeq192).trans (by decide +kernel)
theorem d192_11 : decode (zB 192) 11 = .ok (.bipush 10, 2) := (congrArg (fun c => decode c 11) zeq192).trans (by decide +kernel)
theorem d192_13 : decode (zB 192) 13 = .ok (.bipush 12, 2) := (congrArg (fun c => decode c 13) zeq192).trans (by decide +kernel)
theorem d192_15 : decode (zB 192) 15 = .ok (.invokestatic 112, 3) := (congrArg (fun c => decode c 15) zeq192).trans (by decide +kernel)
theorem d192_18 : decode (zB 192) 18 = .ok (.ifCond .ne 36, 3) := (congrArg (fun c => decode c 18) zeq192).trans (by decide +kernel)
theorem d192_21 : decode (zB 192) 21 = .ok (.iload_n 0, 1) := (congrArg (fun c => decode c 21) zeq192).trans (by decide +kernel)
theorem d192_22 : decode (zB 192) 22 = .ok (.bipush 20, 2) := (congrArg (fun c => decode c 22) zeq192).trans (by decide +kernel)
theorem d192_24 : decode (zB 192) 24 = .ok (.bipush 22, 2) := (congrArg (fun c => decode c 24) zeq192).trans (by decide +kernel)
theorem d192_26 : decode (zB 192) 26 = .ok (.invokestatic 112, 3) := (congrArg (fun c => decode c 26) zeq192).trans (by decide +kernel)
theorem d192_29 : decode (zB 192) 29 = .ok (.ifCond .ne 25, 3) := (congrArg (fun c => decode c 29) zeq192).trans (by decide +kernel)
theorem d192_32 : decode (zB 192) 32 = .ok (.iload_n 0, 1) := (congrArg (fun c => decode c 32) zeq192).trans (by decide +kernel)
theorem d192_33 : decode (zB 192) 33 = .ok (.bipush 30, 2) := (congrArg (fun c => decode c 33) zeq192).trans (by decide +kernel)
theorem d192_35 : decode (zB 192) 35 = .ok (.bipush 32, 2) := (congrArg (fun c => decode c 35) zeq192).trans (by decide +kernel)
theorem d192_37 : decode (zB 192) 37 = .ok (.invokestatic 112, 3) := (congrArg (fun c => decode c 37) zeq192).trans (by decide +kernel)
theorem d192_40 : decode (zB 192) 40 = .ok (.ifCond .ne 14, 3) := (congrArg (fun c => decode c 40) zeq192).trans (by decide +kernel)
theorem d192_43 : decode (zB 192) 43 = .ok (.iload_n 0, 1) := (congrArg (fun c => decode c 43) zeq192).trans (by decide +kernel)
theorem d192_44 : decode (zB 192) 44 = .ok (.bipush 40, 2) := (congrArg (fun c => decode c 44) zeq192).trans (by decide +kernel)
theorem d192_46 : decode (zB 192) 46 = .ok (.bipush 42, 2) := (congrArg (fun c => decode c 46) zeq192).trans (by decide +kernel)
theorem d192_48 : decode (zB 192) 48 = .ok (.invokestatic 112, 3) := (congrArg (fun c => decode c 48) zeq192).trans (by decide +kernel)
theorem d192_51 : decode (zB 192) 51 = .ok (.ifCond .eq 7, 3) := (congrArg (fun c => decode c 51) zeq192).trans (by decide +kernel)
theorem d192_54 : decode (zB 192) 54 = .ok (.iconst 1, 1) := (congrArg (fun c => decode c 54) zeq192).trans (by decide +kernel)
theorem d192_55 : decode (zB 192) 55 = .ok (.goto 4, 3) := (congrArg (fun c => decode c 55) zeq192).trans (by decide +kernel)
theorem d192_58 : decode (zB 192) 58 = .ok (.iconst 0, 1) := (congrArg (fun c => decode c 58) zeq192).trans (by decide +kernel)
theorem d192_59 : decode (zB 192) 59 = .ok (.ireturn, 1) := (congrArg (fun c => decode c 59) zeq192).trans (by decide +kernel)
theorem c192 {d : Nat} {M : zM} {Q : Option Value → zM → Prop} {x : Int32} (k : Q (some (.int (bI (yvx x).isSome))) M) : qC (d + 2) 192 [.int x] M Q := by
  refine qC_of (by decide) (Nat.le_of_ble_eq_true rfl) ?_
  rcases zix_c x (n := 50) (by omega) with ⟨m, hm, rfl, e⟩ | ⟨e, hn⟩
  · by_cases h0 : 0 ≤ m ∧ m ≤ 7
    · have hw : ywv m = true := by
        simp only [ywv, Bool.or_eq_true, Bool.and_eq_true, decide_eq_true_eq]
        omega
      rw [yvx_n hw hm] at k
      refine q_iload_n d192_0 rfl ?_
      refine q_iconstN (z := 0) d192_1 ?_
      refine q_bipush (x := nI 7) d192_2 rfl ?_
      refine q_s3 d192_4 (Or.inl rfl) rfl (Nat.le_of_ble_eq_true rfl) (c131t ⟨by omega, by omega⟩ (by omega) ?_)
      refine n0_ne 54 d192_7 (by decide) (by decide) (fun _ => ?_) (fun q => absurd q (by decide))
      refine q_iconstN (z := 1) d192_54 ?_
      refine q_goto 59 d192_55 (by decide) ?_
      refine q_zret d192_59 rfl (by decide) ?_
      exact bK1 k rfl
    · by_cases h1 : 10 ≤ m ∧ m ≤ 12
      · have hw : ywv m = true := by
          simp only [ywv, Bool.or_eq_true, Bool.and_eq_true, decide_eq_true_eq]
          omega
        rw [yvx_n hw hm] at k
        refine q_iload_n d192_0 rfl ?_
        refine q_iconstN (z := 0) d192_1 ?_
        refine q_bipush (x := nI 7) d192_2 rfl ?_
        refine q_s3 d192_4 (Or.inl rfl) rfl (Nat.le_of_ble_eq_true rfl) (c131n (by omega) (by omega) (by omega) (by omega) ?_)
        refine n0_ne 54 d192_7 (by decide) (by decide) (fun q => absurd q (by decide)) (fun _ => ?_)
        refine q_iload_n d192_10 rfl ?_
        refine q_bipush (x := nI 10) d192_11 rfl ?_
        refine q_bipush (x := nI 12) d192_13 rfl ?_
        refine q_s3 d192_15 (Or.inl rfl) rfl (Nat.le_of_ble_eq_true rfl) (c131t ⟨by omega, by omega⟩ (by omega) ?_)
        refine n0_ne 54 d192_18 (by decide) (by decide) (fun _ => ?_) (fun q => absurd q (by decide))
        refine q_iconstN (z := 1) d192_54 ?_
        refine q_goto 59 d192_55 (by decide) ?_
        refine q_zret d192_59 rfl (by decide) ?_
        exact bK1 k rfl
      · by_cases h2 : 20 ≤ m ∧ m ≤ 22
        · have hw : ywv m = true := by
            simp only [ywv, Bool.or_eq_true, Bool.and_eq_true, decide_eq_true_eq]
            omega
          rw [yvx_n hw hm] at k
          refine q_iload_n d192_0 rfl ?_
          refine q_iconstN (z := 0) d192_1 ?_
          refine q_bipush (x := nI 7) d192_2 rfl ?_
          refine q_s3 d192_4 (Or.inl rfl) rfl (Nat.le_of_ble_eq_true rfl) (c131n (by omega) (by omega) (by omega) (by omega) ?_)
          refine n0_ne 54 d192_7 (by decide) (by decide) (fun q => absurd q (by decide)) (fun _ => ?_)
          refine q_iload_n d192_10 rfl ?_
          refine q_bipush (x := nI 10) d192_11 rfl ?_
          refine q_bipush (x := nI 12) d192_13 rfl ?_
          refine q_s3 d192_15 (Or.inl rfl) rfl (Nat.le_of_ble_eq_true rfl) (c131n (by omega) (by omega) (by omega) (by omega) ?_)
          refine n0_ne 54 d192_18 (by decide) (by decide) (fun q => absurd q (by decide)) (fun _ => ?_)
          refine q_iload_n d192_21 rfl ?_
          refine q_bipush (x := nI 20) d192_22 rfl ?_
          refine q_bipush (x := nI 22) d192_24 rfl ?_
          refine q_s3 d192_26 (Or.inl rfl) rfl (Nat.le_of_ble_eq_true rfl) (c131t ⟨by omega, by omega⟩ (by omega) ?_)
          refine n0_ne 54 d192_29 (by decide) (by decide) (fun _ => ?_) (fun q => absurd q (by decide))
          refine q_iconstN (z := 1) d192_54 ?_
          refine q_goto 59 d192_55 (by decide) ?_
          refine q_zret d192_59 rfl (by decide) ?_
          exact bK1 k rfl
        · by_cases h3 : 30 ≤ m ∧ m ≤ 32
          · have hw : ywv m = true := by
              simp only [ywv, Bool.or_eq_true, Bool.and_eq_true, decide_eq_true_eq]
              omega
            rw [yvx_n hw hm] at k
            refine q_iload_n d192_0 rfl ?_
            refine q_iconstN (z := 0) d192_1 ?_
            refine q_bipush (x := nI 7) d192_2 rfl ?_
            refine q_s3 d192_4 (Or.inl rfl) rfl (Nat.le_of_ble_eq_true rfl) (c131n (by omega) (by omega) (by omega) (by omega) ?_)
            refine n0_ne 54 d192_7 (by decide) (by decide) (fun q => absurd q (by decide)) (fun _ => ?_)
            refine q_iload_n d192_10 rfl ?_
            refine q_bipush (x := nI 10) d192_11 rfl ?_
            refine q_bipush (x := nI 12) d192_13 rfl ?_
            refine q_s3 d192_15 (Or.inl rfl) rfl (Nat.le_of_ble_eq_true rfl) (c131n (by omega) (by omega) (by omega) (by omega) ?_)
            refine n0_ne 54 d192_18 (by decide) (by decide) (fun q => absurd q (by decide)) (fun _ => ?_)
            refine q_iload_n d192_21 rfl ?_
            refine q_bipush (x := nI 20) d192_22 rfl ?_
            refine q_bipush (x := nI 22) d192_24 rfl ?_
            refine q_s3 d192_26 (Or.inl rfl) rfl (Nat.le_of_ble_eq_true rfl) (c131n (by omega) (by omega) (by omega) (by omega) ?_)
            refine n0_ne 54 d192_29 (by decide) (by decide) (fun q => absurd q (by decide)) (fun _ => ?_)
            refine q_iload_n d192_32 rfl ?_
            refine q_bipush (x := nI 30) d192_33 rfl ?_
            refine q_bipush (x := nI 32) d192_35 rfl ?_
            refine q_s3 d192_37 (Or.inl rfl) rfl (Nat.le_of_ble_eq_true rfl) (c131t ⟨by omega, by omega⟩ (by omega) ?_)
            refine n0_ne 54 d192_40 (by decide) (by decide) (fun _ => ?_) (fun q => absurd q (by decide))
            refine q_iconstN (z := 1) d192_54 ?_
            refine q_goto 59 d192_55 (by decide) ?_
            refine q_zret d192_59 rfl (by decide) ?_
            exact bK1 k rfl
          · by_cases h4 : 40 ≤ m ∧ m ≤ 42
            · have hw : ywv m = true := by
                simp only [ywv, Bool.or_eq_true, Bool.and_eq_true, decide_eq_true_eq]
                omega
              rw [yvx_n hw hm] at k
              refine q_iload_n d192_0 rfl ?_
              refine q_iconstN (z := 0) d192_1 ?_
              refine q_bipush (x := nI 7) d192_2 rfl ?_
              refine q_s3 d192_4 (Or.inl rfl) rfl (Nat.le_of_ble_eq_true rfl) (c131n (by omega) (by omega) (by omega) (by omega) ?_)
              refine n0_ne 54 d192_7 (by decide) (by decide) (fun q => absurd q (by decide)) (fun _ => ?_)
              refine q_iload_n d192_10 rfl ?_
              refine q_bipush (x := nI 10) d192_11 rfl ?_
              refine q_bipush (x := nI 12) d192_13 rfl ?_
              refine q_s3 d192_15 (Or.inl rfl) rfl (Nat.le_of_ble_eq_true rfl) (c131n (by omega) (by omega) (by omega) (by omega) ?_)
              refine n0_ne 54 d192_18 (by decide) (by decide) (fun q => absurd q (by decide)) (fun _ => ?_)
              refine q_iload_n d192_21 rfl ?_
              refine q_bipush (x := nI 20) d192_22 rfl ?_
              refine q_bipush (x := nI 22) d192_24 rfl ?_
              refine q_s3 d192_26 (Or.inl rfl) rfl (Nat.le_of_ble_eq_true rfl) (c131n (by omega) (by omega) (by omega) (by omega) ?_)
              refine n0_ne 54 d192_29 (by decide) (by decide) (fun q => absurd q (by decide)) (fun _ => ?_)
              refine q_iload_n d192_32 rfl ?_
              refine q_bipush (x := nI 30) d192_33 rfl ?_
              refine q_bipush (x := nI 32) d192_35 rfl ?_
              refine q_s3 d192_37 (Or.inl rfl) rfl (Nat.le_of_ble_eq_true rfl) (c131n (by omega) (by omega) (by omega) (by omega) ?_)
              refine n0_ne 54 d192_40 (by decide) (by decide) (fun q => absurd q (by decide)) (fun _ => ?_)
              refine q_iload_n d192_43 rfl ?_
              refine q_bipush (x := nI 40) d192_44 rfl ?_
              refine q_bipush (x := nI 42) d192_46 rfl ?_
              refine q_s3 d192_48 (Or.inl rfl) rfl (Nat.le_of_ble_eq_true rfl) (c131t ⟨by omega, by omega⟩ (by omega) ?_)
              refine n0_eq 58 d192_51 (by decide) (by decide) (fun q => absurd q (by decide)) (fun _ => ?_)
              refine q_iconstN (z := 1) d192_54 ?_
              refine q_goto 59 d192_55 (by decide) ?_
              refine q_zret d192_59 rfl (by decide) ?_
              exact bK1 k rfl
            · have hw : ¬ ywv m = true := fun q => by
                simp only [ywv, Bool.or_eq_true, Bool.and_eq_true, decide_eq_true_eq] at q
                omega
              have ev : yvx (nI m) = none := by
                unfold yvx
                rw [e]
                exact if_neg hw
              rw [ev] at k
              refine q_iload_n d192_0 rfl ?_
              refine q_iconstN (z := 0) d192_1 ?_
              refine q_bipush (x := nI 7) d192_2 rfl ?_
              refine q_s3 d192_4 (Or.inl rfl) rfl (Nat.le_of_ble_eq_true rfl) (c131n (by omega) (by omega) (by omega) (by omega) ?_)
              refine n0_ne 54 d192_7 (by decide) (by decide) (fun q => absurd q (by decide)) (fun _ => ?_)
              refine q_iload_n d192_10 rfl ?_
              refine q_bipush (x := nI 10) d192_11 rfl ?_
              refine q_bipush (x := nI 12) d192_13 rfl ?_
              refine q_s3 d192_15 (Or.inl rfl) rfl (Nat.le_of_ble_eq_true rfl) (c131n (by omega) (by omega) (by omega) (by omega) ?_)
              refine n0_ne 54 d192_18 (by decide) (by decide) (fun q => absurd q (by decide)) (fun _ => ?_)
              refine q_iload_n d192_21 rfl ?_
              refine q_bipush (x := nI 20) d192_22 rfl ?_
              refine q_bipush (x := nI 22) d192_24 rfl ?_
              refine q_s3 d192_26 (Or.inl rfl) rfl (Nat.le_of_ble_eq_true rfl) (c131n (by omega) (by omega) (by omega) (by omega) ?_)
              refine n0_ne 54 d192_29 (by decide) (by decide) (fun q => absurd q (by decide)) (fun _ => ?_)
              refine q_iload_n d192_32 rfl ?_
              refine q_bipush (x := nI 30) d192_33 rfl ?_
              refine q_bipush (x := nI 32) d192_35 rfl ?_
              refine q_s3 d192_37 (Or.inl rfl) rfl (Nat.le_of_ble_eq_true rfl) (c131n (by omega) (by omega) (by omega) (by omega) ?_)
              refine n0_ne 54 d192_40 (by decide) (by decide) (fun q => absurd q (by decide)) (fun _ => ?_)
              refine q_iload_n d192_43 rfl ?_
              refine q_bipush (x := nI 40) d192_44 rfl ?_
              refine q_bipush (x := nI 42) d192_46 rfl ?_
              refine q_s3 d192_48 (Or.inl rfl) rfl (Nat.le_of_ble_eq_true rfl) (c131n (by omega) (by omega) (by omega) (by omega) ?_)
              refine n0_eq 58 d192_51 (by decide) (by decide) (fun _ => ?_) (fun q => absurd q (by decide))
              refine q_iconstN (z := 0) d192_58 ?_
              refine q_zret d192_59 rfl (by decide) ?_
              exact bK0 k rfl
  · have ev : yvx x = none := by unfold yvx; rw [e]
    rw [ev] at k
    refine q_iload_n d192_0 rfl ?_
    refine q_iconstN (z := 0) d192_1 ?_
    refine q_bipush (x := nI 7) d192_2 rfl ?_
    refine q_s3 d192_4 (Or.inl rfl) rfl (Nat.le_of_ble_eq_true rfl) (c131f (by decide) (by omega) (by decide) ?_)
    refine n0_ne 54 d192_7 (by decide) (by decide) (fun q => absurd q (by decide)) (fun _ => ?_)
    refine q_iload_n d192_10 rfl ?_
    refine q_bipush (x := nI 10) d192_11 rfl ?_
    refine q_bipush (x := nI 12) d192_13 rfl ?_
    refine q_s3 d192_15 (Or.inl rfl) rfl (Nat.le_of_ble_eq_true rfl) (c131f (by decide) (by omega) (by decide) ?_)
    refine n0_ne 54 d192_18 (by decide) (by decide) (fun q => absurd q (by decide)) (fun _ => ?_)
    refine q_iload_n d192_21 rfl ?_
    refine q_bipush (x := nI 20) d192_22 rfl ?_
    refine q_bipush (x := nI 22) d192_24 rfl ?_
    refine q_s3 d192_26 (Or.inl rfl) rfl (Nat.le_of_ble_eq_true rfl) (c131f (by decide) (by omega) (by decide) ?_)
    refine n0_ne 54 d192_29 (by decide) (by decide) (fun q => absurd q (by decide)) (fun _ => ?_)
    refine q_iload_n d192_32 rfl ?_
    refine q_bipush (x := nI 30) d192_33 rfl ?_
    refine q_bipush (x := nI 32) d192_35 rfl ?_
    refine q_s3 d192_37 (Or.inl rfl) rfl (Nat.le_of_ble_eq_true rfl) (c131f (by decide) (by omega) (by decide) ?_)
    refine n0_ne 54 d192_40 (by decide) (by decide) (fun q => absurd q (by decide)) (fun _ => ?_)
    refine q_iload_n d192_43 rfl ?_
    refine q_bipush (x := nI 40) d192_44 rfl ?_
    refine q_bipush (x := nI 42) d192_46 rfl ?_
    refine q_s3 d192_48 (Or.inl rfl) rfl (Nat.le_of_ble_eq_true rfl) (c131f (by decide) (by omega) (by decide) ?_)
    refine n0_eq 58 d192_51 (by decide) (by decide) (fun _ => ?_) (fun q => absurd q (by decide))
    refine q_iconstN (z := 0) d192_58 ?_
    refine q_zret d192_59 rfl (by decide) ?_
    exact bK0 k rfl
theorem c192t {d m : Nat} {M : zM} {Q : Option Value → zM → Prop} {x : Int32} (h : yvx x = some m) (k : Q (some (.int (nI 1))) M) : qC (d + 2) 192 [.int x] M Q := c192 (by rw [h]; exact k)
theorem c192f {d : Nat} {M : zM} {Q : Option Value → zM → Prop} {x : Int32} (h : yvx x = none) (k : Q (some (.int (nI 0))) M) : qC (d + 2) 192 [.int x] M Q := c192 (by rw [h]; exact k)
theorem CX.w {G : List yL} {M : zM} {T : Nat → yT} {c κ : Nat} {nm : Nat → Nat → Int32} {X : yX} (h : CX G M T c nm X κ) : WX M T c X.1 κ := ⟨h.1, h.2.1, h.2.2.1, h.2.2.2.1, h.2.2.2.2.1, h.2.2.2.2.2.1⟩
theorem d195_0 : decode (zB 195) 0 = .ok (.iload_n 1, 1) := (congrArg (fun c => decode c 0) zeq195).trans (by decide +kernel)
theorem d195_1 : decode (zB 195) 1 = .ok (.bipush 6, 2) := (congrArg (fun c => decode c 1) zeq195).trans (by decide +kernel)
theorem d195_3 : decode (zB 195) 3 = .ok (.if_icmp .ge 10, 3) := (congrArg (fun c => decode c 3) zeq195).trans (by decide +kernel)
theorem d195_6 : decode (zB 195) 6 = .ok (.aload_n 0, 1) := (congrArg (fun c => decode c 6) zeq195).trans (by decide +kernel)
theorem d195_7 : decode (zB 195) 7 = .ok (.getfield 33, 3) := (congrArg (fun c => decode c 7) zeq195).trans (by decide +kernel)
theorem d195_10 : decode (zB 195) 10 = .ok (.iload_n 1, 1) := (congrArg (fun c => decode c 10) zeq195).trans (by decide +kernel)
theorem d195_11 : decode (zB 195) 11 = .ok (.iaload, 1) := (congrArg (fun c => decode c 11) zeq195).trans (by decide +kernel)
theorem d195_12 : decode (zB 195) 12 = .ok (.ireturn, 1) := (congrArg (fun c => decode c 12) zeq195).trans (by decide +kernel)
theorem d195_13 : decode (zB 195) 13 = .ok (.iload_n 1, 1) := (congrArg (fun c => decode c 13) zeq195).trans (by decide +kernel)
theorem d195_14 : decode (zB 195) 14 = .ok (.bipush 8, 2) := (congrArg (fun c => decode c 14) zeq195).trans (by decide +kernel)
theorem d195_16 : decode (zB 195) 16 = .ok (.if_icmp .ge 21, 3) := (congrArg (fun c => decode c 16) zeq195).trans (by decide +kernel)
theorem d195_19 : decode (zB 195) 19 = .ok (.iload_n 1, 1) := (congrArg (fun c => decode c 19) zeq195).trans (by decide +kernel)
theorem d195_20 : decode (zB 195) 20 = .ok (.bipush 6, 2) := (congrArg (fun c => decode c 20) zeq195).trans (by decide +kernel)
theorem d195_22 : decode (zB 195) 22 = .ok (.if_icmp .ne 10, 3) := (congrArg (fun c => decode c 22) zeq195).trans (by decide +kernel)
theorem d195_25 : decode (zB 195) 25 = .ok (.aload_n 0, 1) := (congrArg (fun c => decode c 25) zeq195).trans (by decide +kernel)
theorem d195_26 : decode (zB 195) 26 = .ok (.getfield 276, 3) := (congrArg (fun c => decode c 26) zeq195).trans (by decide +kernel)
theorem d195_29 : decode (zB 195) 29 = .ok (.goto 7, 3) := (congrArg (fun c => decode c 29) zeq195).trans (by decide +kernel)
theorem d195_32 : decode (zB 195) 32 = .ok (.aload_n 0, 1) := (congrArg (fun c => decode c 32) zeq195).trans (by decide +kernel)
theorem d195_33 : decode (zB 195) 33 = .ok (.getfield 282, 3) := (congrArg (fun c => decode c 33) zeq195).trans (by decide +kernel)
theorem d195_36 : decode (zB 195) 36 = .ok (.ireturn, 1) := (congrArg (fun c => decode c 36) zeq195).trans (by decide +kernel)
theorem d195_37 : decode (zB 195) 37 = .ok (.iload_n 1, 1) := (congrArg (fun c => decode c 37) zeq195).trans (by decide +kernel)
theorem d195_38 : decode (zB 195) 38 = .ok (.bipush 20, 2) := (congrArg (fun c => decode c 38) zeq195).trans (by decide +kernel)
theorem d195_40 : decode (zB 195) 40 = .ok (.if_icmp .ge 13, 3) := (congrArg (fun c => decode c 40) zeq195).trans (by decide +kernel)
theorem d195_43 : decode (zB 195) 43 = .ok (.aload_n 0, 1) := (congrArg (fun c => decode c 43) zeq195).trans (by decide +kernel)
theorem d195_44 : decode (zB 195) 44 = .ok (.getfield 36, 3) := (congrArg (fun c => decode c 44) zeq195).trans (by decide +kernel)
theorem d195_47 : decode (zB 195) 47 = .ok (.iload_n 1, 1) := (congrArg (fun c => decode c 47) zeq195).trans (by decide +kernel)
theorem d195_48 : decode (zB 195) 48 = .ok (.bipush 10, 2) := (congrArg (fun c => decode c 48) zeq195).trans (by decide +kernel)
theorem d195_50 : decode (zB 195) 50 = .ok (.isub, 1) := (congrArg (fun c => decode c 50) zeq195).trans (by decide +kernel)
theorem d195_51 : decode (zB 195) 51 = .ok (.iaload, 1) := (congrArg (fun c => decode c 51) zeq195).trans (by decide +kernel)
theorem d195_52 : decode (zB 195) 52 = .ok (.ireturn, 1) := (congrArg (fun c => decode c 52) zeq195).trans (by decide +kernel)
theorem d195_53 : decode (zB 195) 53 = .ok (.aload_n 0, 1) := (congrArg (fun c => decode c 53) zeq195).trans (by decide +kernel)
theorem d195_54 : decode (zB 195) 54 = .ok (.iload_n 1, 1) := (congrArg (fun c => decode c 54) zeq195).trans (by decide +kernel)
theorem d195_55 : decode (zB 195) 55 = .ok (.bipush 10, 2) := (congrArg (fun c => decode c 55) zeq195).trans (by decide +kernel)
theorem d195_57 : decode (zB 195) 57 = .ok (.irem, 1) := (congrArg (fun c => decode c 57) zeq195).trans (by decide +kernel)
theorem d195_58 : decode (zB 195) 58 = .ok (.iload_n 1, 1) := (congrArg (fun c => decode c 58) zeq195).trans (by decide +kernel)
theorem d195_59 : decode (zB 195) 59 = .ok (.bipush 10, 2) := (congrArg (fun c => decode c 59) zeq195).trans (by decide +kernel)
theorem d195_61 : decode (zB 195) 61 = .ok (.idiv, 1) := (congrArg (fun c => decode c 61) zeq195).trans (by decide +kernel)
theorem d195_62 : decode (zB 195) 62 = .ok (.iconst 1, 1) := (congrArg (fun c => decode c 62) zeq195).trans (by decide +kernel)
theorem d195_63 : decode (zB 195) 63 = .ok (.isub, 1) := (congrArg (fun c => decode c 63) zeq195).trans (by decide +kernel)
theorem d195_64 : decode (zB 195) 64 = .ok (.invokevirtual 304, 3) := (congrArg (fun c => decode c 64) zeq195).trans (by decide +kernel)
theorem d195_67 : decode (zB 195) 67 = .ok (.ireturn, 1) := (congrArg (fun c => decode c 67) zeq195).trans (by decide +kernel)
/-- a view of the world -/
theorem c195 {d : Nat} {M : zM} {Q : Option Value → zM → Prop} {T : Nat → yT} {c m κ : Nat} {W : yW} (hW : WX M T c W κ) (hm : ywv m = true) (h50 : m < 50) (k : Q (some (.int (yvw W m))) M) : qC (d + 2) 195 [.ref 136, .int (nI m)] M Q := by
  refine qC_of (by decide) (Nat.le_of_ble_eq_true rfl) ?_
  simp only [ywv, Bool.or_eq_true, Bool.and_eq_true, decide_eq_true_eq] at hm
  by_cases h6 : m < 6
  · rw [show yvw W m = W.1.1 m from if_pos h6] at k
    refine q_iload_n d195_0 rfl ?_
    refine q_bipush (x := nI 6) d195_1 rfl ?_
    refine nc_ge 13 d195_3 (by decide) (by omega) (by omega) (fun h3 => (False.elim (by omega))) (fun h3 => ?_)
    refine q_aload_n d195_6 rfl ?_
    refine q_getr (c := 8) (f := 8) d195_7 ⟨rfl, rfl⟩ (xk_136 hW.1) (xf_balances hW.1) ?_
    refine q_iload_n d195_10 rfl ?_
    refine n_iald d195_11 (xk_balances hW.1) (by omega) (by decide) (hW.2.2.2.1.1 _ (by omega)) ?_
    refine q_iret d195_12 rfl ?_
    exact k
  · rcases (show m = 6 ∨ m = 7 ∨ m = 10 ∨ m = 11 ∨ m = 12 ∨ m = 20 ∨ m = 21 ∨ m = 22 ∨ m = 30 ∨ m = 31 ∨ m = 32 ∨ m = 40 ∨ m = 41 ∨ m = 42 by omega) with rfl | rfl | rfl | rfl | rfl | rfl | rfl | rfl | rfl | rfl | rfl | rfl | rfl | rfl
    · refine q_iload_n d195_0 rfl ?_
      refine q_bipush (x := nI 6) d195_1 rfl ?_
      refine nc_ge 13 d195_3 (by decide) (by decide) (by decide) (fun _ => ?_) (fun q => absurd q (by decide))
      refine q_iload_n d195_13 rfl ?_
      refine q_bipush (x := nI 8) d195_14 rfl ?_
      refine nc_ge 37 d195_16 (by decide) (by decide) (by decide) (fun q => absurd q (by decide)) (fun _ => ?_)
      refine q_iload_n d195_19 rfl ?_
      refine q_bipush (x := nI 6) d195_20 rfl ?_
      refine nc_ne 32 d195_22 (by decide) (by decide) (by decide) (fun q => absurd q (by decide)) (fun _ => ?_)
      refine q_aload_n d195_25 rfl ?_
      refine q_getv (c := 8) (f := 9) d195_26 ⟨rfl, by decide⟩ (xk_136 hW.1) hW.2.2.2.1.2.1 ?_
      refine q_goto 36 d195_29 (by decide) ?_
      refine q_iret d195_36 rfl ?_
      exact k
    · refine q_iload_n d195_0 rfl ?_
      refine q_bipush (x := nI 6) d195_1 rfl ?_
      refine nc_ge 13 d195_3 (by decide) (by decide) (by decide) (fun _ => ?_) (fun q => absurd q (by decide))
      refine q_iload_n d195_13 rfl ?_
      refine q_bipush (x := nI 8) d195_14 rfl ?_
      refine nc_ge 37 d195_16 (by decide) (by decide) (by decide) (fun q => absurd q (by decide)) (fun _ => ?_)
      refine q_iload_n d195_19 rfl ?_
      refine q_bipush (x := nI 6) d195_20 rfl ?_
      refine nc_ne 32 d195_22 (by decide) (by decide) (by decide) (fun _ => ?_) (fun q => absurd q (by decide))
      refine q_aload_n d195_32 rfl ?_
      refine q_getv (c := 8) (f := 10) d195_33 ⟨rfl, by decide⟩ (xk_136 hW.1) hW.2.2.2.1.2.2 ?_
      refine q_iret d195_36 rfl ?_
      exact k
    · refine q_iload_n d195_0 rfl ?_
      refine q_bipush (x := nI 6) d195_1 rfl ?_
      refine nc_ge 13 d195_3 (by decide) (by decide) (by decide) (fun _ => ?_) (fun q => absurd q (by decide))
      refine q_iload_n d195_13 rfl ?_
      refine q_bipush (x := nI 8) d195_14 rfl ?_
      refine nc_ge 37 d195_16 (by decide) (by decide) (by decide) (fun _ => ?_) (fun q => absurd q (by decide))
      refine q_iload_n d195_37 rfl ?_
      refine q_bipush (x := nI 20) d195_38 rfl ?_
      refine nc_ge 53 d195_40 (by decide) (by decide) (by decide) (fun q => absurd q (by decide)) (fun _ => ?_)
      refine q_aload_n d195_43 rfl ?_
      refine q_getr (c := 8) (f := 11) d195_44 ⟨rfl, rfl⟩ (xk_136 hW.1) (xf_states hW.1) ?_
      refine q_iload_n d195_47 rfl ?_
      refine q_bipush (x := nI 10) d195_48 rfl ?_
      refine n_isub d195_50 (by omega) ?_
      refine n_iald d195_51 (xk_states hW.1) (by omega) (by decide) (hW.2.2.2.2.1 _ (by omega)).1.1 ?_
      refine q_iret d195_52 rfl ?_
      exact k
    · refine q_iload_n d195_0 rfl ?_
      refine q_bipush (x := nI 6) d195_1 rfl ?_
      refine nc_ge 13 d195_3 (by decide) (by decide) (by decide) (fun _ => ?_) (fun q => absurd q (by decide))
      refine q_iload_n d195_13 rfl ?_
      refine q_bipush (x := nI 8) d195_14 rfl ?_
      refine nc_ge 37 d195_16 (by decide) (by decide) (by decide) (fun _ => ?_) (fun q => absurd q (by decide))
      refine q_iload_n d195_37 rfl ?_
      refine q_bipush (x := nI 20) d195_38 rfl ?_
      refine nc_ge 53 d195_40 (by decide) (by decide) (by decide) (fun q => absurd q (by decide)) (fun _ => ?_)
      refine q_aload_n d195_43 rfl ?_
      refine q_getr (c := 8) (f := 11) d195_44 ⟨rfl, rfl⟩ (xk_136 hW.1) (xf_states hW.1) ?_
      refine q_iload_n d195_47 rfl ?_
      refine q_bipush (x := nI 10) d195_48 rfl ?_
      refine n_isub d195_50 (by omega) ?_
      refine n_iald d195_51 (xk_states hW.1) (by omega) (by decide) (hW.2.2.2.2.1 _ (by omega)).1.1 ?_
      refine q_iret d195_52 rfl ?_
      exact k
    · refine q_iload_n d195_0 rfl ?_
      refine q_bipush (x := nI 6) d195_1 rfl ?_
      refine nc_ge 13 d195_3 (by decide) (by decide) (by decide) (fun _ => ?_) (fun q => absurd q (by decide))
      refine q_iload_n d195_13 rfl ?_
      refine q_bipush (x := nI 8) d195_14 rfl ?_
      refine nc_ge 37 d195_16 (by decide) (by decide) (by decide) (fun _ => ?_) (fun q => absurd q (by decide))
      refine q_iload_n d195_37 rfl ?_
      refine q_bipush (x := nI 20) d195_38 rfl ?_
      refine nc_ge 53 d195_40 (by decide) (by decide) (by decide) (fun q => absurd q (by decide)) (fun _ => ?_)
      refine q_aload_n d195_43 rfl ?_
      refine q_getr (c := 8) (f := 11) d195_44 ⟨rfl, rfl⟩ (xk_136 hW.1) (xf_states hW.1) ?_
      refine q_iload_n d195_47 rfl ?_
      refine q_bipush (x := nI 10) d195_48 rfl ?_
      refine n_isub d195_50 (by omega) ?_
      refine n_iald d195_51 (xk_states hW.1) (by omega) (by decide) (hW.2.2.2.2.1 _ (by omega)).1.1 ?_
      refine q_iret d195_52 rfl ?_
      exact k
    · refine q_iload_n d195_0 rfl ?_
      refine q_bipush (x := nI 6) d195_1 rfl ?_
      refine nc_ge 13 d195_3 (by decide) (by decide) (by decide) (fun _ => ?_) (fun q => absurd q (by decide))
      refine q_iload_n d195_13 rfl ?_
      refine q_bipush (x := nI 8) d195_14 rfl ?_
      refine nc_ge 37 d195_16 (by decide) (by decide) (by decide) (fun _ => ?_) (fun q => absurd q (by decide))
      refine q_iload_n d195_37 rfl ?_
      refine q_bipush (x := nI 20) d195_38 rfl ?_
      refine nc_ge 53 d195_40 (by decide) (by decide) (by decide) (fun _ => ?_) (fun q => absurd q (by decide))
      refine q_aload_n d195_53 rfl ?_
      refine q_iload_n d195_54 rfl ?_
      refine q_bipush (x := nI 10) d195_55 rfl ?_
      refine n_irem d195_57 (by omega) (by omega) (by omega) ?_
      refine q_iload_n d195_58 rfl ?_
      refine q_bipush (x := nI 10) d195_59 rfl ?_
      refine n_idiv d195_61 (by omega) (by omega) (by omega) ?_
      refine q_iconstN (z := 1) d195_62 ?_
      refine n_isub d195_63 (by omega) ?_
      refine q_v2 d195_64 rfl rfl (xk_136 hW.1) (Nat.le_of_ble_eq_true rfl) (c179 (v := 1) hW.1 (by omega) (hW.2.2.2.2.1 0 (by omega)) ⟨hW.2.1, hW.2.2.1.1⟩ (hW.2.2.1.2.2 0 (by omega)) (by omega) ?_)
      refine q_iret d195_67 rfl ?_
      exact k
    · refine q_iload_n d195_0 rfl ?_
      refine q_bipush (x := nI 6) d195_1 rfl ?_
      refine nc_ge 13 d195_3 (by decide) (by decide) (by decide) (fun _ => ?_) (fun q => absurd q (by decide))
      refine q_iload_n d195_13 rfl ?_
      refine q_bipush (x := nI 8) d195_14 rfl ?_
      refine nc_ge 37 d195_16 (by decide) (by decide) (by decide) (fun _ => ?_) (fun q => absurd q (by decide))
      refine q_iload_n d195_37 rfl ?_
      refine q_bipush (x := nI 20) d195_38 rfl ?_
      refine nc_ge 53 d195_40 (by decide) (by decide) (by decide) (fun _ => ?_) (fun q => absurd q (by decide))
      refine q_aload_n d195_53 rfl ?_
      refine q_iload_n d195_54 rfl ?_
      refine q_bipush (x := nI 10) d195_55 rfl ?_
      refine n_irem d195_57 (by omega) (by omega) (by omega) ?_
      refine q_iload_n d195_58 rfl ?_
      refine q_bipush (x := nI 10) d195_59 rfl ?_
      refine n_idiv d195_61 (by omega) (by omega) (by omega) ?_
      refine q_iconstN (z := 1) d195_62 ?_
      refine n_isub d195_63 (by omega) ?_
      refine q_v2 d195_64 rfl rfl (xk_136 hW.1) (Nat.le_of_ble_eq_true rfl) (c179 (v := 1) hW.1 (by omega) (hW.2.2.2.2.1 1 (by omega)) ⟨hW.2.1, hW.2.2.1.1⟩ (hW.2.2.1.2.2 1 (by omega)) (by omega) ?_)
      refine q_iret d195_67 rfl ?_
      exact k
    · refine q_iload_n d195_0 rfl ?_
      refine q_bipush (x := nI 6) d195_1 rfl ?_
      refine nc_ge 13 d195_3 (by decide) (by decide) (by decide) (fun _ => ?_) (fun q => absurd q (by decide))
      refine q_iload_n d195_13 rfl ?_
      refine q_bipush (x := nI 8) d195_14 rfl ?_
      refine nc_ge 37 d195_16 (by decide) (by decide) (by decide) (fun _ => ?_) (fun q => absurd q (by decide))
      refine q_iload_n d195_37 rfl ?_
      refine q_bipush (x := nI 20) d195_38 rfl ?_
      refine nc_ge 53 d195_40 (by decide) (by decide) (by decide) (fun _ => ?_) (fun q => absurd q (by decide))
      refine q_aload_n d195_53 rfl ?_
      refine q_iload_n d195_54 rfl ?_
      refine q_bipush (x := nI 10) d195_55 rfl ?_
      refine n_irem d195_57 (by omega) (by omega) (by omega) ?_
      refine q_iload_n d195_58 rfl ?_
      refine q_bipush (x := nI 10) d195_59 rfl ?_
      refine n_idiv d195_61 (by omega) (by omega) (by omega) ?_
      refine q_iconstN (z := 1) d195_62 ?_
      refine n_isub d195_63 (by omega) ?_
      refine q_v2 d195_64 rfl rfl (xk_136 hW.1) (Nat.le_of_ble_eq_true rfl) (c179 (v := 1) hW.1 (by omega) (hW.2.2.2.2.1 2 (by omega)) ⟨hW.2.1, hW.2.2.1.1⟩ (hW.2.2.1.2.2 2 (by omega)) (by omega) ?_)
      refine q_iret d195_67 rfl ?_
      exact k
    · refine q_iload_n d195_0 rfl ?_
      refine q_bipush (x := nI 6) d195_1 rfl ?_
      refine nc_ge 13 d195_3 (by decide) (by decide) (by decide) (fun _ => ?_) (fun q => absurd q (by decide))
      refine q_iload_n d195_13 rfl ?_
      refine q_bipush (x := nI 8) d195_14 rfl ?_
      refine nc_ge 37 d195_16 (by decide) (by decide) (by decide) (fun _ => ?_) (fun q => absurd q (by decide))
      refine q_iload_n d195_37 rfl ?_
      refine q_bipush (x := nI 20) d195_38 rfl ?_
      refine nc_ge 53 d195_40 (by decide) (by decide) (by decide) (fun _ => ?_) (fun q => absurd q (by decide))
      refine q_aload_n d195_53 rfl ?_
      refine q_iload_n d195_54 rfl ?_
      refine q_bipush (x := nI 10) d195_55 rfl ?_
      refine n_irem d195_57 (by omega) (by omega) (by omega) ?_
      refine q_iload_n d195_58 rfl ?_
      refine q_bipush (x := nI 10) d195_59 rfl ?_
      refine n_idiv d195_61 (by omega) (by omega) (by omega) ?_
      refine q_iconstN (z := 1) d195_62 ?_
      refine n_isub d195_63 (by omega) ?_
      refine q_v2 d195_64 rfl rfl (xk_136 hW.1) (Nat.le_of_ble_eq_true rfl) (c179 (v := 2) hW.1 (by omega) (hW.2.2.2.2.1 0 (by omega)) ⟨hW.2.1, hW.2.2.1.1⟩ (hW.2.2.1.2.2 0 (by omega)) (by omega) ?_)
      refine q_iret d195_67 rfl ?_
      exact k
    · refine q_iload_n d195_0 rfl ?_
      refine q_bipush (x := nI 6) d195_1 rfl ?_
      refine nc_ge 13 d195_3 (by decide) (by decide) (by decide) (fun _ => ?_) (fun q => absurd q (by decide))
      refine q_iload_n d195_13 rfl ?_
      refine q_bipush (x := nI 8) d195_14 rfl ?_
      refine nc_ge 37 d195_16 (by decide) (by decide) (by decide) (fun _ => ?_) (fun q => absurd q (by decide))
      refine q_iload_n d195_37 rfl ?_
      refine q_bipush (x := nI 20) d195_38 rfl ?_
      refine nc_ge 53 d195_40 (by decide) (by decide) (by decide) (fun _ => ?_) (fun q => absurd q (by decide))
      refine q_aload_n d195_53 rfl ?_
      refine q_iload_n d195_54 rfl ?_
      refine q_bipush (x := nI 10) d195_55 rfl ?_
      refine n_irem d195_57 (by omega) (by omega) (by omega) ?_
      refine q_iload_n d195_58 rfl ?_
      refine q_bipush (x := nI 10) d195_59 rfl ?_
      refine n_idiv d195_61 (by omega) (by omega) (by omega) ?_
      refine q_iconstN (z := 1) d195_62 ?_
      refine n_isub d195_63 (by omega) ?_
      refine q_v2 d195_64 rfl rfl (xk_136 hW.1) (Nat.le_of_ble_eq_true rfl) (c179 (v := 2) hW.1 (by omega) (hW.2.2.2.2.1 1 (by omega)) ⟨hW.2.1, hW.2.2.1.1⟩ (hW.2.2.1.2.2 1 (by omega)) (by omega) ?_)
      refine q_iret d195_67 rfl ?_
      exact k
    · refine q_iload_n d195_0 rfl ?_
      refine q_bipush (x := nI 6) d195_1 rfl ?_
      refine nc_ge 13 d195_3 (by decide) (by decide) (by decide) (fun _ => ?_) (fun q => absurd q (by decide))
      refine q_iload_n d195_13 rfl ?_
      refine q_bipush (x := nI 8) d195_14 rfl ?_
      refine nc_ge 37 d195_16 (by decide) (by decide) (by decide) (fun _ => ?_) (fun q => absurd q (by decide))
      refine q_iload_n d195_37 rfl ?_
      refine q_bipush (x := nI 20) d195_38 rfl ?_
      refine nc_ge 53 d195_40 (by decide) (by decide) (by decide) (fun _ => ?_) (fun q => absurd q (by decide))
      refine q_aload_n d195_53 rfl ?_
      refine q_iload_n d195_54 rfl ?_
      refine q_bipush (x := nI 10) d195_55 rfl ?_
      refine n_irem d195_57 (by omega) (by omega) (by omega) ?_
      refine q_iload_n d195_58 rfl ?_
      refine q_bipush (x := nI 10) d195_59 rfl ?_
      refine n_idiv d195_61 (by omega) (by omega) (by omega) ?_
      refine q_iconstN (z := 1) d195_62 ?_
      refine n_isub d195_63 (by omega) ?_
      refine q_v2 d195_64 rfl rfl (xk_136 hW.1) (Nat.le_of_ble_eq_true rfl) (c179 (v := 2) hW.1 (by omega) (hW.2.2.2.2.1 2 (by omega)) ⟨hW.2.1, hW.2.2.1.1⟩ (hW.2.2.1.2.2 2 (by omega)) (by omega) ?_)
      refine q_iret d195_67 rfl ?_
      exact k
    · refine q_iload_n d195_0 rfl ?_
      refine q_bipush (x := nI 6) d195_1 rfl ?_
      refine nc_ge 13 d195_3 (by decide) (by decide) (by decide) (fun _ => ?_) (fun q => absurd q (by decide))
      refine q_iload_n d195_13 rfl ?_
      refine q_bipush (x := nI 8) d195_14 rfl ?_
      refine nc_ge 37 d195_16 (by decide) (by decide) (by decide) (fun _ => ?_) (fun q => absurd q (by decide))
      refine q_iload_n d195_37 rfl ?_
      refine q_bipush (x := nI 20) d195_38 rfl ?_
      refine nc_ge 53 d195_40 (by decide) (by decide) (by decide) (fun _ => ?_) (fun q => absurd q (by decide))
      refine q_aload_n d195_53 rfl ?_
      refine q_iload_n d195_54 rfl ?_
      refine q_bipush (x := nI 10) d195_55 rfl ?_
      refine n_irem d195_57 (by omega) (by omega) (by omega) ?_
      refine q_iload_n d195_58 rfl ?_
      refine q_bipush (x := nI 10) d195_59 rfl ?_
      refine n_idiv d195_61 (by omega) (by omega) (by omega) ?_
      refine q_iconstN (z := 1) d195_62 ?_
      refine n_isub d195_63 (by omega) ?_
      refine q_v2 d195_64 rfl rfl (xk_136 hW.1) (Nat.le_of_ble_eq_true rfl) (c179 (v := 3) hW.1 (by omega) (hW.2.2.2.2.1 0 (by omega)) ⟨hW.2.1, hW.2.2.1.1⟩ (hW.2.2.1.2.2 0 (by omega)) (by omega) ?_)
      refine q_iret d195_67 rfl ?_
      exact k
    · refine q_iload_n d195_0 rfl ?_
      refine q_bipush (x := nI 6) d195_1 rfl ?_
      refine nc_ge 13 d195_3 (by decide) (by decide) (by decide) (fun _ => ?_) (fun q => absurd q (by decide))
      refine q_iload_n d195_13 rfl ?_
      refine q_bipush (x := nI 8) d195_14 rfl ?_
      refine nc_ge 37 d195_16 (by decide) (by decide) (by decide) (fun _ => ?_) (fun q => absurd q (by decide))
      refine q_iload_n d195_37 rfl ?_
      refine q_bipush (x := nI 20) d195_38 rfl ?_
      refine nc_ge 53 d195_40 (by decide) (by decide) (by decide) (fun _ => ?_) (fun q => absurd q (by decide))
      refine q_aload_n d195_53 rfl ?_
      refine q_iload_n d195_54 rfl ?_
      refine q_bipush (x := nI 10) d195_55 rfl ?_
      refine n_irem d195_57 (by omega) (by omega) (by omega) ?_
      refine q_iload_n d195_58 rfl ?_
      refine q_bipush (x := nI 10) d195_59 rfl ?_
      refine n_idiv d195_61 (by omega) (by omega) (by omega) ?_
      refine q_iconstN (z := 1) d195_62 ?_
      refine n_isub d195_63 (by omega) ?_
      refine q_v2 d195_64 rfl rfl (xk_136 hW.1) (Nat.le_of_ble_eq_true rfl) (c179 (v := 3) hW.1 (by omega) (hW.2.2.2.2.1 1 (by omega)) ⟨hW.2.1, hW.2.2.1.1⟩ (hW.2.2.1.2.2 1 (by omega)) (by omega) ?_)
      refine q_iret d195_67 rfl ?_
      exact k
    · refine q_iload_n d195_0 rfl ?_
      refine q_bipush (x := nI 6) d195_1 rfl ?_
      refine nc_ge 13 d195_3 (by decide) (by decide) (by decide) (fun _ => ?_) (fun q => absurd q (by decide))
      refine q_iload_n d195_13 rfl ?_
      refine q_bipush (x := nI 8) d195_14 rfl ?_
      refine nc_ge 37 d195_16 (by decide) (by decide) (by decide) (fun _ => ?_) (fun q => absurd q (by decide))
      refine q_iload_n d195_37 rfl ?_
      refine q_bipush (x := nI 20) d195_38 rfl ?_
      refine nc_ge 53 d195_40 (by decide) (by decide) (by decide) (fun _ => ?_) (fun q => absurd q (by decide))
      refine q_aload_n d195_53 rfl ?_
      refine q_iload_n d195_54 rfl ?_
      refine q_bipush (x := nI 10) d195_55 rfl ?_
      refine n_irem d195_57 (by omega) (by omega) (by omega) ?_
      refine q_iload_n d195_58 rfl ?_
      refine q_bipush (x := nI 10) d195_59 rfl ?_
      refine n_idiv d195_61 (by omega) (by omega) (by omega) ?_
      refine q_iconstN (z := 1) d195_62 ?_
      refine n_isub d195_63 (by omega) ?_
      refine q_v2 d195_64 rfl rfl (xk_136 hW.1) (Nat.le_of_ble_eq_true rfl) (c179 (v := 3) hW.1 (by omega) (hW.2.2.2.2.1 2 (by omega)) ⟨hW.2.1, hW.2.2.1.1⟩ (hW.2.2.1.2.2 2 (by omega)) (by omega) ?_)
      refine q_iret d195_67 rfl ?_
      exact k
/-- what thoughts write -/
def FZ : Nat → Nat → Prop := fun b k => (b = 136 ∧ (k = 9 ∨ k = 10 ∨ (19 < k ∧ k < 26))) ∨ (173 < b ∧ b < 208) ∨ (208 < b ∧ b ≠ 319 ∧ b ≠ 320)
theorem FZ_Y {b k : Nat} (h : FZ b k) : FY b k := by unfold FZ at h; unfold FY; omega
theorem FX_Z {b k : Nat} (h : FX b k) : FZ b k := by unfold FX at h; unfold FZ; omega
theorem FB_Z {b k : Nat} (h : FB b k) : FZ b k := by unfold FB at h; unfold FZ; omega
theorem FA_Z {b k l : Nat} (hl : l < 4) (h : FA l b k) : FZ b k := by unfold FA at h; unfold FZ; omega
theorem XSa.kb {M M' : zM} {s κ : Nat} {S : yS} (h : XSa M s S κ) (hs : s < 3) (hg : ∀ i, i ∈ go S → i < 12) (hK : KB M M') : XSa M' s S κ := by
  obtain ⟨⟨h1, h2⟩, h3, h4, w, h5, h6⟩ := h
  refine ⟨⟨(hK.1.2.2.2.2.1 s hs).trans h1, (hK.1.2.2.2.2.2 s hs).trans h2⟩, fun k hk => ⟨(hK.2 0 s (by decide) hs k hk).trans (h3 k hk).1, (hK.2 3 s (by decide) hs k hk).trans (h3 k hk).2.1, (hK.2 4 s (by decide) hs k hk).trans (h3 k hk).2.2.1, (hK.2 5 s (by decide) hs k hk).trans (h3 k hk).2.2.2.1, (hK.2 6 s (by decide) hs k hk).trans (h3 k hk).2.2.2.2⟩, fun k hk q => (hK.2 2 s (by decide) hs k hk).trans (h4 k hk q), w, fun i hi => ⟨(hK.2 1 s (by decide) hs i (hg i hi)).trans (h5 i hi).1, (h5 i hi).2⟩, h6⟩
theorem OKS_m12 {T : Nat → yT} {c : Nat} {S : yS} (hT : ∀ i, i < c → OKT (T i)) (h : OKS T c S) : ∀ i, i ∈ go S → i < 12 := by
  intro i hi
  have h1 := (h.2.2.2.1 i).mp hi
  have h2 : i < gz T S := Nat.lt_of_not_le (fun q => by have := h.2.2.2.2.1 i q; omega)
  unfold gz at h2
  by_cases h0 : gt S = 0
  · rw [if_pos h0] at h2; omega
  · rw [if_neg h0] at h2
    have := (hT _ (h.2.1 h0)).n
    omega
/-- the desk is as it was -/
theorem RX.back {M M' : zM} {D : yD} {κ : Nat} (h : RX M D κ) (f : Fi FZ M M') (hK : KB M M') (h21 : zi M' 136 21 = -1) (hL : XLo [] M' (some (dL D))) : RX M' D κ := by
  obtain ⟨h1, h2, h3, ⟨h4, h5, h6⟩, h7⟩ := h
  have hO := h1.2.2.1
  refine ⟨⟨SX_fi h1.1 f, XTx_fi h1.2.1 hO.1.1 f (fun b k b1 b2 q => by unfold FZ at q; omega), hO, ⟨fun k hk => (hK.1.1 k hk).trans (h1.2.2.2.1.1 k hk), hK.1.2.1.trans h1.2.2.2.1.2.1, hK.1.2.2.1.trans h1.2.2.2.1.2.2⟩, fun s hs => (h1.2.2.2.2.1 s hs).kb hs (OKS_m12 hO.1.2 (hO.2.2 s hs)) hK, hK.1.2.2.2.1.trans h1.2.2.2.2.2.1, hL, ⟨none, h21, fun s hs h0 k hk => rfl⟩⟩, h21, (f.1 _ _ (by unfold FZ; omega)).trans h3, ⟨h4, (f.1 _ _ (by unfold FZ; omega)).trans h5, fun k hk => (f.1 _ _ (by unfold FZ; omega)).trans (h6 k hk)⟩, fun i hi => ⟨(f.1 _ _ (by unfold FZ; omega)).trans (h7 i hi).1, (f.1 _ _ (by unfold FZ; omega)).trans (h7 i hi).2⟩⟩
theorem c131g {d b : Nat} {M : zM} {Q : Option Value → zM → Prop} {x : Int32} (h : zix x (b + 1) = none) (hb : b + 1 < 2147483648) (k : Q (some (.int (nI 0))) M) : qC (d + 1) 131 [.int x, .int (nI 0), .int (nI b)] M Q :=
  c131f (by omega) (fun q => by have := zix_none h; omega) (by decide) k
theorem d191_0 : decode (zB 191) 0 = .ok (.iload_n 1, 1) := (congrArg (fun c => decode c 0) zeq191).trans (by decide +kernel)
theorem d191_1 : decode (zB 191) 1 = .ok (.iconst 0, 1) := (congrArg (fun c => decode c 1) zeq191).trans (by decide +kernel)
theorem d191_2 : decode (zB 191) 2 = .ok (.aload_n 0, 1) := (congrArg (fun c => decode c 2) zeq191).trans (by decide +kernel)
theorem d191_3 : decode (zB 191) 3 = .ok (.getfield 301, 3) := (congrArg (fun c => decode c 3) zeq191).trans (by decide +kernel)
theorem d191_6 : decode (zB 191) 6 = .ok (.invokestatic 112, 3) := (congrArg (fun c => decode c 6) zeq191).trans (by decide +kernel)
theorem d191_9 : decode (zB 191) 9 = .ok (.ifCond .eq 10, 3) := (congrArg (fun c => decode c 9) zeq191).trans (by decide +kernel)
theorem d191_12 : decode (zB 191) 12 = .ok (.iload_n 2, 1) := (congrArg (fun c => decode c 12) zeq191).trans (by decide +kernel)
theorem d191_13 : decode (zB 191) 13 = .ok (.invokestatic 363, 3) := (congrArg (fun c => decode c 13) zeq191).trans (by decide +kernel)
theorem d191_16 : decode (zB 191) 16 = .ok (.ifCond .ne 6, 3) := (congrArg (fun c => decode c 16) zeq191).trans (by decide +kernel)
theorem d191_19 : decode (zB 191) 19 = .ok (.bipush (-2), 2) := (congrArg (fun c => decode c 19) zeq191).trans (by decide +kernel)
theorem d191_21 : decode (zB 191) 21 = .ok (.ireturn, 1) := (congrArg (fun c => decode c 21) zeq191).trans (by decide +kernel)
theorem d191_22 : decode (zB 191) 22 = .ok (.aload_n 0, 1) := (congrArg (fun c => decode c 22) zeq191).trans (by decide +kernel)
theorem d191_23 : decode (zB 191) 23 = .ok (.iconst 0, 1) := (congrArg (fun c => decode c 23) zeq191).trans (by decide +kernel)
theorem d191_24 : decode (zB 191) 24 = .ok (.invokevirtual 225, 3) := (congrArg (fun c => decode c 24) zeq191).trans (by decide +kernel)
theorem d191_27 : decode (zB 191) 27 = .ok (.aload_n 0, 1) := (congrArg (fun c => decode c 27) zeq191).trans (by decide +kernel)
theorem d191_28 : decode (zB 191) 28 = .ok (.iload_n 1, 1) := (congrArg (fun c => decode c 28) zeq191).trans (by decide +kernel)
theorem d191_29 : decode (zB 191) 29 = .ok (.invokevirtual 366, 3) := (congrArg (fun c => decode c 29) zeq191).trans (by decide +kernel)
theorem d191_32 : decode (zB 191) 32 = .ok (.aload_n 0, 1) := (congrArg (fun c => decode c 32) zeq191).trans (by decide +kernel)
theorem d191_33 : decode (zB 191) 33 = .ok (.iload_n 2, 1) := (congrArg (fun c => decode c 33) zeq191).trans (by decide +kernel)
theorem d191_34 : decode (zB 191) 34 = .ok (.invokevirtual 369, 3) := (congrArg (fun c => decode c 34) zeq191).trans (by decide +kernel)
theorem d191_37 : decode (zB 191) 37 = .ok (.istore_n 3, 1) := (congrArg (fun c => decode c 37) zeq191).trans (by decide +kernel)
theorem d191_38 : decode (zB 191) 38 = .ok (.aload_n 0, 1) := (congrArg (fun c => decode c 38) zeq191).trans (by decide +kernel)
theorem d191_39 : decode (zB 191) 39 = .ok (.iconst 0, 1) := (congrArg (fun c => decode c 39) zeq191).trans (by decide +kernel)
theorem d191_40 : decode (zB 191) 40 = .ok (.invokevirtual 233, 3) := (congrArg (fun c => decode c 40) zeq191).trans (by decide +kernel)
theorem d191_43 : decode (zB 191) 43 = .ok (.iload_n 3, 1) := (congrArg (fun c => decode c 43) zeq191).trans (by decide +kernel)
theorem d191_44 : decode (zB 191) 44 = .ok (.ireturn, 1) := (congrArg (fun c => decode c 44) zeq191).trans (by decide +kernel)
theorem x191 {d : Nat} {M : zM} {Q : Option Value → zM → Prop} {D : yD} {κ : Nat} {x y : Int32} (hR : RX M D κ) (hD : OKD D) (hκ : κ + 4000 < 2147483648) (k : ∀ M', RX M' D κ → Fi FY M M' → Q (some (.int (sReplay D x y))) M') : qC (d + 6) 191 [.ref 136, .int x, .int y] M Q := by
  refine qC_of (by decide) (Nat.le_of_ble_eq_true rfl) ?_
  have hC := hR.1
  have hX := hC.1
  have hO : OKW (dT D) (dc D) (dW D) := hC.2.2.1
  have hc6 := hO.1.1
  have hL : XLo [] M (some (dL D)) := hC.2.2.2.2.2.2.1
  have hSa : ∀ s, s < 3 → XSa M s (dS D s) κ := hC.2.2.2.2.1
  have hTk := hC.k
  have hck := hC.2.2.2.2.2.1
  have h240 := hD.2.1
  unfold sReplay at k
  rcases zix_c x (n := (dL D).length + 1) (by omega) with ⟨n, hn, rfl, en⟩ | ⟨en, nn⟩
  · rw [oz_s en] at k
    cases hv : yvx y with
    | none =>
      rw [ov_n hv] at k
      refine q_iload_n d191_0 rfl ?_
      refine q_iconstN (z := 0) d191_1 ?_
      refine q_aload_n d191_2 rfl ?_
      refine q_getv (c := 8) (f := 24) d191_3 ⟨rfl, by decide⟩ (xk_136 hX) hL.2.1 ?_
      refine q_s3 d191_6 (Or.inl rfl) rfl (Nat.le_of_ble_eq_true rfl) (c131t ⟨by omega, by omega⟩ (by omega) ?_)
      refine n0_eq 19 d191_9 (by decide) (by decide) (fun q => absurd q (by decide)) (fun _ => ?_)
      refine q_iload_n d191_12 rfl ?_
      refine q_s1 d191_13 (Or.inl rfl) rfl (Nat.le_of_ble_eq_true rfl) (c192f hv ?_)
      refine n0_ne 22 d191_16 (by decide) (by decide) (fun q => absurd q (by decide)) (fun _ => ?_)
      refine q_bipush (x := (-2)) d191_19 rfl ?_
      refine q_iret d191_21 rfl ?_
      exact k _ hR (Fi.refl _ _)
    | some m =>
      rw [ov_s hv] at k
      obtain ⟨rfl, hm, h50⟩ := yvx_s hv
      refine q_iload_n d191_0 rfl ?_
      refine q_iconstN (z := 0) d191_1 ?_
      refine q_aload_n d191_2 rfl ?_
      refine q_getv (c := 8) (f := 24) d191_3 ⟨rfl, by decide⟩ (xk_136 hX) hL.2.1 ?_
      refine q_s3 d191_6 (Or.inl rfl) rfl (Nat.le_of_ble_eq_true rfl) (c131t ⟨by omega, by omega⟩ (by omega) ?_)
      refine n0_eq 19 d191_9 (by decide) (by decide) (fun q => absurd q (by decide)) (fun _ => ?_)
      refine q_iload_n d191_12 rfl ?_
      refine q_s1 d191_13 (Or.inl rfl) rfl (Nat.le_of_ble_eq_true rfl) (c192t hv ?_)
      refine n0_ne 22 d191_16 (by decide) (by decide) (fun _ => ?_) (fun q => absurd q (by decide))
      refine q_aload_n d191_22 rfl ?_
      refine q_iconstN (z := 0) d191_23 ?_
      refine q_v1 d191_24 rfl rfl (xk_136 hX) (Nat.le_of_ble_eq_true rfl) (c155 (l := 0) hX (by decide) (fun M1 hK f1 => ?_))
      have hX1 := SX_fi hX f1
      have hL1 : XLg M1 (dL D) := ⟨(f1.1 _ _ (by unfold FA; omega)).trans hL.2.1, fun q hq => ⟨(f1.1 _ _ (by unfold FA; omega)).trans (hL.2.2 q hq).1, (f1.1 _ _ (by unfold FA; omega)).trans (hL.2.2 q hq).2.1, (f1.1 _ _ (by unfold FA; omega)).trans (hL.2.2 q hq).2.2⟩⟩
      have hT1 := XTx_fi hTk.1 hc6 f1 (fun b k b1 b2 q => by unfold FA at q; omega)
      refine q_aload_n d191_27 rfl ?_
      refine q_iload_n d191_28 rfl ?_
      refine q_v1 d191_29 rfl rfl (xk_136 hX1) (Nat.le_of_ble_eq_true rfl) (c193 (κ := κ) (L := dL D) hX1 hT1 hO.1 hL1 (by omega) h240 hD.2.2.1 ((f1.1 _ _ (by unfold FA; omega)).trans hck) (by omega) (fun M2 κ2 hk2 hW2 f2 => ?_))
      have hX2 := SX_fi hX1 f2
      have hK2 := hK.fi f2 (fun b k q1 q2 => by unfold FA at q1; unfold FB at q2; omega)
      refine q_aload_n d191_32 rfl ?_
      refine q_iload_n d191_33 rfl ?_
      refine q_v1 d191_34 rfl rfl (xk_136 hX2) (Nat.le_of_ble_eq_true rfl) (c195 hW2 hm h50 ?_)
      refine q_istore_n d191_37 (by decide) rfl ?_
      refine q_aload_n d191_38 rfl ?_
      refine q_iconstN (z := 0) d191_39 ?_
      refine q_v1 d191_40 rfl rfl (xk_136 hX2) (Nat.le_of_ble_eq_true rfl) (c162 (l := 0) hX2 (by decide) hK2 (fun M3 hK3 f3 => ?_))
      refine q_iload_n d191_43 rfl ?_
      refine q_iret d191_44 rfl ?_
      have fz : Fi FZ M M3 := (f1.mono (fun b k q => FA_Z (by decide) q)).trans ((f2.mono (fun b k q => FB_Z q)).trans (f3.mono (fun b k q => FB_Z q)))
      exact k _ (hR.back fz hK3 ((f3.1 _ _ (by unfold FB; omega)).trans ((f2.1 _ _ (by unfold FB; omega)).trans ((f1.1 _ _ (by unfold FA; omega)).trans hR.2.1))) ⟨(f3.1 _ _ (by unfold FB; omega)).trans ((f2.1 _ _ (by unfold FB; omega)).trans ((f1.1 _ _ (by unfold FA; omega)).trans hL.1)), XLg_fb (XLg_fb hL1 f2) f3⟩) (fz.mono (fun b k q => FZ_Y q))
  · rw [oz_n en] at k
    refine q_iload_n d191_0 rfl ?_
    refine q_iconstN (z := 0) d191_1 ?_
    refine q_aload_n d191_2 rfl ?_
    refine q_getv (c := 8) (f := 24) d191_3 ⟨rfl, by decide⟩ (xk_136 hX) hL.2.1 ?_
    refine q_s3 d191_6 (Or.inl rfl) rfl (Nat.le_of_ble_eq_true rfl) (c131g en (by omega) ?_)
    refine n0_eq 19 d191_9 (by decide) (by decide) (fun _ => ?_) (fun q => absurd q (by decide))
    refine q_bipush (x := (-2)) d191_19 rfl ?_
    refine q_iret d191_21 rfl ?_
    exact k _ hR (Fi.refl _ _)
/-! ===== the reference: breaks, told ===== -/
theorem d196_0 : decode (zB 196) 0 = .ok (.iload_n 1, 1) := (congrArg (fun c => decode c 0) zeq196).trans (by decide +kernel)
theorem d196_1 : decode (zB 196) 1 = .ok (.iconst 0, 1) := (congrArg (fun c => decode c 1) zeq196).trans (by decide +kernel)
theorem d196_2 : decode (zB 196) 2 = .ok (.aload_n 0, 1) := (congrArg (fun c => decode c 2) zeq196).trans (by decide +kernel)
theorem d196_3 : decode (zB 196) 3 = .ok (.getfield 301, 3) := (congrArg (fun c => decode c 3) zeq196).trans (by decide +kernel)
theorem d196_6 : decode (zB 196) 6 = .ok (.invokestatic 112, 3) := (congrArg (fun c => decode c 6) zeq196).trans (by decide +kernel)
theorem d196_9 : decode (zB 196) 9 = .ok (.ifCond .ne 6, 3) := (congrArg (fun c => decode c 9) zeq196).trans (by decide +kernel)
theorem d196_12 : decode (zB 196) 12 = .ok (.bipush (-2), 2) := (congrArg (fun c => decode c 12) zeq196).trans (by decide +kernel)
theorem d196_14 : decode (zB 196) 14 = .ok (.ireturn, 1) := (congrArg (fun c => decode c 14) zeq196).trans (by decide +kernel)
theorem d196_15 : decode (zB 196) 15 = .ok (.aload_n 0, 1) := (congrArg (fun c => decode c 15) zeq196).trans (by decide +kernel)
theorem d196_16 : decode (zB 196) 16 = .ok (.getfield 301, 3) := (congrArg (fun c => decode c 16) zeq196).trans (by decide +kernel)
theorem d196_19 : decode (zB 196) 19 = .ok (.iload_n 1, 1) := (congrArg (fun c => decode c 19) zeq196).trans (by decide +kernel)
theorem d196_20 : decode (zB 196) 20 = .ok (.isub, 1) := (congrArg (fun c => decode c 20) zeq196).trans (by decide +kernel)
theorem d196_21 : decode (zB 196) 21 = .ok (.istore_n 2, 1) := (congrArg (fun c => decode c 21) zeq196).trans (by decide +kernel)
theorem d196_22 : decode (zB 196) 22 = .ok (.aload_n 0, 1) := (congrArg (fun c => decode c 22) zeq196).trans (by decide +kernel)
theorem d196_23 : decode (zB 196) 23 = .ok (.iload_n 1, 1) := (congrArg (fun c => decode c 23) zeq196).trans (by decide +kernel)
theorem d196_24 : decode (zB 196) 24 = .ok (.putfield 301, 3) := (congrArg (fun c => decode c 24) zeq196).trans (by decide +kernel)
theorem d196_27 : decode (zB 196) 27 = .ok (.aload_n 0, 1) := (congrArg (fun c => decode c 27) zeq196).trans (by decide +kernel)
theorem d196_28 : decode (zB 196) 28 = .ok (.iload_n 1, 1) := (congrArg (fun c => decode c 28) zeq196).trans (by decide +kernel)
theorem d196_29 : decode (zB 196) 29 = .ok (.invokevirtual 366, 3) := (congrArg (fun c => decode c 29) zeq196).trans (by decide +kernel)
theorem d196_32 : decode (zB 196) 32 = .ok (.iload_n 2, 1) := (congrArg (fun c => decode c 32) zeq196).trans (by decide +kernel)
theorem d196_33 : decode (zB 196) 33 = .ok (.ireturn, 1) := (congrArg (fun c => decode c 33) zeq196).trans (by decide +kernel)
theorem x196 {d : Nat} {M : zM} {Q : Option Value → zM → Prop} {D : yD} {κ : Nat} {x : Int32} (hR : RX M D κ) (hD : OKD D) (hκ : κ + 4000 < 2147483648) (k : ∀ M' κ', κ' ≤ κ + 240 → RX M' (sBreaks D x).2 κ' → Fi FY M M' → Q (some (.int (sBreaks D x).1)) M') : qC (d + 6) 196 [.ref 136, .int x] M Q := by
  refine qC_of (by decide) (Nat.le_of_ble_eq_true rfl) ?_
  have hC := hR.1
  have hX := hC.1
  have hO : OKW (dT D) (dc D) (dW D) := hC.2.2.1
  have hc6 := hO.1.1
  have hL : XLo [] M (some (dL D)) := hC.2.2.2.2.2.2.1
  have hSa : ∀ s, s < 3 → XSa M s (dS D s) κ := hC.2.2.2.2.1
  have hTk := hC.k
  have hck := hC.2.2.2.2.2.1
  have h240 := hD.2.1
  unfold sBreaks at k
  rcases zix_c x (n := (dL D).length + 1) (by omega) with ⟨n, hn, rfl, en⟩ | ⟨en, nn⟩
  · rw [oz_s en] at k
    refine q_iload_n d196_0 rfl ?_
    refine q_iconstN (z := 0) d196_1 ?_
    refine q_aload_n d196_2 rfl ?_
    refine q_getv (c := 8) (f := 24) d196_3 ⟨rfl, by decide⟩ (xk_136 hX) hL.2.1 ?_
    refine q_s3 d196_6 (Or.inl rfl) rfl (Nat.le_of_ble_eq_true rfl) (c131t ⟨by omega, by omega⟩ (by omega) ?_)
    refine n0_ne 15 d196_9 (by decide) (by decide) (fun _ => ?_) (fun q => absurd q (by decide))
    refine q_aload_n d196_15 rfl ?_
    refine q_getv (c := 8) (f := 24) d196_16 ⟨rfl, by decide⟩ (xk_136 hX) hL.2.1 ?_
    refine q_iload_n d196_19 rfl ?_
    refine n_isub d196_20 (by omega) ?_
    refine q_istore_n d196_21 (by decide) rfl ?_
    refine q_aload_n d196_22 rfl ?_
    refine q_iload_n d196_23 rfl ?_
    refine q_puti (c := 8) (f := 24) d196_24 ⟨rfl, rfl, by decide⟩ (xk_136 hX) ?_
    refine q_aload_n d196_27 rfl ?_
    refine q_iload_n d196_28 rfl ?_
    have hlt : ((dL D).take n).length = n := by rw [List.length_take]; omega
    have f1 : Fi GL M (zwi M 136 24 (nI n)) := (Fi.refl _ _).wi (by unfold GL; omega)
    have hX1 := SX_fi hX f1
    have hL1 : XLg (zwi M 136 24 (nI n)) ((dL D).take n) := by
      refine ⟨by rw [wi_s, hlt], fun q hq => ?_⟩
      rw [hlt] at hq
      have h3 := hL.2.2 q (by omega)
      rw [List.getD_eq_getElem?_getD, List.getElem?_take_of_lt hq, ← List.getD_eq_getElem?_getD, wi_n (Or.inl (by omega)), wi_n (Or.inl (by omega)), wi_n (Or.inl (by omega))]
      exact h3
    have hT1 := XTx_fi hTk.1 hc6 f1 (fun b k b1 b2 q => by unfold GL at q; omega)
    refine q_v1 d196_29 rfl rfl (xk_136 hX) (Nat.le_of_ble_eq_true rfl) (c193 (κ := κ) (L := (dL D).take n) (n := n) hX1 hT1 hO.1 hL1 (by omega) (by omega) (yva_take hD.2.2.1) ((f1.1 _ _ (by unfold GL; omega)).trans hck) (by omega) (fun M2 κ2 hk2 hW2 f2 => ?_))
    refine q_iload_n d196_32 rfl ?_
    refine q_iret d196_33 rfl ?_
    rw [List.take_take, Nat.min_self] at hW2
    have fz : Fi FWd M M2 := (f1.mono (fun b k q => by unfold GL at q; unfold FWd; omega)).trans (f2.mono (fun b k q => FB_W q))
    exact k _ κ2 hk2 (hR.up fz hW2.2.2.1 hW2.2.2.2.1 hW2.2.2.2.2.1 hW2.2.2.2.2.2 ⟨(f2.1 _ _ (by unfold FB; omega)).trans ((f1.1 _ _ (by unfold GL; omega)).trans hL.1), XLg_fb hL1 f2⟩) (fz.mono (fun b k q => FWd_Y q))
  · rw [oz_n en] at k
    refine q_iload_n d196_0 rfl ?_
    refine q_iconstN (z := 0) d196_1 ?_
    refine q_aload_n d196_2 rfl ?_
    refine q_getv (c := 8) (f := 24) d196_3 ⟨rfl, by decide⟩ (xk_136 hX) hL.2.1 ?_
    refine q_s3 d196_6 (Or.inl rfl) rfl (Nat.le_of_ble_eq_true rfl) (c131g en (by omega) ?_)
    refine n0_ne 15 d196_9 (by decide) (by decide) (fun q => absurd q (by decide)) (fun _ => ?_)
    refine q_bipush (x := (-2)) d196_12 rfl ?_
    refine q_iret d196_14 rfl ?_
    exact k _ κ (Nat.le_add_right _ _) hR (Fi.refl _ _)
theorem d186_0 : decode (zB 186) 0 = .ok (.iload_n 1, 1) := (congrArg (fun c => decode c 0) zeq186).trans (by decide +kernel)
theorem d186_1 : decode (zB 186) 1 = .ok (.invokestatic 345, 3) := (congrArg (fun c => decode c 1) zeq186).trans (by decide +kernel)
theorem d186_4 : decode (zB 186) 4 = .ok (.ifCond .eq 13, 3) := (congrArg (fun c => decode c 4) zeq186).trans (by decide +kernel)
theorem d186_7 : decode (zB 186) 7 = .ok (.iload_n 2, 1) := (congrArg (fun c => decode c 7) zeq186).trans (by decide +kernel)
theorem d186_8 : decode (zB 186) 8 = .ok (.iconst 0, 1) := (congrArg (fun c => decode c 8) zeq186).trans (by decide +kernel)
theorem d186_9 : decode (zB 186) 9 = .ok (.bipush 7, 2) := (congrArg (fun c => decode c 9) zeq186).trans (by decide +kernel)
theorem d186_11 : decode (zB 186) 11 = .ok (.invokestatic 112, 3) := (congrArg (fun c => decode c 11) zeq186).trans (by decide +kernel)
theorem d186_14 : decode (zB 186) 14 = .ok (.ifCond .ne 6, 3) := (congrArg (fun c => decode c 14) zeq186).trans (by decide +kernel)
theorem d186_17 : decode (zB 186) 17 = .ok (.bipush (-2), 2) := (congrArg (fun c => decode c 17) zeq186).trans (by decide +kernel)
theorem d186_19 : decode (zB 186) 19 = .ok (.ireturn, 1) := (congrArg (fun c => decode c 19) zeq186).trans (by decide +kernel)
theorem d186_20 : decode (zB 186) 20 = .ok (.iload_n 2, 1) := (congrArg (fun c => decode c 20) zeq186).trans (by decide +kernel)
theorem d186_21 : decode (zB 186) 21 = .ok (.tableswitch 87 0 7 #[47, 54, 87, 87, 87, 61, 67, 81], 47) := (congrArg (fun c => decode c 21) zeq186).trans (by decide +kernel)
theorem d186_68 : decode (zB 186) 68 = .ok (.aload_n 0, 1) := (congrArg (fun c => decode c 68) zeq186).trans (by decide +kernel)
theorem d186_69 : decode (zB 186) 69 = .ok (.getfield 36, 3) := (congrArg (fun c => decode c 69) zeq186).trans (by decide +kernel)
theorem d186_72 : decode (zB 186) 72 = .ok (.iload_n 1, 1) := (congrArg (fun c => decode c 72) zeq186).trans (by decide +kernel)
theorem d186_73 : decode (zB 186) 73 = .ok (.iaload, 1) := (congrArg (fun c => decode c 73) zeq186).trans (by decide +kernel)
theorem d186_74 : decode (zB 186) 74 = .ok (.ireturn, 1) := (congrArg (fun c => decode c 74) zeq186).trans (by decide +kernel)
theorem d186_75 : decode (zB 186) 75 = .ok (.aload_n 0, 1) := (congrArg (fun c => decode c 75) zeq186).trans (by decide +kernel)
theorem d186_76 : decode (zB 186) 76 = .ok (.getfield 39, 3) := (congrArg (fun c => decode c 76) zeq186).trans (by decide +kernel)
theorem d186_79 : decode (zB 186) 79 = .ok (.iload_n 1, 1) := (congrArg (fun c => decode c 79) zeq186).trans (by decide +kernel)
theorem d186_80 : decode (zB 186) 80 = .ok (.iaload, 1) := (congrArg (fun c => decode c 80) zeq186).trans (by decide +kernel)
theorem d186_81 : decode (zB 186) 81 = .ok (.ireturn, 1) := (congrArg (fun c => decode c 81) zeq186).trans (by decide +kernel)
theorem d186_82 : decode (zB 186) 82 = .ok (.aload_n 0, 1) := (congrArg (fun c => decode c 82) zeq186).trans (by decide +kernel)
theorem d186_83 : decode (zB 186) 83 = .ok (.iload_n 1, 1) := (congrArg (fun c => decode c 83) zeq186).trans (by decide +kernel)
theorem d186_84 : decode (zB 186) 84 = .ok (.invokevirtual 336, 3) := (congrArg (fun c => decode c 84) zeq186).trans (by decide +kernel)
theorem d186_87 : decode (zB 186) 87 = .ok (.ireturn, 1) := (congrArg (fun c => decode c 87) zeq186).trans (by decide +kernel)
theorem d186_88 : decode (zB 186) 88 = .ok (.aload_n 0, 1) := (congrArg (fun c => decode c 88) zeq186).trans (by decide +kernel)
theorem d186_89 : decode (zB 186) 89 = .ok (.iload_n 1, 1) := (congrArg (fun c => decode c 89) zeq186).trans (by decide +kernel)
theorem d186_90 : decode (zB 186) 90 = .ok (.invokevirtual 320, 3) := (congrArg (fun c => decode c 90) zeq186).trans (by decide +kernel)
theorem d186_93 : decode (zB 186) 93 = .ok (.ifCond .eq 7, 3) := (congrArg (fun c => decode c 93) zeq186).trans (by decide +kernel)
theorem d186_96 : decode (zB 186) 96 = .ok (.iconst 1, 1) := (congrArg (fun c => decode c 96) zeq186).trans (by decide +kernel)
theorem d186_97 : decode (zB 186) 97 = .ok (.goto 4, 3) := (congrArg (fun c => decode c 97) zeq186).trans (by decide +kernel)
theorem d186_100 : decode (zB 186) 100 = .ok (.iconst 0, 1) := (congrArg (fun c => decode c 100) zeq186).trans (by decide +kernel)
theorem d186_101 : decode (zB 186) 101 = .ok (.ireturn, 1) := (congrArg (fun c => decode c 101) zeq186).trans (by decide +kernel)
theorem d186_102 : decode (zB 186) 102 = .ok (.aload_n 0, 1) := (congrArg (fun c => decode c 102) zeq186).trans (by decide +kernel)
theorem d186_103 : decode (zB 186) 103 = .ok (.iload_n 1, 1) := (congrArg (fun c => decode c 103) zeq186).trans (by decide +kernel)
theorem d186_104 : decode (zB 186) 104 = .ok (.invokevirtual 327, 3) := (congrArg (fun c => decode c 104) zeq186).trans (by decide +kernel)
theorem d186_107 : decode (zB 186) 107 = .ok (.ireturn, 1) := (congrArg (fun c => decode c 107) zeq186).trans (by decide +kernel)
theorem d186_108 : decode (zB 186) 108 = .ok (.aload_n 0, 1) := (congrArg (fun c => decode c 108) zeq186).trans (by decide +kernel)
theorem d186_109 : decode (zB 186) 109 = .ok (.iload_n 1, 1) := (congrArg (fun c => decode c 109) zeq186).trans (by decide +kernel)
theorem d186_110 : decode (zB 186) 110 = .ok (.iload_n 2, 1) := (congrArg (fun c => decode c 110) zeq186).trans (by decide +kernel)
theorem d186_111 : decode (zB 186) 111 = .ok (.iconst 1, 1) := (congrArg (fun c => decode c 111) zeq186).trans (by decide +kernel)
theorem d186_112 : decode (zB 186) 112 = .ok (.isub, 1) := (congrArg (fun c => decode c 112) zeq186).trans (by decide +kernel)
theorem d186_113 : decode (zB 186) 113 = .ok (.invokevirtual 304, 3) := (congrArg (fun c => decode c 113) zeq186).trans (by decide +kernel)
theorem d186_116 : decode (zB 186) 116 = .ok (.ireturn, 1) := (congrArg (fun c => decode c 116) zeq186).trans (by decide +kernel)
theorem x186 {d : Nat} {M : zM} {Q : Option Value → zM → Prop} {D : yD} {κ : Nat} {x y : Int32} (hR : RX M D κ) (hD : OKD D) (hκ : κ + 4000 < 2147483648) (k : ∀ M', RX M' D κ → Fi FY M M' → Q (some (.int (sTold D x y))) M') : qC (d + 3) 186 [.ref 136, .int x, .int y] M Q := by
  refine qC_of (by decide) (Nat.le_of_ble_eq_true rfl) ?_
  have hC := hR.1
  have hX := hC.1
  have hO : OKW (dT D) (dc D) (dW D) := hC.2.2.1
  have hc6 := hO.1.1
  have hL : XLo [] M (some (dL D)) := hC.2.2.2.2.2.2.1
  have hSa : ∀ s, s < 3 → XSa M s (dS D s) κ := hC.2.2.2.2.1
  have hTk := hC.k
  have hck := hC.2.2.2.2.2.1
  have h240 := hD.2.1
  unfold sTold at k
  rcases zix_c x (n := 3) (by omega) with ⟨s, hs, rfl, es⟩ | ⟨es, ns⟩
  · rw [oz_s es] at k
    have hOs : OKS (dT D) (dc D) (dS D s) := hO.2.2 s hs
    have hg5 := hOs.1
    have hsa := hSa s hs
    rcases zix_c y (n := 8) (by omega) with ⟨w, hw, rfl, ew⟩ | ⟨ew, nw⟩
    · rw [oz_s ew] at k
      rcases (show w = 0 ∨ w = 1 ∨ w = 2 ∨ w = 3 ∨ w = 4 ∨ w = 5 ∨ w = 6 ∨ w = 7 by omega) with rfl | rfl | rfl | rfl | rfl | rfl | rfl | rfl
      · refine q_iload_n d186_0 rfl ?_
        refine q_s1 d186_1 (Or.inl rfl) rfl (Nat.le_of_ble_eq_true rfl) (c169t (by omega) ?_)
        refine n0_eq 17 d186_4 (by decide) (by decide) (fun q => absurd q (by decide)) (fun _ => ?_)
        refine q_iload_n d186_7 rfl ?_
        refine q_iconstN (z := 0) d186_8 ?_
        refine q_bipush (x := nI 7) d186_9 rfl ?_
        refine q_s3 d186_11 (Or.inl rfl) rfl (Nat.le_of_ble_eq_true rfl) (c131t ⟨by omega, by omega⟩ (by omega) ?_)
        refine n0_ne 20 d186_14 (by decide) (by decide) (fun _ => ?_) (fun q => absurd q (by decide))
        refine q_iload_n d186_20 rfl ?_
        refine n_tsI (47) 68 d186_21 (by decide) (by decide) rfl (by decide) ?_
        refine q_aload_n d186_68 rfl ?_
        refine q_getr (c := 8) (f := 11) d186_69 ⟨rfl, rfl⟩ (xk_136 hX) (xf_states hX) ?_
        refine q_iload_n d186_72 rfl ?_
        refine n_iald d186_73 (xk_states hX) (by omega) (by decide) (hSa _ (by omega)).1.1 ?_
        refine q_iret d186_74 rfl ?_
        exact k _ hR (Fi.refl _ _)
      · refine q_iload_n d186_0 rfl ?_
        refine q_s1 d186_1 (Or.inl rfl) rfl (Nat.le_of_ble_eq_true rfl) (c169t (by omega) ?_)
        refine n0_eq 17 d186_4 (by decide) (by decide) (fun q => absurd q (by decide)) (fun _ => ?_)
        refine q_iload_n d186_7 rfl ?_
        refine q_iconstN (z := 0) d186_8 ?_
        refine q_bipush (x := nI 7) d186_9 rfl ?_
        refine q_s3 d186_11 (Or.inl rfl) rfl (Nat.le_of_ble_eq_true rfl) (c131t ⟨by omega, by omega⟩ (by omega) ?_)
        refine n0_ne 20 d186_14 (by decide) (by decide) (fun _ => ?_) (fun q => absurd q (by decide))
        refine q_iload_n d186_20 rfl ?_
        refine n_tsI (54) 75 d186_21 (by decide) (by decide) rfl (by decide) ?_
        refine q_aload_n d186_75 rfl ?_
        refine q_getr (c := 8) (f := 12) d186_76 ⟨rfl, rfl⟩ (xk_136 hX) (xf_textOf hX) ?_
        refine q_iload_n d186_79 rfl ?_
        refine n_iald d186_80 (xk_textOf hX) (by omega) (by decide) hsa.1.2 ?_
        refine q_iret d186_81 rfl ?_
        exact k _ hR (Fi.refl _ _)
      · refine q_iload_n d186_0 rfl ?_
        refine q_s1 d186_1 (Or.inl rfl) rfl (Nat.le_of_ble_eq_true rfl) (c169t (by omega) ?_)
        refine n0_eq 17 d186_4 (by decide) (by decide) (fun q => absurd q (by decide)) (fun _ => ?_)
        refine q_iload_n d186_7 rfl ?_
        refine q_iconstN (z := 0) d186_8 ?_
        refine q_bipush (x := nI 7) d186_9 rfl ?_
        refine q_s3 d186_11 (Or.inl rfl) rfl (Nat.le_of_ble_eq_true rfl) (c131t ⟨by omega, by omega⟩ (by omega) ?_)
        refine n0_ne 20 d186_14 (by decide) (by decide) (fun _ => ?_) (fun q => absurd q (by decide))
        refine q_iload_n d186_20 rfl ?_
        refine n_tsI (87) 108 d186_21 (by decide) (by decide) rfl (by decide) ?_
        refine q_aload_n d186_108 rfl ?_
        refine q_iload_n d186_109 rfl ?_
        refine q_iload_n d186_110 rfl ?_
        refine q_iconstN (z := 1) d186_111 ?_
        refine n_isub d186_112 (by omega) ?_
        refine q_v2 d186_113 rfl rfl (xk_136 hX) (Nat.le_of_ble_eq_true rfl) (c179 (v := 1) hX hs hsa hTk hOs (by omega) ?_)
        refine q_iret d186_116 rfl ?_
        exact k _ hR (Fi.refl _ _)
      · refine q_iload_n d186_0 rfl ?_
        refine q_s1 d186_1 (Or.inl rfl) rfl (Nat.le_of_ble_eq_true rfl) (c169t (by omega) ?_)
        refine n0_eq 17 d186_4 (by decide) (by decide) (fun q => absurd q (by decide)) (fun _ => ?_)
        refine q_iload_n d186_7 rfl ?_
        refine q_iconstN (z := 0) d186_8 ?_
        refine q_bipush (x := nI 7) d186_9 rfl ?_
        refine q_s3 d186_11 (Or.inl rfl) rfl (Nat.le_of_ble_eq_true rfl) (c131t ⟨by omega, by omega⟩ (by omega) ?_)
        refine n0_ne 20 d186_14 (by decide) (by decide) (fun _ => ?_) (fun q => absurd q (by decide))
        refine q_iload_n d186_20 rfl ?_
        refine n_tsI (87) 108 d186_21 (by decide) (by decide) rfl (by decide) ?_
        refine q_aload_n d186_108 rfl ?_
        refine q_iload_n d186_109 rfl ?_
        refine q_iload_n d186_110 rfl ?_
        refine q_iconstN (z := 1) d186_111 ?_
        refine n_isub d186_112 (by omega) ?_
        refine q_v2 d186_113 rfl rfl (xk_136 hX) (Nat.le_of_ble_eq_true rfl) (c179 (v := 2) hX hs hsa hTk hOs (by omega) ?_)
        refine q_iret d186_116 rfl ?_
        exact k _ hR (Fi.refl _ _)
      · refine q_iload_n d186_0 rfl ?_
        refine q_s1 d186_1 (Or.inl rfl) rfl (Nat.le_of_ble_eq_true rfl) (c169t (by omega) ?_)
        refine n0_eq 17 d186_4 (by decide) (by decide) (fun q => absurd q (by decide)) (fun _ => ?_)
        refine q_iload_n d186_7 rfl ?_
        refine q_iconstN (z := 0) d186_8 ?_
        refine q_bipush (x := nI 7) d186_9 rfl ?_
        refine q_s3 d186_11 (Or.inl rfl) rfl (Nat.le_of_ble_eq_true rfl) (c131t ⟨by omega, by omega⟩ (by omega) ?_)
        refine n0_ne 20 d186_14 (by decide) (by decide) (fun _ => ?_) (fun q => absurd q (by decide))
        refine q_iload_n d186_20 rfl ?_
        refine n_tsI (87) 108 d186_21 (by decide) (by decide) rfl (by decide) ?_
        refine q_aload_n d186_108 rfl ?_
        refine q_iload_n d186_109 rfl ?_
        refine q_iload_n d186_110 rfl ?_
        refine q_iconstN (z := 1) d186_111 ?_
        refine n_isub d186_112 (by omega) ?_
        refine q_v2 d186_113 rfl rfl (xk_136 hX) (Nat.le_of_ble_eq_true rfl) (c179 (v := 3) hX hs hsa hTk hOs (by omega) ?_)
        refine q_iret d186_116 rfl ?_
        exact k _ hR (Fi.refl _ _)
      · refine q_iload_n d186_0 rfl ?_
        refine q_s1 d186_1 (Or.inl rfl) rfl (Nat.le_of_ble_eq_true rfl) (c169t (by omega) ?_)
        refine n0_eq 17 d186_4 (by decide) (by decide) (fun q => absurd q (by decide)) (fun _ => ?_)
        refine q_iload_n d186_7 rfl ?_
        refine q_iconstN (z := 0) d186_8 ?_
        refine q_bipush (x := nI 7) d186_9 rfl ?_
        refine q_s3 d186_11 (Or.inl rfl) rfl (Nat.le_of_ble_eq_true rfl) (c131t ⟨by omega, by omega⟩ (by omega) ?_)
        refine n0_ne 20 d186_14 (by decide) (by decide) (fun _ => ?_) (fun q => absurd q (by decide))
        refine q_iload_n d186_20 rfl ?_
        refine n_tsI (61) 82 d186_21 (by decide) (by decide) rfl (by decide) ?_
        refine q_aload_n d186_82 rfl ?_
        refine q_iload_n d186_83 rfl ?_
        refine q_v1 d186_84 rfl rfl (xk_136 hX) (Nat.le_of_ble_eq_true rfl) (c182 hX hs hsa hTk hOs ?_)
        refine q_iret d186_87 rfl ?_
        have e5 : nI (if gt (dS D s) = 1 then yfr (dT D (gx (dS D s))) (dS D s) else 0) = (if gt (dS D s) = 1 then nI (yfr (dT D (gx (dS D s))) (dS D s)) else nI 0) := by
          by_cases h1 : gt (dS D s) = 1
          · rw [if_pos h1, if_pos h1]
          · rw [if_neg h1, if_neg h1]
        rw [e5]
        exact k _ hR (Fi.refl _ _)
      · refine q_iload_n d186_0 rfl ?_
        refine q_s1 d186_1 (Or.inl rfl) rfl (Nat.le_of_ble_eq_true rfl) (c169t (by omega) ?_)
        refine n0_eq 17 d186_4 (by decide) (by decide) (fun q => absurd q (by decide)) (fun _ => ?_)
        refine q_iload_n d186_7 rfl ?_
        refine q_iconstN (z := 0) d186_8 ?_
        refine q_bipush (x := nI 7) d186_9 rfl ?_
        refine q_s3 d186_11 (Or.inl rfl) rfl (Nat.le_of_ble_eq_true rfl) (c131t ⟨by omega, by omega⟩ (by omega) ?_)
        refine n0_ne 20 d186_14 (by decide) (by decide) (fun _ => ?_) (fun q => absurd q (by decide))
        refine q_iload_n d186_20 rfl ?_
        refine n_tsI (67) 88 d186_21 (by decide) (by decide) rfl (by decide) ?_
        refine q_aload_n d186_88 rfl ?_
        refine q_iload_n d186_89 rfl ?_
        refine q_v1 d186_90 rfl rfl (xk_136 hX) (Nat.le_of_ble_eq_true rfl) (c185 hX hs hsa hTk hOs ?_)
        refine b0_eq 100 d186_93 (by decide) (fun h93 => ?_) (fun h93 => ?_)
        · refine q_iconstN (z := 0) d186_100 ?_
          refine q_iret d186_101 rfl ?_
          have e6 : nI 0 = (if gt (dS D s) = 0 then nI 0 else bI (ypa (dT D (gx (dS D s))) (gm (dS D s) 1))) := by
            unfold yps at h93
            by_cases h0 : gt (dS D s) = 0
            · rw [if_pos h0] at h93 ⊢
              first | done | rfl | exact absurd h93 (by decide)
            · rw [if_neg h0] at h93 ⊢
              rw [h93]
              rfl
          rw [e6]
          exact k _ hR (Fi.refl _ _)
        · refine q_iconstN (z := 1) d186_96 ?_
          refine q_goto 101 d186_97 (by decide) ?_
          refine q_iret d186_101 rfl ?_
          have e6 : nI 1 = (if gt (dS D s) = 0 then nI 0 else bI (ypa (dT D (gx (dS D s))) (gm (dS D s) 1))) := by
            unfold yps at h93
            by_cases h0 : gt (dS D s) = 0
            · rw [if_pos h0] at h93 ⊢
              first | done | rfl | exact absurd h93 (by decide)
            · rw [if_neg h0] at h93 ⊢
              rw [h93]
              rfl
          rw [e6]
          exact k _ hR (Fi.refl _ _)
      · refine q_iload_n d186_0 rfl ?_
        refine q_s1 d186_1 (Or.inl rfl) rfl (Nat.le_of_ble_eq_true rfl) (c169t (by omega) ?_)
        refine n0_eq 17 d186_4 (by decide) (by decide) (fun q => absurd q (by decide)) (fun _ => ?_)
        refine q_iload_n d186_7 rfl ?_
        refine q_iconstN (z := 0) d186_8 ?_
        refine q_bipush (x := nI 7) d186_9 rfl ?_
        refine q_s3 d186_11 (Or.inl rfl) rfl (Nat.le_of_ble_eq_true rfl) (c131t ⟨by omega, by omega⟩ (by omega) ?_)
        refine n0_ne 20 d186_14 (by decide) (by decide) (fun _ => ?_) (fun q => absurd q (by decide))
        refine q_iload_n d186_20 rfl ?_
        refine n_tsI (81) 102 d186_21 (by decide) (by decide) rfl (by decide) ?_
        refine q_aload_n d186_102 rfl ?_
        refine q_iload_n d186_103 rfl ?_
        refine q_v1 d186_104 rfl rfl (xk_136 hX) (Nat.le_of_ble_eq_true rfl) (c178 hX hs hsa hTk hOs (by omega) ?_)
        refine q_iret d186_107 rfl ?_
        exact k _ hR (Fi.refl _ _)
    · rw [oz_n ew] at k
      refine q_iload_n d186_0 rfl ?_
      refine q_s1 d186_1 (Or.inl rfl) rfl (Nat.le_of_ble_eq_true rfl) (c169t (by omega) ?_)
      refine n0_eq 17 d186_4 (by decide) (by decide) (fun q => absurd q (by decide)) (fun _ => ?_)
      refine q_iload_n d186_7 rfl ?_
      refine q_iconstN (z := 0) d186_8 ?_
      refine q_bipush (x := nI 7) d186_9 rfl ?_
      refine q_s3 d186_11 (Or.inl rfl) rfl (Nat.le_of_ble_eq_true rfl) (c131f (by decide) (by have := zix_none ew; omega) (by decide) ?_)
      refine n0_ne 20 d186_14 (by decide) (by decide) (fun q => absurd q (by decide)) (fun _ => ?_)
      refine q_bipush (x := (-2)) d186_17 rfl ?_
      refine q_iret d186_19 rfl ?_
      exact k _ hR (Fi.refl _ _)
  · rw [oz_n es] at k
    refine q_iload_n d186_0 rfl ?_
    refine q_s1 d186_1 (Or.inl rfl) rfl (Nat.le_of_ble_eq_true rfl) (c169f es ?_)
    refine n0_eq 17 d186_4 (by decide) (by decide) (fun _ => ?_) (fun q => absurd q (by decide))
    refine q_bipush (x := (-2)) d186_17 rfl ?_
    refine q_iret d186_19 rfl ?_
    exact k _ hR (Fi.refl _ _)
/-! ===== the reference: plans, runs in thought ===== -/
theorem d172_0 : decode (zB 172) 0 = .ok (.iload_n 3, 1) := (congrArg (fun c => decode c 0) zeq172).trans (by decide +kernel)
theorem d172_1 : decode (zB 172) 1 = .ok (.iconst 0, 1) := (congrArg (fun c => decode c 1) zeq172).trans (by decide +kernel)
theorem d172_2 : decode (zB 172) 2 = .ok (.iconst 1, 1) := (congrArg (fun c => decode c 2) zeq172).trans (by decide +kernel)
theorem d172_3 : decode (zB 172) 3 = .ok (.invokestatic 112, 3) := (congrArg (fun c => decode c 3) zeq172).trans (by decide +kernel)
theorem d172_6 : decode (zB 172) 6 = .ok (.ifCond .eq 14, 3) := (congrArg (fun c => decode c 6) zeq172).trans (by decide +kernel)
theorem d172_9 : decode (zB 172) 9 = .ok (.iload 4, 2) := (congrArg (fun c => decode c 9) zeq172).trans (by decide +kernel)
theorem d172_11 : decode (zB 172) 11 = .ok (.iconst 0, 1) := (congrArg (fun c => decode c 11) zeq172).trans (by decide +kernel)
theorem d172_12 : decode (zB 172) 12 = .ok (.bipush 9, 2) := (congrArg (fun c => decode c 12) zeq172).trans (by decide +kernel)
theorem d172_14 : decode (zB 172) 14 = .ok (.invokestatic 112, 3) := (congrArg (fun c => decode c 14) zeq172).trans (by decide +kernel)
theorem d172_17 : decode (zB 172) 17 = .ok (.ifCond .ne 6, 3) := (congrArg (fun c => decode c 17) zeq172).trans (by decide +kernel)
theorem d172_20 : decode (zB 172) 20 = .ok (.bipush (-2), 2) := (congrArg (fun c => decode c 20) zeq172).trans (by decide +kernel)
theorem d172_22 : decode (zB 172) 22 = .ok (.ireturn, 1) := (congrArg (fun c => decode c 22) zeq172).trans (by decide +kernel)
theorem d172_23 : decode (zB 172) 23 = .ok (.aload_n 0, 1) := (congrArg (fun c => decode c 23) zeq172).trans (by decide +kernel)
theorem d172_24 : decode (zB 172) 24 = .ok (.iload_n 1, 1) := (congrArg (fun c => decode c 24) zeq172).trans (by decide +kernel)
theorem d172_25 : decode (zB 172) 25 = .ok (.iload_n 2, 1) := (congrArg (fun c => decode c 25) zeq172).trans (by decide +kernel)
theorem d172_26 : decode (zB 172) 26 = .ok (.invokevirtual 351, 3) := (congrArg (fun c => decode c 26) zeq172).trans (by decide +kernel)
theorem d172_29 : decode (zB 172) 29 = .ok (.istore 5, 2) := (congrArg (fun c => decode c 29) zeq172).trans (by decide +kernel)
theorem d172_31 : decode (zB 172) 31 = .ok (.iload 5, 2) := (congrArg (fun c => decode c 31) zeq172).trans (by decide +kernel)
theorem d172_33 : decode (zB 172) 33 = .ok (.ifCond .eq 6, 3) := (congrArg (fun c => decode c 33) zeq172).trans (by decide +kernel)
theorem d172_36 : decode (zB 172) 36 = .ok (.iload 5, 2) := (congrArg (fun c => decode c 36) zeq172).trans (by decide +kernel)
theorem d172_38 : decode (zB 172) 38 = .ok (.ireturn, 1) := (congrArg (fun c => decode c 38) zeq172).trans (by decide +kernel)
theorem d172_39 : decode (zB 172) 39 = .ok (.iload_n 3, 1) := (congrArg (fun c => decode c 39) zeq172).trans (by decide +kernel)
theorem d172_40 : decode (zB 172) 40 = .ok (.ifCond .ne 12, 3) := (congrArg (fun c => decode c 40) zeq172).trans (by decide +kernel)
theorem d172_43 : decode (zB 172) 43 = .ok (.aload_n 0, 1) := (congrArg (fun c => decode c 43) zeq172).trans (by decide +kernel)
theorem d172_44 : decode (zB 172) 44 = .ok (.getfield 57, 3) := (congrArg (fun c => decode c 44) zeq172).trans (by decide +kernel)
theorem d172_47 : decode (zB 172) 47 = .ok (.iload_n 1, 1) := (congrArg (fun c => decode c 47) zeq172).trans (by decide +kernel)
theorem d172_48 : decode (zB 172) 48 = .ok (.aaload, 1) := (congrArg (fun c => decode c 48) zeq172).trans (by decide +kernel)
theorem d172_49 : decode (zB 172) 49 = .ok (.goto 9, 3) := (congrArg (fun c => decode c 49) zeq172).trans (by decide +kernel)
theorem d172_52 : decode (zB 172) 52 = .ok (.aload_n 0, 1) := (congrArg (fun c => decode c 52) zeq172).trans (by decide +kernel)
theorem d172_53 : decode (zB 172) 53 = .ok (.getfield 60, 3) := (congrArg (fun c => decode c 53) zeq172).trans (by decide +kernel)
theorem d172_56 : decode (zB 172) 56 = .ok (.iload_n 1, 1) := (congrArg (fun c => decode c 56) zeq172).trans (by decide +kernel)
theorem d172_57 : decode (zB 172) 57 = .ok (.aaload, 1) := (congrArg (fun c => decode c 57) zeq172).trans (by decide +kernel)
theorem d172_58 : decode (zB 172) 58 = .ok (.astore 6, 2) := (congrArg (fun c => decode c 58) zeq172).trans (by decide +kernel)
theorem d172_60 : decode (zB 172) 60 = .ok (.aload 6, 2) := (congrArg (fun c => decode c 60) zeq172).trans (by decide +kernel)
theorem d172_62 : decode (zB 172) 62 = .ok (.iload_n 2, 1) := (congrArg (fun c => decode c 62) zeq172).trans (by decide +kernel)
theorem d172_63 : decode (zB 172) 63 = .ok (.iaload, 1) := (congrArg (fun c => decode c 63) zeq172).trans (by decide +kernel)
theorem d172_64 : decode (zB 172) 64 = .ok (.istore 7, 2) := (congrArg (fun c => decode c 64) zeq172).trans (by decide +kernel)
theorem d172_66 : decode (zB 172) 66 = .ok (.aload 6, 2) := (congrArg (fun c => decode c 66) zeq172).trans (by decide +kernel)
theorem d172_68 : decode (zB 172) 68 = .ok (.iload_n 2, 1) := (congrArg (fun c => decode c 68) zeq172).trans (by decide +kernel)
theorem d172_69 : decode (zB 172) 69 = .ok (.iload 4, 2) := (congrArg (fun c => decode c 69) zeq172).trans (by decide +kernel)
theorem d172_71 : decode (zB 172) 71 = .ok (.iastore, 1) := (congrArg (fun c => decode c 71) zeq172).trans (by decide +kernel)
theorem d172_72 : decode (zB 172) 72 = .ok (.iload 7, 2) := (congrArg (fun c => decode c 72) zeq172).trans (by decide +kernel)
theorem d172_74 : decode (zB 172) 74 = .ok (.ireturn, 1) := (congrArg (fun c => decode c 74) zeq172).trans (by decide +kernel)
theorem x172 {d : Nat} {M : zM} {Q : Option Value → zM → Prop} {D : yD} {κ : Nat} {x y u v : Int32} (hR : RX M D κ) (hD : OKD D) (hκ : κ + 4000 < 2147483648) (k : ∀ M' κ', κ' ≤ κ + 240 → RX M' (sPlan D x y u v).2 κ' → Fi FY M M' → Q (some (.int (sPlan D x y u v).1)) M') : qC (d + 4) 172 [.ref 136, .int x, .int y, .int u, .int v] M Q := by
  refine qC_of (by decide) (Nat.le_of_ble_eq_true rfl) ?_
  have hC := hR.1
  have hX := hC.1
  have hO : OKW (dT D) (dc D) (dW D) := hC.2.2.1
  have hc6 := hO.1.1
  have hL : XLo [] M (some (dL D)) := hC.2.2.2.2.2.2.1
  have hSa : ∀ s, s < 3 → XSa M s (dS D s) κ := hC.2.2.2.2.1
  have hTk := hC.k
  have hck := hC.2.2.2.2.2.1
  have h240 := hD.2.1
  unfold sPlan at k
  rcases zix_c x (n := 3) (by omega) with ⟨s, hs, rfl, es⟩ | ⟨es, ns⟩
  · rw [oz_s es] at k
    have hOs : OKS (dT D) (dc D) (dS D s) := hO.2.2 s hs
    have hg5 := hOs.1
    have hsa := hSa s hs
    have hym : yms D s ≤ 12 := by
      unfold yms
      by_cases h0 : gt (dS D s) = 0
      · rw [if_pos h0]; omega
      · rw [if_neg h0]; exact (hO.1.2 _ (hOs.2.1 h0)).n
    rcases zix_c y (n := yms D s) (by omega) with ⟨i, hi, rfl, ei⟩ | ⟨ei, ni⟩
    · rw [oz_s ei] at k
      rcases zix_c u (n := 2) (by omega) with ⟨o, ho, rfl, eo⟩ | ⟨eo, no⟩
      · rw [oz_s eo] at k
        rcases zix_c v (n := 10) (by omega) with ⟨z, hz, rfl, ez⟩ | ⟨ez, nz⟩
        · rw [oz_s ez] at k
          by_cases h0 : gt (dS D s) = 0
          · rw [if_pos h0] at k
            refine q_iload_n d172_0 rfl ?_
            refine q_iconstN (z := 0) d172_1 ?_
            refine q_iconstN (z := 1) d172_2 ?_
            refine q_s3 d172_3 (Or.inl rfl) rfl (Nat.le_of_ble_eq_true rfl) (c131t ⟨by omega, by omega⟩ (by omega) ?_)
            refine n0_eq 20 d172_6 (by decide) (by decide) (fun q => absurd q (by decide)) (fun _ => ?_)
            refine q_iload d172_9 rfl ?_
            refine q_iconstN (z := 0) d172_11 ?_
            refine q_bipush (x := nI 9) d172_12 rfl ?_
            refine q_s3 d172_14 (Or.inl rfl) rfl (Nat.le_of_ble_eq_true rfl) (c131t ⟨by omega, by omega⟩ (by omega) ?_)
            refine n0_ne 23 d172_17 (by decide) (by decide) (fun _ => ?_) (fun q => absurd q (by decide))
            refine q_aload_n d172_23 rfl ?_
            refine q_iload_n d172_24 rfl ?_
            refine q_iload_n d172_25 rfl ?_
            refine q_v2 d172_26 rfl rfl (xk_136 hX) (Nat.le_of_ble_eq_true rfl) (c173r hR (by unfold sRef; rw [oz_s es, oz_s ei, if_pos h0]) ?_)
            refine q_istore d172_29 (by decide) rfl ?_
            refine q_iload d172_31 rfl ?_
            refine i0_eq 39 d172_33 (by decide) (fun h33 => (False.elim (absurd h33 (by decide)))) (fun h33 => ?_)
            refine q_iload d172_36 rfl ?_
            refine q_iret d172_38 rfl ?_
            exact k _ κ (Nat.le_add_right _ _) hR (Fi.refl _ _)
          · rw [if_neg h0] at k
            have hx : gx (dS D s) < dc D := hOs.2.1 h0
            have hn := (hO.1.2 _ hx).n
            have hx1 : zi M 176 s = nI (gx (dS D s)) := hsa.1.2.trans (if_neg h0)
            have ey : yms D s = tn (dT D (gx (dS D s))) := if_neg h0
            rcases (show o = 0 ∨ o = 1 by omega) with rfl | rfl
            · refine q_iload_n d172_0 rfl ?_
              refine q_iconstN (z := 0) d172_1 ?_
              refine q_iconstN (z := 1) d172_2 ?_
              refine q_s3 d172_3 (Or.inl rfl) rfl (Nat.le_of_ble_eq_true rfl) (c131t ⟨by omega, by omega⟩ (by omega) ?_)
              refine n0_eq 20 d172_6 (by decide) (by decide) (fun q => absurd q (by decide)) (fun _ => ?_)
              refine q_iload d172_9 rfl ?_
              refine q_iconstN (z := 0) d172_11 ?_
              refine q_bipush (x := nI 9) d172_12 rfl ?_
              refine q_s3 d172_14 (Or.inl rfl) rfl (Nat.le_of_ble_eq_true rfl) (c131t ⟨by omega, by omega⟩ (by omega) ?_)
              refine n0_ne 23 d172_17 (by decide) (by decide) (fun _ => ?_) (fun q => absurd q (by decide))
              refine q_aload_n d172_23 rfl ?_
              refine q_iload_n d172_24 rfl ?_
              refine q_iload_n d172_25 rfl ?_
              refine q_v2 d172_26 rfl rfl (xk_136 hX) (Nat.le_of_ble_eq_true rfl) (c173r hR (by unfold sRef; rw [oz_s es, oz_s ei, if_neg h0]) ?_)
              refine q_istore d172_29 (by decide) rfl ?_
              refine q_iload d172_31 rfl ?_
              refine n0_eq 39 d172_33 (by decide) (by decide) (fun _ => ?_) (fun q => absurd q (by decide))
              refine q_iload_n d172_39 rfl ?_
              refine n0_ne 52 d172_40 (by decide) (by decide) (fun q => absurd q (by decide)) (fun _ => ?_)
              refine q_aload_n d172_43 rfl ?_
              refine q_getr (c := 8) (f := 18) d172_44 ⟨rfl, rfl⟩ (xk_136 hX) (xf_plans hX) ?_
              refine q_iload_n d172_47 rfl ?_
              refine n_aald d172_48 (xk_plans hX) (by decide) (by omega) (by decide) (xr_plans hX (by omega)) ?_
              refine q_goto 58 d172_49 (by decide) ?_
              refine q_astore d172_58 (by decide) rfl ?_
              refine q_aload d172_60 rfl ?_
              refine q_iload_n d172_62 rfl ?_
              refine n_iald d172_63 (xa_plans hX (by omega)) (by omega) (by decide) ((hSa _ (by omega)).2.1 _ (by omega)).2.2.2.1 ?_
              refine q_istore d172_64 (by decide) rfl ?_
              refine q_aload d172_66 rfl ?_
              refine q_iload_n d172_68 rfl ?_
              refine q_iload d172_69 rfl ?_
              refine n_iast d172_71 (xa_plans hX (by omega)) (by omega) (by decide) ?_
              refine q_iload d172_72 rfl ?_
              refine q_iret d172_74 rfl ?_
              have f1 : Fi (fun b _ => b = 198 + s) M (zwi M (198 + s) i (nI z)) := (Fi.refl _ _).wi rfl
              have fz : Fi FWd M (zwi M (198 + s) i (nI z)) := f1.mono (fun b k q => by unfold FWd; omega)
              exact k _ κ (Nat.le_add_right _ _) (hR.up (W := ((dW D).1, yu (dW D).2 s (gpS (dS D s) (yu (gp (dS D s)) i (nI z))))) fz (OKW_ss (X := dX D) (S := (gpS (dS D s) (yu (gp (dS D s)) i (nI z)))) hO hOs) (XPu_fi hC.2.2.2.1 f1 (fun b k q1 q2 => by unfold GP at q1; omega)) (fun r hr => by
                show XSa _ r (yu (dW D).2 s (gpS (dS D s) (yu (gp (dS D s)) i (nI z))) r) κ
                by_cases e : r = s
                · subst e; rw [yu_s]; exact hsa.wp hs
                · rw [yu_n e]; exact (hSa r hr).fi f1 (fun b k q1 q2 => by unfold GS at q1; omega)) ((f1.1 _ _ (by omega)).trans hck) (hL.fi f1 (fun b k q => by unfold GL at q; omega))) (fz.mono (fun b k q => FWd_Y q))
            · refine q_iload_n d172_0 rfl ?_
              refine q_iconstN (z := 0) d172_1 ?_
              refine q_iconstN (z := 1) d172_2 ?_
              refine q_s3 d172_3 (Or.inl rfl) rfl (Nat.le_of_ble_eq_true rfl) (c131t ⟨by omega, by omega⟩ (by omega) ?_)
              refine n0_eq 20 d172_6 (by decide) (by decide) (fun q => absurd q (by decide)) (fun _ => ?_)
              refine q_iload d172_9 rfl ?_
              refine q_iconstN (z := 0) d172_11 ?_
              refine q_bipush (x := nI 9) d172_12 rfl ?_
              refine q_s3 d172_14 (Or.inl rfl) rfl (Nat.le_of_ble_eq_true rfl) (c131t ⟨by omega, by omega⟩ (by omega) ?_)
              refine n0_ne 23 d172_17 (by decide) (by decide) (fun _ => ?_) (fun q => absurd q (by decide))
              refine q_aload_n d172_23 rfl ?_
              refine q_iload_n d172_24 rfl ?_
              refine q_iload_n d172_25 rfl ?_
              refine q_v2 d172_26 rfl rfl (xk_136 hX) (Nat.le_of_ble_eq_true rfl) (c173r hR (by unfold sRef; rw [oz_s es, oz_s ei, if_neg h0]) ?_)
              refine q_istore d172_29 (by decide) rfl ?_
              refine q_iload d172_31 rfl ?_
              refine n0_eq 39 d172_33 (by decide) (by decide) (fun _ => ?_) (fun q => absurd q (by decide))
              refine q_iload_n d172_39 rfl ?_
              refine n0_ne 52 d172_40 (by decide) (by decide) (fun _ => ?_) (fun q => absurd q (by decide))
              refine q_aload_n d172_52 rfl ?_
              refine q_getr (c := 8) (f := 19) d172_53 ⟨rfl, rfl⟩ (xk_136 hX) (xf_undoPlans hX) ?_
              refine q_iload_n d172_56 rfl ?_
              refine n_aald d172_57 (xk_undoPlans hX) (by decide) (by omega) (by decide) (xr_undoPlans hX (by omega)) ?_
              refine q_astore d172_58 (by decide) rfl ?_
              refine q_aload d172_60 rfl ?_
              refine q_iload_n d172_62 rfl ?_
              refine n_iald d172_63 (xa_undoPlans hX (by omega)) (by omega) (by decide) ((hSa _ (by omega)).2.1 _ (by omega)).2.2.2.2 ?_
              refine q_istore d172_64 (by decide) rfl ?_
              refine q_aload d172_66 rfl ?_
              refine q_iload_n d172_68 rfl ?_
              refine q_iload d172_69 rfl ?_
              refine n_iast d172_71 (xa_undoPlans hX (by omega)) (by omega) (by decide) ?_
              refine q_iload d172_72 rfl ?_
              refine q_iret d172_74 rfl ?_
              have f1 : Fi (fun b _ => b = 202 + s) M (zwi M (202 + s) i (nI z)) := (Fi.refl _ _).wi rfl
              have fz : Fi FWd M (zwi M (202 + s) i (nI z)) := f1.mono (fun b k q => by unfold FWd; omega)
              exact k _ κ (Nat.le_add_right _ _) (hR.up (W := ((dW D).1, yu (dW D).2 s (gqS (dS D s) (yu (gq (dS D s)) i (nI z))))) fz (OKW_ss (X := dX D) (S := (gqS (dS D s) (yu (gq (dS D s)) i (nI z)))) hO hOs) (XPu_fi hC.2.2.2.1 f1 (fun b k q1 q2 => by unfold GP at q1; omega)) (fun r hr => by
                show XSa _ r (yu (dW D).2 s (gqS (dS D s) (yu (gq (dS D s)) i (nI z))) r) κ
                by_cases e : r = s
                · subst e; rw [yu_s]; exact hsa.wq hs
                · rw [yu_n e]; exact (hSa r hr).fi f1 (fun b k q1 q2 => by unfold GS at q1; omega)) ((f1.1 _ _ (by omega)).trans hck) (hL.fi f1 (fun b k q => by unfold GL at q; omega))) (fz.mono (fun b k q => FWd_Y q))
        · rw [oz_n ez] at k
          refine q_iload_n d172_0 rfl ?_
          refine q_iconstN (z := 0) d172_1 ?_
          refine q_iconstN (z := 1) d172_2 ?_
          refine q_s3 d172_3 (Or.inl rfl) rfl (Nat.le_of_ble_eq_true rfl) (c131t ⟨by omega, by omega⟩ (by omega) ?_)
          refine n0_eq 20 d172_6 (by decide) (by decide) (fun q => absurd q (by decide)) (fun _ => ?_)
          refine q_iload d172_9 rfl ?_
          refine q_iconstN (z := 0) d172_11 ?_
          refine q_bipush (x := nI 9) d172_12 rfl ?_
          refine q_s3 d172_14 (Or.inl rfl) rfl (Nat.le_of_ble_eq_true rfl) (c131f (by decide) (by have := zix_none ez; omega) (by decide) ?_)
          refine n0_ne 23 d172_17 (by decide) (by decide) (fun q => absurd q (by decide)) (fun _ => ?_)
          refine q_bipush (x := (-2)) d172_20 rfl ?_
          refine q_iret d172_22 rfl ?_
          exact k _ κ (Nat.le_add_right _ _) hR (Fi.refl _ _)
      · rw [oz_n eo] at k
        refine q_iload_n d172_0 rfl ?_
        refine q_iconstN (z := 0) d172_1 ?_
        refine q_iconstN (z := 1) d172_2 ?_
        refine q_s3 d172_3 (Or.inl rfl) rfl (Nat.le_of_ble_eq_true rfl) (c131f (by decide) (by have := zix_none eo; omega) (by decide) ?_)
        refine n0_eq 20 d172_6 (by decide) (by decide) (fun _ => ?_) (fun q => absurd q (by decide))
        refine q_bipush (x := (-2)) d172_20 rfl ?_
        refine q_iret d172_22 rfl ?_
        exact k _ κ (Nat.le_add_right _ _) hR (Fi.refl _ _)
    · rw [oz_n ei] at k
      refine q_iload_n d172_0 rfl ?_
      refine q_iconstN (z := 0) d172_1 ?_
      refine q_iconstN (z := 1) d172_2 ?_
      refine q_s3 d172_3 (Or.inl rfl) rfl (Nat.le_of_ble_eq_true rfl) (c131z (by omega) ?_)
      refine b0_eq 20 d172_6 (by decide) (fun h6 => ?_) (fun h6 => ?_)
      · refine q_bipush (x := (-2)) d172_20 rfl ?_
        refine q_iret d172_22 rfl ?_
        exact k _ κ (Nat.le_add_right _ _) hR (Fi.refl _ _)
      · refine q_iload d172_9 rfl ?_
        refine q_iconstN (z := 0) d172_11 ?_
        refine q_bipush (x := nI 9) d172_12 rfl ?_
        refine q_s3 d172_14 (Or.inl rfl) rfl (Nat.le_of_ble_eq_true rfl) (c131z (by omega) ?_)
        refine b0_ne 23 d172_17 (by decide) (fun h17 => ?_) (fun h17 => ?_)
        · refine q_aload_n d172_23 rfl ?_
          refine q_iload_n d172_24 rfl ?_
          refine q_iload_n d172_25 rfl ?_
          refine q_v2 d172_26 rfl rfl (xk_136 hX) (Nat.le_of_ble_eq_true rfl) (c173r hR (by unfold sRef; rw [oz_s es, oz_n ei]) ?_)
          refine q_istore d172_29 (by decide) rfl ?_
          refine q_iload d172_31 rfl ?_
          refine i0_eq 39 d172_33 (by decide) (fun h33 => (False.elim (absurd h33 (by decide)))) (fun h33 => ?_)
          refine q_iload d172_36 rfl ?_
          refine q_iret d172_38 rfl ?_
          exact k _ κ (Nat.le_add_right _ _) hR (Fi.refl _ _)
        · refine q_bipush (x := (-2)) d172_20 rfl ?_
          refine q_iret d172_22 rfl ?_
          exact k _ κ (Nat.le_add_right _ _) hR (Fi.refl _ _)
  · rw [oz_n es] at k
    refine q_iload_n d172_0 rfl ?_
    refine q_iconstN (z := 0) d172_1 ?_
    refine q_iconstN (z := 1) d172_2 ?_
    refine q_s3 d172_3 (Or.inl rfl) rfl (Nat.le_of_ble_eq_true rfl) (c131z (by omega) ?_)
    refine b0_eq 20 d172_6 (by decide) (fun h6 => ?_) (fun h6 => ?_)
    · refine q_bipush (x := (-2)) d172_20 rfl ?_
      refine q_iret d172_22 rfl ?_
      exact k _ κ (Nat.le_add_right _ _) hR (Fi.refl _ _)
    · refine q_iload d172_9 rfl ?_
      refine q_iconstN (z := 0) d172_11 ?_
      refine q_bipush (x := nI 9) d172_12 rfl ?_
      refine q_s3 d172_14 (Or.inl rfl) rfl (Nat.le_of_ble_eq_true rfl) (c131z (by omega) ?_)
      refine b0_ne 23 d172_17 (by decide) (fun h17 => ?_) (fun h17 => ?_)
      · refine q_aload_n d172_23 rfl ?_
        refine q_iload_n d172_24 rfl ?_
        refine q_iload_n d172_25 rfl ?_
        refine q_v2 d172_26 rfl rfl (xk_136 hX) (Nat.le_of_ble_eq_true rfl) (c173r hR (by unfold sRef; rw [oz_n es]) ?_)
        refine q_istore d172_29 (by decide) rfl ?_
        refine q_iload d172_31 rfl ?_
        refine i0_eq 39 d172_33 (by decide) (fun h33 => (False.elim (absurd h33 (by decide)))) (fun h33 => ?_)
        refine q_iload d172_36 rfl ?_
        refine q_iret d172_38 rfl ?_
        exact k _ κ (Nat.le_add_right _ _) hR (Fi.refl _ _)
      · refine q_bipush (x := (-2)) d172_20 rfl ?_
        refine q_iret d172_22 rfl ?_
        exact k _ κ (Nat.le_add_right _ _) hR (Fi.refl _ _)
theorem d198_0 : decode (zB 198) 0 = .ok (.aload_n 0, 1) := (congrArg (fun c => decode c 0) zeq198).trans (by decide +kernel)
theorem d198_1 : decode (zB 198) 1 = .ok (.iconst 0, 1) := (congrArg (fun c => decode c 1) zeq198).trans (by decide +kernel)
theorem d198_2 : decode (zB 198) 2 = .ok (.invokevirtual 225, 3) := (congrArg (fun c => decode c 2) zeq198).trans (by decide +kernel)
theorem d198_5 : decode (zB 198) 5 = .ok (.aload_n 0, 1) := (congrArg (fun c => decode c 5) zeq198).trans (by decide +kernel)
theorem d198_6 : decode (zB 198) 6 = .ok (.iconst 1, 1) := (congrArg (fun c => decode c 6) zeq198).trans (by decide +kernel)
theorem d198_7 : decode (zB 198) 7 = .ok (.putfield 298, 3) := (congrArg (fun c => decode c 7) zeq198).trans (by decide +kernel)
theorem d198_10 : decode (zB 198) 10 = .ok (.return_, 1) := (congrArg (fun c => decode c 10) zeq198).trans (by decide +kernel)
theorem d199_0 : decode (zB 199) 0 = .ok (.aload_n 0, 1) := (congrArg (fun c => decode c 0) zeq199).trans (by decide +kernel)
theorem d199_1 : decode (zB 199) 1 = .ok (.iconst 0, 1) := (congrArg (fun c => decode c 1) zeq199).trans (by decide +kernel)
theorem d199_2 : decode (zB 199) 2 = .ok (.putfield 298, 3) := (congrArg (fun c => decode c 2) zeq199).trans (by decide +kernel)
theorem d199_5 : decode (zB 199) 5 = .ok (.aload_n 0, 1) := (congrArg (fun c => decode c 5) zeq199).trans (by decide +kernel)
theorem d199_6 : decode (zB 199) 6 = .ok (.iconst 0, 1) := (congrArg (fun c => decode c 6) zeq199).trans (by decide +kernel)
theorem d199_7 : decode (zB 199) 7 = .ok (.invokevirtual 233, 3) := (congrArg (fun c => decode c 7) zeq199).trans (by decide +kernel)
theorem d199_10 : decode (zB 199) 10 = .ok (.return_, 1) := (congrArg (fun c => decode c 10) zeq199).trans (by decide +kernel)
theorem CX.l0 {G : List yL} {M : zM} {T : Nat → yT} {c κ : Nat} {nm : Nat → Nat → Int32} {X : yX} (h : CX G M T c nm X κ) (h25 : zi M 136 25 = nI 1) : X.2 = none := by
  have h1 := h.2.2.2.2.2.2.1
  cases e : X.2 with
  | none => rfl
  | some L =>
    rw [e] at h1
    exact absurd (h25.symm.trans h1.1) (by decide)
/-- a thought begins -/
theorem c198 {d : Nat} {M : zM} {Q : Option Value → zM → Prop} {D : yD} {κ : Nat} (hR : RX M D κ) (k : ∀ M', CX (dL D) M' (dT D) (dc D) (dnm D) (dW D, none) κ → zi M' 136 25 = nI 1 → zi M' 136 21 = -1 → KA M M' 0 → Fi FZ M M' → Q none M') : qC (d + 3) 198 [.ref 136] M Q := by
  refine qC_of (by decide) (Nat.le_of_ble_eq_true rfl) ?_
  have hC := hR.1
  have hX := hC.1
  have hO : OKW (dT D) (dc D) (dW D) := hC.2.2.1
  have hc6 := hO.1.1
  have hL : XLo [] M (some (dL D)) := hC.2.2.2.2.2.2.1
  have hSa : ∀ s, s < 3 → XSa M s (dS D s) κ := hC.2.2.2.2.1
  have hTk := hC.k
  have hck := hC.2.2.2.2.2.1
  refine q_aload_n d198_0 rfl ?_
  refine q_iconstN (z := 0) d198_1 ?_
  refine q_v1 d198_2 rfl rfl (xk_136 hX) (Nat.le_of_ble_eq_true rfl) (c155 (l := 0) hX (by decide) (fun M1 hK f1 => ?_))
  have hX1 := SX_fi hX f1
  refine q_aload_n d198_5 rfl ?_
  refine q_iconstN (z := 1) d198_6 ?_
  refine q_putz (c := 8) (f := 25) d198_7 ⟨rfl, rfl, by decide⟩ (xk_136 hX1) (Or.inr rfl) ?_
  refine q_ret d198_10 rfl ?_
  have f2 : Fi (fun b k => FA 0 b k ∨ (b = 136 ∧ k = 25)) M (zwi M1 136 25 (nI 1)) := (f1.mono (fun b k q => Or.inl q)).wi (Or.inr ⟨rfl, rfl⟩)
  have hLg : XLg (zwi M1 136 25 (nI 1)) (dL D) := ⟨(f2.1 _ _ (by unfold FA; omega)).trans hL.2.1, fun q hq => ⟨(f2.1 _ _ (by unfold FA; omega)).trans (hL.2.2 q hq).1, (f2.1 _ _ (by unfold FA; omega)).trans (hL.2.2 q hq).2.1, (f2.1 _ _ (by unfold FA; omega)).trans (hL.2.2 q hq).2.2⟩⟩
  have b21 : zi (zwi M1 136 25 (nI 1)) 136 21 = -1 := (f2.1 _ _ (by unfold FA; omega)).trans hR.2.1
  exact k _ ⟨SX_fi hX f2, XTx_fi hTk.1 hc6 f2 (fun b k b1 b2 q => by unfold FA at q; omega), hO, XPu_fi hC.2.2.2.1 f2 (fun b k q1 q2 => by unfold GP at q1; unfold FA at q2; omega), fun s hs => (hSa s hs).fi f2 (fun b k q1 q2 => by unfold GS at q1; unfold FA at q2; omega), (f2.1 _ _ (by unfold FA; omega)).trans hck, ⟨wi_s _ _ _ _, hLg⟩, ⟨none, b21, fun s hs h0 k hk => rfl⟩⟩ (wi_s _ _ _ _) b21 (hK.fi ((Fi.refl (fun b k => b = 136 ∧ k = 25) M1).wi ⟨rfl, rfl⟩) (fun b k q1 q2 => by unfold FA at q1; omega)) (f2.mono (fun b k q => by unfold FA at q; unfold FZ; omega))
/-- a thought ends -/
theorem c199 {d : Nat} {M : zM} {Q : Option Value → zM → Prop} {M0 : zM} (hX : SX M) (hK : KA M0 M 0) (k : ∀ M', KB M0 M' → zi M' 136 25 = nI 0 → Fi (fun b k => FB b k ∨ (b = 136 ∧ k = 25)) M M' → Q none M') : qC (d + 3) 199 [.ref 136] M Q := by
  refine qC_of (by decide) (Nat.le_of_ble_eq_true rfl) ?_
  refine q_aload_n d199_0 rfl ?_
  refine q_iconstN (z := 0) d199_1 ?_
  refine q_putz (c := 8) (f := 25) d199_2 ⟨rfl, rfl, by decide⟩ (xk_136 hX) (Or.inl rfl) ?_
  have f1 : Fi (fun b k => b = 136 ∧ k = 25) M (zwi M 136 25 (nI 0)) := (Fi.refl _ _).wi ⟨rfl, rfl⟩
  have hX1 := SX_fi hX f1
  have hK1 := hK.fi f1 (fun b k q1 q2 => by unfold FA at q1; omega)
  refine q_aload_n d199_5 rfl ?_
  refine q_iconstN (z := 0) d199_6 ?_
  refine q_v1 d199_7 rfl rfl (xk_136 hX1) (Nat.le_of_ble_eq_true rfl) (c162 (l := 0) hX1 (by decide) hK1 (fun M2 hK2 f2 => ?_))
  refine q_ret d199_10 rfl ?_
  exact k _ hK2 ((f2.1 _ _ (by unfold FB; omega)).trans (wi_s _ _ _ _)) ((f1.mono (fun b k q => Or.inr q)).trans (f2.mono (fun b k q => Or.inl q)))
/-- behind a thought -/
theorem RX.wake {M M2 M3 : zM} {D : yD} {κ : Nat} (h : RX M D κ) (f : Fi FZ M M2) (h21 : zi M2 136 21 = -1) (hL : XLg M2 (dL D)) (hK : KB M M3) (h25 : zi M3 136 25 = nI 0) (f3 : Fi (fun b k => FB b k ∨ (b = 136 ∧ k = 25)) M2 M3) : RX M3 D κ ∧ Fi FY M M3 := by
  have fz : Fi FZ M M3 := f.trans (f3.mono (fun b k q => by unfold FB at q; unfold FZ; omega))
  exact ⟨h.back fz hK ((f3.1 _ _ (by unfold FB; omega)).trans h21) ⟨h25, (f3.1 _ _ (by unfold FB; omega)).trans hL.1, fun q hq => ⟨(f3.1 _ _ (by unfold FB; omega)).trans (hL.2 q hq).1, (f3.1 _ _ (by unfold FB; omega)).trans (hL.2 q hq).2.1, (f3.1 _ _ (by unfold FB; omega)).trans (hL.2 q hq).2.2⟩⟩, fz.mono (fun b k q => FZ_Y q)⟩
theorem d197_0 : decode (zB 197) 0 = .ok (.iload_n 1, 1) := (congrArg (fun c => decode c 0) zeq197).trans (by decide +kernel)
theorem d197_1 : decode (zB 197) 1 = .ok (.iconst 0, 1) := (congrArg (fun c => decode c 1) zeq197).trans (by decide +kernel)
theorem d197_2 : decode (zB 197) 2 = .ok (.bipush 60, 2) := (congrArg (fun c => decode c 2) zeq197).trans (by decide +kernel)
theorem d197_4 : decode (zB 197) 4 = .ok (.invokestatic 112, 3) := (congrArg (fun c => decode c 4) zeq197).trans (by decide +kernel)
theorem d197_7 : decode (zB 197) 7 = .ok (.ifCond .eq 10, 3) := (congrArg (fun c => decode c 7) zeq197).trans (by decide +kernel)
theorem d197_10 : decode (zB 197) 10 = .ok (.iload_n 2, 1) := (congrArg (fun c => decode c 10) zeq197).trans (by decide +kernel)
theorem d197_11 : decode (zB 197) 11 = .ok (.invokestatic 363, 3) := (congrArg (fun c => decode c 11) zeq197).trans (by decide +kernel)
theorem d197_14 : decode (zB 197) 14 = .ok (.ifCond .ne 6, 3) := (congrArg (fun c => decode c 14) zeq197).trans (by decide +kernel)
theorem d197_17 : decode (zB 197) 17 = .ok (.bipush (-2), 2) := (congrArg (fun c => decode c 17) zeq197).trans (by decide +kernel)
theorem d197_19 : decode (zB 197) 19 = .ok (.ireturn, 1) := (congrArg (fun c => decode c 19) zeq197).trans (by decide +kernel)
theorem d197_20 : decode (zB 197) 20 = .ok (.aload_n 0, 1) := (congrArg (fun c => decode c 20) zeq197).trans (by decide +kernel)
theorem d197_21 : decode (zB 197) 21 = .ok (.invokevirtual 372, 3) := (congrArg (fun c => decode c 21) zeq197).trans (by decide +kernel)
theorem d197_24 : decode (zB 197) 24 = .ok (.iconst 0, 1) := (congrArg (fun c => decode c 24) zeq197).trans (by decide +kernel)
theorem d197_25 : decode (zB 197) 25 = .ok (.istore_n 3, 1) := (congrArg (fun c => decode c 25) zeq197).trans (by decide +kernel)
theorem d197_26 : decode (zB 197) 26 = .ok (.iload_n 3, 1) := (congrArg (fun c => decode c 26) zeq197).trans (by decide +kernel)
theorem d197_27 : decode (zB 197) 27 = .ok (.iload_n 1, 1) := (congrArg (fun c => decode c 27) zeq197).trans (by decide +kernel)
theorem d197_28 : decode (zB 197) 28 = .ok (.if_icmp .ge 13, 3) := (congrArg (fun c => decode c 28) zeq197).trans (by decide +kernel)
theorem d197_31 : decode (zB 197) 31 = .ok (.aload_n 0, 1) := (congrArg (fun c => decode c 31) zeq197).trans (by decide +kernel)
theorem d197_32 : decode (zB 197) 32 = .ok (.invokevirtual 354, 3) := (congrArg (fun c => decode c 32) zeq197).trans (by decide +kernel)
theorem d197_35 : decode (zB 197) 35 = .ok (.iinc 3 1, 3) := (congrArg (fun c => decode c 35) zeq197).trans (by decide +kernel)
theorem d197_38 : decode (zB 197) 38 = .ok (.goto (-12), 3) := (congrArg (fun c => decode c 38) zeq197).trans (by decide +kernel)
theorem d197_41 : decode (zB 197) 41 = .ok (.aload_n 0, 1) := (congrArg (fun c => decode c 41) zeq197).trans (by decide +kernel)
theorem d197_42 : decode (zB 197) 42 = .ok (.iload_n 2, 1) := (congrArg (fun c => decode c 42) zeq197).trans (by decide +kernel)
theorem d197_43 : decode (zB 197) 43 = .ok (.invokevirtual 369, 3) := (congrArg (fun c => decode c 43) zeq197).trans (by decide +kernel)
theorem d197_46 : decode (zB 197) 46 = .ok (.istore_n 3, 1) := (congrArg (fun c => decode c 46) zeq197).trans (by decide +kernel)
theorem d197_47 : decode (zB 197) 47 = .ok (.aload_n 0, 1) := (congrArg (fun c => decode c 47) zeq197).trans (by decide +kernel)
theorem d197_48 : decode (zB 197) 48 = .ok (.invokevirtual 375, 3) := (congrArg (fun c => decode c 48) zeq197).trans (by decide +kernel)
theorem d197_51 : decode (zB 197) 51 = .ok (.iload_n 3, 1) := (congrArg (fun c => decode c 51) zeq197).trans (by decide +kernel)
theorem d197_52 : decode (zB 197) 52 = .ok (.ireturn, 1) := (congrArg (fun c => decode c 52) zeq197).trans (by decide +kernel)
theorem l197 {d : Nat} {Q : Option Value → zM → Prop} {D : yD} {M0 : zM} {n m κ : Nat} {XF : yX} (hR : RX M0 D κ) (hκ : κ + 4000 < 2147483648) (hn : n ≤ 60) (hm : ywv m = true) (h50 : m < 50) (k : ∀ M', RX M' D κ → Fi FY M0 M' → Q (some (.int (yvw XF.1 m))) M') : ∀ (r i : Nat) (κ1 : Nat) (M1 : zM) (X1 : yX), i ≤ n → n < i + r →  CX (dL D) M1 (dT D) (dc D) (dnm D) X1 κ1 → zi M1 136 25 = nI 1 → zi M1 136 21 = -1 → KA M0 M1 0 → Fi FZ M0 M1 → κ1 ≤ κ + 36 * i → ytn (dT D) (dnm D) (n - i) X1 = XF → qW (zEv (d + 6)) 197 Q 26 [(3, .int (nI i)), (0, .ref 136), (1, .int (nI n)), (2, .int (nI m))] [] M1 := by
  intro r
  induction r with
  | zero => intros; omega
  | succ r ih =>
    intro i κ1 M1 X1 h1 h2 hC1 h25 h21 hK hF hk1 hy
    refine q_iload_n d197_26 rfl ?_
    refine q_iload_n d197_27 rfl ?_
    refine nc_ge 41 d197_28 (by decide) (by omega) (by omega) (fun h28 => ?_) (fun h28 => ?_)
    · refine q_aload_n d197_41 rfl ?_
      refine q_iload_n d197_42 rfl ?_
      refine q_v1 d197_43 rfl rfl (xk_136 hC1.1) (Nat.le_of_ble_eq_true rfl) (c195 hC1.w hm h50 ?_)
      refine q_istore_n d197_46 (by decide) rfl ?_
      refine q_aload_n d197_47 rfl ?_
      refine q_v0 d197_48 rfl rfl (xk_136 hC1.1) (Nat.le_of_ble_eq_true rfl) (c199 hC1.1 hK (fun M2 hK2 q25 f2 => ?_))
      refine q_iload_n d197_51 rfl ?_
      refine q_iret d197_52 rfl ?_
      have e : X1 = XF := by rw [show n - i = 0 by omega] at hy; exact hy
      subst e
      have hLo : XLo (dL D) M1 X1.2 := hC1.2.2.2.2.2.2.1
      rw [hC1.l0 h25] at hLo
      have hw := hR.wake hF h21 hLo.2 hK2 q25 f2
      exact k _ hw.1 hw.2
    · refine q_aload_n d197_31 rfl ?_
      refine q_v0 d197_32 rfl rfl (xk_136 hC1.1) (Nat.le_of_ble_eq_true rfl) (c175 hC1 (by rw [hC1.l0 h25]; show 0 + 39 ≤ 240; omega) (by omega) (fun M2 κ2 hk2 hC2 f2 => ?_))
      refine n_iinc 1 d197_35 (by decide) rfl rfl ?_
      refine q_goto 26 d197_38 (by decide) ?_
      exact ih (i + 1) κ2 _ _ (by omega) (by omega) hC2 ((f2.1 _ _ (by unfold FX; omega)).trans h25) ((f2.1 _ _ (by unfold FX; omega)).trans h21) (hK.fi f2 (fun b k q1 q2 => by unfold FA at q1; unfold FX at q2; omega)) (hF.trans (f2.mono (fun b k q => FX_Z q))) (by omega) (by rw [show n - i = (n - (i + 1)) + 1 by omega, ytn] at hy; exact hy)
theorem x197 {d : Nat} {M : zM} {Q : Option Value → zM → Prop} {D : yD} {κ : Nat} {x y : Int32} (hR : RX M D κ) (hD : OKD D) (hκ : κ + 4000 < 2147483648) (k : ∀ M', RX M' D κ → Fi FY M M' → Q (some (.int (sRun D x y))) M') : qC (d + 7) 197 [.ref 136, .int x, .int y] M Q := by
  refine qC_of (by decide) (Nat.le_of_ble_eq_true rfl) ?_
  have hC := hR.1
  have hX := hC.1
  have hO : OKW (dT D) (dc D) (dW D) := hC.2.2.1
  have hc6 := hO.1.1
  have hL : XLo [] M (some (dL D)) := hC.2.2.2.2.2.2.1
  have hSa : ∀ s, s < 3 → XSa M s (dS D s) κ := hC.2.2.2.2.1
  have hTk := hC.k
  have hck := hC.2.2.2.2.2.1
  have h240 := hD.2.1
  unfold sRun at k
  rcases zix_c x (n := 61) (by omega) with ⟨n, hn, rfl, en⟩ | ⟨en, nn⟩
  · rw [oz_s en] at k
    cases hv : yvx y with
    | none =>
      rw [ov_n hv] at k
      refine q_iload_n d197_0 rfl ?_
      refine q_iconstN (z := 0) d197_1 ?_
      refine q_bipush (x := nI 60) d197_2 rfl ?_
      refine q_s3 d197_4 (Or.inl rfl) rfl (Nat.le_of_ble_eq_true rfl) (c131t ⟨by omega, by omega⟩ (by omega) ?_)
      refine n0_eq 17 d197_7 (by decide) (by decide) (fun q => absurd q (by decide)) (fun _ => ?_)
      refine q_iload_n d197_10 rfl ?_
      refine q_s1 d197_11 (Or.inl rfl) rfl (Nat.le_of_ble_eq_true rfl) (c192f hv ?_)
      refine n0_ne 20 d197_14 (by decide) (by decide) (fun q => absurd q (by decide)) (fun _ => ?_)
      refine q_bipush (x := (-2)) d197_17 rfl ?_
      refine q_iret d197_19 rfl ?_
      exact k _ hR (Fi.refl _ _)
    | some m =>
      rw [ov_s hv] at k
      obtain ⟨rfl, hm, h50⟩ := yvx_s hv
      refine q_iload_n d197_0 rfl ?_
      refine q_iconstN (z := 0) d197_1 ?_
      refine q_bipush (x := nI 60) d197_2 rfl ?_
      refine q_s3 d197_4 (Or.inl rfl) rfl (Nat.le_of_ble_eq_true rfl) (c131t ⟨by omega, by omega⟩ (by omega) ?_)
      refine n0_eq 17 d197_7 (by decide) (by decide) (fun q => absurd q (by decide)) (fun _ => ?_)
      refine q_iload_n d197_10 rfl ?_
      refine q_s1 d197_11 (Or.inl rfl) rfl (Nat.le_of_ble_eq_true rfl) (c192t hv ?_)
      refine n0_ne 20 d197_14 (by decide) (by decide) (fun _ => ?_) (fun q => absurd q (by decide))
      refine q_aload_n d197_20 rfl ?_
      refine q_v0 d197_21 rfl rfl (xk_136 hX) (Nat.le_of_ble_eq_true rfl) (c198 hR (fun M1 hC1 q25 q21 hK f1 => ?_))
      refine q_iconstN (z := 0) d197_24 ?_
      refine q_istore_n d197_25 (by decide) rfl ?_
      exact l197 (XF := ytn (dT D) (dnm D) n (dW D, none)) hR hκ (by omega) hm h50 (fun M' h1 h2 => k M' h1 h2) (n + 1) 0 κ M1 _ (by omega) (by omega) hC1 q25 q21 hK f1 (by omega) rfl
  · rw [oz_n en] at k
    refine q_iload_n d197_0 rfl ?_
    refine q_iconstN (z := 0) d197_1 ?_
    refine q_bipush (x := nI 60) d197_2 rfl ?_
    refine q_s3 d197_4 (Or.inl rfl) rfl (Nat.le_of_ble_eq_true rfl) (c131f (by decide) (by have := zix_none en; omega) (by decide) ?_)
    refine n0_eq 17 d197_7 (by decide) (by decide) (fun _ => ?_) (fun q => absurd q (by decide))
    refine q_bipush (x := (-2)) d197_17 rfl ?_
    refine q_iret d197_19 rfl ?_
    exact k _ hR (Fi.refl _ _)
/-! ===== the reference: counts, sheets ===== -/
theorem CX.far {G : List yL} {M M' : zM} {T : Nat → yT} {c κ : Nat} {nm : Nat → Nat → Int32} {X : yX} (h : CX G M T c nm X κ) (f : Fi (fun b _ => 318 < b) M M') : CX G M' T c nm X κ := by
  obtain ⟨h1, h2, h3, h4, h5, h6, h7, h8⟩ := h
  exact ⟨SX_fi h1 f, XTx_fi h2 h3.1.1 f (fun b k b1 b2 q => by omega), h3, XPu_fi h4 f (fun b k q1 q2 => by unfold GP at q1; omega), fun s hs => (h5 s hs).fi f (fun b k q1 q2 => by unfold GS at q1; omega), (f.1 _ _ (by omega)).trans h6, h7.fi f (fun b k q => by unfold GL at q; omega), h8.fi (fun k hk => f.1 _ _ (by omega)) (fun r hr hg => ⟨hg, rfl⟩)⟩
/-- a sheet's cells change -/
theorem RX.row {M M' : zM} {D : yD} {κ h z : Nat} {so : Int32} (hR : RX M D κ) (f : Fi (fun b k => (b = 319 ∧ k = h) ∨ (b = 320 ∧ k = h) ∨ 320 < b) M M') (h1 : zi M' 319 h = so) (h2 : zi M' 320 h = nI z) : RX M' (drS D (yu (dR D) h (so, z))) κ := by
  obtain ⟨a1, a2, a3, ⟨a4, a5, a6⟩, a7⟩ := hR
  refine ⟨a1.far (f.mono (fun b k q => by omega)), (f.1 _ _ (by omega)).trans a2, (f.1 _ _ (by omega)).trans a3, ⟨a4, (f.1 _ _ (by omega)).trans a5, fun k hk => (f.1 _ _ (by omega)).trans (a6 k hk)⟩, fun i hi => ?_⟩
  show zi M' 319 i = (yu (dR D) h (so, z) i).1 ∧ zi M' 320 i = nI (yu (dR D) h (so, z) i).2
  by_cases e : i = h
  · subst e; rw [yu_s]; exact ⟨h1, h2⟩
  · rw [yu_n e]; exact ⟨(f.1 _ _ (by omega)).trans (a7 i hi).1, (f.1 _ _ (by omega)).trans (a7 i hi).2⟩
theorem RX.items {M M' : zM} {D : yD} {κ : Nat} (hR : RX M D κ) (f : Fi (fun b _ => 320 < b) M M') : RX M' D κ := by
  obtain ⟨a1, a2, a3, ⟨a4, a5, a6⟩, a7⟩ := hR
  exact ⟨a1.far (f.mono (fun b k q => by omega)), (f.1 _ _ (by omega)).trans a2, (f.1 _ _ (by omega)).trans a3, ⟨a4, (f.1 _ _ (by omega)).trans a5, fun k hk => (f.1 _ _ (by omega)).trans (a6 k hk)⟩, fun i hi => ⟨(f.1 _ _ (by omega)).trans (a7 i hi).1, (f.1 _ _ (by omega)).trans (a7 i hi).2⟩⟩
theorem c131v {d b : Nat} {M : zM} {Q : Option Value → zM → Prop} (hb : b < 2147483648) (k : Q (some (.int (nI 1))) M) : qC (d + 1) 131 [.int (-1), .int (-1), .int (nI b)] M Q :=
  c131 (fun _ => k) (fun q => absurd ⟨Int32.le_refl _, by rw [Int32.le_iff_toInt_le, nI_toInt hb, show (-1 : Int32).toInt = -1 from rfl]; omega⟩ q)
theorem c131w {d o : Nat} {M : zM} {Q : Option Value → zM → Prop} (ho : o < 2) (k : Q (some (.int (nI 1))) M) : qC (d + 1) 131 [.int (nI o), .int (-1), .int (nI 1)] M Q :=
  c131 (fun _ => k) (fun q => absurd ⟨by rw [Int32.le_iff_toInt_le, nI_toInt (by omega), show (-1 : Int32).toInt = -1 from rfl]; omega, nI_le (by omega) (by omega)⟩ q)
theorem c131x {d : Nat} {M : zM} {Q : Option Value → zM → Prop} {y : Int32} (h1 : ¬ y = -1) (h2 : zix y 2 = none) (k : Q (some (.int (nI 0))) M) : qC (d + 1) 131 [.int y, .int (-1), .int (nI 1)] M Q :=
  c131 (fun q => absurd q (by
    rw [Int32.le_iff_toInt_le, Int32.le_iff_toInt_le, nI_toInt (by omega), show (-1 : Int32).toInt = -1 from rfl]
    have h3 := zix_none h2
    have h4 : y.toInt ≠ -1 := fun e => h1 (Int32.toInt_inj.mp (e.trans rfl))
    omega)) (fun _ => k)
theorem d212_0 : decode (zB 212) 0 = .ok (.iconst 0, 1) := (congrArg (fun c => decode c 0) zeq212).trans (by decide +kernel)
theorem d212_1 : decode (zB 212) 1 = .ok (.istore_n 1, 1) := (congrArg (fun c => decode c 1) zeq212).trans (by decide +kernel)
theorem d212_2 : decode (zB 212) 2 = .ok (.iconst 0, 1) := (congrArg (fun c => decode c 2) zeq212).trans (by decide +kernel)
theorem d212_3 : decode (zB 212) 3 = .ok (.istore_n 2, 1) := (congrArg (fun c => decode c 3) zeq212).trans (by decide +kernel)
theorem d212_4 : decode (zB 212) 4 = .ok (.iload_n 2, 1) := (congrArg (fun c => decode c 4) zeq212).trans (by decide +kernel)
theorem d212_5 : decode (zB 212) 5 = .ok (.iconst 3, 1) := (congrArg (fun c => decode c 5) zeq212).trans (by decide +kernel)
theorem d212_6 : decode (zB 212) 6 = .ok (.if_icmp .ge 32, 3) := (congrArg (fun c => decode c 6) zeq212).trans (by decide +kernel)
theorem d212_9 : decode (zB 212) 9 = .ok (.aload_n 0, 1) := (congrArg (fun c => decode c 9) zeq212).trans (by decide +kernel)
theorem d212_10 : decode (zB 212) 10 = .ok (.getfield 36, 3) := (congrArg (fun c => decode c 10) zeq212).trans (by decide +kernel)
theorem d212_13 : decode (zB 212) 13 = .ok (.iload_n 2, 1) := (congrArg (fun c => decode c 13) zeq212).trans (by decide +kernel)
theorem d212_14 : decode (zB 212) 14 = .ok (.iaload, 1) := (congrArg (fun c => decode c 14) zeq212).trans (by decide +kernel)
theorem d212_15 : decode (zB 212) 15 = .ok (.iconst 1, 1) := (congrArg (fun c => decode c 15) zeq212).trans (by decide +kernel)
theorem d212_16 : decode (zB 212) 16 = .ok (.if_icmp .eq 13, 3) := (congrArg (fun c => decode c 16) zeq212).trans (by decide +kernel)
theorem d212_19 : decode (zB 212) 19 = .ok (.aload_n 0, 1) := (congrArg (fun c => decode c 19) zeq212).trans (by decide +kernel)
theorem d212_20 : decode (zB 212) 20 = .ok (.getfield 36, 3) := (congrArg (fun c => decode c 20) zeq212).trans (by decide +kernel)
theorem d212_23 : decode (zB 212) 23 = .ok (.iload_n 2, 1) := (congrArg (fun c => decode c 23) zeq212).trans (by decide +kernel)
theorem d212_24 : decode (zB 212) 24 = .ok (.iaload, 1) := (congrArg (fun c => decode c 24) zeq212).trans (by decide +kernel)
theorem d212_25 : decode (zB 212) 25 = .ok (.iconst 2, 1) := (congrArg (fun c => decode c 25) zeq212).trans (by decide +kernel)
theorem d212_26 : decode (zB 212) 26 = .ok (.if_icmp .ne 6, 3) := (congrArg (fun c => decode c 26) zeq212).trans (by decide +kernel)
theorem d212_29 : decode (zB 212) 29 = .ok (.iinc 1 1, 3) := (congrArg (fun c => decode c 29) zeq212).trans (by decide +kernel)
theorem d212_32 : decode (zB 212) 32 = .ok (.iinc 2 1, 3) := (congrArg (fun c => decode c 32) zeq212).trans (by decide +kernel)
theorem d212_35 : decode (zB 212) 35 = .ok (.goto (-31), 3) := (congrArg (fun c => decode c 35) zeq212).trans (by decide +kernel)
theorem d212_38 : decode (zB 212) 38 = .ok (.iload_n 1, 1) := (congrArg (fun c => decode c 38) zeq212).trans (by decide +kernel)
theorem d212_39 : decode (zB 212) 39 = .ok (.ireturn, 1) := (congrArg (fun c => decode c 39) zeq212).trans (by decide +kernel)
theorem l212 {d : Nat} {M : zM} {Q : Option Value → zM → Prop} {D : yD} {κ : Nat} (hR : RX M D κ) (k : Q (some (.int (nI (yact (dW D) 3)))) M) : ∀ (r i : Nat), i ≤ 3 → 3 < i + r → qW (zEv (d + 0)) 212 Q 4 [(2, .int (nI i)), (1, .int (nI (yact (dW D) i))), (0, .ref 136)] [] M := by
  intro r
  induction r with
  | zero => intros; omega
  | succ r ih =>
    intro i  h1 h2 
    have hX := hR.1.1
    have hO : OKW (dT D) (dc D) (dW D) := hR.1.2.2.1
    have hSa : ∀ s, s < 3 → XSa M s (dS D s) κ := hR.1.2.2.2.2.1
    have hg5 : i < 3 → gt (dS D i) ≤ 5 := fun q => (hO.2.2 i q).1
    refine q_iload_n d212_4 rfl ?_
    refine q_iconstN (z := 3) d212_5 ?_
    refine nc_ge 38 d212_6 (by decide) (by omega) (by omega) (fun h6 => ?_) (fun h6 => ?_)
    · refine q_iload_n d212_38 rfl ?_
      refine q_iret d212_39 rfl ?_
      have e : i = 3 := by omega
      subst e
      exact k
    · refine q_aload_n d212_9 rfl ?_
      refine q_getr (c := 8) (f := 11) d212_10 ⟨rfl, rfl⟩ (xk_136 hX) (xf_states hX) ?_
      refine q_iload_n d212_13 rfl ?_
      refine n_iald d212_14 (xk_states hX) (by omega) (by decide) (hSa _ (by omega)).1.1 ?_
      refine q_iconstN (z := 1) d212_15 ?_
      refine nc_eq 29 d212_16 (by decide) (by omega) (by omega) (fun h16 => ?_) (fun h16 => ?_)
      · refine n_iinc 1 d212_29 (by decide) rfl rfl ?_
        refine n_iinc 1 d212_32 (by decide) rfl rfl ?_
        refine q_goto 4 d212_35 (by decide) ?_
        have hy : yact (dW D) (i + 1) = yact (dW D) i + 1 := yact_t (decide_eq_true (Or.inl h16))
        first
        | exact ih (i + 1) (by omega) (by omega)
        | (have ih1 := ih (i + 1) (by omega) (by omega); rw [hy] at ih1; exact ih1)
      · refine q_aload_n d212_19 rfl ?_
        refine q_getr (c := 8) (f := 11) d212_20 ⟨rfl, rfl⟩ (xk_136 hX) (xf_states hX) ?_
        refine q_iload_n d212_23 rfl ?_
        refine n_iald d212_24 (xk_states hX) (by omega) (by decide) (hSa _ (by omega)).1.1 ?_
        refine q_iconstN (z := 2) d212_25 ?_
        refine nc_ne 32 d212_26 (by decide) (by omega) (by omega) (fun h26 => ?_) (fun h26 => ?_)
        · refine n_iinc 1 d212_32 (by decide) rfl rfl ?_
          refine q_goto 4 d212_35 (by decide) ?_
          have hy : yact (dW D) (i + 1) = yact (dW D) i := yact_f (decide_eq_false (fun e => by rcases e with e | e; exact h16 e; exact h26 e))
          first
          | exact ih (i + 1) (by omega) (by omega)
          | (have ih1 := ih (i + 1) (by omega) (by omega); rw [hy] at ih1; exact ih1)
        · refine n_iinc 1 d212_29 (by decide) rfl rfl ?_
          refine n_iinc 1 d212_32 (by decide) rfl rfl ?_
          refine q_goto 4 d212_35 (by decide) ?_
          have hy : yact (dW D) (i + 1) = yact (dW D) i + 1 := yact_t (decide_eq_true (Or.inr h26))
          first
          | exact ih (i + 1) (by omega) (by omega)
          | (have ih1 := ih (i + 1) (by omega) (by omega); rw [hy] at ih1; exact ih1)
theorem c212 {d : Nat} {M : zM} {Q : Option Value → zM → Prop} {D : yD} {κ : Nat} (hR : RX M D κ) (k : Q (some (.int (nI (yact (dW D) 3)))) M) : qC (d + 1) 212 [.ref 136] M Q := by
  refine qC_of (by decide) (Nat.le_of_ble_eq_true rfl) ?_
  refine q_iconstN (z := 0) d212_0 ?_
  refine q_istore_n d212_1 (by decide) rfl ?_
  refine q_iconstN (z := 0) d212_2 ?_
  refine q_istore_n d212_3 (by decide) rfl ?_
  exact l212 hR k 4 0 (by omega) (by omega)
theorem d211_0 : decode (zB 211) 0 = .ok (.iload_n 1, 1) := (congrArg (fun c => decode c 0) zeq211).trans (by decide +kernel)
theorem d211_1 : decode (zB 211) 1 = .ok (.tableswitch 69 0 5 #[39, 44, 49, 54, 59, 64], 39) := (congrArg (fun c => decode c 1) zeq211).trans (by decide +kernel)
theorem d211_40 : decode (zB 211) 40 = .ok (.aload_n 0, 1) := (congrArg (fun c => decode c 40) zeq211).trans (by decide +kernel)
theorem d211_41 : decode (zB 211) 41 = .ok (.getfield 116, 3) := (congrArg (fun c => decode c 41) zeq211).trans (by decide +kernel)
theorem d211_44 : decode (zB 211) 44 = .ok (.ireturn, 1) := (congrArg (fun c => decode c 44) zeq211).trans (by decide +kernel)
theorem d211_45 : decode (zB 211) 45 = .ok (.aload_n 0, 1) := (congrArg (fun c => decode c 45) zeq211).trans (by decide +kernel)
theorem d211_46 : decode (zB 211) 46 = .ok (.getfield 123, 3) := (congrArg (fun c => decode c 46) zeq211).trans (by decide +kernel)
theorem d211_49 : decode (zB 211) 49 = .ok (.ireturn, 1) := (congrArg (fun c => decode c 49) zeq211).trans (by decide +kernel)
theorem d211_50 : decode (zB 211) 50 = .ok (.aload_n 0, 1) := (congrArg (fun c => decode c 50) zeq211).trans (by decide +kernel)
theorem d211_51 : decode (zB 211) 51 = .ok (.getfield 301, 3) := (congrArg (fun c => decode c 51) zeq211).trans (by decide +kernel)
theorem d211_54 : decode (zB 211) 54 = .ok (.ireturn, 1) := (congrArg (fun c => decode c 54) zeq211).trans (by decide +kernel)
theorem d211_55 : decode (zB 211) 55 = .ok (.aload_n 0, 1) := (congrArg (fun c => decode c 55) zeq211).trans (by decide +kernel)
theorem d211_56 : decode (zB 211) 56 = .ok (.invokevirtual 399, 3) := (congrArg (fun c => decode c 56) zeq211).trans (by decide +kernel)
theorem d211_59 : decode (zB 211) 59 = .ok (.ireturn, 1) := (congrArg (fun c => decode c 59) zeq211).trans (by decide +kernel)
theorem d211_60 : decode (zB 211) 60 = .ok (.aload_n 0, 1) := (congrArg (fun c => decode c 60) zeq211).trans (by decide +kernel)
theorem d211_61 : decode (zB 211) 61 = .ok (.getfield 276, 3) := (congrArg (fun c => decode c 61) zeq211).trans (by decide +kernel)
theorem d211_64 : decode (zB 211) 64 = .ok (.ireturn, 1) := (congrArg (fun c => decode c 64) zeq211).trans (by decide +kernel)
theorem d211_65 : decode (zB 211) 65 = .ok (.aload_n 0, 1) := (congrArg (fun c => decode c 65) zeq211).trans (by decide +kernel)
theorem d211_66 : decode (zB 211) 66 = .ok (.getfield 282, 3) := (congrArg (fun c => decode c 66) zeq211).trans (by decide +kernel)
theorem d211_69 : decode (zB 211) 69 = .ok (.ireturn, 1) := (congrArg (fun c => decode c 69) zeq211).trans (by decide +kernel)
theorem d211_70 : decode (zB 211) 70 = .ok (.iload_n 1, 1) := (congrArg (fun c => decode c 70) zeq211).trans (by decide +kernel)
theorem d211_71 : decode (zB 211) 71 = .ok (.bipush 10, 2) := (congrArg (fun c => decode c 71) zeq211).trans (by decide +kernel)
theorem d211_73 : decode (zB 211) 73 = .ok (.bipush 15, 2) := (congrArg (fun c => decode c 73) zeq211).trans (by decide +kernel)
theorem d211_75 : decode (zB 211) 75 = .ok (.invokestatic 112, 3) := (congrArg (fun c => decode c 75) zeq211).trans (by decide +kernel)
theorem d211_78 : decode (zB 211) 78 = .ok (.ifCond .eq 15, 3) := (congrArg (fun c => decode c 78) zeq211).trans (by decide +kernel)
theorem d211_81 : decode (zB 211) 81 = .ok (.aload_n 0, 1) := (congrArg (fun c => decode c 81) zeq211).trans (by decide +kernel)
theorem d211_82 : decode (zB 211) 82 = .ok (.getfield 33, 3) := (congrArg (fun c => decode c 82) zeq211).trans (by decide +kernel)
theorem d211_85 : decode (zB 211) 85 = .ok (.iload_n 1, 1) := (congrArg (fun c => decode c 85) zeq211).trans (by decide +kernel)
theorem d211_86 : decode (zB 211) 86 = .ok (.bipush 10, 2) := (congrArg (fun c => decode c 86) zeq211).trans (by decide +kernel)
theorem d211_88 : decode (zB 211) 88 = .ok (.isub, 1) := (congrArg (fun c => decode c 88) zeq211).trans (by decide +kernel)
theorem d211_89 : decode (zB 211) 89 = .ok (.iaload, 1) := (congrArg (fun c => decode c 89) zeq211).trans (by decide +kernel)
theorem d211_90 : decode (zB 211) 90 = .ok (.goto 5, 3) := (congrArg (fun c => decode c 90) zeq211).trans (by decide +kernel)
theorem d211_93 : decode (zB 211) 93 = .ok (.bipush (-2), 2) := (congrArg (fun c => decode c 93) zeq211).trans (by decide +kernel)
theorem d211_95 : decode (zB 211) 95 = .ok (.ireturn, 1) := (congrArg (fun c => decode c 95) zeq211).trans (by decide +kernel)
theorem x211 {d : Nat} {M : zM} {Q : Option Value → zM → Prop} {D : yD} {κ : Nat} {x : Int32} (hR : RX M D κ) (hD : OKD D) (hκ : κ + 4000 < 2147483648) (k : ∀ M', RX M' D κ → Fi FY M M' → Q (some (.int (sCount D x))) M') : qC (d + 2) 211 [.ref 136, .int x] M Q := by
  refine qC_of (by decide) (Nat.le_of_ble_eq_true rfl) ?_
  have hC := hR.1
  have hX := hC.1
  have hO : OKW (dT D) (dc D) (dW D) := hC.2.2.1
  have hc6 := hO.1.1
  have hL : XLo [] M (some (dL D)) := hC.2.2.2.2.2.2.1
  have hSa : ∀ s, s < 3 → XSa M s (dS D s) κ := hC.2.2.2.2.1
  have hTk := hC.k
  have hck := hC.2.2.2.2.2.1
  have h240 := hD.2.1
  unfold sCount at k
  rcases zix_c x (n := 16) (by omega) with ⟨w, hw, rfl, ew⟩ | ⟨ew, nw⟩
  · rw [oz_s ew] at k
    by_cases h6 : w < 6
    · rcases (show w = 0 ∨ w = 1 ∨ w = 2 ∨ w = 3 ∨ w = 4 ∨ w = 5 by omega) with rfl | rfl | rfl | rfl | rfl | rfl
      · refine q_iload_n d211_0 rfl ?_
        refine n_tsI (39) 40 d211_1 (by decide) (by decide) rfl (by decide) ?_
        refine q_aload_n d211_40 rfl ?_
        refine q_getv (c := 8) (f := 0) d211_41 ⟨rfl, by decide⟩ (xk_136 hX) hR.2.2.1 ?_
        refine q_iret d211_44 rfl ?_
        exact k _ hR (Fi.refl _ _)
      · refine q_iload_n d211_0 rfl ?_
        refine n_tsI (44) 45 d211_1 (by decide) (by decide) rfl (by decide) ?_
        refine q_aload_n d211_45 rfl ?_
        refine q_getv (c := 8) (f := 30) d211_46 ⟨rfl, by decide⟩ (xk_136 hX) hR.2.2.2.1.2.1 ?_
        refine q_iret d211_49 rfl ?_
        exact k _ hR (Fi.refl _ _)
      · refine q_iload_n d211_0 rfl ?_
        refine n_tsI (49) 50 d211_1 (by decide) (by decide) rfl (by decide) ?_
        refine q_aload_n d211_50 rfl ?_
        refine q_getv (c := 8) (f := 24) d211_51 ⟨rfl, by decide⟩ (xk_136 hX) hL.2.1 ?_
        refine q_iret d211_54 rfl ?_
        exact k _ hR (Fi.refl _ _)
      · refine q_iload_n d211_0 rfl ?_
        refine n_tsI (54) 55 d211_1 (by decide) (by decide) rfl (by decide) ?_
        refine q_aload_n d211_55 rfl ?_
        refine q_v0 d211_56 rfl rfl (xk_136 hX) (Nat.le_of_ble_eq_true rfl) (c212 hR ?_)
        refine q_iret d211_59 rfl ?_
        exact k _ hR (Fi.refl _ _)
      · refine q_iload_n d211_0 rfl ?_
        refine n_tsI (59) 60 d211_1 (by decide) (by decide) rfl (by decide) ?_
        refine q_aload_n d211_60 rfl ?_
        refine q_getv (c := 8) (f := 9) d211_61 ⟨rfl, by decide⟩ (xk_136 hX) hC.2.2.2.1.2.1 ?_
        refine q_iret d211_64 rfl ?_
        exact k _ hR (Fi.refl _ _)
      · refine q_iload_n d211_0 rfl ?_
        refine n_tsI (64) 65 d211_1 (by decide) (by decide) rfl (by decide) ?_
        refine q_aload_n d211_65 rfl ?_
        refine q_getv (c := 8) (f := 10) d211_66 ⟨rfl, by decide⟩ (xk_136 hX) hC.2.2.2.1.2.2 ?_
        refine q_iret d211_69 rfl ?_
        exact k _ hR (Fi.refl _ _)
    · by_cases h10 : w < 10
      · rw [if_neg (by omega), if_neg (by omega), if_neg (by omega), if_neg (by omega), if_neg (by omega), if_neg (by omega), if_pos h10] at k
        refine q_iload_n d211_0 rfl ?_
        refine n_tsO 70 d211_1 (by omega) (Or.inr (by omega)) (by decide) ?_
        refine q_iload_n d211_70 rfl ?_
        refine q_bipush (x := nI 10) d211_71 rfl ?_
        refine q_bipush (x := nI 15) d211_73 rfl ?_
        refine q_s3 d211_75 (Or.inl rfl) rfl (Nat.le_of_ble_eq_true rfl) (c131n (by omega) (by omega) (by omega) (by omega) ?_)
        refine n0_eq 93 d211_78 (by decide) (by decide) (fun _ => ?_) (fun q => absurd q (by decide))
        refine q_bipush (x := (-2)) d211_93 rfl ?_
        refine q_iret d211_95 rfl ?_
        exact k _ hR (Fi.refl _ _)
      · rw [if_neg (by omega), if_neg (by omega), if_neg (by omega), if_neg (by omega), if_neg (by omega), if_neg (by omega), if_neg h10] at k
        refine q_iload_n d211_0 rfl ?_
        refine n_tsO 70 d211_1 (by omega) (Or.inr (by omega)) (by decide) ?_
        refine q_iload_n d211_70 rfl ?_
        refine q_bipush (x := nI 10) d211_71 rfl ?_
        refine q_bipush (x := nI 15) d211_73 rfl ?_
        refine q_s3 d211_75 (Or.inl rfl) rfl (Nat.le_of_ble_eq_true rfl) (c131t ⟨by omega, by omega⟩ (by omega) ?_)
        refine n0_eq 93 d211_78 (by decide) (by decide) (fun q => absurd q (by decide)) (fun _ => ?_)
        refine q_aload_n d211_81 rfl ?_
        refine q_getr (c := 8) (f := 8) d211_82 ⟨rfl, rfl⟩ (xk_136 hX) (xf_balances hX) ?_
        refine q_iload_n d211_85 rfl ?_
        refine q_bipush (x := nI 10) d211_86 rfl ?_
        refine n_isub d211_88 (by omega) ?_
        refine n_iald d211_89 (xk_balances hX) (by omega) (by decide) (hC.2.2.2.1.1 _ (by omega)) ?_
        refine q_goto 95 d211_90 (by decide) ?_
        refine q_iret d211_95 rfl ?_
        exact k _ hR (Fi.refl _ _)
  · rw [oz_n ew] at k
    refine q_iload_n d211_0 rfl ?_
    refine q_tsO 70 d211_1 (by have := zix_none ew; omega) (by decide) ?_
    refine q_iload_n d211_70 rfl ?_
    refine q_bipush (x := nI 10) d211_71 rfl ?_
    refine q_bipush (x := nI 15) d211_73 rfl ?_
    refine q_s3 d211_75 (Or.inl rfl) rfl (Nat.le_of_ble_eq_true rfl) (c131f (by decide) (by have := zix_none ew; omega) (by decide) ?_)
    refine n0_eq 93 d211_78 (by decide) (by decide) (fun _ => ?_) (fun q => absurd q (by decide))
    refine q_bipush (x := (-2)) d211_93 rfl ?_
    refine q_iret d211_95 rfl ?_
    exact k _ hR (Fi.refl _ _)
theorem d213_0 : decode (zB 213) 0 = .ok (.iload_n 1, 1) := (congrArg (fun c => decode c 0) zeq213).trans (by decide +kernel)
theorem d213_1 : decode (zB 213) 1 = .ok (.invokestatic 392, 3) := (congrArg (fun c => decode c 1) zeq213).trans (by decide +kernel)
theorem d213_4 : decode (zB 213) 4 = .ok (.ifCond .eq 22, 3) := (congrArg (fun c => decode c 4) zeq213).trans (by decide +kernel)
theorem d213_7 : decode (zB 213) 7 = .ok (.iload_n 2, 1) := (congrArg (fun c => decode c 7) zeq213).trans (by decide +kernel)
theorem d213_8 : decode (zB 213) 8 = .ok (.iconst (-1), 1) := (congrArg (fun c => decode c 8) zeq213).trans (by decide +kernel)
theorem d213_9 : decode (zB 213) 9 = .ok (.iconst 1, 1) := (congrArg (fun c => decode c 9) zeq213).trans (by decide +kernel)
theorem d213_10 : decode (zB 213) 10 = .ok (.invokestatic 112, 3) := (congrArg (fun c => decode c 10) zeq213).trans (by decide +kernel)
theorem d213_13 : decode (zB 213) 13 = .ok (.ifCond .eq 13, 3) := (congrArg (fun c => decode c 13) zeq213).trans (by decide +kernel)
theorem d213_16 : decode (zB 213) 16 = .ok (.iload_n 2, 1) := (congrArg (fun c => decode c 16) zeq213).trans (by decide +kernel)
theorem d213_17 : decode (zB 213) 17 = .ok (.ifCond .lt 12, 3) := (congrArg (fun c => decode c 17) zeq213).trans (by decide +kernel)
theorem d213_20 : decode (zB 213) 20 = .ok (.iload_n 3, 1) := (congrArg (fun c => decode c 20) zeq213).trans (by decide +kernel)
theorem d213_21 : decode (zB 213) 21 = .ok (.bipush 40, 2) := (congrArg (fun c => decode c 21) zeq213).trans (by decide +kernel)
theorem d213_23 : decode (zB 213) 23 = .ok (.if_icmp .le 6, 3) := (congrArg (fun c => decode c 23) zeq213).trans (by decide +kernel)
theorem d213_26 : decode (zB 213) 26 = .ok (.bipush (-2), 2) := (congrArg (fun c => decode c 26) zeq213).trans (by decide +kernel)
theorem d213_28 : decode (zB 213) 28 = .ok (.ireturn, 1) := (congrArg (fun c => decode c 28) zeq213).trans (by decide +kernel)
theorem d213_29 : decode (zB 213) 29 = .ok (.iload_n 2, 1) := (congrArg (fun c => decode c 29) zeq213).trans (by decide +kernel)
theorem d213_30 : decode (zB 213) 30 = .ok (.ifCond .lt 10, 3) := (congrArg (fun c => decode c 30) zeq213).trans (by decide +kernel)
theorem d213_33 : decode (zB 213) 33 = .ok (.iload_n 3, 1) := (congrArg (fun c => decode c 33) zeq213).trans (by decide +kernel)
theorem d213_34 : decode (zB 213) 34 = .ok (.ifCond .ge 6, 3) := (congrArg (fun c => decode c 34) zeq213).trans (by decide +kernel)
theorem d213_37 : decode (zB 213) 37 = .ok (.bipush (-14), 2) := (congrArg (fun c => decode c 37) zeq213).trans (by decide +kernel)
theorem d213_39 : decode (zB 213) 39 = .ok (.ireturn, 1) := (congrArg (fun c => decode c 39) zeq213).trans (by decide +kernel)
theorem d213_40 : decode (zB 213) 40 = .ok (.aload_n 0, 1) := (congrArg (fun c => decode c 40) zeq213).trans (by decide +kernel)
theorem d213_41 : decode (zB 213) 41 = .ok (.getfield 100, 3) := (congrArg (fun c => decode c 41) zeq213).trans (by decide +kernel)
theorem d213_44 : decode (zB 213) 44 = .ok (.iload_n 1, 1) := (congrArg (fun c => decode c 44) zeq213).trans (by decide +kernel)
theorem d213_45 : decode (zB 213) 45 = .ok (.iload_n 2, 1) := (congrArg (fun c => decode c 45) zeq213).trans (by decide +kernel)
theorem d213_46 : decode (zB 213) 46 = .ok (.iastore, 1) := (congrArg (fun c => decode c 46) zeq213).trans (by decide +kernel)
theorem d213_47 : decode (zB 213) 47 = .ok (.aload_n 0, 1) := (congrArg (fun c => decode c 47) zeq213).trans (by decide +kernel)
theorem d213_48 : decode (zB 213) 48 = .ok (.getfield 103, 3) := (congrArg (fun c => decode c 48) zeq213).trans (by decide +kernel)
theorem d213_51 : decode (zB 213) 51 = .ok (.iload_n 1, 1) := (congrArg (fun c => decode c 51) zeq213).trans (by decide +kernel)
theorem d213_52 : decode (zB 213) 52 = .ok (.iload_n 2, 1) := (congrArg (fun c => decode c 52) zeq213).trans (by decide +kernel)
theorem d213_53 : decode (zB 213) 53 = .ok (.ifCond .ge 7, 3) := (congrArg (fun c => decode c 53) zeq213).trans (by decide +kernel)
theorem d213_56 : decode (zB 213) 56 = .ok (.iconst 0, 1) := (congrArg (fun c => decode c 56) zeq213).trans (by decide +kernel)
theorem d213_57 : decode (zB 213) 57 = .ok (.goto 4, 3) := (congrArg (fun c => decode c 57) zeq213).trans (by decide +kernel)
theorem d213_60 : decode (zB 213) 60 = .ok (.iload_n 3, 1) := (congrArg (fun c => decode c 60) zeq213).trans (by decide +kernel)
theorem d213_61 : decode (zB 213) 61 = .ok (.iastore, 1) := (congrArg (fun c => decode c 61) zeq213).trans (by decide +kernel)
theorem d213_62 : decode (zB 213) 62 = .ok (.iconst 0, 1) := (congrArg (fun c => decode c 62) zeq213).trans (by decide +kernel)
theorem d213_63 : decode (zB 213) 63 = .ok (.istore 4, 2) := (congrArg (fun c => decode c 63) zeq213).trans (by decide +kernel)
theorem d213_65 : decode (zB 213) 65 = .ok (.iload 4, 2) := (congrArg (fun c => decode c 65) zeq213).trans (by decide +kernel)
theorem d213_67 : decode (zB 213) 67 = .ok (.bipush 40, 2) := (congrArg (fun c => decode c 67) zeq213).trans (by decide +kernel)
theorem d213_69 : decode (zB 213) 69 = .ok (.if_icmp .ge 19, 3) := (congrArg (fun c => decode c 69) zeq213).trans (by decide +kernel)
theorem d213_72 : decode (zB 213) 72 = .ok (.aload_n 0, 1) := (congrArg (fun c => decode c 72) zeq213).trans (by decide +kernel)
theorem d213_73 : decode (zB 213) 73 = .ok (.getfield 106, 3) := (congrArg (fun c => decode c 73) zeq213).trans (by decide +kernel)
theorem d213_76 : decode (zB 213) 76 = .ok (.iload_n 1, 1) := (congrArg (fun c => decode c 76) zeq213).trans (by decide +kernel)
theorem d213_77 : decode (zB 213) 77 = .ok (.aaload, 1) := (congrArg (fun c => decode c 77) zeq213).trans (by decide +kernel)
theorem d213_78 : decode (zB 213) 78 = .ok (.iload 4, 2) := (congrArg (fun c => decode c 78) zeq213).trans (by decide +kernel)
theorem d213_80 : decode (zB 213) 80 = .ok (.iconst 0, 1) := (congrArg (fun c => decode c 80) zeq213).trans (by decide +kernel)
theorem d213_81 : decode (zB 213) 81 = .ok (.iastore, 1) := (congrArg (fun c => decode c 81) zeq213).trans (by decide +kernel)
theorem d213_82 : decode (zB 213) 82 = .ok (.iinc 4 1, 3) := (congrArg (fun c => decode c 82) zeq213).trans (by decide +kernel)
theorem d213_85 : decode (zB 213) 85 = .ok (.goto (-20), 3) := (congrArg (fun c => decode c 85) zeq213).trans (by decide +kernel)
theorem d213_88 : decode (zB 213) 88 = .ok (.iconst 1, 1) := (congrArg (fun c => decode c 88) zeq213).trans (by decide +kernel)
theorem d213_89 : decode (zB 213) 89 = .ok (.ireturn, 1) := (congrArg (fun c => decode c 89) zeq213).trans (by decide +kernel)
theorem l213 {d : Nat} {Q : Option Value → zM → Prop} {D : yD} {M0 : zM} {κ h : Nat} {x2 x3 : Int32} (hh : h < 4) (k : ∀ M', RX M' D κ → Fi (fun b _ => 318 < b) M0 M' → Q (some (.int (nI 1))) M') : ∀ (r i : Nat) (M1 : zM), i ≤ 40 → 40 < i + r →  RX M1 D κ → Fi (fun b _ => 318 < b) M0 M1 → qW (zEv (d + 2)) 213 Q 65 [(4, .int (nI i)), (0, .ref 136), (1, .int (nI h)), (2, .int x2), (3, .int x3)] [] M1 := by
  intro r
  induction r with
  | zero => intros; omega
  | succ r ih =>
    intro i M1 h1 h2 hR1 hF
    have hX := hR1.1.1
    refine q_iload d213_65 rfl ?_
    refine q_bipush (x := nI 40) d213_67 rfl ?_
    refine nc_ge 88 d213_69 (by decide) (by omega) (by omega) (fun h69 => ?_) (fun h69 => ?_)
    · refine q_iconstN (z := 1) d213_88 ?_
      refine q_iret d213_89 rfl ?_
      exact k _ hR1 hF
    · refine q_aload_n d213_72 rfl ?_
      refine q_getr (c := 8) (f := 47) d213_73 ⟨rfl, rfl⟩ (xk_136 hX) (xf_items hX) ?_
      refine q_iload_n d213_76 rfl ?_
      refine n_aald d213_77 (xk_items hX) (by decide) (by omega) (by decide) (xr_items hX (by omega)) ?_
      refine q_iload d213_78 rfl ?_
      refine q_iconstN (z := 0) d213_80 ?_
      refine n_iast d213_81 (xa_items hX (by omega)) (by omega) (by decide) ?_
      refine n_iinc 1 d213_82 (by decide) rfl rfl ?_
      refine q_goto 65 d213_85 (by decide) ?_
      exact ih (i + 1) _ (by omega) (by omega) (hR1.items ((Fi.refl _ _).wi (by omega))) (hF.wi (by omega))
theorem x213 {d : Nat} {M : zM} {Q : Option Value → zM → Prop} {D : yD} {κ : Nat} {x y z : Int32} (hR : RX M D κ) (hD : OKD D) (hκ : κ + 4000 < 2147483648) (k : ∀ M' κ', κ' ≤ κ + 240 → RX M' (sSheet D x y z).2 κ' → Fi FY M M' → Q (some (.int (sSheet D x y z).1)) M') : qC (d + 3) 213 [.ref 136, .int x, .int y, .int z] M Q := by
  refine qC_of (by decide) (Nat.le_of_ble_eq_true rfl) ?_
  have hC := hR.1
  have hX := hC.1
  have hO : OKW (dT D) (dc D) (dW D) := hC.2.2.1
  have hc6 := hO.1.1
  have hL : XLo [] M (some (dL D)) := hC.2.2.2.2.2.2.1
  have hSa : ∀ s, s < 3 → XSa M s (dS D s) κ := hC.2.2.2.2.1
  have hTk := hC.k
  have hck := hC.2.2.2.2.2.1
  have h240 := hD.2.1
  unfold sSheet at k
  rcases zix_c x (n := 4) (by omega) with ⟨h, hh, rfl, eh⟩ | ⟨eh, nh⟩
  · rw [oz_s eh] at k
    by_cases hy : y = -1
    · subst hy
      rw [if_pos rfl] at k
      refine q_iload_n d213_0 rfl ?_
      refine q_s1 d213_1 (Or.inl rfl) rfl (Nat.le_of_ble_eq_true rfl) (c207t (by omega) ?_)
      refine n0_eq 26 d213_4 (by decide) (by decide) (fun q => absurd q (by decide)) (fun _ => ?_)
      refine q_iload_n d213_7 rfl ?_
      refine q_iconst (x := (-1)) d213_8 rfl ?_
      refine q_iconstN (z := 1) d213_9 ?_
      refine q_s3 d213_10 (Or.inl rfl) rfl (Nat.le_of_ble_eq_true rfl) (c131v (by omega) ?_)
      refine n0_eq 26 d213_13 (by decide) (by decide) (fun q => absurd q (by decide)) (fun _ => ?_)
      refine q_iload_n d213_16 rfl ?_
      refine i0_lt 29 d213_17 (by decide) (fun h17 => ?_) (fun h17 => (False.elim (h17 (by decide))))
      refine q_iload_n d213_29 rfl ?_
      refine i0_lt 40 d213_30 (by decide) (fun h30 => ?_) (fun h30 => (False.elim (h30 (by decide))))
      refine q_aload_n d213_40 rfl ?_
      refine q_getr (c := 8) (f := 45) d213_41 ⟨rfl, rfl⟩ (xk_136 hX) (xf_sorts hX) ?_
      refine q_iload_n d213_44 rfl ?_
      refine q_iload_n d213_45 rfl ?_
      refine n_iast d213_46 (xk_sorts hX) (by omega) (by decide) ?_
      refine q_aload_n d213_47 rfl ?_
      refine q_getr (c := 8) (f := 46) d213_48 ⟨rfl, rfl⟩ (xk_136 hX) (xf_lengths hX) ?_
      refine q_iload_n d213_51 rfl ?_
      refine q_iload_n d213_52 rfl ?_
      refine i0_ge 60 d213_53 (by decide) (fun h53 => (False.elim (absurd h53 (by decide)))) (fun h53 => ?_)
      refine q_iconstN (z := 0) d213_56 ?_
      refine q_goto 61 d213_57 (by decide) ?_
      refine n_iast d213_61 (xk_lengths hX) (by omega) (by decide) ?_
      refine q_iconstN (z := 0) d213_62 ?_
      refine q_istore d213_63 (by decide) rfl ?_
      have f1 : Fi (fun b k => (b = 319 ∧ k = h) ∨ (b = 320 ∧ k = h) ∨ 320 < b) M (zwi (zwi M 319 h (-1)) 320 h (nI 0)) := ((Fi.refl _ _).wi (Or.inl ⟨rfl, rfl⟩)).wi (Or.inr (Or.inl ⟨rfl, rfl⟩))
      exact l213 hh (fun M' q1 q2 => k M' κ (Nat.le_add_right _ _) q1 (q2.mono (fun b k q => by unfold FY; omega))) 41 0 _ (by omega) (by omega) (hR.row f1 ((wi_n (by omega)).trans (wi_s _ _ _ _)) (wi_s _ _ _ _)) (f1.mono (fun b k q => by omega))
    · rw [if_neg hy] at k
      rcases zix_c y (n := 2) (by omega) with ⟨o, ho, rfl, eo⟩ | ⟨eo, no⟩
      · rw [oz_s eo] at k
        by_cases hz40 : nI 40 < z
        · rw [if_pos hz40] at k
          refine q_iload_n d213_0 rfl ?_
          refine q_s1 d213_1 (Or.inl rfl) rfl (Nat.le_of_ble_eq_true rfl) (c207t (by omega) ?_)
          refine n0_eq 26 d213_4 (by decide) (by decide) (fun q => absurd q (by decide)) (fun _ => ?_)
          refine q_iload_n d213_7 rfl ?_
          refine q_iconst (x := (-1)) d213_8 rfl ?_
          refine q_iconstN (z := 1) d213_9 ?_
          refine q_s3 d213_10 (Or.inl rfl) rfl (Nat.le_of_ble_eq_true rfl) (c131w (by omega) ?_)
          refine n0_eq 26 d213_13 (by decide) (by decide) (fun q => absurd q (by decide)) (fun _ => ?_)
          refine q_iload_n d213_16 rfl ?_
          refine n0_lt 29 d213_17 (by decide) (by omega) (fun q => absurd q (Nat.not_lt_zero _)) (fun _ => ?_)
          refine q_iload_n d213_20 rfl ?_
          refine q_bipush (x := nI 40) d213_21 rfl ?_
          refine ic_le 29 d213_23 (by decide) (fun h23 => (False.elim (Int32.not_lt.mpr h23 hz40))) (fun h23 => ?_)
          refine q_bipush (x := (-2)) d213_26 rfl ?_
          refine q_iret d213_28 rfl ?_
          exact k _ κ (Nat.le_add_right _ _) hR (Fi.refl _ _)
        · rw [if_neg hz40] at k
          by_cases hz0 : z < nI 0
          · rw [if_pos hz0] at k
            refine q_iload_n d213_0 rfl ?_
            refine q_s1 d213_1 (Or.inl rfl) rfl (Nat.le_of_ble_eq_true rfl) (c207t (by omega) ?_)
            refine n0_eq 26 d213_4 (by decide) (by decide) (fun q => absurd q (by decide)) (fun _ => ?_)
            refine q_iload_n d213_7 rfl ?_
            refine q_iconst (x := (-1)) d213_8 rfl ?_
            refine q_iconstN (z := 1) d213_9 ?_
            refine q_s3 d213_10 (Or.inl rfl) rfl (Nat.le_of_ble_eq_true rfl) (c131w (by omega) ?_)
            refine n0_eq 26 d213_13 (by decide) (by decide) (fun q => absurd q (by decide)) (fun _ => ?_)
            refine q_iload_n d213_16 rfl ?_
            refine n0_lt 29 d213_17 (by decide) (by omega) (fun q => absurd q (Nat.not_lt_zero _)) (fun _ => ?_)
            refine q_iload_n d213_20 rfl ?_
            refine q_bipush (x := nI 40) d213_21 rfl ?_
            refine ic_le 29 d213_23 (by decide) (fun h23 => ?_) (fun h23 => (False.elim (h23 (Int32.not_lt.mp hz40))))
            refine q_iload_n d213_29 rfl ?_
            refine n0_lt 40 d213_30 (by decide) (by omega) (fun q => absurd q (Nat.not_lt_zero _)) (fun _ => ?_)
            refine q_iload_n d213_33 rfl ?_
            refine i0_ge 40 d213_34 (by decide) (fun h34 => (False.elim (Int32.not_lt.mpr h34 hz0))) (fun h34 => ?_)
            refine q_bipush (x := (-14)) d213_37 rfl ?_
            refine q_iret d213_39 rfl ?_
            exact k _ κ (Nat.le_add_right _ _) hR (Fi.refl _ _)
          · rw [if_neg hz0] at k
            obtain ⟨v, rfl, hv⟩ := nI_two (z := 40) hz0 hz40 (by decide)
            rw [nI_clamp (by omega)] at k
            refine q_iload_n d213_0 rfl ?_
            refine q_s1 d213_1 (Or.inl rfl) rfl (Nat.le_of_ble_eq_true rfl) (c207t (by omega) ?_)
            refine n0_eq 26 d213_4 (by decide) (by decide) (fun q => absurd q (by decide)) (fun _ => ?_)
            refine q_iload_n d213_7 rfl ?_
            refine q_iconst (x := (-1)) d213_8 rfl ?_
            refine q_iconstN (z := 1) d213_9 ?_
            refine q_s3 d213_10 (Or.inl rfl) rfl (Nat.le_of_ble_eq_true rfl) (c131w (by omega) ?_)
            refine n0_eq 26 d213_13 (by decide) (by decide) (fun q => absurd q (by decide)) (fun _ => ?_)
            refine q_iload_n d213_16 rfl ?_
            refine n0_lt 29 d213_17 (by decide) (by omega) (fun q => absurd q (Nat.not_lt_zero _)) (fun _ => ?_)
            refine q_iload_n d213_20 rfl ?_
            refine q_bipush (x := nI 40) d213_21 rfl ?_
            refine nc_le 29 d213_23 (by decide) (by omega) (by omega) (fun h23 => ?_) (fun h23 => (False.elim (by omega)))
            refine q_iload_n d213_29 rfl ?_
            refine n0_lt 40 d213_30 (by decide) (by omega) (fun q => absurd q (Nat.not_lt_zero _)) (fun _ => ?_)
            refine q_iload_n d213_33 rfl ?_
            refine n0_ge 40 d213_34 (by decide) (by omega) (fun _ => ?_) (fun q => absurd q (Nat.not_lt_zero _))
            refine q_aload_n d213_40 rfl ?_
            refine q_getr (c := 8) (f := 45) d213_41 ⟨rfl, rfl⟩ (xk_136 hX) (xf_sorts hX) ?_
            refine q_iload_n d213_44 rfl ?_
            refine q_iload_n d213_45 rfl ?_
            refine n_iast d213_46 (xk_sorts hX) (by omega) (by decide) ?_
            refine q_aload_n d213_47 rfl ?_
            refine q_getr (c := 8) (f := 46) d213_48 ⟨rfl, rfl⟩ (xk_136 hX) (xf_lengths hX) ?_
            refine q_iload_n d213_51 rfl ?_
            refine q_iload_n d213_52 rfl ?_
            refine n0_ge 60 d213_53 (by decide) (by omega) (fun _ => ?_) (fun q => absurd q (Nat.not_lt_zero _))
            refine q_iload_n d213_60 rfl ?_
            refine n_iast d213_61 (xk_lengths hX) (by omega) (by decide) ?_
            refine q_iconstN (z := 0) d213_62 ?_
            refine q_istore d213_63 (by decide) rfl ?_
            have f1 : Fi (fun b k => (b = 319 ∧ k = h) ∨ (b = 320 ∧ k = h) ∨ 320 < b) M (zwi (zwi M 319 h (nI o)) 320 h (nI v)) := ((Fi.refl _ _).wi (Or.inl ⟨rfl, rfl⟩)).wi (Or.inr (Or.inl ⟨rfl, rfl⟩))
            exact l213 hh (fun M' q1 q2 => k M' κ (Nat.le_add_right _ _) q1 (q2.mono (fun b k q => by unfold FY; omega))) 41 0 _ (by omega) (by omega) (hR.row f1 ((wi_n (by omega)).trans (wi_s _ _ _ _)) (wi_s _ _ _ _)) (f1.mono (fun b k q => by omega))
      · rw [oz_n eo] at k
        refine q_iload_n d213_0 rfl ?_
        refine q_s1 d213_1 (Or.inl rfl) rfl (Nat.le_of_ble_eq_true rfl) (c207t (by omega) ?_)
        refine n0_eq 26 d213_4 (by decide) (by decide) (fun q => absurd q (by decide)) (fun _ => ?_)
        refine q_iload_n d213_7 rfl ?_
        refine q_iconst (x := (-1)) d213_8 rfl ?_
        refine q_iconstN (z := 1) d213_9 ?_
        refine q_s3 d213_10 (Or.inl rfl) rfl (Nat.le_of_ble_eq_true rfl) (c131x hy eo ?_)
        refine n0_eq 26 d213_13 (by decide) (by decide) (fun _ => ?_) (fun q => absurd q (by decide))
        refine q_bipush (x := (-2)) d213_26 rfl ?_
        refine q_iret d213_28 rfl ?_
        exact k _ κ (Nat.le_add_right _ _) hR (Fi.refl _ _)
  · rw [oz_n eh] at k
    refine q_iload_n d213_0 rfl ?_
    refine q_s1 d213_1 (Or.inl rfl) rfl (Nat.le_of_ble_eq_true rfl) (c207f eh ?_)
    refine n0_eq 26 d213_4 (by decide) (by decide) (fun _ => ?_) (fun q => absurd q (by decide))
    refine q_bipush (x := (-2)) d213_26 rfl ?_
    refine q_iret d213_28 rfl ?_
    exact k _ κ (Nat.le_add_right _ _) hR (Fi.refl _ _)
/-! ===== the reference: cells, films ===== -/
theorem d214_0 : decode (zB 214) 0 = .ok (.iload_n 1, 1) := (congrArg (fun c => decode c 0) zeq214).trans (by decide +kernel)
theorem d214_1 : decode (zB 214) 1 = .ok (.invokestatic 392, 3) := (congrArg (fun c => decode c 1) zeq214).trans (by decide +kernel)
theorem d214_4 : decode (zB 214) 4 = .ok (.ifCond .ne 6, 3) := (congrArg (fun c => decode c 4) zeq214).trans (by decide +kernel)
theorem d214_7 : decode (zB 214) 7 = .ok (.bipush (-2), 2) := (congrArg (fun c => decode c 7) zeq214).trans (by decide +kernel)
theorem d214_9 : decode (zB 214) 9 = .ok (.ireturn, 1) := (congrArg (fun c => decode c 9) zeq214).trans (by decide +kernel)
theorem d214_10 : decode (zB 214) 10 = .ok (.aload_n 0, 1) := (congrArg (fun c => decode c 10) zeq214).trans (by decide +kernel)
theorem d214_11 : decode (zB 214) 11 = .ok (.getfield 100, 3) := (congrArg (fun c => decode c 11) zeq214).trans (by decide +kernel)
theorem d214_14 : decode (zB 214) 14 = .ok (.iload_n 1, 1) := (congrArg (fun c => decode c 14) zeq214).trans (by decide +kernel)
theorem d214_15 : decode (zB 214) 15 = .ok (.iaload, 1) := (congrArg (fun c => decode c 15) zeq214).trans (by decide +kernel)
theorem d214_16 : decode (zB 214) 16 = .ok (.ifCond .ge 6, 3) := (congrArg (fun c => decode c 16) zeq214).trans (by decide +kernel)
theorem d214_19 : decode (zB 214) 19 = .ok (.bipush (-11), 2) := (congrArg (fun c => decode c 19) zeq214).trans (by decide +kernel)
theorem d214_21 : decode (zB 214) 21 = .ok (.ireturn, 1) := (congrArg (fun c => decode c 21) zeq214).trans (by decide +kernel)
theorem d214_22 : decode (zB 214) 22 = .ok (.iload_n 2, 1) := (congrArg (fun c => decode c 22) zeq214).trans (by decide +kernel)
theorem d214_23 : decode (zB 214) 23 = .ok (.iconst 0, 1) := (congrArg (fun c => decode c 23) zeq214).trans (by decide +kernel)
theorem d214_24 : decode (zB 214) 24 = .ok (.aload_n 0, 1) := (congrArg (fun c => decode c 24) zeq214).trans (by decide +kernel)
theorem d214_25 : decode (zB 214) 25 = .ok (.getfield 103, 3) := (congrArg (fun c => decode c 25) zeq214).trans (by decide +kernel)
theorem d214_28 : decode (zB 214) 28 = .ok (.iload_n 1, 1) := (congrArg (fun c => decode c 28) zeq214).trans (by decide +kernel)
theorem d214_29 : decode (zB 214) 29 = .ok (.iaload, 1) := (congrArg (fun c => decode c 29) zeq214).trans (by decide +kernel)
theorem d214_30 : decode (zB 214) 30 = .ok (.iconst 1, 1) := (congrArg (fun c => decode c 30) zeq214).trans (by decide +kernel)
theorem d214_31 : decode (zB 214) 31 = .ok (.isub, 1) := (congrArg (fun c => decode c 31) zeq214).trans (by decide +kernel)
theorem d214_32 : decode (zB 214) 32 = .ok (.invokestatic 112, 3) := (congrArg (fun c => decode c 32) zeq214).trans (by decide +kernel)
theorem d214_35 : decode (zB 214) 35 = .ok (.ifCond .ne 6, 3) := (congrArg (fun c => decode c 35) zeq214).trans (by decide +kernel)
theorem d214_38 : decode (zB 214) 38 = .ok (.bipush (-12), 2) := (congrArg (fun c => decode c 38) zeq214).trans (by decide +kernel)
theorem d214_40 : decode (zB 214) 40 = .ok (.ireturn, 1) := (congrArg (fun c => decode c 40) zeq214).trans (by decide +kernel)
theorem d214_41 : decode (zB 214) 41 = .ok (.aload_n 0, 1) := (congrArg (fun c => decode c 41) zeq214).trans (by decide +kernel)
theorem d214_42 : decode (zB 214) 42 = .ok (.getfield 106, 3) := (congrArg (fun c => decode c 42) zeq214).trans (by decide +kernel)
theorem d214_45 : decode (zB 214) 45 = .ok (.iload_n 1, 1) := (congrArg (fun c => decode c 45) zeq214).trans (by decide +kernel)
theorem d214_46 : decode (zB 214) 46 = .ok (.aaload, 1) := (congrArg (fun c => decode c 46) zeq214).trans (by decide +kernel)
theorem d214_47 : decode (zB 214) 47 = .ok (.iload_n 2, 1) := (congrArg (fun c => decode c 47) zeq214).trans (by decide +kernel)
theorem d214_48 : decode (zB 214) 48 = .ok (.aload_n 0, 1) := (congrArg (fun c => decode c 48) zeq214).trans (by decide +kernel)
theorem d214_49 : decode (zB 214) 49 = .ok (.getfield 100, 3) := (congrArg (fun c => decode c 49) zeq214).trans (by decide +kernel)
theorem d214_52 : decode (zB 214) 52 = .ok (.iload_n 1, 1) := (congrArg (fun c => decode c 52) zeq214).trans (by decide +kernel)
theorem d214_53 : decode (zB 214) 53 = .ok (.iaload, 1) := (congrArg (fun c => decode c 53) zeq214).trans (by decide +kernel)
theorem d214_54 : decode (zB 214) 54 = .ok (.ifCond .ne 8, 3) := (congrArg (fun c => decode c 54) zeq214).trans (by decide +kernel)
theorem d214_57 : decode (zB 214) 57 = .ok (.iload_n 3, 1) := (congrArg (fun c => decode c 57) zeq214).trans (by decide +kernel)
theorem d214_58 : decode (zB 214) 58 = .ok (.i2b, 1) := (congrArg (fun c => decode c 58) zeq214).trans (by decide +kernel)
theorem d214_59 : decode (zB 214) 59 = .ok (.goto 4, 3) := (congrArg (fun c => decode c 59) zeq214).trans (by decide +kernel)
theorem d214_62 : decode (zB 214) 62 = .ok (.iload_n 3, 1) := (congrArg (fun c => decode c 62) zeq214).trans (by decide +kernel)
theorem d214_63 : decode (zB 214) 63 = .ok (.iastore, 1) := (congrArg (fun c => decode c 63) zeq214).trans (by decide +kernel)
theorem d214_64 : decode (zB 214) 64 = .ok (.iconst 1, 1) := (congrArg (fun c => decode c 64) zeq214).trans (by decide +kernel)
theorem d214_65 : decode (zB 214) 65 = .ok (.ireturn, 1) := (congrArg (fun c => decode c 65) zeq214).trans (by decide +kernel)
theorem x214 {d : Nat} {M : zM} {Q : Option Value → zM → Prop} {D : yD} {κ : Nat} {x y z : Int32} (hR : RX M D κ) (hD : OKD D) (hκ : κ + 4000 < 2147483648) (k : ∀ M', RX M' D κ → Fi FY M M' → Q (some (.int (sCell D x y))) M') : qC (d + 3) 214 [.ref 136, .int x, .int y, .int z] M Q := by
  refine qC_of (by decide) (Nat.le_of_ble_eq_true rfl) ?_
  have hC := hR.1
  have hX := hC.1
  have hO : OKW (dT D) (dc D) (dW D) := hC.2.2.1
  have hc6 := hO.1.1
  have hL : XLo [] M (some (dL D)) := hC.2.2.2.2.2.2.1
  have hSa : ∀ s, s < 3 → XSa M s (dS D s) κ := hC.2.2.2.2.1
  have hTk := hC.k
  have hck := hC.2.2.2.2.2.1
  have h240 := hD.2.1
  unfold sCell at k
  rcases zix_c x (n := 4) (by omega) with ⟨h, hh, rfl, eh⟩ | ⟨eh, nh⟩
  · rw [oz_s eh] at k
    have hz40 := (hD.2.2.2.2 h hh).1
    by_cases hs : (dR D h).1 = -1
    · rw [if_pos hs] at k
      refine q_iload_n d214_0 rfl ?_
      refine q_s1 d214_1 (Or.inl rfl) rfl (Nat.le_of_ble_eq_true rfl) (c207t (by omega) ?_)
      refine n0_ne 10 d214_4 (by decide) (by decide) (fun _ => ?_) (fun q => absurd q (by decide))
      refine q_aload_n d214_10 rfl ?_
      refine q_getr (c := 8) (f := 45) d214_11 ⟨rfl, rfl⟩ (xk_136 hX) (xf_sorts hX) ?_
      refine q_iload_n d214_14 rfl ?_
      refine n_iald d214_15 (xk_sorts hX) (by omega) (by decide) (hR.2.2.2.2 _ (by omega)).1 ?_
      refine i0_ge 22 d214_16 (by decide) (fun h16 => (False.elim (absurd h16 (by rw [hs]; decide)))) (fun h16 => ?_)
      refine q_bipush (x := (-11)) d214_19 rfl ?_
      refine q_iret d214_21 rfl ?_
      exact k _ hR (Fi.refl _ _)
    · rw [if_neg hs] at k
      have hso : (dR D h).1 = nI 0 ∨ (dR D h).1 = nI 1 := ((hD.2.2.2.2 h hh).2).resolve_left hs
      rcases zix_c y (n := (dR D h).2) (by omega) with ⟨i, hi, rfl, ei⟩ | ⟨ei, ni⟩
      · rw [oz_s ei] at k
        refine q_iload_n d214_0 rfl ?_
        refine q_s1 d214_1 (Or.inl rfl) rfl (Nat.le_of_ble_eq_true rfl) (c207t (by omega) ?_)
        refine n0_ne 10 d214_4 (by decide) (by decide) (fun _ => ?_) (fun q => absurd q (by decide))
        refine q_aload_n d214_10 rfl ?_
        refine q_getr (c := 8) (f := 45) d214_11 ⟨rfl, rfl⟩ (xk_136 hX) (xf_sorts hX) ?_
        refine q_iload_n d214_14 rfl ?_
        refine n_iald d214_15 (xk_sorts hX) (by omega) (by decide) (hR.2.2.2.2 _ (by omega)).1 ?_
        refine i0_ge 22 d214_16 (by decide) (fun h16 => ?_) (fun h16 => (False.elim (by rcases hso with e | e <;> rw [e] at h16 <;> exact absurd h16 (by decide))))
        refine q_iload_n d214_22 rfl ?_
        refine q_iconstN (z := 0) d214_23 ?_
        refine q_aload_n d214_24 rfl ?_
        refine q_getr (c := 8) (f := 46) d214_25 ⟨rfl, rfl⟩ (xk_136 hX) (xf_lengths hX) ?_
        refine q_iload_n d214_28 rfl ?_
        refine n_iald d214_29 (xk_lengths hX) (by omega) (by decide) (hR.2.2.2.2 _ (by omega)).2 ?_
        refine q_iconstN (z := 1) d214_30 ?_
        refine q_isub d214_31 ?_
        refine q_s3 d214_32 (Or.inl rfl) rfl (Nat.le_of_ble_eq_true rfl) (c131st (by omega) (by omega) ?_)
        refine n0_ne 41 d214_35 (by decide) (by decide) (fun _ => ?_) (fun q => absurd q (by decide))
        refine q_aload_n d214_41 rfl ?_
        refine q_getr (c := 8) (f := 47) d214_42 ⟨rfl, rfl⟩ (xk_136 hX) (xf_items hX) ?_
        refine q_iload_n d214_45 rfl ?_
        refine n_aald d214_46 (xk_items hX) (by decide) (by omega) (by decide) (xr_items hX (by omega)) ?_
        refine q_iload_n d214_47 rfl ?_
        refine q_aload_n d214_48 rfl ?_
        refine q_getr (c := 8) (f := 45) d214_49 ⟨rfl, rfl⟩ (xk_136 hX) (xf_sorts hX) ?_
        refine q_iload_n d214_52 rfl ?_
        refine n_iald d214_53 (xk_sorts hX) (by omega) (by decide) (hR.2.2.2.2 _ (by omega)).1 ?_
        refine i0_ne 62 d214_54 (by decide) (fun h54 => ?_) (fun h54 => ?_)
        · refine q_iload_n d214_62 rfl ?_
          refine n_iast d214_63 (xa_items hX (by omega)) (by omega) (by decide) ?_
          refine q_iconstN (z := 1) d214_64 ?_
          refine q_iret d214_65 rfl ?_
          exact k _ (hR.items ((Fi.refl _ _).wi (by omega))) ((Fi.refl FY _).wi (by unfold FY; omega))
        · refine q_iload_n d214_57 rfl ?_
          refine q_i2b d214_58 ?_
          refine q_goto 63 d214_59 (by decide) ?_
          refine n_iast d214_63 (xa_items hX (by omega)) (by omega) (by decide) ?_
          refine q_iconstN (z := 1) d214_64 ?_
          refine q_iret d214_65 rfl ?_
          exact k _ (hR.items ((Fi.refl _ _).wi (by omega))) ((Fi.refl FY _).wi (by unfold FY; omega))
      · rw [oz_n ei] at k
        refine q_iload_n d214_0 rfl ?_
        refine q_s1 d214_1 (Or.inl rfl) rfl (Nat.le_of_ble_eq_true rfl) (c207t (by omega) ?_)
        refine n0_ne 10 d214_4 (by decide) (by decide) (fun _ => ?_) (fun q => absurd q (by decide))
        refine q_aload_n d214_10 rfl ?_
        refine q_getr (c := 8) (f := 45) d214_11 ⟨rfl, rfl⟩ (xk_136 hX) (xf_sorts hX) ?_
        refine q_iload_n d214_14 rfl ?_
        refine n_iald d214_15 (xk_sorts hX) (by omega) (by decide) (hR.2.2.2.2 _ (by omega)).1 ?_
        refine i0_ge 22 d214_16 (by decide) (fun h16 => ?_) (fun h16 => (False.elim (by rcases hso with e | e <;> rw [e] at h16 <;> exact absurd h16 (by decide))))
        refine q_iload_n d214_22 rfl ?_
        refine q_iconstN (z := 0) d214_23 ?_
        refine q_aload_n d214_24 rfl ?_
        refine q_getr (c := 8) (f := 46) d214_25 ⟨rfl, rfl⟩ (xk_136 hX) (xf_lengths hX) ?_
        refine q_iload_n d214_28 rfl ?_
        refine n_iald d214_29 (xk_lengths hX) (by omega) (by decide) (hR.2.2.2.2 _ (by omega)).2 ?_
        refine q_iconstN (z := 1) d214_30 ?_
        refine q_isub d214_31 ?_
        refine q_s3 d214_32 (Or.inl rfl) rfl (Nat.le_of_ble_eq_true rfl) (c131sf ei (by omega) ?_)
        refine n0_ne 41 d214_35 (by decide) (by decide) (fun q => absurd q (by decide)) (fun _ => ?_)
        refine q_bipush (x := (-12)) d214_38 rfl ?_
        refine q_iret d214_40 rfl ?_
        exact k _ hR (Fi.refl _ _)
  · rw [oz_n eh] at k
    refine q_iload_n d214_0 rfl ?_
    refine q_s1 d214_1 (Or.inl rfl) rfl (Nat.le_of_ble_eq_true rfl) (c207f eh ?_)
    refine n0_ne 10 d214_4 (by decide) (by decide) (fun q => absurd q (by decide)) (fun _ => ?_)
    refine q_bipush (x := (-2)) d214_7 rfl ?_
    refine q_iret d214_9 rfl ?_
    exact k _ hR (Fi.refl _ _)
theorem d210_0 : decode (zB 210) 0 = .ok (.iload_n 1, 1) := (congrArg (fun c => decode c 0) zeq210).trans (by decide +kernel)
theorem d210_1 : decode (zB 210) 1 = .ok (.invokestatic 392, 3) := (congrArg (fun c => decode c 1) zeq210).trans (by decide +kernel)
theorem d210_4 : decode (zB 210) 4 = .ok (.ifCond .eq 20, 3) := (congrArg (fun c => decode c 4) zeq210).trans (by decide +kernel)
theorem d210_7 : decode (zB 210) 7 = .ok (.iload_n 2, 1) := (congrArg (fun c => decode c 7) zeq210).trans (by decide +kernel)
theorem d210_8 : decode (zB 210) 8 = .ok (.invokestatic 357, 3) := (congrArg (fun c => decode c 8) zeq210).trans (by decide +kernel)
theorem d210_11 : decode (zB 210) 11 = .ok (.ifCond .eq 13, 3) := (congrArg (fun c => decode c 11) zeq210).trans (by decide +kernel)
theorem d210_14 : decode (zB 210) 14 = .ok (.iload_n 3, 1) := (congrArg (fun c => decode c 14) zeq210).trans (by decide +kernel)
theorem d210_15 : decode (zB 210) 15 = .ok (.iconst 0, 1) := (congrArg (fun c => decode c 15) zeq210).trans (by decide +kernel)
theorem d210_16 : decode (zB 210) 16 = .ok (.bipush 20, 2) := (congrArg (fun c => decode c 16) zeq210).trans (by decide +kernel)
theorem d210_18 : decode (zB 210) 18 = .ok (.invokestatic 112, 3) := (congrArg (fun c => decode c 18) zeq210).trans (by decide +kernel)
theorem d210_21 : decode (zB 210) 21 = .ok (.ifCond .ne 6, 3) := (congrArg (fun c => decode c 21) zeq210).trans (by decide +kernel)
theorem d210_24 : decode (zB 210) 24 = .ok (.bipush (-2), 2) := (congrArg (fun c => decode c 24) zeq210).trans (by decide +kernel)
theorem d210_26 : decode (zB 210) 26 = .ok (.ireturn, 1) := (congrArg (fun c => decode c 26) zeq210).trans (by decide +kernel)
theorem d210_27 : decode (zB 210) 27 = .ok (.aload_n 0, 1) := (congrArg (fun c => decode c 27) zeq210).trans (by decide +kernel)
theorem d210_28 : decode (zB 210) 28 = .ok (.getfield 100, 3) := (congrArg (fun c => decode c 28) zeq210).trans (by decide +kernel)
theorem d210_31 : decode (zB 210) 31 = .ok (.iload_n 1, 1) := (congrArg (fun c => decode c 31) zeq210).trans (by decide +kernel)
theorem d210_32 : decode (zB 210) 32 = .ok (.iconst 1, 1) := (congrArg (fun c => decode c 32) zeq210).trans (by decide +kernel)
theorem d210_33 : decode (zB 210) 33 = .ok (.iastore, 1) := (congrArg (fun c => decode c 33) zeq210).trans (by decide +kernel)
theorem d210_34 : decode (zB 210) 34 = .ok (.aload_n 0, 1) := (congrArg (fun c => decode c 34) zeq210).trans (by decide +kernel)
theorem d210_35 : decode (zB 210) 35 = .ok (.getfield 103, 3) := (congrArg (fun c => decode c 35) zeq210).trans (by decide +kernel)
theorem d210_38 : decode (zB 210) 38 = .ok (.iload_n 1, 1) := (congrArg (fun c => decode c 38) zeq210).trans (by decide +kernel)
theorem d210_39 : decode (zB 210) 39 = .ok (.iload_n 3, 1) := (congrArg (fun c => decode c 39) zeq210).trans (by decide +kernel)
theorem d210_40 : decode (zB 210) 40 = .ok (.iastore, 1) := (congrArg (fun c => decode c 40) zeq210).trans (by decide +kernel)
theorem d210_41 : decode (zB 210) 41 = .ok (.aload_n 0, 1) := (congrArg (fun c => decode c 41) zeq210).trans (by decide +kernel)
theorem d210_42 : decode (zB 210) 42 = .ok (.invokevirtual 372, 3) := (congrArg (fun c => decode c 42) zeq210).trans (by decide +kernel)
theorem d210_45 : decode (zB 210) 45 = .ok (.iconst 0, 1) := (congrArg (fun c => decode c 45) zeq210).trans (by decide +kernel)
theorem d210_46 : decode (zB 210) 46 = .ok (.istore 4, 2) := (congrArg (fun c => decode c 46) zeq210).trans (by decide +kernel)
theorem d210_48 : decode (zB 210) 48 = .ok (.iload 4, 2) := (congrArg (fun c => decode c 48) zeq210).trans (by decide +kernel)
theorem d210_50 : decode (zB 210) 50 = .ok (.iload_n 3, 1) := (congrArg (fun c => decode c 50) zeq210).trans (by decide +kernel)
theorem d210_51 : decode (zB 210) 51 = .ok (.if_icmp .ge 28, 3) := (congrArg (fun c => decode c 51) zeq210).trans (by decide +kernel)
theorem d210_54 : decode (zB 210) 54 = .ok (.aload_n 0, 1) := (congrArg (fun c => decode c 54) zeq210).trans (by decide +kernel)
theorem d210_55 : decode (zB 210) 55 = .ok (.invokevirtual 354, 3) := (congrArg (fun c => decode c 55) zeq210).trans (by decide +kernel)
theorem d210_58 : decode (zB 210) 58 = .ok (.aload_n 0, 1) := (congrArg (fun c => decode c 58) zeq210).trans (by decide +kernel)
theorem d210_59 : decode (zB 210) 59 = .ok (.getfield 106, 3) := (congrArg (fun c => decode c 59) zeq210).trans (by decide +kernel)
theorem d210_62 : decode (zB 210) 62 = .ok (.iload_n 1, 1) := (congrArg (fun c => decode c 62) zeq210).trans (by decide +kernel)
theorem d210_63 : decode (zB 210) 63 = .ok (.aaload, 1) := (congrArg (fun c => decode c 63) zeq210).trans (by decide +kernel)
theorem d210_64 : decode (zB 210) 64 = .ok (.iload 4, 2) := (congrArg (fun c => decode c 64) zeq210).trans (by decide +kernel)
theorem d210_66 : decode (zB 210) 66 = .ok (.aload_n 0, 1) := (congrArg (fun c => decode c 66) zeq210).trans (by decide +kernel)
theorem d210_67 : decode (zB 210) 67 = .ok (.getfield 33, 3) := (congrArg (fun c => decode c 67) zeq210).trans (by decide +kernel)
theorem d210_70 : decode (zB 210) 70 = .ok (.iload_n 2, 1) := (congrArg (fun c => decode c 70) zeq210).trans (by decide +kernel)
theorem d210_71 : decode (zB 210) 71 = .ok (.iaload, 1) := (congrArg (fun c => decode c 71) zeq210).trans (by decide +kernel)
theorem d210_72 : decode (zB 210) 72 = .ok (.iastore, 1) := (congrArg (fun c => decode c 72) zeq210).trans (by decide +kernel)
theorem d210_73 : decode (zB 210) 73 = .ok (.iinc 4 1, 3) := (congrArg (fun c => decode c 73) zeq210).trans (by decide +kernel)
theorem d210_76 : decode (zB 210) 76 = .ok (.goto (-28), 3) := (congrArg (fun c => decode c 76) zeq210).trans (by decide +kernel)
theorem d210_79 : decode (zB 210) 79 = .ok (.aload_n 0, 1) := (congrArg (fun c => decode c 79) zeq210).trans (by decide +kernel)
theorem d210_80 : decode (zB 210) 80 = .ok (.invokevirtual 375, 3) := (congrArg (fun c => decode c 80) zeq210).trans (by decide +kernel)
theorem d210_83 : decode (zB 210) 83 = .ok (.iload_n 3, 1) := (congrArg (fun c => decode c 83) zeq210).trans (by decide +kernel)
theorem d210_84 : decode (zB 210) 84 = .ok (.ireturn, 1) := (congrArg (fun c => decode c 84) zeq210).trans (by decide +kernel)
theorem l210 {d : Nat} {Q : Option Value → zM → Prop} {D : yD} {M0 M00 : zM} {n h a κ : Nat} (hR : RX M0 D κ) (hκ : κ + 4000 < 2147483648) (hh : h < 4) (ha : a < 6) (hn : n ≤ 20) (hF0 : Fi FY M00 M0) (k : ∀ M', RX M' D κ → Fi FY M00 M' → Q (some (.int (nI n))) M') : ∀ (r i : Nat) (κ1 : Nat) (M1 : zM) (X1 : yX), i ≤ n → n < i + r →  CX (dL D) M1 (dT D) (dc D) (dnm D) X1 κ1 → zi M1 136 25 = nI 1 → zi M1 136 21 = -1 → KA M0 M1 0 → Fi FZ M0 M1 → κ1 ≤ κ + 36 * i → qW (zEv (d + 6)) 210 Q 48 [(4, .int (nI i)), (0, .ref 136), (1, .int (nI h)), (2, .int (nI a)), (3, .int (nI n))] [] M1 := by
  intro r
  induction r with
  | zero => intros; omega
  | succ r ih =>
    intro i κ1 M1 X1 h1 h2 hC1 h25 h21 hK hF hk1
    refine q_iload d210_48 rfl ?_
    refine q_iload_n d210_50 rfl ?_
    refine nc_ge 79 d210_51 (by decide) (by omega) (by omega) (fun h51 => ?_) (fun h51 => ?_)
    · refine q_aload_n d210_79 rfl ?_
      refine q_v0 d210_80 rfl rfl (xk_136 hC1.1) (Nat.le_of_ble_eq_true rfl) (c199 hC1.1 hK (fun M2 hK2 q25 f2 => ?_))
      refine q_iload_n d210_83 rfl ?_
      refine q_iret d210_84 rfl ?_
      have hLo : XLo (dL D) M1 X1.2 := hC1.2.2.2.2.2.2.1
      rw [hC1.l0 h25] at hLo
      have hw := hR.wake hF h21 hLo.2 hK2 q25 f2
      exact k _ hw.1 (hF0.trans hw.2)
    · refine q_aload_n d210_54 rfl ?_
      refine q_v0 d210_55 rfl rfl (xk_136 hC1.1) (Nat.le_of_ble_eq_true rfl) (c175 hC1 (by rw [hC1.l0 h25]; show 0 + 39 ≤ 240; omega) (by omega) (fun M2 κ2 hk2 hC2 f2 => ?_))
      refine q_aload_n d210_58 rfl ?_
      refine q_getr (c := 8) (f := 47) d210_59 ⟨rfl, rfl⟩ (xk_136 hC2.1) (xf_items hC2.1) ?_
      refine q_iload_n d210_62 rfl ?_
      refine n_aald d210_63 (xk_items hC2.1) (by decide) (by omega) (by decide) (xr_items hC2.1 (by omega)) ?_
      refine q_iload d210_64 rfl ?_
      refine q_aload_n d210_66 rfl ?_
      refine q_getr (c := 8) (f := 8) d210_67 ⟨rfl, rfl⟩ (xk_136 hC2.1) (xf_balances hC2.1) ?_
      refine q_iload_n d210_70 rfl ?_
      refine n_iald d210_71 (xk_balances hC2.1) (by omega) (by decide) (hC2.2.2.2.1.1 _ (by omega)) ?_
      refine n_iast d210_72 (xa_items hC2.1 (by omega)) (by omega) (by decide) ?_
      refine n_iinc 1 d210_73 (by decide) rfl rfl ?_
      refine q_goto 48 d210_76 (by decide) ?_
      have f3 : Fi (fun b _ => 320 < b) M2 (zwi M2 (322 + h) i ((yti (dT D) (dnm D) X1).1.1.1 a)) := (Fi.refl _ _).wi (by omega)
      exact ih (i + 1) κ2 _ _ (by omega) (by omega) (hC2.far (f3.mono (fun b k q => by omega))) ((f3.1 _ _ (by omega)).trans ((f2.1 _ _ (by unfold FX; omega)).trans h25)) ((f3.1 _ _ (by omega)).trans ((f2.1 _ _ (by unfold FX; omega)).trans h21)) ((hK.fi f2 (fun b k q1 q2 => by unfold FA at q1; unfold FX at q2; omega)).fi f3 (fun b k q1 q2 => by unfold FA at q1; omega)) (hF.trans ((f2.mono (fun b k q => FX_Z q)).trans (f3.mono (fun b k q => by unfold FZ; omega)))) (by omega)
theorem x210 {d : Nat} {M : zM} {Q : Option Value → zM → Prop} {D : yD} {κ : Nat} {x y z : Int32} (hR : RX M D κ) (hD : OKD D) (hκ : κ + 4000 < 2147483648) (k : ∀ M' κ', κ' ≤ κ + 240 → RX M' (sFilm D x y z).2 κ' → Fi FY M M' → Q (some (.int (sFilm D x y z).1)) M') : qC (d + 7) 210 [.ref 136, .int x, .int y, .int z] M Q := by
  refine qC_of (by decide) (Nat.le_of_ble_eq_true rfl) ?_
  have hC := hR.1
  have hX := hC.1
  have hO : OKW (dT D) (dc D) (dW D) := hC.2.2.1
  have hc6 := hO.1.1
  have hL : XLo [] M (some (dL D)) := hC.2.2.2.2.2.2.1
  have hSa : ∀ s, s < 3 → XSa M s (dS D s) κ := hC.2.2.2.2.1
  have hTk := hC.k
  have hck := hC.2.2.2.2.2.1
  have h240 := hD.2.1
  unfold sFilm at k
  rcases zix_c x (n := 4) (by omega) with ⟨h, hh, rfl, eh⟩ | ⟨eh, nh⟩
  · rw [oz_s eh] at k
    rcases zix_c y (n := 6) (by omega) with ⟨a, ha, rfl, ea⟩ | ⟨ea, na⟩
    · rw [oz_s ea] at k
      rcases zix_c z (n := 21) (by omega) with ⟨n, hn, rfl, en⟩ | ⟨en, nn⟩
      · rw [oz_s en] at k
        refine q_iload_n d210_0 rfl ?_
        refine q_s1 d210_1 (Or.inl rfl) rfl (Nat.le_of_ble_eq_true rfl) (c207t (by omega) ?_)
        refine n0_eq 24 d210_4 (by decide) (by decide) (fun q => absurd q (by decide)) (fun _ => ?_)
        refine q_iload_n d210_7 rfl ?_
        refine q_s1 d210_8 (Or.inl rfl) rfl (Nat.le_of_ble_eq_true rfl) (c189t (by omega) ?_)
        refine n0_eq 24 d210_11 (by decide) (by decide) (fun q => absurd q (by decide)) (fun _ => ?_)
        refine q_iload_n d210_14 rfl ?_
        refine q_iconstN (z := 0) d210_15 ?_
        refine q_bipush (x := nI 20) d210_16 rfl ?_
        refine q_s3 d210_18 (Or.inl rfl) rfl (Nat.le_of_ble_eq_true rfl) (c131t ⟨by omega, by omega⟩ (by omega) ?_)
        refine n0_ne 27 d210_21 (by decide) (by decide) (fun _ => ?_) (fun q => absurd q (by decide))
        refine q_aload_n d210_27 rfl ?_
        refine q_getr (c := 8) (f := 45) d210_28 ⟨rfl, rfl⟩ (xk_136 hX) (xf_sorts hX) ?_
        refine q_iload_n d210_31 rfl ?_
        refine q_iconstN (z := 1) d210_32 ?_
        refine n_iast d210_33 (xk_sorts hX) (by omega) (by decide) ?_
        refine q_aload_n d210_34 rfl ?_
        refine q_getr (c := 8) (f := 46) d210_35 ⟨rfl, rfl⟩ (xk_136 hX) (xf_lengths hX) ?_
        refine q_iload_n d210_38 rfl ?_
        refine q_iload_n d210_39 rfl ?_
        refine n_iast d210_40 (xk_lengths hX) (by omega) (by decide) ?_
        have f1 : Fi (fun b k => (b = 319 ∧ k = h) ∨ (b = 320 ∧ k = h) ∨ 320 < b) M (zwi (zwi M 319 h (nI 1)) 320 h (nI n)) := ((Fi.refl _ _).wi (Or.inl ⟨rfl, rfl⟩)).wi (Or.inr (Or.inl ⟨rfl, rfl⟩))
        have hR1 := hR.row (h := h) (z := n) (so := nI 1) f1 ((wi_n (by omega)).trans (wi_s _ _ _ _)) (wi_s _ _ _ _)
        refine q_aload_n d210_41 rfl ?_
        refine q_v0 d210_42 rfl rfl (xk_136 hR1.1.1) (Nat.le_of_ble_eq_true rfl) (c198 hR1 (fun M2 hC2 q25 q21 hK f2 => ?_))
        refine q_iconstN (z := 0) d210_45 ?_
        refine q_istore d210_46 (by decide) rfl ?_
        exact l210 hR1 hκ hh ha (by omega) (f1.mono (fun b k q => by unfold FY; omega)) (fun M' g1 g2 => k M' κ (Nat.le_add_right _ _) g1 g2) (n + 1) 0 κ M2 _ (by omega) (by omega) hC2 q25 q21 hK f2 (by omega)
      · rw [oz_n en] at k
        refine q_iload_n d210_0 rfl ?_
        refine q_s1 d210_1 (Or.inl rfl) rfl (Nat.le_of_ble_eq_true rfl) (c207t (by omega) ?_)
        refine n0_eq 24 d210_4 (by decide) (by decide) (fun q => absurd q (by decide)) (fun _ => ?_)
        refine q_iload_n d210_7 rfl ?_
        refine q_s1 d210_8 (Or.inl rfl) rfl (Nat.le_of_ble_eq_true rfl) (c189t (by omega) ?_)
        refine n0_eq 24 d210_11 (by decide) (by decide) (fun q => absurd q (by decide)) (fun _ => ?_)
        refine q_iload_n d210_14 rfl ?_
        refine q_iconstN (z := 0) d210_15 ?_
        refine q_bipush (x := nI 20) d210_16 rfl ?_
        refine q_s3 d210_18 (Or.inl rfl) rfl (Nat.le_of_ble_eq_true rfl) (c131f (by decide) (by have := zix_none en; omega) (by decide) ?_)
        refine n0_ne 27 d210_21 (by decide) (by decide) (fun q => absurd q (by decide)) (fun _ => ?_)
        refine q_bipush (x := (-2)) d210_24 rfl ?_
        refine q_iret d210_26 rfl ?_
        exact k _ κ (Nat.le_add_right _ _) hR (Fi.refl _ _)
    · rw [oz_n ea] at k
      refine q_iload_n d210_0 rfl ?_
      refine q_s1 d210_1 (Or.inl rfl) rfl (Nat.le_of_ble_eq_true rfl) (c207t (by omega) ?_)
      refine n0_eq 24 d210_4 (by decide) (by decide) (fun q => absurd q (by decide)) (fun _ => ?_)
      refine q_iload_n d210_7 rfl ?_
      refine q_s1 d210_8 (Or.inl rfl) rfl (Nat.le_of_ble_eq_true rfl) (c189f ea ?_)
      refine n0_eq 24 d210_11 (by decide) (by decide) (fun _ => ?_) (fun q => absurd q (by decide))
      refine q_bipush (x := (-2)) d210_24 rfl ?_
      refine q_iret d210_26 rfl ?_
      exact k _ κ (Nat.le_add_right _ _) hR (Fi.refl _ _)
  · rw [oz_n eh] at k
    refine q_iload_n d210_0 rfl ?_
    refine q_s1 d210_1 (Or.inl rfl) rfl (Nat.le_of_ble_eq_true rfl) (c207f eh ?_)
    refine n0_eq 24 d210_4 (by decide) (by decide) (fun _ => ?_) (fun q => absurd q (by decide))
    refine q_bipush (x := (-2)) d210_24 rfl ?_
    refine q_iret d210_26 rfl ?_
    exact k _ κ (Nat.le_add_right _ _) hR (Fi.refl _ _)
/-! ===== the reference: ends ===== -/
theorem d200_0 : decode (zB 200) 0 = .ok (.iload_n 1, 1) := (congrArg (fun c => decode c 0) zeq200).trans (by decide +kernel)
theorem d200_1 : decode (zB 200) 1 = .ok (.invokestatic 345, 3) := (congrArg (fun c => decode c 1) zeq200).trans (by decide +kernel)
theorem d200_4 : decode (zB 200) 4 = .ok (.ifCond .eq 12, 3) := (congrArg (fun c => decode c 4) zeq200).trans (by decide +kernel)
theorem d200_7 : decode (zB 200) 7 = .ok (.iload_n 2, 1) := (congrArg (fun c => decode c 7) zeq200).trans (by decide +kernel)
theorem d200_8 : decode (zB 200) 8 = .ok (.iconst 0, 1) := (congrArg (fun c => decode c 8) zeq200).trans (by decide +kernel)
theorem d200_9 : decode (zB 200) 9 = .ok (.iconst 2, 1) := (congrArg (fun c => decode c 9) zeq200).trans (by decide +kernel)
theorem d200_10 : decode (zB 200) 10 = .ok (.invokestatic 112, 3) := (congrArg (fun c => decode c 10) zeq200).trans (by decide +kernel)
theorem d200_13 : decode (zB 200) 13 = .ok (.ifCond .ne 6, 3) := (congrArg (fun c => decode c 13) zeq200).trans (by decide +kernel)
theorem d200_16 : decode (zB 200) 16 = .ok (.bipush (-2), 2) := (congrArg (fun c => decode c 16) zeq200).trans (by decide +kernel)
theorem d200_18 : decode (zB 200) 18 = .ok (.ireturn, 1) := (congrArg (fun c => decode c 18) zeq200).trans (by decide +kernel)
theorem d200_19 : decode (zB 200) 19 = .ok (.aload_n 0, 1) := (congrArg (fun c => decode c 19) zeq200).trans (by decide +kernel)
theorem d200_20 : decode (zB 200) 20 = .ok (.getfield 36, 3) := (congrArg (fun c => decode c 20) zeq200).trans (by decide +kernel)
theorem d200_23 : decode (zB 200) 23 = .ok (.iload_n 1, 1) := (congrArg (fun c => decode c 23) zeq200).trans (by decide +kernel)
theorem d200_24 : decode (zB 200) 24 = .ok (.iaload, 1) := (congrArg (fun c => decode c 24) zeq200).trans (by decide +kernel)
theorem d200_25 : decode (zB 200) 25 = .ok (.ifCond .ne 6, 3) := (congrArg (fun c => decode c 25) zeq200).trans (by decide +kernel)
theorem d200_28 : decode (zB 200) 28 = .ok (.bipush (-3), 2) := (congrArg (fun c => decode c 28) zeq200).trans (by decide +kernel)
theorem d200_30 : decode (zB 200) 30 = .ok (.ireturn, 1) := (congrArg (fun c => decode c 30) zeq200).trans (by decide +kernel)
theorem d200_31 : decode (zB 200) 31 = .ok (.aload_n 0, 1) := (congrArg (fun c => decode c 31) zeq200).trans (by decide +kernel)
theorem d200_32 : decode (zB 200) 32 = .ok (.invokevirtual 372, 3) := (congrArg (fun c => decode c 32) zeq200).trans (by decide +kernel)
theorem d200_35 : decode (zB 200) 35 = .ok (.iconst 0, 1) := (congrArg (fun c => decode c 35) zeq200).trans (by decide +kernel)
theorem d200_36 : decode (zB 200) 36 = .ok (.istore_n 3, 1) := (congrArg (fun c => decode c 36) zeq200).trans (by decide +kernel)
theorem d200_37 : decode (zB 200) 37 = .ok (.iload_n 3, 1) := (congrArg (fun c => decode c 37) zeq200).trans (by decide +kernel)
theorem d200_38 : decode (zB 200) 38 = .ok (.bipush 60, 2) := (congrArg (fun c => decode c 38) zeq200).trans (by decide +kernel)
theorem d200_40 : decode (zB 200) 40 = .ok (.if_icmp .ge 23, 3) := (congrArg (fun c => decode c 40) zeq200).trans (by decide +kernel)
theorem d200_43 : decode (zB 200) 43 = .ok (.aload_n 0, 1) := (congrArg (fun c => decode c 43) zeq200).trans (by decide +kernel)
theorem d200_44 : decode (zB 200) 44 = .ok (.getfield 36, 3) := (congrArg (fun c => decode c 44) zeq200).trans (by decide +kernel)
theorem d200_47 : decode (zB 200) 47 = .ok (.iload_n 1, 1) := (congrArg (fun c => decode c 47) zeq200).trans (by decide +kernel)
theorem d200_48 : decode (zB 200) 48 = .ok (.iaload, 1) := (congrArg (fun c => decode c 48) zeq200).trans (by decide +kernel)
theorem d200_49 : decode (zB 200) 49 = .ok (.iconst 3, 1) := (congrArg (fun c => decode c 49) zeq200).trans (by decide +kernel)
theorem d200_50 : decode (zB 200) 50 = .ok (.if_icmp .ge 13, 3) := (congrArg (fun c => decode c 50) zeq200).trans (by decide +kernel)
theorem d200_53 : decode (zB 200) 53 = .ok (.aload_n 0, 1) := (congrArg (fun c => decode c 53) zeq200).trans (by decide +kernel)
theorem d200_54 : decode (zB 200) 54 = .ok (.invokevirtual 354, 3) := (congrArg (fun c => decode c 54) zeq200).trans (by decide +kernel)
theorem d200_57 : decode (zB 200) 57 = .ok (.iinc 3 1, 3) := (congrArg (fun c => decode c 57) zeq200).trans (by decide +kernel)
theorem d200_60 : decode (zB 200) 60 = .ok (.goto (-23), 3) := (congrArg (fun c => decode c 60) zeq200).trans (by decide +kernel)
theorem d200_63 : decode (zB 200) 63 = .ok (.iload_n 2, 1) := (congrArg (fun c => decode c 63) zeq200).trans (by decide +kernel)
theorem d200_64 : decode (zB 200) 64 = .ok (.ifCond .ne 21, 3) := (congrArg (fun c => decode c 64) zeq200).trans (by decide +kernel)
theorem d200_67 : decode (zB 200) 67 = .ok (.aload_n 0, 1) := (congrArg (fun c => decode c 67) zeq200).trans (by decide +kernel)
theorem d200_68 : decode (zB 200) 68 = .ok (.getfield 36, 3) := (congrArg (fun c => decode c 68) zeq200).trans (by decide +kernel)
theorem d200_71 : decode (zB 200) 71 = .ok (.iload_n 1, 1) := (congrArg (fun c => decode c 71) zeq200).trans (by decide +kernel)
theorem d200_72 : decode (zB 200) 72 = .ok (.iaload, 1) := (congrArg (fun c => decode c 72) zeq200).trans (by decide +kernel)
theorem d200_73 : decode (zB 200) 73 = .ok (.iconst 3, 1) := (congrArg (fun c => decode c 73) zeq200).trans (by decide +kernel)
theorem d200_74 : decode (zB 200) 74 = .ok (.if_icmp .ge 7, 3) := (congrArg (fun c => decode c 74) zeq200).trans (by decide +kernel)
theorem d200_77 : decode (zB 200) 77 = .ok (.iconst (-1), 1) := (congrArg (fun c => decode c 77) zeq200).trans (by decide +kernel)
theorem d200_78 : decode (zB 200) 78 = .ok (.goto 30, 3) := (congrArg (fun c => decode c 78) zeq200).trans (by decide +kernel)
theorem d200_81 : decode (zB 200) 81 = .ok (.iload_n 3, 1) := (congrArg (fun c => decode c 81) zeq200).trans (by decide +kernel)
theorem d200_82 : decode (zB 200) 82 = .ok (.goto 26, 3) := (congrArg (fun c => decode c 82) zeq200).trans (by decide +kernel)
theorem d200_85 : decode (zB 200) 85 = .ok (.iload_n 2, 1) := (congrArg (fun c => decode c 85) zeq200).trans (by decide +kernel)
theorem d200_86 : decode (zB 200) 86 = .ok (.iconst 1, 1) := (congrArg (fun c => decode c 86) zeq200).trans (by decide +kernel)
theorem d200_87 : decode (zB 200) 87 = .ok (.if_icmp .ne 12, 3) := (congrArg (fun c => decode c 87) zeq200).trans (by decide +kernel)
theorem d200_90 : decode (zB 200) 90 = .ok (.aload_n 0, 1) := (congrArg (fun c => decode c 90) zeq200).trans (by decide +kernel)
theorem d200_91 : decode (zB 200) 91 = .ok (.getfield 36, 3) := (congrArg (fun c => decode c 91) zeq200).trans (by decide +kernel)
theorem d200_94 : decode (zB 200) 94 = .ok (.iload_n 1, 1) := (congrArg (fun c => decode c 94) zeq200).trans (by decide +kernel)
theorem d200_95 : decode (zB 200) 95 = .ok (.iaload, 1) := (congrArg (fun c => decode c 95) zeq200).trans (by decide +kernel)
theorem d200_96 : decode (zB 200) 96 = .ok (.goto 12, 3) := (congrArg (fun c => decode c 96) zeq200).trans (by decide +kernel)
theorem d200_99 : decode (zB 200) 99 = .ok (.aload_n 0, 1) := (congrArg (fun c => decode c 99) zeq200).trans (by decide +kernel)
theorem d200_100 : decode (zB 200) 100 = .ok (.iload_n 1, 1) := (congrArg (fun c => decode c 100) zeq200).trans (by decide +kernel)
theorem d200_101 : decode (zB 200) 101 = .ok (.iconst 3, 1) := (congrArg (fun c => decode c 101) zeq200).trans (by decide +kernel)
theorem d200_102 : decode (zB 200) 102 = .ok (.invokevirtual 304, 3) := (congrArg (fun c => decode c 102) zeq200).trans (by decide +kernel)
theorem d200_105 : decode (zB 200) 105 = .ok (.invokestatic 214, 3) := (congrArg (fun c => decode c 105) zeq200).trans (by decide +kernel)
theorem d200_108 : decode (zB 200) 108 = .ok (.istore 4, 2) := (congrArg (fun c => decode c 108) zeq200).trans (by decide +kernel)
theorem d200_110 : decode (zB 200) 110 = .ok (.aload_n 0, 1) := (congrArg (fun c => decode c 110) zeq200).trans (by decide +kernel)
theorem d200_111 : decode (zB 200) 111 = .ok (.invokevirtual 375, 3) := (congrArg (fun c => decode c 111) zeq200).trans (by decide +kernel)
theorem d200_114 : decode (zB 200) 114 = .ok (.iload 4, 2) := (congrArg (fun c => decode c 114) zeq200).trans (by decide +kernel)
theorem d200_116 : decode (zB 200) 116 = .ok (.ireturn, 1) := (congrArg (fun c => decode c 116) zeq200).trans (by decide +kernel)
def sEv (s w : Nat) (E : Nat × yX) : Int32 := if w = 0 then (if gt (yxs E.2 s) < 3 then -1 else nI E.1) else if w = 1 then nI (gt (yxs E.2 s)) else ybc (nI (gm (yxs E.2 s) 3))
theorem e200 {d : Nat} {Q : Option Value → zM → Prop} {D : yD} {M0 : zM} {s w κ : Nat} {M1 : zM} {X1 : yX} {i κ1 : Nat} (hR : RX M0 D κ) (hκ : κ + 4000 < 2147483648) (hs : s < 3) (hw : w < 3) (k : ∀ M', RX M' D κ → Fi FY M0 M' → Q (some (.int (sEv s w (i, X1)))) M') (hi : i ≤ 60) (hC1 : CX (dL D) M1 (dT D) (dc D) (dnm D) X1 κ1) (h25 : zi M1 136 25 = nI 1) (h21 : zi M1 136 21 = -1) (hK : KA M0 M1 0) (hF : Fi FZ M0 M1) : qW (zEv (d + 6)) 200 Q 63 [(3, .int (nI i)), (0, .ref 136), (1, .int (nI s)), (2, .int (nI w))] [] M1 := by
  have hg5 : gt (yxs X1 s) ≤ 5 := (hC1.2.2.1.2.2 s hs).1
  have hg5' : gt (X1.1.2 s) ≤ 5 := hg5
  rcases (show w = 0 ∨ w = 1 ∨ w = 2 by omega) with rfl | rfl | rfl
  · refine q_iload_n d200_63 rfl ?_
    refine n0_ne 85 d200_64 (by decide) (by decide) (fun q => absurd q (by decide)) (fun _ => ?_)
    refine q_aload_n d200_67 rfl ?_
    refine q_getr (c := 8) (f := 11) d200_68 ⟨rfl, rfl⟩ (xk_136 hC1.1) (xf_states hC1.1) ?_
    refine q_iload_n d200_71 rfl ?_
    refine n_iald d200_72 (xk_states hC1.1) (by omega) (by decide) (hC1.2.2.2.2.1 _ (by omega)).1.1 ?_
    refine q_iconstN (z := 3) d200_73 ?_
    refine nc_ge 81 d200_74 (by decide) (by omega) (by omega) (fun h74 => ?_) (fun h74 => ?_)
    · refine q_iload_n d200_81 rfl ?_
      refine q_goto 108 d200_82 (by decide) ?_
      refine q_istore d200_108 (by decide) rfl ?_
      refine q_aload_n d200_110 rfl ?_
      refine q_v0 d200_111 rfl rfl (xk_136 hC1.1) (Nat.le_of_ble_eq_true rfl) (c199 hC1.1 hK (fun M2 hK2 q25 f2 => ?_))
      refine q_iload d200_114 rfl ?_
      refine q_iret d200_116 rfl ?_
      have hLo : XLo (dL D) M1 X1.2 := hC1.2.2.2.2.2.2.1
      rw [hC1.l0 h25] at hLo
      have hw2 := hR.wake hF h21 hLo.2 hK2 q25 f2
      have e : sEv s 0 (i, X1) = nI i := (if_pos rfl).trans (if_neg (by show ¬ gt (yxs X1 s) < 3; unfold yxs; omega))
      rw [e] at k
      exact k _ hw2.1 hw2.2
    · refine q_iconst (x := (-1)) d200_77 rfl ?_
      refine q_goto 108 d200_78 (by decide) ?_
      refine q_istore d200_108 (by decide) rfl ?_
      refine q_aload_n d200_110 rfl ?_
      refine q_v0 d200_111 rfl rfl (xk_136 hC1.1) (Nat.le_of_ble_eq_true rfl) (c199 hC1.1 hK (fun M2 hK2 q25 f2 => ?_))
      refine q_iload d200_114 rfl ?_
      refine q_iret d200_116 rfl ?_
      have hLo : XLo (dL D) M1 X1.2 := hC1.2.2.2.2.2.2.1
      rw [hC1.l0 h25] at hLo
      have hw2 := hR.wake hF h21 hLo.2 hK2 q25 f2
      have e : sEv s 0 (i, X1) = -1 := (if_pos rfl).trans (if_pos (by show gt (yxs X1 s) < 3; unfold yxs; omega))
      rw [e] at k
      exact k _ hw2.1 hw2.2
  · refine q_iload_n d200_63 rfl ?_
    refine n0_ne 85 d200_64 (by decide) (by decide) (fun _ => ?_) (fun q => absurd q (by decide))
    refine q_iload_n d200_85 rfl ?_
    refine q_iconstN (z := 1) d200_86 ?_
    refine nc_ne 99 d200_87 (by decide) (by decide) (by decide) (fun q => absurd q (by decide)) (fun _ => ?_)
    refine q_aload_n d200_90 rfl ?_
    refine q_getr (c := 8) (f := 11) d200_91 ⟨rfl, rfl⟩ (xk_136 hC1.1) (xf_states hC1.1) ?_
    refine q_iload_n d200_94 rfl ?_
    refine n_iald d200_95 (xk_states hC1.1) (by omega) (by decide) (hC1.2.2.2.2.1 _ (by omega)).1.1 ?_
    refine q_goto 108 d200_96 (by decide) ?_
    refine q_istore d200_108 (by decide) rfl ?_
    refine q_aload_n d200_110 rfl ?_
    refine q_v0 d200_111 rfl rfl (xk_136 hC1.1) (Nat.le_of_ble_eq_true rfl) (c199 hC1.1 hK (fun M2 hK2 q25 f2 => ?_))
    refine q_iload d200_114 rfl ?_
    refine q_iret d200_116 rfl ?_
    have hLo : XLo (dL D) M1 X1.2 := hC1.2.2.2.2.2.2.1
    rw [hC1.l0 h25] at hLo
    have hw2 := hR.wake hF h21 hLo.2 hK2 q25 f2
    exact k _ hw2.1 hw2.2
  · refine q_iload_n d200_63 rfl ?_
    refine n0_ne 85 d200_64 (by decide) (by decide) (fun _ => ?_) (fun q => absurd q (by decide))
    refine q_iload_n d200_85 rfl ?_
    refine q_iconstN (z := 1) d200_86 ?_
    refine nc_ne 99 d200_87 (by decide) (by decide) (by decide) (fun _ => ?_) (fun q => absurd q (by decide))
    refine q_aload_n d200_99 rfl ?_
    refine q_iload_n d200_100 rfl ?_
    refine q_iconstN (z := 3) d200_101 ?_
    refine q_v2 d200_102 rfl rfl (xk_136 hC1.1) (Nat.le_of_ble_eq_true rfl) (c179 (v := 3) hC1.1 hs (hC1.2.2.2.2.1 s hs) hC1.k (hC1.2.2.1.2.2 s hs) (by omega) ?_)
    refine q_s1 d200_105 (Or.inl rfl) rfl (Nat.le_of_ble_eq_true rfl) (c105 ?_)
    refine q_istore d200_108 (by decide) rfl ?_
    refine q_aload_n d200_110 rfl ?_
    refine q_v0 d200_111 rfl rfl (xk_136 hC1.1) (Nat.le_of_ble_eq_true rfl) (c199 hC1.1 hK (fun M2 hK2 q25 f2 => ?_))
    refine q_iload d200_114 rfl ?_
    refine q_iret d200_116 rfl ?_
    have hLo : XLo (dL D) M1 X1.2 := hC1.2.2.2.2.2.2.1
    rw [hC1.l0 h25] at hLo
    have hw2 := hR.wake hF h21 hLo.2 hK2 q25 f2
    exact k _ hw2.1 hw2.2
theorem l200 {d : Nat} {Q : Option Value → zM → Prop} {D : yD} {M0 : zM} {s w κ : Nat} {E : Nat × yX} (hR : RX M0 D κ) (hκ : κ + 4000 < 2147483648) (hs : s < 3) (hw : w < 3) (k : ∀ M', RX M' D κ → Fi FY M0 M' → Q (some (.int (sEv s w E))) M') : ∀ (r i : Nat) (κ1 : Nat) (M1 : zM) (X1 : yX), i ≤ 60 → 60 < i + r →  CX (dL D) M1 (dT D) (dc D) (dnm D) X1 κ1 → zi M1 136 25 = nI 1 → zi M1 136 21 = -1 → KA M0 M1 0 → Fi FZ M0 M1 → κ1 ≤ κ + 36 * i → yov60 (dT D) (dnm D) s (60 - i) i X1 = E → qW (zEv (d + 6)) 200 Q 37 [(3, .int (nI i)), (0, .ref 136), (1, .int (nI s)), (2, .int (nI w))] [] M1 := by
  intro r
  induction r with
  | zero => intros; omega
  | succ r ih =>
    intro i κ1 M1 X1 h1 h2 hC1 h25 h21 hK hF hk1 hy
    have hg5 : gt (X1.1.2 s) ≤ 5 := (hC1.2.2.1.2.2 s hs).1
    refine q_iload_n d200_37 rfl ?_
    refine q_bipush (x := nI 60) d200_38 rfl ?_
    refine nc_ge 63 d200_40 (by decide) (by omega) (by omega) (fun h40 => ?_) (fun h40 => ?_)
    · first
      | (have e : E = (i, X1) := by
           rw [show 60 - i = 0 by omega] at hy; exact hy.symm
         subst e
         exact e200 hR hκ hs hw k (by omega) hC1 h25 h21 hK hF)
      | (have e : E = (i, X1) := by
           rw [show 60 - i = (60 - (i + 1)) + 1 by omega, yov60, if_neg (by show ¬ gt (X1.1.2 s) < 3; omega)] at hy; exact hy.symm
         subst e
         exact e200 hR hκ hs hw k (by omega) hC1 h25 h21 hK hF)
    · refine q_aload_n d200_43 rfl ?_
      refine q_getr (c := 8) (f := 11) d200_44 ⟨rfl, rfl⟩ (xk_136 hC1.1) (xf_states hC1.1) ?_
      refine q_iload_n d200_47 rfl ?_
      refine n_iald d200_48 (xk_states hC1.1) (by omega) (by decide) (hC1.2.2.2.2.1 _ (by omega)).1.1 ?_
      refine q_iconstN (z := 3) d200_49 ?_
      refine nc_ge 63 d200_50 (by decide) (by omega) (by omega) (fun h50 => ?_) (fun h50 => ?_)
      · first
        | (have e : E = (i, X1) := by
             rw [show 60 - i = 0 by omega] at hy; exact hy.symm
           subst e
           exact e200 hR hκ hs hw k (by omega) hC1 h25 h21 hK hF)
        | (have e : E = (i, X1) := by
             rw [show 60 - i = (60 - (i + 1)) + 1 by omega, yov60, if_neg (by show ¬ gt (X1.1.2 s) < 3; omega)] at hy; exact hy.symm
           subst e
           exact e200 hR hκ hs hw k (by omega) hC1 h25 h21 hK hF)
      · refine q_aload_n d200_53 rfl ?_
        refine q_v0 d200_54 rfl rfl (xk_136 hC1.1) (Nat.le_of_ble_eq_true rfl) (c175 hC1 (by rw [hC1.l0 h25]; show 0 + 39 ≤ 240; omega) (by omega) (fun M2 κ2 hk2 hC2 f2 => ?_))
        refine n_iinc 1 d200_57 (by decide) rfl rfl ?_
        refine q_goto 37 d200_60 (by decide) ?_
        exact ih (i + 1) κ2 _ _ (by omega) (by omega) hC2 ((f2.1 _ _ (by unfold FX; omega)).trans h25) ((f2.1 _ _ (by unfold FX; omega)).trans h21) (hK.fi f2 (fun b k q1 q2 => by unfold FA at q1; unfold FX at q2; omega)) (hF.trans (f2.mono (fun b k q => FX_Z q))) (by omega) (by rw [show 60 - i = (60 - (i + 1)) + 1 by omega, yov60, if_pos (by show gt (X1.1.2 s) < 3; omega)] at hy; exact hy)
theorem x200 {d : Nat} {M : zM} {Q : Option Value → zM → Prop} {D : yD} {κ : Nat} {x y : Int32} (hR : RX M D κ) (hD : OKD D) (hκ : κ + 4000 < 2147483648) (k : ∀ M', RX M' D κ → Fi FY M M' → Q (some (.int (sEnds D x y))) M') : qC (d + 7) 200 [.ref 136, .int x, .int y] M Q := by
  refine qC_of (by decide) (Nat.le_of_ble_eq_true rfl) ?_
  have hC := hR.1
  have hX := hC.1
  have hO : OKW (dT D) (dc D) (dW D) := hC.2.2.1
  have hc6 := hO.1.1
  have hL : XLo [] M (some (dL D)) := hC.2.2.2.2.2.2.1
  have hSa : ∀ s, s < 3 → XSa M s (dS D s) κ := hC.2.2.2.2.1
  have hTk := hC.k
  have hck := hC.2.2.2.2.2.1
  have h240 := hD.2.1
  unfold sEnds at k
  rcases zix_c x (n := 3) (by omega) with ⟨s, hs, rfl, es⟩ | ⟨es, ns⟩
  · rw [oz_s es] at k
    have hOs : OKS (dT D) (dc D) (dS D s) := hO.2.2 s hs
    have hg5 := hOs.1
    have hsa := hSa s hs
    rcases zix_c y (n := 3) (by omega) with ⟨w, hw, rfl, ew⟩ | ⟨ew, nw⟩
    · rw [oz_s ew] at k
      by_cases h0 : gt (dS D s) = 0
      · rw [if_pos h0] at k
        refine q_iload_n d200_0 rfl ?_
        refine q_s1 d200_1 (Or.inl rfl) rfl (Nat.le_of_ble_eq_true rfl) (c169t (by omega) ?_)
        refine n0_eq 16 d200_4 (by decide) (by decide) (fun q => absurd q (by decide)) (fun _ => ?_)
        refine q_iload_n d200_7 rfl ?_
        refine q_iconstN (z := 0) d200_8 ?_
        refine q_iconstN (z := 2) d200_9 ?_
        refine q_s3 d200_10 (Or.inl rfl) rfl (Nat.le_of_ble_eq_true rfl) (c131t ⟨by omega, by omega⟩ (by omega) ?_)
        refine n0_ne 19 d200_13 (by decide) (by decide) (fun _ => ?_) (fun q => absurd q (by decide))
        refine q_aload_n d200_19 rfl ?_
        refine q_getr (c := 8) (f := 11) d200_20 ⟨rfl, rfl⟩ (xk_136 hX) (xf_states hX) ?_
        refine q_iload_n d200_23 rfl ?_
        refine n_iald d200_24 (xk_states hX) (by omega) (by decide) (hSa _ (by omega)).1.1 ?_
        refine n0_ne 31 d200_25 (by decide) (by omega) (fun h25 => (False.elim (h25 h0))) (fun h25 => ?_)
        refine q_bipush (x := (-3)) d200_28 rfl ?_
        refine q_iret d200_30 rfl ?_
        exact k _ hR (Fi.refl _ _)
      · rw [if_neg h0] at k
        refine q_iload_n d200_0 rfl ?_
        refine q_s1 d200_1 (Or.inl rfl) rfl (Nat.le_of_ble_eq_true rfl) (c169t (by omega) ?_)
        refine n0_eq 16 d200_4 (by decide) (by decide) (fun q => absurd q (by decide)) (fun _ => ?_)
        refine q_iload_n d200_7 rfl ?_
        refine q_iconstN (z := 0) d200_8 ?_
        refine q_iconstN (z := 2) d200_9 ?_
        refine q_s3 d200_10 (Or.inl rfl) rfl (Nat.le_of_ble_eq_true rfl) (c131t ⟨by omega, by omega⟩ (by omega) ?_)
        refine n0_ne 19 d200_13 (by decide) (by decide) (fun _ => ?_) (fun q => absurd q (by decide))
        refine q_aload_n d200_19 rfl ?_
        refine q_getr (c := 8) (f := 11) d200_20 ⟨rfl, rfl⟩ (xk_136 hX) (xf_states hX) ?_
        refine q_iload_n d200_23 rfl ?_
        refine n_iald d200_24 (xk_states hX) (by omega) (by decide) (hSa _ (by omega)).1.1 ?_
        refine n0_ne 31 d200_25 (by decide) (by omega) (fun h25 => ?_) (fun h25 => (False.elim (h0 h25)))
        refine q_aload_n d200_31 rfl ?_
        refine q_v0 d200_32 rfl rfl (xk_136 hX) (Nat.le_of_ble_eq_true rfl) (c198 hR (fun M1 hC1 q25 q21 hK f1 => ?_))
        refine q_iconstN (z := 0) d200_35 ?_
        refine q_istore_n d200_36 (by decide) rfl ?_
        exact l200 (E := yov60 (dT D) (dnm D) s 60 0 (dW D, none)) hR hκ hs hw (fun M' h1 h2 => k M' h1 h2) 61 0 κ M1 _ (by omega) (by omega) hC1 q25 q21 hK f1 (by omega) rfl
    · rw [oz_n ew] at k
      refine q_iload_n d200_0 rfl ?_
      refine q_s1 d200_1 (Or.inl rfl) rfl (Nat.le_of_ble_eq_true rfl) (c169t (by omega) ?_)
      refine n0_eq 16 d200_4 (by decide) (by decide) (fun q => absurd q (by decide)) (fun _ => ?_)
      refine q_iload_n d200_7 rfl ?_
      refine q_iconstN (z := 0) d200_8 ?_
      refine q_iconstN (z := 2) d200_9 ?_
      refine q_s3 d200_10 (Or.inl rfl) rfl (Nat.le_of_ble_eq_true rfl) (c131f (by decide) (by have := zix_none ew; omega) (by decide) ?_)
      refine n0_ne 19 d200_13 (by decide) (by decide) (fun q => absurd q (by decide)) (fun _ => ?_)
      refine q_bipush (x := (-2)) d200_16 rfl ?_
      refine q_iret d200_18 rfl ?_
      exact k _ hR (Fi.refl _ _)
  · rw [oz_n es] at k
    refine q_iload_n d200_0 rfl ?_
    refine q_s1 d200_1 (Or.inl rfl) rfl (Nat.le_of_ble_eq_true rfl) (c169f es ?_)
    refine n0_eq 16 d200_4 (by decide) (by decide) (fun _ => ?_) (fun q => absurd q (by decide))
    refine q_bipush (x := (-2)) d200_16 rfl ?_
    refine q_iret d200_18 rfl ?_
    exact k _ hR (Fi.refl _ _)
