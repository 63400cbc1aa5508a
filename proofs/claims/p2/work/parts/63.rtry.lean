/-! ===== the reference: a try ===== -/
section RG
variable {G : List yL}
/-! the reference's world -/
def XO (M : zM) (o : Option (Nat × Nat × Int32)) : Prop := match o with
  | none => zi M 136 21 = -1
  | some q => zi M 136 21 = nI q.1 ∧ zi M 136 22 = nI q.2.1 ∧ zi M 136 23 = q.2.2 ∧ q.1 < 3 ∧ q.2.1 < 12
def xnv (o : Option (Nat × Nat × Int32)) (T : Nat → yT) (x s k : Nat) : Int32 := match o with
  | none => tu (T x) k
  | some q => if q.1 = s ∧ q.2.1 = k then q.2.2 else tu (T x) k
def XN (M : zM) (T : Nat → yT) (nm : Nat → Nat → Int32) (W : yW) : Prop := ∃ o, XO M o ∧ ∀ s, s < 3 → gt (W.2 s) ≠ 0 → ∀ k, k < tn (T (gx (W.2 s))) → nm s k = xnv o T (gx (W.2 s)) s k
def CX (G : List yL) (M : zM) (T : Nat → yT) (c : Nat) (nm : Nat → Nat → Int32) (X : yX) (κ : Nat) : Prop := SX M ∧ XTx M T c ∧ OKW T c X.1 ∧ XPu M X.1.1 ∧ (∀ s, s < 3 → XSa M s (X.1.2 s) κ) ∧ zi M 136 20 = nI κ ∧ XLo G M X.2 ∧ XN M T nm X.1
theorem CX.k {M : zM} {T : Nat → yT} {c κ : Nat} {nm : Nat → Nat → Int32} {X : yX} (h : CX G M T c nm X κ) : XTk M T c := ⟨h.2.1, h.2.2.1.1⟩
/-- what ticks write -/
def FX : Nat → Nat → Prop := fun b k => (b = 136 ∧ (k = 9 ∨ k = 10 ∨ k = 20 ∨ k = 24)) ∨ b = 174 ∨ b = 175 ∨ (177 < b ∧ b < 208)
/-- what a turn of a saga writes -/
def F2 (s : Nat) : Nat → Nat → Prop := fun b k => GP b k ∨ GL b k ∨ (b = 136 ∧ k = 20) ∨ (b = 175 ∧ k = s) ∨ b = 178 + s ∨ b = 182 + s ∨ b = 186 + s ∨ b = 190 + s ∨ b = 194 + s ∨ b = 198 + s ∨ b = 202 + s
theorem F2_X {s b k : Nat} (hs : s < 3) (h : F2 s b k) : FX b k := by unfold F2 GP GL at h; unfold FX; omega
theorem XN.fi {M M' : zM} {T : Nat → yT} {nm : Nat → Nat → Int32} {W W' : yW} (h : XN M T nm W) (e : ∀ k, k = 21 ∨ k = 22 ∨ k = 23 → zi M' 136 k = zi M 136 k) (hW : ∀ s, s < 3 → gt (W'.2 s) ≠ 0 → gt (W.2 s) ≠ 0 ∧ gx (W'.2 s) = gx (W.2 s)) : XN M' T nm W' := by
  obtain ⟨o, h1, h2⟩ := h
  refine ⟨o, ?_, fun s hs h0 k hk => ?_⟩
  · cases o with
    | none => exact (e _ (Or.inl rfl)).trans h1
    | some q => exact ⟨(e _ (Or.inl rfl)).trans h1.1, (e _ (Or.inr (Or.inl rfl))).trans h1.2.1, (e _ (Or.inr (Or.inr rfl))).trans h1.2.2.1, h1.2.2.2⟩
  · obtain ⟨g1, g2⟩ := hW s hs h0
    rw [g2] at hk ⊢
    exact h2 s hs g1 k hk
/-- a saga's turn keeps the world -/
theorem CX.sg {M M' : zM} {T : Nat → yT} {c s κ κ' : Nat} {nm : Nat → Nat → Int32} {X X' : yX} (h : CX G M T c nm X κ) (hs : s < 3) (f : Fi (F2 s) M M') (hP : XPu M' X'.1.1) (hS : XSa M' s (X'.1.2 s) κ') (hk : κ ≤ κ') (hc : zi M' 136 20 = nI κ') (hL : XLo G M' X'.2) (hr : ∀ r, r ≠ s → X'.1.2 r = X.1.2 r) (hO : OKW T c X'.1) (hx : gx (X'.1.2 s) = gx (X.1.2 s)) (h0 : gt (X.1.2 s) ≠ 0) : CX G M' T c nm X' κ' := by
  obtain ⟨h1, h2, h3, h4, h5, h6, h7, h8⟩ := h
  refine ⟨SX_fi h1 f, XTx_fi h2 h3.1.1 f (fun b k b1 b2 q => by unfold F2 GP GL at q; omega), hO, hP, fun r hr3 => ?_, hc, hL, h8.fi (fun k hk => f.1 _ _ (fun q => by unfold F2 GP GL at q; omega)) (fun r hr3 hg => ?_)⟩
  · by_cases e : r = s
    · subst e; exact hS
    · rw [hr r e]
      exact ((h5 r hr3).fi f (fun b k q1 q2 => by unfold GS at q1; unfold F2 GP GL at q2; omega)).up hk
  · by_cases e : r = s
    · subst e; exact ⟨h0, hx⟩
    · rw [hr r e] at hg ⊢; exact ⟨hg, rfl⟩

theorem yA1 {X : yX} {s : Nat} {A : yS} {x : yL} : (yno (yss X s A) x).1.2 s = A := yu_s _ _ _
theorem yA1n {X : yX} {s r : Nat} {A : yS} {x : yL} (h : r ≠ s) : (yno (yss X s A) x).1.2 r = X.1.2 r := yu_n h
theorem yA2 {X : yX} {s v : Nat} : (yen X s v).1.2 s = gtS (X.1.2 s) v := yu_s _ _ _
theorem yA2n {X : yX} {s r v : Nat} (h : r ≠ s) : (yen X s v).1.2 r = X.1.2 r := yu_n h
theorem d183_0 : decode (zB 183) 0 = .ok (.aload_n 0, 1) := by decide +kernel
theorem d183_1 : decode (zB 183) 1 = .ok (.getfield 39, 3) := by decide +kernel
theorem d183_4 : decode (zB 183) 4 = .ok (.iload_n 1, 1) := by decide +kernel
theorem d183_5 : decode (zB 183) 5 = .ok (.iaload, 1) := by decide +kernel
theorem d183_6 : decode (zB 183) 6 = .ok (.istore_n 3, 1) := by decide +kernel
theorem d183_7 : decode (zB 183) 7 = .ok (.aload_n 0, 1) := by decide +kernel
theorem d183_8 : decode (zB 183) 8 = .ok (.getfield 63, 3) := by decide +kernel
theorem d183_11 : decode (zB 183) 11 = .ok (.iload_n 1, 1) := by decide +kernel
theorem d183_12 : decode (zB 183) 12 = .ok (.if_icmp .ne 18, 3) := by decide +kernel
theorem d183_15 : decode (zB 183) 15 = .ok (.aload_n 0, 1) := by decide +kernel
theorem d183_16 : decode (zB 183) 16 = .ok (.getfield 311, 3) := by decide +kernel
theorem d183_19 : decode (zB 183) 19 = .ok (.iload_n 2, 1) := by decide +kernel
theorem d183_20 : decode (zB 183) 20 = .ok (.if_icmp .ne 10, 3) := by decide +kernel
theorem d183_23 : decode (zB 183) 23 = .ok (.aload_n 0, 1) := by decide +kernel
theorem d183_24 : decode (zB 183) 24 = .ok (.getfield 314, 3) := by decide +kernel
theorem d183_27 : decode (zB 183) 27 = .ok (.goto 11, 3) := by decide +kernel
theorem d183_30 : decode (zB 183) 30 = .ok (.aload_n 0, 1) := by decide +kernel
theorem d183_31 : decode (zB 183) 31 = .ok (.getfield 27, 3) := by decide +kernel
theorem d183_34 : decode (zB 183) 34 = .ok (.iload_n 3, 1) := by decide +kernel
theorem d183_35 : decode (zB 183) 35 = .ok (.aaload, 1) := by decide +kernel
theorem d183_36 : decode (zB 183) 36 = .ok (.iload_n 2, 1) := by decide +kernel
theorem d183_37 : decode (zB 183) 37 = .ok (.iaload, 1) := by decide +kernel
theorem d183_38 : decode (zB 183) 38 = .ok (.istore 4, 2) := by decide +kernel
theorem d183_40 : decode (zB 183) 40 = .ok (.aload_n 0, 1) := by decide +kernel
theorem d183_41 : decode (zB 183) 41 = .ok (.getfield 57, 3) := by decide +kernel
theorem d183_44 : decode (zB 183) 44 = .ok (.iload_n 1, 1) := by decide +kernel
theorem d183_45 : decode (zB 183) 45 = .ok (.aaload, 1) := by decide +kernel
theorem d183_46 : decode (zB 183) 46 = .ok (.iload_n 2, 1) := by decide +kernel
theorem d183_47 : decode (zB 183) 47 = .ok (.iaload, 1) := by decide +kernel
theorem d183_48 : decode (zB 183) 48 = .ok (.ifCond .le 21, 3) := by decide +kernel
theorem d183_51 : decode (zB 183) 51 = .ok (.aload_n 0, 1) := by decide +kernel
theorem d183_52 : decode (zB 183) 52 = .ok (.getfield 57, 3) := by decide +kernel
theorem d183_55 : decode (zB 183) 55 = .ok (.iload_n 1, 1) := by decide +kernel
theorem d183_56 : decode (zB 183) 56 = .ok (.aaload, 1) := by decide +kernel
theorem d183_57 : decode (zB 183) 57 = .ok (.iload_n 2, 1) := by decide +kernel
theorem d183_58 : decode (zB 183) 58 = .ok (.dup2, 1) := by decide +kernel
theorem d183_59 : decode (zB 183) 59 = .ok (.iaload, 1) := by decide +kernel
theorem d183_60 : decode (zB 183) 60 = .ok (.iconst 1, 1) := by decide +kernel
theorem d183_61 : decode (zB 183) 61 = .ok (.isub, 1) := by decide +kernel
theorem d183_62 : decode (zB 183) 62 = .ok (.iastore, 1) := by decide +kernel
theorem d183_63 : decode (zB 183) 63 = .ok (.iconst 1, 1) := by decide +kernel
theorem d183_64 : decode (zB 183) 64 = .ok (.istore 5, 2) := by decide +kernel
theorem d183_66 : decode (zB 183) 66 = .ok (.goto 13, 3) := by decide +kernel
theorem d183_69 : decode (zB 183) 69 = .ok (.aload_n 0, 1) := by decide +kernel
theorem d183_70 : decode (zB 183) 70 = .ok (.iload_n 3, 1) := by decide +kernel
theorem d183_71 : decode (zB 183) 71 = .ok (.iload_n 2, 1) := by decide +kernel
theorem d183_72 : decode (zB 183) 72 = .ok (.iload 4, 2) := by decide +kernel
theorem d183_74 : decode (zB 183) 74 = .ok (.invokevirtual 229, 3) := by decide +kernel
theorem d183_77 : decode (zB 183) 77 = .ok (.istore 5, 2) := by decide +kernel
theorem d183_79 : decode (zB 183) 79 = .ok (.iload 5, 2) := by decide +kernel
theorem d183_81 : decode (zB 183) 81 = .ok (.ifCond .ne 20, 3) := by decide +kernel
theorem d183_84 : decode (zB 183) 84 = .ok (.aload_n 0, 1) := by decide +kernel
theorem d183_85 : decode (zB 183) 85 = .ok (.iload_n 1, 1) := by decide +kernel
theorem d183_86 : decode (zB 183) 86 = .ok (.iload_n 2, 1) := by decide +kernel
theorem d183_87 : decode (zB 183) 87 = .ok (.iload 4, 2) := by decide +kernel
theorem d183_89 : decode (zB 183) 89 = .ok (.invokevirtual 317, 3) := by decide +kernel
theorem d183_92 : decode (zB 183) 92 = .ok (.aload_n 0, 1) := by decide +kernel
theorem d183_93 : decode (zB 183) 93 = .ok (.iconst 1, 1) := by decide +kernel
theorem d183_94 : decode (zB 183) 94 = .ok (.iload_n 1, 1) := by decide +kernel
theorem d183_95 : decode (zB 183) 95 = .ok (.iload_n 2, 1) := by decide +kernel
theorem d183_96 : decode (zB 183) 96 = .ok (.invokevirtual 307, 3) := by decide +kernel
theorem d183_99 : decode (zB 183) 99 = .ok (.iconst 1, 1) := by decide +kernel
theorem d183_100 : decode (zB 183) 100 = .ok (.ireturn, 1) := by decide +kernel
theorem d183_101 : decode (zB 183) 101 = .ok (.aload_n 0, 1) := by decide +kernel
theorem d183_102 : decode (zB 183) 102 = .ok (.getfield 51, 3) := by decide +kernel
theorem d183_105 : decode (zB 183) 105 = .ok (.iload_n 1, 1) := by decide +kernel
theorem d183_106 : decode (zB 183) 106 = .ok (.aaload, 1) := by decide +kernel
theorem d183_107 : decode (zB 183) 107 = .ok (.iload_n 2, 1) := by decide +kernel
theorem d183_108 : decode (zB 183) 108 = .ok (.dup2, 1) := by decide +kernel
theorem d183_109 : decode (zB 183) 109 = .ok (.iaload, 1) := by decide +kernel
theorem d183_110 : decode (zB 183) 110 = .ok (.iconst 1, 1) := by decide +kernel
theorem d183_111 : decode (zB 183) 111 = .ok (.iadd, 1) := by decide +kernel
theorem d183_112 : decode (zB 183) 112 = .ok (.iastore, 1) := by decide +kernel
theorem d183_113 : decode (zB 183) 113 = .ok (.aload_n 0, 1) := by decide +kernel
theorem d183_114 : decode (zB 183) 114 = .ok (.getfield 54, 3) := by decide +kernel
theorem d183_117 : decode (zB 183) 117 = .ok (.iload_n 1, 1) := by decide +kernel
theorem d183_118 : decode (zB 183) 118 = .ok (.aaload, 1) := by decide +kernel
theorem d183_119 : decode (zB 183) 119 = .ok (.iload_n 2, 1) := by decide +kernel
theorem d183_120 : decode (zB 183) 120 = .ok (.iload 5, 2) := by decide +kernel
theorem d183_122 : decode (zB 183) 122 = .ok (.iastore, 1) := by decide +kernel
theorem d183_123 : decode (zB 183) 123 = .ok (.aload_n 0, 1) := by decide +kernel
theorem d183_124 : decode (zB 183) 124 = .ok (.iconst 2, 1) := by decide +kernel
theorem d183_125 : decode (zB 183) 125 = .ok (.iload_n 1, 1) := by decide +kernel
theorem d183_126 : decode (zB 183) 126 = .ok (.iload_n 2, 1) := by decide +kernel
theorem d183_127 : decode (zB 183) 127 = .ok (.invokevirtual 307, 3) := by decide +kernel
theorem d183_130 : decode (zB 183) 130 = .ok (.aload_n 0, 1) := by decide +kernel
theorem d183_131 : decode (zB 183) 131 = .ok (.iload_n 1, 1) := by decide +kernel
theorem d183_132 : decode (zB 183) 132 = .ok (.invokevirtual 320, 3) := by decide +kernel
theorem d183_135 : decode (zB 183) 135 = .ok (.ifCond .ne 12, 3) := by decide +kernel
theorem d183_138 : decode (zB 183) 138 = .ok (.aload_n 0, 1) := by decide +kernel
theorem d183_139 : decode (zB 183) 139 = .ok (.getfield 36, 3) := by decide +kernel
theorem d183_142 : decode (zB 183) 142 = .ok (.iload_n 1, 1) := by decide +kernel
theorem d183_143 : decode (zB 183) 143 = .ok (.iconst 2, 1) := by decide +kernel
theorem d183_144 : decode (zB 183) 144 = .ok (.iastore, 1) := by decide +kernel
theorem d183_145 : decode (zB 183) 145 = .ok (.iconst 0, 1) := by decide +kernel
theorem d183_146 : decode (zB 183) 146 = .ok (.ireturn, 1) := by decide +kernel
theorem d183_147 : decode (zB 183) 147 = .ok (.aload_n 0, 1) := by decide +kernel
theorem d183_148 : decode (zB 183) 148 = .ok (.getfield 51, 3) := by decide +kernel
theorem d183_151 : decode (zB 183) 151 = .ok (.iload_n 1, 1) := by decide +kernel
theorem d183_152 : decode (zB 183) 152 = .ok (.aaload, 1) := by decide +kernel
theorem d183_153 : decode (zB 183) 153 = .ok (.iload_n 2, 1) := by decide +kernel
theorem d183_154 : decode (zB 183) 154 = .ok (.iaload, 1) := by decide +kernel
theorem d183_155 : decode (zB 183) 155 = .ok (.iconst 3, 1) := by decide +kernel
theorem d183_156 : decode (zB 183) 156 = .ok (.if_icmp .ge 5, 3) := by decide +kernel
theorem d183_159 : decode (zB 183) 159 = .ok (.iconst 1, 1) := by decide +kernel
theorem d183_160 : decode (zB 183) 160 = .ok (.ireturn, 1) := by decide +kernel
theorem d183_161 : decode (zB 183) 161 = .ok (.aload_n 0, 1) := by decide +kernel
theorem d183_162 : decode (zB 183) 162 = .ok (.iload_n 1, 1) := by decide +kernel
theorem d183_163 : decode (zB 183) 163 = .ok (.iconst 5, 1) := by decide +kernel
theorem d183_164 : decode (zB 183) 164 = .ok (.invokevirtual 323, 3) := by decide +kernel
theorem d183_167 : decode (zB 183) 167 = .ok (.iconst 0, 1) := by decide +kernel
theorem d183_168 : decode (zB 183) 168 = .ok (.ireturn, 1) := by decide +kernel
theorem e183 {d : Nat} {Q : Option Value → zM → Prop} {M M1 : zM} {T : Nat → yT} {c s i κ : Nat} {nm : Nat → Nat → Int32} {X : yX} {n r : Int32} (hC : CX G M T c nm X κ) (hs : s < 3) (hi : i < tn (T (gx (yxs X s)))) (h1 : gt (yxs X s) = 1) (hd : gd (yxs X s) i = 0) (hl : yln X.2 + 2 ≤ 240) (hκ : κ + 1 < 2147483648) (f1 : Fi (F2 s) M M1) (hP1 : XPu M1 X.1.1) (hS1 : XSa M1 s (gpS (yxs X s) (ysd (gp (yxs X s)) i)) κ) (hL1 : XLo G M1 X.2) (hc1 : zi M1 136 20 = nI κ) (hr : (if ypl (gp (yxs X s)) i then 1 else yob (T (gx (yxs X s))) X.1.1 i n 1) = r) (h0 : ¬ r = 0) (k : ∀ M' κ', κ' ≤ κ + 1 → CX G M' T c nm (ytr (T (gx (yxs X s))) n s i X) κ' → Fi FX M M' → Q (some (.int (bI (decide (gt (yxs (ytr (T (gx (yxs X s))) n s i X) s) = 1))))) M') : qW (zEv (d + 3)) 183 Q 101 [(5, .int r), (4, .int n), (3, .int (nI (gx (yxs X s)))), (0, .ref 136), (1, .int (nI s)), (2, .int (nI i))] [] M1 := by
  have hX := hC.1
  have hOs : OKS T c (yxs X s) := hC.2.2.1.2.2 s hs
  have hx : gx (yxs X s) < c := hOs.2.1 (by omega)
  have hT := hC.k
  have hoT := hT.2.2 _ hx
  have hn := hoT.n
  have hc6 := hT.2.1
  have hOK := ytr_ok (n := n) hC.2.2.1 hs h1 hi hd
  have hX1 := SX_fi hX f1
  have e := ytr_B (T := T (gx (yxs X s))) (s := s) (i := i) (X := X) hr h0
  refine q_aload_n d183_101 rfl ?_
  refine q_getr (c := 8) (f := 16) d183_102 ⟨rfl, rfl⟩ (xk_136 hX1) (xf_fails hX1) ?_
  refine q_iload_n d183_105 rfl ?_
  refine n_aald d183_106 (xk_fails hX1) (by decide) (by omega) (by decide) (xr_fails hX1 (by omega)) ?_
  refine q_iload_n d183_107 rfl ?_
  refine q_dup2 d183_108 rfl rfl ?_
  refine n_iald d183_109 (xa_fails hX1 (by omega)) (by omega) (by decide) ((hS1.2.1 _ (by omega)).2.1) ?_
  refine q_iconstN (z := 1) d183_110 ?_
  refine q_iadd d183_111 ?_
  refine n_iast d183_112 (xa_fails hX1 (by omega)) (by omega) (by decide) ?_
  have hS2 : XSa _ s (gfS (gpS (yxs X s) (ysd (gp (yxs X s)) i)) (yu (gf (yxs X s)) i (gf (yxs X s) i + 1))) κ := hS1.wf (i := i) (v := gf (yxs X s) i + 1) hs
  refine q_aload_n d183_113 rfl ?_
  refine q_getr (c := 8) (f := 17) d183_114 ⟨rfl, rfl⟩ (xk_136 hX1) (xf_whys hX1) ?_
  refine q_iload_n d183_117 rfl ?_
  refine n_aald d183_118 (xk_whys hX1) (by decide) (by omega) (by decide) (xr_whys hX1 (by omega)) ?_
  refine q_iload_n d183_119 rfl ?_
  refine q_iload d183_120 rfl ?_
  refine n_iast d183_122 (xa_whys hX1 (by omega)) (by omega) (by decide) ?_
  have hS3 : XSa _ s (gwS (gfS (gpS (yxs X s) (ysd (gp (yxs X s)) i)) (yu (gf (yxs X s)) i (gf (yxs X s) i + 1))) (yu (gw (yxs X s)) i r)) κ := hS2.ww (i := i) (v := r) hs
  have f3 : Fi (fun b _ => b = 190 + s ∨ b = 194 + s) M1 (zwi (zwi M1 (190 + s) i (gf (yxs X s) i + 1)) (194 + s) i r) := ((Fi.refl _ _).wi (Or.inl rfl)).wi (Or.inr rfl)
  have hL3 := hL1.fi f3 (fun b k q1 q2 => by unfold GL at q1; omega)
  have hP3 := XPu_fi hP1 f3 (fun b k q1 q2 => by unfold GP at q1; omega)
  refine q_aload_n d183_123 rfl ?_
  refine q_iconstN (z := 2) d183_124 ?_
  refine q_iload_n d183_125 rfl ?_
  refine q_iload_n d183_126 rfl ?_
  refine q_v3 d183_127 rfl rfl (xk_136 hX1) (Nat.le_of_ble_eq_true rfl) (c171 hX1 hL3 (by omega) (fun M4 hL4 f4 => ?_))
  have hX4 := SX_fi hX1 f3
  have hX4 := SX_fi hX4 f4
  have hS4 := hS3.fi f4 (fun b k q1 q2 => by unfold GS at q1; unfold GL at q2; omega)
  have fa : Fi (F2 s) M M4 := f1.trans ((f3.mono (fun b k q => by unfold F2; omega)).trans (f4.mono (fun b k q => Or.inr (Or.inl q))))
  have hT4 : XTk M4 T c := ⟨XTx_fi hC.2.1 hc6 fa (fun b k b1 b2 q => by unfold F2 GP GL at q; omega), hT.2⟩
  have hP4 := XPu_fi hP3 f4 (fun b k q1 q2 => by unfold GP at q1; unfold GL at q2; omega)
  have hc4 : zi M4 136 20 = nI κ := (f4.1 _ _ (by unfold GL; omega)).trans ((f3.1 _ _ (by omega)).trans hc1)
  have hyp : yps T (gwS (gfS (gpS (yxs X s) (ysd (gp (yxs X s)) i)) (yu (gf (yxs X s)) i (gf (yxs X s) i + 1))) (yu (gw (yxs X s)) i r)) = ypa (T (gx (yxs X s))) (gm (yxs X s) 1) := if_neg (by show ¬ gt (yxs X s) = 0; omega)
  refine q_aload_n d183_130 rfl ?_
  refine q_iload_n d183_131 rfl ?_
  refine q_v1 d183_132 rfl rfl (xk_136 hX4) (Nat.le_of_ble_eq_true rfl) (c185 (S := (gwS (gfS (gpS (yxs X s) (ysd (gp (yxs X s)) i)) (yu (gf (yxs X s)) i (gf (yxs X s) i + 1))) (yu (gw (yxs X s)) i r))) hX4 hs hS4 hT4 hOs ?_)
  refine b0_ne 147 d183_135 (by decide) (fun h135 => ?_) (fun h135 => ?_)
  · refine q_aload_n d183_147 rfl ?_
    refine q_getr (c := 8) (f := 16) d183_148 ⟨rfl, rfl⟩ (xk_136 hX4) (xf_fails hX4) ?_
    refine q_iload_n d183_151 rfl ?_
    refine n_aald d183_152 (xk_fails hX4) (by decide) (by omega) (by decide) (xr_fails hX4 (by omega)) ?_
    refine q_iload_n d183_153 rfl ?_
    refine n_iald d183_154 (xa_fails hX4 (by omega)) (by omega) (by decide) ((hS4.2.1 _ (by omega)).2.1.trans (yu_s _ _ _)) ?_
    refine q_iconstN (z := 3) d183_155 ?_
    refine ic_ge 161 d183_156 (by decide) (fun h156 => ?_) (fun h156 => ?_)
    · refine q_aload_n d183_161 rfl ?_
      refine q_iload_n d183_162 rfl ?_
      refine q_iconstN (z := 5) d183_163 ?_
      refine q_v2 d183_164 rfl rfl (xk_136 hX4) (Nat.le_of_ble_eq_true rfl) (c181 (S := (gwS (gfS (gpS (yxs X s) (ysd (gp (yxs X s)) i)) (yu (gf (yxs X s)) i (gf (yxs X s) i + 1))) (yu (gw (yxs X s)) i r))) hX4 hs hS4 (by show gt (yxs X s) ≠ 0; omega) (by decide) hL4 (by have := yln_lg X.2 (2, s, i); omega) (fun M5 hS5 hL5 f5 => ?_))
      refine q_iconstN (z := 0) d183_167 ?_
      refine q_zret d183_168 rfl (by decide) ?_
      rw [hyp] at h135
      rw [if_pos ⟨h135, Int32.not_lt.mpr h156⟩] at e
      rw [h135] at e
      rw [e] at k hOK
      exact k M5 κ (Nat.le_succ κ) (hC.sg hs (fa.trans (f5.mono (fun b k q => by unfold GL at q; unfold F2 GL; omega))) (XPu_fi hP4 f5 (fun b k q1 q2 => by unfold GP at q1; unfold GL at q2; omega)) (by rw [yA2, yA1]; exact hS5) (Nat.le_refl _) ((f5.1 _ _ (by unfold GL; omega)).trans hc4) hL5 (fun r hr => by rw [yA2n hr, yA1n hr]) hOK (by rw [yA2, yA1]; rfl) (by show gt (yxs X s) ≠ 0; omega)) ((fa.trans (f5.mono (fun b k q => by unfold GL at q; unfold F2 GL; omega))).mono (fun b k q => F2_X hs q)) |> (fun h => by rw [show gt (yxs (yen (yno (yss X s (yfS (gpS (yxs X s) (ysd (gp (yxs X s)) i)) i r true)) (2, s, i)) s 5) s) = 5 by show gt ((yen _ s 5).1.2 s) = 5; rw [yA2]; rfl] at h; exact h)
    · refine q_iconstN (z := 1) d183_159 ?_
      refine q_zret d183_160 rfl (by decide) ?_
      rw [hyp] at h135
      rw [if_neg (fun q => q.2 (Int32.not_le.mp h156))] at e
      rw [h135] at e
      rw [e] at k hOK
      exact k M4 κ (Nat.le_succ κ) (hC.sg hs fa hP4 (by rw [yA1]; exact hS4) (Nat.le_refl _) hc4 hL4 (fun r hr => by rw [yA1n hr]) hOK (by rw [yA1]; rfl) (by show gt (yxs X s) ≠ 0; omega)) (fa.mono (fun b k q => F2_X hs q)) |> (fun h => by rw [show gt (yxs (yno (yss X s (yfS (gpS (yxs X s) (ysd (gp (yxs X s)) i)) i r true)) (2, s, i)) s) = 1 by show gt ((yno _ _).1.2 s) = 1; rw [yA1]; exact h1] at h; exact h)
  · refine q_aload_n d183_138 rfl ?_
    refine q_getr (c := 8) (f := 11) d183_139 ⟨rfl, rfl⟩ (xk_136 hX4) (xf_states hX4) ?_
    refine q_iload_n d183_142 rfl ?_
    refine q_iconstN (z := 2) d183_143 ?_
    refine n_iast d183_144 (xk_states hX4) (by omega) (by decide) ?_
    refine q_iconstN (z := 0) d183_145 ?_
    refine q_zret d183_146 rfl (by decide) ?_
    rw [hyp] at h135
    rw [if_neg (fun q => by rw [h135] at q; exact absurd q.1 (by decide))] at e
    rw [h135] at e
    rw [e] at k hOK
    have hS5 := hS4.wt (t := 2) (by show gt (yxs X s) ≠ 0; omega) (by decide)
    have f5 : Fi (fun b k => b = 175 ∧ k = s) M4 (zwi M4 175 s (nI 2)) := (Fi.refl _ _).wi ⟨rfl, rfl⟩
    have fz := fa.trans (f5.mono (fun b k q => by unfold F2; omega))
    exact k _ κ (Nat.le_succ κ) (hC.sg hs fz (XPu_fi hP4 f5 (fun b k q1 q2 => by unfold GP at q1; omega)) (by rw [yA1]; exact hS5) (Nat.le_refl _) ((f5.1 _ _ (by omega)).trans hc4) (hL4.fi f5 (fun b k q1 q2 => by unfold GL at q1; omega)) (fun r hr => by rw [yA1n hr]) hOK (by rw [yA1]; rfl) (by show gt (yxs X s) ≠ 0; omega)) (fz.mono (fun b k q => F2_X hs q)) |> (fun h => by rw [show gt (yxs (yno (yss X s (yfS (gpS (yxs X s) (ysd (gp (yxs X s)) i)) i r false)) (2, s, i)) s) = 2 by show gt ((yno _ _).1.2 s) = 2; rw [yA1]; rfl] at h; exact h)
theorem e183b {d : Nat} {Q : Option Value → zM → Prop} {M : zM} {T : Nat → yT} {c s i κ : Nat} {nm : Nat → Nat → Int32} {X : yX} {n : Int32} (hC : CX G M T c nm X κ) (hs : s < 3) (hi : i < tn (T (gx (yxs X s)))) (h1 : gt (yxs X s) = 1) (hd : gd (yxs X s) i = 0) (hl : yln X.2 + 2 ≤ 240) (hκ : κ + 1 < 2147483648) (k : ∀ M' κ', κ' ≤ κ + 1 → CX G M' T c nm (ytr (T (gx (yxs X s))) n s i X) κ' → Fi FX M M' → Q (some (.int (bI (decide (gt (yxs (ytr (T (gx (yxs X s))) n s i X) s) = 1))))) M') : qW (zEv (d + 3)) 183 Q 38 [(3, .int (nI (gx (yxs X s)))), (0, .ref 136), (1, .int (nI s)), (2, .int (nI i))] [.int n] M := by
  have hX := hC.1
  have hOs : OKS T c (yxs X s) := hC.2.2.1.2.2 s hs
  have hx : gx (yxs X s) < c := hOs.2.1 (by omega)
  have hT := hC.k
  have hoT := hT.2.2 _ hx
  have hn := hoT.n
  have hc6 := hT.2.1
  have hOK := ytr_ok (n := n) hC.2.2.1 hs h1 hi hd
  have hsa := hC.2.2.2.2.1 s hs
  have hc0 := hC.2.2.2.2.2.1
  have hL := hC.2.2.2.2.2.2.1
  have hx1 : zi M 176 s = nI (gx (yxs X s)) := hsa.1.2.trans (if_neg (by show ¬ gt (yxs X s) = 0; omega))
  have hni : i ∉ go (yxs X s) := fun q => by have := (hOs.2.2.2.1 i).mp q; omega
  refine q_istore d183_38 (by decide) rfl ?_
  refine q_aload_n d183_40 rfl ?_
  refine q_getr (c := 8) (f := 18) d183_41 ⟨rfl, rfl⟩ (xk_136 hX) (xf_plans hX) ?_
  refine q_iload_n d183_44 rfl ?_
  refine n_aald d183_45 (xk_plans hX) (by decide) (by omega) (by decide) (xr_plans hX (by omega)) ?_
  refine q_iload_n d183_46 rfl ?_
  refine n_iald d183_47 (xa_plans hX (by omega)) (by omega) (by decide) ((hsa.2.1 _ (by omega)).2.2.2.1) ?_
  refine i0_le 69 d183_48 (by decide) (fun h48 => ?_) (fun h48 => ?_)
  · refine q_aload_n d183_69 rfl ?_
    refine q_iload_n d183_70 rfl ?_
    refine q_iload_n d183_71 rfl ?_
    refine q_iload d183_72 rfl ?_
    refine q_v3 d183_74 rfl rfl (xk_136 hX) (Nat.le_of_ble_eq_true rfl) (c157 hX hC.2.2.2.1 (hC.2.1 _ hx) hoT hC.2.2.1.2.1 (by omega) hi (fun M1 hP1 f1 => ?_))
    have hX1 := SX_fi hX f1
    refine q_istore d183_77 (by decide) rfl ?_
    refine q_iload d183_79 rfl ?_
    refine i0_ne 101 d183_81 (by decide) (fun h81 => ?_) (fun h81 => ?_)
    · have ep : ypl (gp (yxs X s)) i = false := decide_eq_false (Int32.not_lt.mpr h48)
      have es : gpS (yxs X s) (ysd (gp (yxs X s)) i) = yxs X s := by unfold ysd; rw [ep]; rfl
      have hP2 : XPu M1 X.1.1 := by have h := hP1; unfold xdo at h; rw [if_neg h81] at h; exact h
      exact e183 hC hs hi h1 hd hl hκ (f1.mono (fun b k q => Or.inl q)) hP2 (by rw [es]; exact hsa.fi f1 (fun b k q1 q2 => by unfold GS at q1; unfold GP at q2; omega)) (hL.fi f1 (fun b k q1 q2 => by unfold GL at q1; unfold GP at q2; omega)) ((f1.1 _ _ (by unfold GP; omega)).trans hc0) (by rw [ep]; rfl) h81 k
    · have hsa1 := hsa.fi f1 (fun b k q1 q2 => by unfold GS at q1; unfold GP at q2; omega)
      have hL1 := hL.fi f1 (fun b k q1 q2 => by unfold GL at q1; unfold GP at q2; omega)
      have hc1 : zi M1 136 20 = nI κ := (f1.1 _ _ (by unfold GP; omega)).trans hc0
      refine q_aload_n d183_84 rfl ?_
      refine q_iload_n d183_85 rfl ?_
      refine q_iload_n d183_86 rfl ?_
      refine q_iload d183_87 rfl ?_
      refine q_v3 d183_89 rfl rfl (xk_136 hX1) (Nat.le_of_ble_eq_true rfl) (c184 hX1 hs (by omega) hsa1 hc1 hκ hni (fun M2 hS2 hc2 f2 => ?_))
      have hX2 := SX_fi hX1 f2
      have hL2 := hL1.fi f2 (fun b k q1 q2 => by unfold GL at q1; omega)
      refine q_aload_n d183_92 rfl ?_
      refine q_iconstN (z := 1) d183_93 ?_
      refine q_iload_n d183_94 rfl ?_
      refine q_iload_n d183_95 rfl ?_
      refine q_v3 d183_96 rfl rfl (xk_136 hX2) (Nat.le_of_ble_eq_true rfl) (c171 hX2 hL2 (by omega) (fun M3 hL3 f3 => ?_))
      refine q_iconstN (z := 1) d183_99 ?_
      refine q_zret d183_100 rfl (by decide) ?_
      have ep : ypl (gp (yxs X s)) i = false := decide_eq_false (Int32.not_lt.mpr h48)
      have es : gpS (yxs X s) (ysd (gp (yxs X s)) i) = yxs X s := by unfold ysd; rw [ep]; rfl
      have e := ytr_A (T := T (gx (yxs X s))) (s := s) (i := i) (n := n) (X := X) ep h81
      rw [es] at e
      rw [e] at k hOK
      have hP2 : XPu M1 (ych (T (gx (yxs X s))) X.1.1 i n 1) := by have h := hP1; unfold xdo at h; rw [if_pos h81] at h; exact h
      have fz : Fi (F2 s) M M3 := (f1.mono (fun b k q => Or.inl q)).trans ((f2.mono (fun b k q => by first | (unfold F2; omega) | omega)).trans (f3.mono (fun b k q => Or.inr (Or.inl q))))
      exact k M3 (κ + 1) (Nat.le_refl _) (hC.sg hs fz (XPu_fi (XPu_fi hP2 f2 (fun b k q1 q2 => by unfold GP at q1; omega)) f3 (fun b k q1 q2 => by unfold GP at q1; unfold GL at q2; omega)) (by rw [yA1]; exact hS2.fi f3 (fun b k q1 q2 => by unfold GS at q1; unfold GL at q2; omega)) (Nat.le_succ κ) ((f3.1 _ _ (by unfold GL; omega)).trans hc2) hL3 (fun r hr => by rw [yA1n hr]; rfl) hOK (by rw [yA1]; rfl) (by show gt (yxs X s) ≠ 0; omega)) (fz.mono (fun b k q => F2_X hs q)) |> (fun h => by rw [show gt (yxs (yno (yss (ysp X (ych (T (gx (yxs X s))) X.1.1 i n 1)) s (yDn (yxs X s) i n)) (1, s, i)) s) = 1 by show gt ((yno _ _).1.2 s) = 1; rw [yA1]; exact h1] at h; exact h)
  · refine q_aload_n d183_51 rfl ?_
    refine q_getr (c := 8) (f := 18) d183_52 ⟨rfl, rfl⟩ (xk_136 hX) (xf_plans hX) ?_
    refine q_iload_n d183_55 rfl ?_
    refine n_aald d183_56 (xk_plans hX) (by decide) (by omega) (by decide) (xr_plans hX (by omega)) ?_
    refine q_iload_n d183_57 rfl ?_
    refine q_dup2 d183_58 rfl rfl ?_
    refine n_iald d183_59 (xa_plans hX (by omega)) (by omega) (by decide) ((hsa.2.1 _ (by omega)).2.2.2.1) ?_
    refine q_iconstN (z := 1) d183_60 ?_
    refine q_isub d183_61 ?_
    refine n_iast d183_62 (xa_plans hX (by omega)) (by omega) (by decide) ?_
    refine q_iconstN (z := 1) d183_63 ?_
    refine q_istore d183_64 (by decide) rfl ?_
    refine q_goto 79 d183_66 (by decide) ?_
    refine q_iload d183_79 rfl ?_
    refine n0_ne 101 d183_81 (by decide) (by decide) (fun _ => ?_) (fun q => absurd q (by decide))
    have ep : ypl (gp (yxs X s)) i = true := decide_eq_true (Int32.not_le.mp h48)
    have f1 : Fi (fun b _ => b = 198 + s) M (zwi M (198 + s) i (gp (yxs X s) i - 1)) := (Fi.refl _ _).wi rfl
    exact e183 (r := 1) hC hs hi h1 hd hl hκ (f1.mono (fun b k q => by unfold F2; omega)) (XPu_fi hC.2.2.2.1 f1 (fun b k q1 q2 => by unfold GP at q1; omega)) (by unfold ysd; rw [ep]; exact hsa.wp hs) (hL.fi f1 (fun b k q1 q2 => by unfold GL at q1; omega)) ((f1.1 _ _ (by omega)).trans hc0) (by rw [ep]; rfl) (by decide) k
theorem c183 {d : Nat} {M : zM} {Q : Option Value → zM → Prop} {T : Nat → yT} {c s i κ : Nat} {nm : Nat → Nat → Int32} {X : yX} (hC : CX G M T c nm X κ) (hs : s < 3) (hi : i < tn (T (gx (yxs X s)))) (h1 : gt (yxs X s) = 1) (hd : gd (yxs X s) i = 0) (hl : yln X.2 + 2 ≤ 240) (hκ : κ + 1 < 2147483648) (k : ∀ M' κ', κ' ≤ κ + 1 → CX G M' T c nm (ytr (T (gx (yxs X s))) (nm s i) s i X) κ' → Fi FX M M' → Q (some (.int (bI (decide (gt (yxs (ytr (T (gx (yxs X s))) (nm s i) s i X) s) = 1))))) M') : qC (d + 4) 183 [.ref 136, .int (nI s), .int (nI i)] M Q := by
  refine qC_of (by decide) (Nat.le_of_ble_eq_true rfl) ?_
  have hX := hC.1
  have hOs : OKS T c (yxs X s) := hC.2.2.1.2.2 s hs
  have hx : gx (yxs X s) < c := hOs.2.1 (by omega)
  have hT := hC.k
  have hoT := hT.2.2 _ hx
  have hn := hoT.n
  have hc6 := hT.2.1
  have hsa := hC.2.2.2.2.1 s hs
  have hc0 := hC.2.2.2.2.2.1
  have hL := hC.2.2.2.2.2.2.1
  have hx1 : zi M 176 s = nI (gx (yxs X s)) := hsa.1.2.trans (if_neg (by show ¬ gt (yxs X s) = 0; omega))
  have hni : i ∉ go (yxs X s) := fun q => by have := (hOs.2.2.2.1 i).mp q; omega
  obtain ⟨o, ho, hn2⟩ := hC.2.2.2.2.2.2.2
  have hn2 := hn2 s hs (by show gt (yxs X s) ≠ 0; omega) i hi
  cases o with
  | none =>
    refine q_aload_n d183_0 rfl ?_
    refine q_getr (c := 8) (f := 12) d183_1 ⟨rfl, rfl⟩ (xk_136 hX) (xf_textOf hX) ?_
    refine q_iload_n d183_4 rfl ?_
    refine n_iald d183_5 (xk_textOf hX) (by omega) (by decide) hx1 ?_
    refine q_istore_n d183_6 (by decide) rfl ?_
    refine q_aload_n d183_7 rfl ?_
    refine q_getv (c := 8) (f := 21) d183_8 ⟨rfl, by decide⟩ (xk_136 hX) ho ?_
    refine q_iload_n d183_11 rfl ?_
    refine ic_ne 30 d183_12 (by decide) (fun h12 => ?_) (fun h12 => (False.elim (nI_m1 (by omega) h12.symm)))
    refine q_aload_n d183_30 rfl ?_
    refine q_getr (c := 8) (f := 6) d183_31 ⟨rfl, rfl⟩ (xk_136 hX) (xf_numbers hX) ?_
    refine q_iload_n d183_34 rfl ?_
    refine n_aald d183_35 (xk_numbers hX) (by decide) (by omega) (by decide) (xr_numbers hX (by omega)) ?_
    refine q_iload_n d183_36 rfl ?_
    refine n_iald d183_37 (xa_numbers hX (by omega)) (by omega) (by decide) ((hC.2.1 _ hx).2.2 _ (by omega)).2.2.2.1 ?_
    rw [show tu (T (gx (yxs X s))) i = nm s i from hn2.symm]
    exact e183b hC hs hi h1 hd hl hκ k
  | some q =>
    have hq3 := ho.2.2.2.1
    have hq12 := ho.2.2.2.2
    refine q_aload_n d183_0 rfl ?_
    refine q_getr (c := 8) (f := 12) d183_1 ⟨rfl, rfl⟩ (xk_136 hX) (xf_textOf hX) ?_
    refine q_iload_n d183_4 rfl ?_
    refine n_iald d183_5 (xk_textOf hX) (by omega) (by decide) hx1 ?_
    refine q_istore_n d183_6 (by decide) rfl ?_
    refine q_aload_n d183_7 rfl ?_
    refine q_getv (c := 8) (f := 21) d183_8 ⟨rfl, by decide⟩ (xk_136 hX) ho.1 ?_
    refine q_iload_n d183_11 rfl ?_
    refine nc_ne 30 d183_12 (by decide) (by omega) (by omega) (fun h12 => ?_) (fun h12 => ?_)
    · refine q_aload_n d183_30 rfl ?_
      refine q_getr (c := 8) (f := 6) d183_31 ⟨rfl, rfl⟩ (xk_136 hX) (xf_numbers hX) ?_
      refine q_iload_n d183_34 rfl ?_
      refine n_aald d183_35 (xk_numbers hX) (by decide) (by omega) (by decide) (xr_numbers hX (by omega)) ?_
      refine q_iload_n d183_36 rfl ?_
      refine n_iald d183_37 (xa_numbers hX (by omega)) (by omega) (by decide) ((hC.2.1 _ hx).2.2 _ (by omega)).2.2.2.1 ?_
      rw [show tu (T (gx (yxs X s))) i = nm s i from (hn2.trans (if_neg (fun e => h12 e.1))).symm]
      exact e183b hC hs hi h1 hd hl hκ k
    · refine q_aload_n d183_15 rfl ?_
      refine q_getv (c := 8) (f := 22) d183_16 ⟨rfl, by decide⟩ (xk_136 hX) ho.2.1 ?_
      refine q_iload_n d183_19 rfl ?_
      refine nc_ne 30 d183_20 (by decide) (by omega) (by omega) (fun h20 => ?_) (fun h20 => ?_)
      · refine q_aload_n d183_30 rfl ?_
        refine q_getr (c := 8) (f := 6) d183_31 ⟨rfl, rfl⟩ (xk_136 hX) (xf_numbers hX) ?_
        refine q_iload_n d183_34 rfl ?_
        refine n_aald d183_35 (xk_numbers hX) (by decide) (by omega) (by decide) (xr_numbers hX (by omega)) ?_
        refine q_iload_n d183_36 rfl ?_
        refine n_iald d183_37 (xa_numbers hX (by omega)) (by omega) (by decide) ((hC.2.1 _ hx).2.2 _ (by omega)).2.2.2.1 ?_
        rw [show tu (T (gx (yxs X s))) i = nm s i from (hn2.trans (if_neg (fun e => h20 e.2))).symm]
        exact e183b hC hs hi h1 hd hl hκ k
      · refine q_aload_n d183_23 rfl ?_
        refine q_getv (c := 8) (f := 23) d183_24 ⟨rfl, by decide⟩ (xk_136 hX) ho.2.2.1 ?_
        refine q_goto 38 d183_27 (by decide) ?_
        rw [show q.2.2 = nm s i from (hn2.trans (if_pos ⟨h12, h20⟩)).symm]
        exact e183b hC hs hi h1 hd hl hκ k
end RG
