/-! ===== the reference: a step is read ===== -/
/-! the reference reads a step -/
def GK (M : zM) (n : Nat) (b : Nat → Nat) (k : yK) : Prop := SX M ∧ TXp M n b ∧ (zi M 136 31 = nI k.2.2 ∧ zi M 136 32 = nI k.2.1) ∧ ∃ t v, ytx b k = some (t, v) ∧ zi M 136 33 = nI t ∧ (t ≠ 0 → zi M 136 34 = nI v) ∧ zi M 136 38 = nI 0
def BK (M : zM) (n : Nat) (b : Nat → Nat) (f : Nat) : Prop := SX M ∧ TXp M n b ∧ zi M 136 38 = nI 1 ∧ zi M 136 32 = nI f
def GM (M : zM) (c n : Nat) (b : Nat → Nat) (o : Nat) (k : yK) (T : yT) : Prop := GK M n b k ∧ c < 6 ∧ zi M 136 0 = nI c ∧ zi M 136 35 = nI o ∧ zi M 136 36 = tp T ∧ zi M 136 37 = nI (tn T + 1) ∧ XRw M c T
theorem GK.w {M : zM} {n : Nat} {b : Nat → Nat} {k : yK} (h : GK M n b k) : zi M 136 38 = nI 0 := by obtain ⟨t, v, h1, h2, h3, h4⟩ := h.2.2.2; exact h4
theorem GX.k {M : zM} {c n o : Nat} {b : Nat → Nat} {K : yQ} (h : GX M c n b o K) : GK M n b K.1 := ⟨h.1, h.2.2.2.1, h.2.2.2.2.1, h.2.2.2.2.2.1⟩
/-- the cells of a step's row -/
def FRw (c i : Nat) : Nat → Nat → Prop := fun a j => (a = 140 + c ∨ a = 147 + c ∨ a = 154 + c ∨ a = 161 + c ∨ a = 168 + c) ∧ j = i
theorem FRw_J {c i a k : Nat} (h : FRw c i a k) : FJ c a k := by unfold FRw at h; unfold FJ; omega
theorem GK.fi {M M' : zM} {F : Nat → Nat → Prop} {n : Nat} {b : Nat → Nat} {k : yK} (h : GK M n b k) (f : Fi F M M') (hs : (∀ j, 29 < j → j < 39 → (j < 35 ∨ j = 38) → ¬ F 136 j) ∧ ∀ j, ¬ F 208 j) : GK M' n b k := by
  obtain ⟨h1, h2, ⟨h3, h4⟩, t, v, h5, h6, h7, h8⟩ := h
  exact ⟨SX_fi h1 f, TXp_fi h2 f ⟨hs.1 _ (by omega) (by omega) (by omega), hs.2⟩, ⟨(f.1 _ _ (hs.1 _ (by omega) (by omega) (by omega))).trans h3, (f.1 _ _ (hs.1 _ (by omega) (by omega) (by omega))).trans h4⟩, t, v, h5, (f.1 _ _ (hs.1 _ (by omega) (by omega) (by omega))).trans h6, fun q => (f.1 _ _ (hs.1 _ (by omega) (by omega) (by omega))).trans (h7 q), (f.1 _ _ (hs.1 _ (by omega) (by omega) (by omega))).trans h8⟩
theorem GM.fn {M M' : zM} {c n o : Nat} {b : Nat → Nat} {k k1 : yK} {T : yT} (h : GM M c n b o k T) (hk : GK M' n b k1) (f : Fi FN M M') : GM M' c n b o k1 T := by
  obtain ⟨h1, h2, h3, h4, h5, h6, h7⟩ := h
  exact ⟨hk, h2, (f.1 _ _ (by unfold FN; omega)).trans h3, (f.1 _ _ (by unfold FN; omega)).trans h4, (f.1 _ _ (by unfold FN; omega)).trans h5, (f.1 _ _ (by unfold FN; omega)).trans h6, h7.fi f (fun a j q => by unfold FN; omega)⟩
theorem GM.rw {M M' : zM} {c n o : Nat} {b : Nat → Nat} {k : yK} {T : yT} (h : GM M c n b o k T) (f : Fi (FRw c (tn T)) M M') : GM M' c n b o k T := by
  obtain ⟨h1, h2, h3, h4, h5, h6, h7⟩ := h
  exact ⟨h1.fi f ⟨fun j _ _ _ => by unfold FRw; omega, fun j => by unfold FRw; omega⟩, h2, (f.1 _ _ (by unfold FRw; omega)).trans h3, (f.1 _ _ (by unfold FRw; omega)).trans h4, (f.1 _ _ (by unfold FRw; omega)).trans h5, (f.1 _ _ (by unfold FRw; omega)).trans h6, fun j hj => ⟨(f.1 _ _ (by unfold FRw; omega)).trans (h7 j hj).1, (f.1 _ _ (by unfold FRw; omega)).trans (h7 j hj).2.1, (f.1 _ _ (by unfold FRw; omega)).trans (h7 j hj).2.2.1, (f.1 _ _ (by unfold FRw; omega)).trans (h7 j hj).2.2.2.1, (f.1 _ _ (by unfold FRw; omega)).trans (h7 j hj).2.2.2.2⟩⟩
theorem GM.b {M M' : zM} {c n o f : Nat} {b : Nat → Nat} {k : yK} {T : yT} (h : GM M c n b o k T) (hb : BK M' n b f) (g : Fi FN M M') : BX M' c n b f := ⟨hb.1, h.2.1, (g.1 _ _ (by unfold FN; omega)).trans h.2.2.1, hb.2.1, hb.2.2.1, hb.2.2.2⟩
theorem GM.e {M : zM} {c n o kd ah : Nat} {b : Nat → Nat} {k : yK} {T : yT} {x y z : Int32} (h : GM M c n b o k T) (h1 : zi M (140 + c) (tn T) = nI kd) (h2 : zi M (147 + c) (tn T) = x) (h3 : zi M (154 + c) (tn T) = y) (h4 : zi M (161 + c) (tn T) = z) (h5 : zi M (168 + c) (tn T) = nI ah) : GX M c n b o (k, pAp T kd x y z ah) := by
  obtain ⟨⟨a1, a2, a3, a4⟩, b2, b3, b4, b5, b6, b7⟩ := h
  refine ⟨a1, b2, b3, a2, a3, a4, b4, b5, b6, fun j hj => ?_⟩
  show zi M (140 + c) j = nI (yu (tk T) (tn T) kd j) ∧ zi M (147 + c) j = yu (tf T) (tn T) x j ∧ zi M (154 + c) j = yu (ts T) (tn T) y j ∧ zi M (161 + c) j = yu (tu T) (tn T) z j ∧ zi M (168 + c) j = nI (yu (ta T) (tn T) ah j)
  by_cases e : j = tn T
  · subst e; simp only [yu_s]; exact ⟨h1, h2, h3, h4, h5⟩
  · simp only [yu_n e]
    have hj : j < tn T + 1 := hj
    exact b7 j (by omega)
theorem c134k {d : Nat} {M : zM} {Q : Option Value → zM → Prop} {n : Nat} {b : Nat → Nat} {k0 : yK} (hG : GK M n b k0) (hv : yKv n b k0) (k : ytx b (pAd n b k0) ≠ none → ∀ M', GK M' n b (pAd n b k0) → Fi FN M M' → Q none M') (kb : ytx b (pAd n b k0) = none → ∀ M', BK M' n b (pAd n b k0).2.1 → Fi FN M M' → Q none M') : qC (d + 10) 134 [.ref 136] M Q := by
  refine c134 hG.1 hG.2.1 hG.2.2.1.1 hv.1.2.1 hG.w (fun M' h1 h2 h3 f => ?_)
  have hX := SX_fi hG.1 f
  have ht := TXp_fi hG.2.1 f FN_t
  cases e : ytx b (pAd n b k0) with
  | none => exact kb e M' ⟨hX, ht, h3.2 e, h2⟩ f
  | some r => exact k (by rw [e]; exact fun q => by cases q) M' ⟨hX, ht, ⟨h1, h2⟩, r.1, r.2, e, h3.1 r.1 r.2 e⟩ f
/-- a bad end -/
def cBad (b : Nat → Nat) (R : Except Nat (Nat × yQ)) (f : Nat) : Prop := R = .error f ∨ ∃ w K1, R = .ok (w, K1) ∧ ytx b K1.1 = none ∧ K1.1.2.1 = f
theorem cOX.bad {Q : Option Value → zM → Prop} {M : zM} {c n o f : Nat} {b : Nat → Nat} {R : Except Nat (Nat × yQ)} (h : cOX Q M c n b o R) (e : cBad b R f) : ∀ v M', BX M' c n b f → Fi (FJ c) M M' → Q (some (.int v)) M' := by
  rcases e with e | ⟨w, K1, e, e1, e2⟩
  · exact h.e e
  · subst e2; exact h.b e e1
theorem pAc_b {n : Nat} {b : Nat → Nat} {k : yK} (h : ∀ w, ytx b k ≠ some (2, w)) : pAc n b k = .error k.2.1 := by
  unfold pAc
  refine if_neg (fun q => h (b k.2.1 - 97) ?_)
  unfold ytx
  rw [if_neg (by omega), if_pos q.1, if_pos q.2]
theorem pNu_b {n : Nat} {b : Nat → Nat} {k : yK} (h : ∀ w, ytx b k ≠ some (3, w)) : pNu n b k = .error k.2.1 := by
  unfold pNu
  refine if_neg (fun q => h (ynd b k.2.1 (k.2.2 - k.2.1)) ?_)
  unfold ytx
  rw [if_neg (by omega), if_neg (by omega), if_pos q]
theorem ytx_i {b : Nat → Nat} {k : yK} {t v : Nat} (h : ytx b k = some (t, v)) : (t = 1 → k.1 = 1 ∧ v = ykw b k.2.1 k.2.2 ∧ v < 6) ∧ (t = 2 → k.1 = 1 ∧ (k.2.2 - k.2.1 = 1 ∧ b k.2.1 ≤ 102) ∧ v = b k.2.1 - 97) ∧ (t = 3 → k.1 = 2 ∧ v = ynd b k.2.1 (k.2.2 - k.2.1)) ∧ (t = 0 → k.1 = 0) := by
  unfold ytx at h
  by_cases c0 : k.1 = 0
  · rw [if_pos c0] at h; cases h; exact ⟨by omega, by omega, by omega, fun _ => c0⟩
  · rw [if_neg c0] at h
    by_cases c1 : k.1 = 1
    · rw [if_pos c1] at h
      by_cases d1 : k.2.2 - k.2.1 = 1 ∧ b k.2.1 ≤ 102
      · rw [if_pos d1] at h; cases h; exact ⟨by omega, fun _ => ⟨c1, d1, rfl⟩, by omega, by omega⟩
      · rw [if_neg d1] at h
        by_cases d2 : ykw b k.2.1 k.2.2 < 6
        · rw [if_pos d2] at h; cases h; exact ⟨fun _ => ⟨c1, rfl, d2⟩, by omega, by omega, by omega⟩
        · rw [if_neg d2] at h; cases h
    · rw [if_neg c1] at h
      by_cases c2 : k.1 = 2
      · rw [if_pos c2] at h; cases h; exact ⟨by omega, by omega, fun _ => ⟨c2, rfl⟩, by omega⟩
      · rw [if_neg c2] at h
        by_cases c3 : k.1 = 3
        · rw [if_pos c3] at h; cases h
        · rw [if_neg c3] at h; cases h; exact ⟨by omega, by omega, by omega, by omega⟩
theorem pAc_g {n w : Nat} {b : Nat → Nat} {k : yK} (h : ytx b k = some (2, w)) : pAc n b k = .ok (w, pAd n b k) := by
  obtain ⟨h1, h2, h3⟩ := (ytx_i h).2.1 rfl
  unfold pAc
  rw [if_pos ⟨h1, h2⟩, h3]
theorem pNu_g {n w : Nat} {b : Nat → Nat} {k : yK} (h : ytx b k = some (3, w)) : pNu n b k = .ok (w, pAd n b k) := by
  obtain ⟨h1, h2⟩ := (ytx_i h).2.2.1 rfl
  unfold pNu
  rw [if_pos h1, h2]
/-- the rest of a step, its accounts and number -/
def pS3 (n : Nat) (b : Nat → Nat) (kd ah : Nat) (T : yT) (x y : Int32) (k2 : yK) : Except Nat (Nat × yQ) := match pA3 n b kd k2 with
  | .error f => .error f
  | .ok (z, k3) => .ok (2 ^ tn T, (k3, pAp T kd x y z ah))
def pS2 (n : Nat) (b : Nat → Nat) (kd ah : Nat) (T : yT) (x : Int32) (k1 : yK) : Except Nat (Nat × yQ) := match pA2 n b kd k1 with
  | .error f => .error f
  | .ok (y, k2) => pS3 n b kd ah T x y k2
def pS1 (n : Nat) (b : Nat → Nat) (kd ah : Nat) (T : yT) (k0 : yK) : Except Nat (Nat × yQ) := match pA1 n b kd k0 with
  | .error f => .error f
  | .ok (x, k1) => pS2 n b kd ah T x k1
theorem pSt_1 {n ah kd : Nat} {b : Nat → Nat} {K : yQ} (h : ykw b K.1.2.1 K.1.2.2 = kd) (h6 : kd < 6) (h12 : tn K.2 < 12) : pSt n b ah K = pS1 n b kd ah K.2 (pAd n b K.1) := by
  subst h
  unfold pSt pS1 pS2 pS3
  exact if_neg (by omega)
theorem pS3_b {n kd ah : Nat} {b : Nat → Nat} {T : yT} {x y : Int32} {k : yK} (h : ytx b k = none) : cBad b (pS3 n b kd ah T x y k) k.2.1 := by
  unfold pS3 pA3
  by_cases c : kd ≠ 4 ∧ kd ≠ 5
  · rw [if_pos c, pNu_b (fun w q => by rw [h] at q; cases q)]; exact Or.inl rfl
  · rw [if_neg c]; exact Or.inr ⟨_, _, rfl, h, rfl⟩
theorem pS2_b {n kd ah : Nat} {b : Nat → Nat} {T : yT} {x : Int32} {k : yK} (h : ytx b k = none) : cBad b (pS2 n b kd ah T x k) k.2.1 := by
  unfold pS2 pA2
  by_cases c : kd = 2 ∨ kd = 4
  · rw [if_pos c, pAc_b (fun w q => by rw [h] at q; cases q)]; exact Or.inl rfl
  · rw [if_neg c]; exact pS3_b h
theorem pS1_b {n kd ah : Nat} {b : Nat → Nat} {T : yT} {k : yK} (h : ytx b k = none) : cBad b (pS1 n b kd ah T k) k.2.1 := by
  unfold pS1 pA1
  by_cases c : kd = 5
  · rw [if_pos c]; exact pS2_b h
  · rw [if_neg c, pAc_b (fun w q => by rw [h] at q; cases q)]; exact Or.inl rfl
theorem d142_0 : decode (zB 142) 0 = .ok (.aload_n 0, 1) := by decide +kernel
theorem d142_1 : decode (zB 142) 1 = .ok (.getfield 194, 3) := by decide +kernel
theorem d142_4 : decode (zB 142) 4 = .ok (.istore_n 2, 1) := by decide +kernel
theorem d142_5 : decode (zB 142) 5 = .ok (.aload_n 0, 1) := by decide +kernel
theorem d142_6 : decode (zB 142) 6 = .ok (.dup, 1) := by decide +kernel
theorem d142_7 : decode (zB 142) 7 = .ok (.getfield 194, 3) := by decide +kernel
theorem d142_10 : decode (zB 142) 10 = .ok (.iconst 1, 1) := by decide +kernel
theorem d142_11 : decode (zB 142) 11 = .ok (.iadd, 1) := by decide +kernel
theorem d142_12 : decode (zB 142) 12 = .ok (.putfield 194, 3) := by decide +kernel
theorem d142_15 : decode (zB 142) 15 = .ok (.aload_n 0, 1) := by decide +kernel
theorem d142_16 : decode (zB 142) 16 = .ok (.getfield 172, 3) := by decide +kernel
theorem d142_19 : decode (zB 142) 19 = .ok (.istore_n 3, 1) := by decide +kernel
theorem d142_20 : decode (zB 142) 20 = .ok (.aload_n 0, 1) := by decide +kernel
theorem d142_21 : decode (zB 142) 21 = .ok (.invokevirtual 175, 3) := by decide +kernel
theorem d142_24 : decode (zB 142) 24 = .ok (.aload_n 0, 1) := by decide +kernel
theorem d142_25 : decode (zB 142) 25 = .ok (.getfield 18, 3) := by decide +kernel
theorem d142_28 : decode (zB 142) 28 = .ok (.aload_n 0, 1) := by decide +kernel
theorem d142_29 : decode (zB 142) 29 = .ok (.getfield 116, 3) := by decide +kernel
theorem d142_32 : decode (zB 142) 32 = .ok (.aaload, 1) := by decide +kernel
theorem d142_33 : decode (zB 142) 33 = .ok (.iload_n 2, 1) := by decide +kernel
theorem d142_34 : decode (zB 142) 34 = .ok (.iload_n 3, 1) := by decide +kernel
theorem d142_35 : decode (zB 142) 35 = .ok (.iastore, 1) := by decide +kernel
theorem d142_36 : decode (zB 142) 36 = .ok (.aload_n 0, 1) := by decide +kernel
theorem d142_37 : decode (zB 142) 37 = .ok (.getfield 21, 3) := by decide +kernel
theorem d142_40 : decode (zB 142) 40 = .ok (.aload_n 0, 1) := by decide +kernel
theorem d142_41 : decode (zB 142) 41 = .ok (.getfield 116, 3) := by decide +kernel
theorem d142_44 : decode (zB 142) 44 = .ok (.aaload, 1) := by decide +kernel
theorem d142_45 : decode (zB 142) 45 = .ok (.iload_n 2, 1) := by decide +kernel
theorem d142_46 : decode (zB 142) 46 = .ok (.iload_n 3, 1) := by decide +kernel
theorem d142_47 : decode (zB 142) 47 = .ok (.iconst 5, 1) := by decide +kernel
theorem d142_48 : decode (zB 142) 48 = .ok (.if_icmp .eq 10, 3) := by decide +kernel
theorem d142_51 : decode (zB 142) 51 = .ok (.aload_n 0, 1) := by decide +kernel
theorem d142_52 : decode (zB 142) 52 = .ok (.getfield 162, 3) := by decide +kernel
theorem d142_55 : decode (zB 142) 55 = .ok (.ifCond .eq 7, 3) := by decide +kernel
theorem d142_58 : decode (zB 142) 58 = .ok (.iconst (-1), 1) := by decide +kernel
theorem d142_59 : decode (zB 142) 59 = .ok (.goto 8, 3) := by decide +kernel
theorem d142_62 : decode (zB 142) 62 = .ok (.aload_n 0, 1) := by decide +kernel
theorem d142_63 : decode (zB 142) 63 = .ok (.iconst 2, 1) := by decide +kernel
theorem d142_64 : decode (zB 142) 64 = .ok (.invokevirtual 203, 3) := by decide +kernel
theorem d142_67 : decode (zB 142) 67 = .ok (.iastore, 1) := by decide +kernel
theorem d142_68 : decode (zB 142) 68 = .ok (.aload_n 0, 1) := by decide +kernel
theorem d142_69 : decode (zB 142) 69 = .ok (.getfield 24, 3) := by decide +kernel
theorem d142_72 : decode (zB 142) 72 = .ok (.aload_n 0, 1) := by decide +kernel
theorem d142_73 : decode (zB 142) 73 = .ok (.getfield 116, 3) := by decide +kernel
theorem d142_76 : decode (zB 142) 76 = .ok (.aaload, 1) := by decide +kernel
theorem d142_77 : decode (zB 142) 77 = .ok (.iload_n 2, 1) := by decide +kernel
theorem d142_78 : decode (zB 142) 78 = .ok (.iload_n 3, 1) := by decide +kernel
theorem d142_79 : decode (zB 142) 79 = .ok (.iconst 2, 1) := by decide +kernel
theorem d142_80 : decode (zB 142) 80 = .ok (.if_icmp .eq 8, 3) := by decide +kernel
theorem d142_83 : decode (zB 142) 83 = .ok (.iload_n 3, 1) := by decide +kernel
theorem d142_84 : decode (zB 142) 84 = .ok (.iconst 4, 1) := by decide +kernel
theorem d142_85 : decode (zB 142) 85 = .ok (.if_icmp .ne 10, 3) := by decide +kernel
theorem d142_88 : decode (zB 142) 88 = .ok (.aload_n 0, 1) := by decide +kernel
theorem d142_89 : decode (zB 142) 89 = .ok (.getfield 162, 3) := by decide +kernel
theorem d142_92 : decode (zB 142) 92 = .ok (.ifCond .eq 7, 3) := by decide +kernel
theorem d142_95 : decode (zB 142) 95 = .ok (.iconst (-1), 1) := by decide +kernel
theorem d142_96 : decode (zB 142) 96 = .ok (.goto 8, 3) := by decide +kernel
theorem d142_99 : decode (zB 142) 99 = .ok (.aload_n 0, 1) := by decide +kernel
theorem d142_100 : decode (zB 142) 100 = .ok (.iconst 2, 1) := by decide +kernel
theorem d142_101 : decode (zB 142) 101 = .ok (.invokevirtual 203, 3) := by decide +kernel
theorem d142_104 : decode (zB 142) 104 = .ok (.iastore, 1) := by decide +kernel
theorem d142_105 : decode (zB 142) 105 = .ok (.aload_n 0, 1) := by decide +kernel
theorem d142_106 : decode (zB 142) 106 = .ok (.getfield 27, 3) := by decide +kernel
theorem d142_109 : decode (zB 142) 109 = .ok (.aload_n 0, 1) := by decide +kernel
theorem d142_110 : decode (zB 142) 110 = .ok (.getfield 116, 3) := by decide +kernel
theorem d142_113 : decode (zB 142) 113 = .ok (.aaload, 1) := by decide +kernel
theorem d142_114 : decode (zB 142) 114 = .ok (.iload_n 2, 1) := by decide +kernel
theorem d142_115 : decode (zB 142) 115 = .ok (.iload_n 3, 1) := by decide +kernel
theorem d142_116 : decode (zB 142) 116 = .ok (.iconst 5, 1) := by decide +kernel
theorem d142_117 : decode (zB 142) 117 = .ok (.if_icmp .eq 15, 3) := by decide +kernel
theorem d142_120 : decode (zB 142) 120 = .ok (.iload_n 3, 1) := by decide +kernel
theorem d142_121 : decode (zB 142) 121 = .ok (.iconst 4, 1) := by decide +kernel
theorem d142_122 : decode (zB 142) 122 = .ok (.if_icmp .eq 10, 3) := by decide +kernel
theorem d142_125 : decode (zB 142) 125 = .ok (.aload_n 0, 1) := by decide +kernel
theorem d142_126 : decode (zB 142) 126 = .ok (.getfield 162, 3) := by decide +kernel
theorem d142_129 : decode (zB 142) 129 = .ok (.ifCond .eq 7, 3) := by decide +kernel
theorem d142_132 : decode (zB 142) 132 = .ok (.iconst (-1), 1) := by decide +kernel
theorem d142_133 : decode (zB 142) 133 = .ok (.goto 8, 3) := by decide +kernel
theorem d142_136 : decode (zB 142) 136 = .ok (.aload_n 0, 1) := by decide +kernel
theorem d142_137 : decode (zB 142) 137 = .ok (.iconst 3, 1) := by decide +kernel
theorem d142_138 : decode (zB 142) 138 = .ok (.invokevirtual 203, 3) := by decide +kernel
theorem d142_141 : decode (zB 142) 141 = .ok (.iastore, 1) := by decide +kernel
theorem d142_142 : decode (zB 142) 142 = .ok (.aload_n 0, 1) := by decide +kernel
theorem d142_143 : decode (zB 142) 143 = .ok (.getfield 30, 3) := by decide +kernel
theorem d142_146 : decode (zB 142) 146 = .ok (.aload_n 0, 1) := by decide +kernel
theorem d142_147 : decode (zB 142) 147 = .ok (.getfield 116, 3) := by decide +kernel
theorem d142_150 : decode (zB 142) 150 = .ok (.aaload, 1) := by decide +kernel
theorem d142_151 : decode (zB 142) 151 = .ok (.iload_n 2, 1) := by decide +kernel
theorem d142_152 : decode (zB 142) 152 = .ok (.iload_n 1, 1) := by decide +kernel
theorem d142_153 : decode (zB 142) 153 = .ok (.iastore, 1) := by decide +kernel
theorem d142_154 : decode (zB 142) 154 = .ok (.iconst 1, 1) := by decide +kernel
theorem d142_155 : decode (zB 142) 155 = .ok (.iload_n 2, 1) := by decide +kernel
theorem d142_156 : decode (zB 142) 156 = .ok (.ishl, 1) := by decide +kernel
theorem d142_157 : decode (zB 142) 157 = .ok (.ireturn, 1) := by decide +kernel
theorem c143g {d : Nat} {M : zM} {Q : Option Value → zM → Prop} {n : Nat} {b : Nat → Nat} {k0 : yK} {s w : Nat} (hG : GK M n b k0) (hv : yKv n b k0) (hs : s ≠ 0) (hs5 : s < 5) (e : ytx b k0 = some (s, w)) (k : ytx b (pAd n b k0) ≠ none → ∀ M', GK M' n b (pAd n b k0) → Fi FN M M' → Q (some (.int (nI w))) M') (kb : ytx b (pAd n b k0) = none → ∀ v M', BK M' n b (pAd n b k0).2.1 → Fi FN M M' → Q (some (.int v)) M') : qC (d + 11) 143 [.ref 136, .int (nI s)] M Q := by
  refine qC_of (by decide) (Nat.le_of_ble_eq_true rfl) ?_
  obtain ⟨t, v, htv, h33, h34, h38⟩ := hG.2.2.2
  have ht4 := ytx_t4 htv hv.1.2.2.1
  rw [e] at htv
  cases htv
  refine q_aload_n d143_0 rfl ?_
  refine q_getv (c := 8) (f := 33) d143_1 ⟨rfl, by decide⟩ (xk_136 hG.1) h33 ?_
  refine q_iload_n d143_4 rfl ?_
  refine nc_eq 13 d143_5 (by decide) (by omega) (by omega) (fun h5 => ?_) (fun h5 => (False.elim (h5 rfl)))
  refine q_aload_n d143_13 rfl ?_
  refine q_getv (c := 8) (f := 34) d143_14 ⟨rfl, by decide⟩ (xk_136 hG.1) (h34 (by omega)) ?_
  refine q_istore_n d143_17 (by decide) rfl ?_
  refine q_aload_n d143_18 rfl ?_
  exact q_v0 d143_19 rfl rfl (xk_136 hG.1) (Nat.le_of_ble_eq_true rfl) (c134k hG hv (fun hn M1 hG1 f1 => (q_iload_n d143_22 rfl (q_iret d143_23 rfl (k hn M1 hG1 f1)))) (fun hn M1 hB1 f1 => (q_iload_n d143_22 rfl (q_iret d143_23 rfl (kb hn _ M1 hB1 f1)))))
theorem c143e {d : Nat} {M : zM} {Q : Option Value → zM → Prop} {n : Nat} {b : Nat → Nat} {k0 : yK} {s : Nat} (hG : GK M n b k0) (hv : yKv n b k0) (hs5 : s < 5) (e : ∀ w, ytx b k0 ≠ some (s, w)) (kb : ∀ v M', BK M' n b k0.2.1 → Fi FN M M' → Q (some (.int v)) M') : qC (d + 11) 143 [.ref 136, .int (nI s)] M Q := by
  refine qC_of (by decide) (Nat.le_of_ble_eq_true rfl) ?_
  obtain ⟨t, v, htv, h33, h34, h38⟩ := hG.2.2.2
  have ht4 := ytx_t4 htv hv.1.2.2.1
  refine q_aload_n d143_0 rfl ?_
  refine q_getv (c := 8) (f := 33) d143_1 ⟨rfl, by decide⟩ (xk_136 hG.1) h33 ?_
  refine q_iload_n d143_4 rfl ?_
  refine nc_eq 13 d143_5 (by decide) (by omega) (by omega) (fun h5 => (False.elim (e v (by rw [h5] at htv; exact htv)))) (fun h5 => ?_)
  refine q_aload_n d143_8 rfl ?_
  refine q_iconstN (z := 1) d143_9 ?_
  refine q_putz (c := 8) (f := 38) d143_10 ⟨rfl, rfl, by decide⟩ (xk_136 hG.1) (Or.inr rfl) ?_
  have f9 : Fi FN M (zwi M 136 38 (nI 1)) := (Fi.refl _ _).wi ⟨rfl, by omega⟩
  have hb9 : BK (zwi M 136 38 (nI 1)) n b k0.2.1 := ⟨SX_fi hG.1 f9, TXp_fi hG.2.1 f9 FN_t, wi_s _ _ _ _, (wi_n (by omega)).trans hG.2.2.1.2⟩
  refine q_aload_n d143_13 rfl ?_
  refine q_getv (c := 8) (f := 34) d143_14 ⟨rfl, by decide⟩ (xk_136 hb9.1) rfl ?_
  refine q_istore_n d143_17 (by decide) rfl ?_
  refine q_aload_n d143_18 rfl ?_
  refine q_v0 d143_19 rfl rfl (xk_136 hb9.1) (Nat.le_of_ble_eq_true rfl) (c134f hb9.1 hb9.2.2.1 ?_)
  refine q_iload_n d143_22 rfl ?_
  refine q_iret d143_23 rfl ?_
  exact kb _ _ hb9 f9
theorem b142c {d : Nat} {Q : Option Value → zM → Prop} {M1 : zM} {c n f i kd ah : Nat} {b : Nat → Nat} (hB : BX M1 c n b f) (hi : i < 12) (hk : kd < 6) (k : ∀ v M', BX M' c n b f → Fi (FJ c) M1 M' → Q (some (.int v)) M') : qW (zEv (d + 11)) 142 Q 105 [(3, .int (nI kd)), (2, .int (nI i)), (0, .ref 136), (1, .int (nI ah))] [] M1 := by
  have hc := hB.2.1
  refine q_aload_n d142_105 rfl ?_
  refine q_getr (c := 8) (f := 6) d142_106 ⟨rfl, rfl⟩ (xk_136 hB.1) (xf_numbers hB.1) ?_
  refine q_aload_n d142_109 rfl ?_
  refine q_getv (c := 8) (f := 0) d142_110 ⟨rfl, by decide⟩ (xk_136 hB.1) hB.2.2.1 ?_
  refine n_aald d142_113 (xk_numbers hB.1) (by decide) (by omega) (by decide) (xr_numbers hB.1 (by omega)) ?_
  refine q_iload_n d142_114 rfl ?_
  refine q_iload_n d142_115 rfl ?_
  refine q_iconstN (z := 5) d142_116 ?_
  refine nc_eq 132 d142_117 (by decide) (by omega) (by omega) (fun h117 => ?_) (fun h117 => ?_)
  · refine q_iconst (x := (-1)) d142_132 rfl ?_
    refine q_goto 141 d142_133 (by decide) ?_
    refine n_iast d142_141 (xa_numbers hB.1 (by omega)) (by omega) (by decide) ?_
    refine q_aload_n d142_142 rfl ?_
    refine q_getr (c := 8) (f := 7) d142_143 ⟨rfl, rfl⟩ (xk_136 hB.1) (xf_aheads hB.1) ?_
    refine q_aload_n d142_146 rfl ?_
    refine q_getv (c := 8) (f := 0) d142_147 ⟨rfl, by decide⟩ (xk_136 hB.1) (Eq.trans (by (repeat (first | rw [wi_n (Or.inl (by omega))] | rw [wi_n (Or.inr (by omega))] | rw [wi_s] | rw [wr_i] | rw [cp_n (by omega)]))) hB.2.2.1) ?_
    refine n_aald d142_150 (xk_aheads hB.1) (by decide) (by omega) (by decide) (xr_aheads hB.1 (by omega)) ?_
    refine q_iload_n d142_151 rfl ?_
    refine q_iload_n d142_152 rfl ?_
    refine n_iast d142_153 (xa_aheads hB.1 (by omega)) (by omega) (by decide) ?_
    refine q_iconstN (z := 1) d142_154 ?_
    refine q_iload_n d142_155 rfl ?_
    refine n_ishl1 d142_156 (by omega) ?_
    refine q_iret d142_157 rfl ?_
    have g : Fi (fun a k => (a = 136 ∧ (k = 35 ∨ k = 36 ∨ k = 37)) ∨ a = 140 + c ∨ a = 147 + c ∨ a = 154 + c ∨ a = 161 + c ∨ a = 168 + c) M1 (zwi (zwi M1 (161 + c) i (-1)) (168 + c) i (nI ah)) := ((Fi.refl _ _).wi (Or.inr (by omega))).wi (Or.inr (by omega))
    exact k _ _ (hB.row g) (g.mono (fun a j q => by unfold FJ; omega))
  · refine q_iload_n d142_120 rfl ?_
    refine q_iconstN (z := 4) d142_121 ?_
    refine nc_eq 132 d142_122 (by decide) (by omega) (by omega) (fun h122 => ?_) (fun h122 => ?_)
    · refine q_iconst (x := (-1)) d142_132 rfl ?_
      refine q_goto 141 d142_133 (by decide) ?_
      refine n_iast d142_141 (xa_numbers hB.1 (by omega)) (by omega) (by decide) ?_
      refine q_aload_n d142_142 rfl ?_
      refine q_getr (c := 8) (f := 7) d142_143 ⟨rfl, rfl⟩ (xk_136 hB.1) (xf_aheads hB.1) ?_
      refine q_aload_n d142_146 rfl ?_
      refine q_getv (c := 8) (f := 0) d142_147 ⟨rfl, by decide⟩ (xk_136 hB.1) (Eq.trans (by (repeat (first | rw [wi_n (Or.inl (by omega))] | rw [wi_n (Or.inr (by omega))] | rw [wi_s] | rw [wr_i] | rw [cp_n (by omega)]))) hB.2.2.1) ?_
      refine n_aald d142_150 (xk_aheads hB.1) (by decide) (by omega) (by decide) (xr_aheads hB.1 (by omega)) ?_
      refine q_iload_n d142_151 rfl ?_
      refine q_iload_n d142_152 rfl ?_
      refine n_iast d142_153 (xa_aheads hB.1 (by omega)) (by omega) (by decide) ?_
      refine q_iconstN (z := 1) d142_154 ?_
      refine q_iload_n d142_155 rfl ?_
      refine n_ishl1 d142_156 (by omega) ?_
      refine q_iret d142_157 rfl ?_
      have g : Fi (fun a k => (a = 136 ∧ (k = 35 ∨ k = 36 ∨ k = 37)) ∨ a = 140 + c ∨ a = 147 + c ∨ a = 154 + c ∨ a = 161 + c ∨ a = 168 + c) M1 (zwi (zwi M1 (161 + c) i (-1)) (168 + c) i (nI ah)) := ((Fi.refl _ _).wi (Or.inr (by omega))).wi (Or.inr (by omega))
      exact k _ _ (hB.row g) (g.mono (fun a j q => by unfold FJ; omega))
    · refine q_aload_n d142_125 rfl ?_
      refine q_getv (c := 8) (f := 38) d142_126 ⟨rfl, by decide⟩ (xk_136 hB.1) hB.f0 ?_
      refine n0_eq 136 d142_129 (by decide) (by decide) (fun q => absurd q (by decide)) (fun _ => ?_)
      refine q_iconst (x := (-1)) d142_132 rfl ?_
      refine q_goto 141 d142_133 (by decide) ?_
      refine n_iast d142_141 (xa_numbers hB.1 (by omega)) (by omega) (by decide) ?_
      refine q_aload_n d142_142 rfl ?_
      refine q_getr (c := 8) (f := 7) d142_143 ⟨rfl, rfl⟩ (xk_136 hB.1) (xf_aheads hB.1) ?_
      refine q_aload_n d142_146 rfl ?_
      refine q_getv (c := 8) (f := 0) d142_147 ⟨rfl, by decide⟩ (xk_136 hB.1) (Eq.trans (by (repeat (first | rw [wi_n (Or.inl (by omega))] | rw [wi_n (Or.inr (by omega))] | rw [wi_s] | rw [wr_i] | rw [cp_n (by omega)]))) hB.2.2.1) ?_
      refine n_aald d142_150 (xk_aheads hB.1) (by decide) (by omega) (by decide) (xr_aheads hB.1 (by omega)) ?_
      refine q_iload_n d142_151 rfl ?_
      refine q_iload_n d142_152 rfl ?_
      refine n_iast d142_153 (xa_aheads hB.1 (by omega)) (by omega) (by decide) ?_
      refine q_iconstN (z := 1) d142_154 ?_
      refine q_iload_n d142_155 rfl ?_
      refine n_ishl1 d142_156 (by omega) ?_
      refine q_iret d142_157 rfl ?_
      have g : Fi (fun a k => (a = 136 ∧ (k = 35 ∨ k = 36 ∨ k = 37)) ∨ a = 140 + c ∨ a = 147 + c ∨ a = 154 + c ∨ a = 161 + c ∨ a = 168 + c) M1 (zwi (zwi M1 (161 + c) i (-1)) (168 + c) i (nI ah)) := ((Fi.refl _ _).wi (Or.inr (by omega))).wi (Or.inr (by omega))
      exact k _ _ (hB.row g) (g.mono (fun a j q => by unfold FJ; omega))
theorem b142b {d : Nat} {Q : Option Value → zM → Prop} {M1 : zM} {c n f i kd ah : Nat} {b : Nat → Nat} (hB : BX M1 c n b f) (hi : i < 12) (hk : kd < 6) (k : ∀ v M', BX M' c n b f → Fi (FJ c) M1 M' → Q (some (.int v)) M') : qW (zEv (d + 11)) 142 Q 68 [(3, .int (nI kd)), (2, .int (nI i)), (0, .ref 136), (1, .int (nI ah))] [] M1 := by
  have hc := hB.2.1
  refine q_aload_n d142_68 rfl ?_
  refine q_getr (c := 8) (f := 5) d142_69 ⟨rfl, rfl⟩ (xk_136 hB.1) (xf_seconds hB.1) ?_
  refine q_aload_n d142_72 rfl ?_
  refine q_getv (c := 8) (f := 0) d142_73 ⟨rfl, by decide⟩ (xk_136 hB.1) hB.2.2.1 ?_
  refine n_aald d142_76 (xk_seconds hB.1) (by decide) (by omega) (by decide) (xr_seconds hB.1 (by omega)) ?_
  refine q_iload_n d142_77 rfl ?_
  refine q_iload_n d142_78 rfl ?_
  refine q_iconstN (z := 2) d142_79 ?_
  refine nc_eq 88 d142_80 (by decide) (by omega) (by omega) (fun h80 => ?_) (fun h80 => ?_)
  · refine q_aload_n d142_88 rfl ?_
    refine q_getv (c := 8) (f := 38) d142_89 ⟨rfl, by decide⟩ (xk_136 hB.1) hB.f0 ?_
    refine n0_eq 99 d142_92 (by decide) (by decide) (fun q => absurd q (by decide)) (fun _ => ?_)
    refine q_iconst (x := (-1)) d142_95 rfl ?_
    refine q_goto 104 d142_96 (by decide) ?_
    refine n_iast d142_104 (xa_seconds hB.1 (by omega)) (by omega) (by decide) ?_
    have g : Fi (fun a k => (a = 136 ∧ (k = 35 ∨ k = 36 ∨ k = 37)) ∨ a = 140 + c ∨ a = 147 + c ∨ a = 154 + c ∨ a = 161 + c ∨ a = 168 + c) M1 (zwi M1 (154 + c) i (-1)) := (Fi.refl _ _).wi (Or.inr (by omega))
    exact b142c (hB.row g) hi hk (fun v M' h1 h2 => k v M' h1 ((g.mono (fun a j q => by unfold FJ; omega)).trans h2))
  · refine q_iload_n d142_83 rfl ?_
    refine q_iconstN (z := 4) d142_84 ?_
    refine nc_ne 95 d142_85 (by decide) (by omega) (by omega) (fun h85 => ?_) (fun h85 => ?_)
    · refine q_iconst (x := (-1)) d142_95 rfl ?_
      refine q_goto 104 d142_96 (by decide) ?_
      refine n_iast d142_104 (xa_seconds hB.1 (by omega)) (by omega) (by decide) ?_
      have g : Fi (fun a k => (a = 136 ∧ (k = 35 ∨ k = 36 ∨ k = 37)) ∨ a = 140 + c ∨ a = 147 + c ∨ a = 154 + c ∨ a = 161 + c ∨ a = 168 + c) M1 (zwi M1 (154 + c) i (-1)) := (Fi.refl _ _).wi (Or.inr (by omega))
      exact b142c (hB.row g) hi hk (fun v M' h1 h2 => k v M' h1 ((g.mono (fun a j q => by unfold FJ; omega)).trans h2))
    · refine q_aload_n d142_88 rfl ?_
      refine q_getv (c := 8) (f := 38) d142_89 ⟨rfl, by decide⟩ (xk_136 hB.1) hB.f0 ?_
      refine n0_eq 99 d142_92 (by decide) (by decide) (fun q => absurd q (by decide)) (fun _ => ?_)
      refine q_iconst (x := (-1)) d142_95 rfl ?_
      refine q_goto 104 d142_96 (by decide) ?_
      refine n_iast d142_104 (xa_seconds hB.1 (by omega)) (by omega) (by decide) ?_
      have g : Fi (fun a k => (a = 136 ∧ (k = 35 ∨ k = 36 ∨ k = 37)) ∨ a = 140 + c ∨ a = 147 + c ∨ a = 154 + c ∨ a = 161 + c ∨ a = 168 + c) M1 (zwi M1 (154 + c) i (-1)) := (Fi.refl _ _).wi (Or.inr (by omega))
      exact b142c (hB.row g) hi hk (fun v M' h1 h2 => k v M' h1 ((g.mono (fun a j q => by unfold FJ; omega)).trans h2))
theorem b142a {d : Nat} {Q : Option Value → zM → Prop} {M1 : zM} {c n f i kd ah : Nat} {b : Nat → Nat} (hB : BX M1 c n b f) (hi : i < 12) (hk : kd < 6) (k : ∀ v M', BX M' c n b f → Fi (FJ c) M1 M' → Q (some (.int v)) M') : qW (zEv (d + 11)) 142 Q 36 [(3, .int (nI kd)), (2, .int (nI i)), (0, .ref 136), (1, .int (nI ah))] [] M1 := by
  have hc := hB.2.1
  refine q_aload_n d142_36 rfl ?_
  refine q_getr (c := 8) (f := 4) d142_37 ⟨rfl, rfl⟩ (xk_136 hB.1) (xf_firsts hB.1) ?_
  refine q_aload_n d142_40 rfl ?_
  refine q_getv (c := 8) (f := 0) d142_41 ⟨rfl, by decide⟩ (xk_136 hB.1) hB.2.2.1 ?_
  refine n_aald d142_44 (xk_firsts hB.1) (by decide) (by omega) (by decide) (xr_firsts hB.1 (by omega)) ?_
  refine q_iload_n d142_45 rfl ?_
  refine q_iload_n d142_46 rfl ?_
  refine q_iconstN (z := 5) d142_47 ?_
  refine nc_eq 58 d142_48 (by decide) (by omega) (by omega) (fun h48 => ?_) (fun h48 => ?_)
  · refine q_iconst (x := (-1)) d142_58 rfl ?_
    refine q_goto 67 d142_59 (by decide) ?_
    refine n_iast d142_67 (xa_firsts hB.1 (by omega)) (by omega) (by decide) ?_
    have g : Fi (fun a k => (a = 136 ∧ (k = 35 ∨ k = 36 ∨ k = 37)) ∨ a = 140 + c ∨ a = 147 + c ∨ a = 154 + c ∨ a = 161 + c ∨ a = 168 + c) M1 (zwi M1 (147 + c) i (-1)) := (Fi.refl _ _).wi (Or.inr (by omega))
    exact b142b (hB.row g) hi hk (fun v M' h1 h2 => k v M' h1 ((g.mono (fun a j q => by unfold FJ; omega)).trans h2))
  · refine q_aload_n d142_51 rfl ?_
    refine q_getv (c := 8) (f := 38) d142_52 ⟨rfl, by decide⟩ (xk_136 hB.1) hB.f0 ?_
    refine n0_eq 62 d142_55 (by decide) (by decide) (fun q => absurd q (by decide)) (fun _ => ?_)
    refine q_iconst (x := (-1)) d142_58 rfl ?_
    refine q_goto 67 d142_59 (by decide) ?_
    refine n_iast d142_67 (xa_firsts hB.1 (by omega)) (by omega) (by decide) ?_
    have g : Fi (fun a k => (a = 136 ∧ (k = 35 ∨ k = 36 ∨ k = 37)) ∨ a = 140 + c ∨ a = 147 + c ∨ a = 154 + c ∨ a = 161 + c ∨ a = 168 + c) M1 (zwi M1 (147 + c) i (-1)) := (Fi.refl _ _).wi (Or.inr (by omega))
    exact b142b (hB.row g) hi hk (fun v M' h1 h2 => k v M' h1 ((g.mono (fun a j q => by unfold FJ; omega)).trans h2))
theorem g142c {d : Nat} {Q : Option Value → zM → Prop} {M1 : zM} {c n o kd ah : Nat} {b : Nat → Nat} {k0 : yK} {T : yT} {x y : Int32} (hM : GM M1 c n b o k0 T) (hv : yKv n b k0) (h12 : tn T < 12) (hk : kd < 6) (hkd : zi M1 (140 + c) (tn T) = nI kd) (hx : zi M1 (147 + c) (tn T) = x) (hy : zi M1 (154 + c) (tn T) = y) (k : cOX Q M1 c n b o (pS3 n b kd ah T x y k0)) : qW (zEv (d + 11)) 142 Q 105 [(3, .int (nI kd)), (2, .int (nI (tn T))), (0, .ref 136), (1, .int (nI ah))] [] M1 := by
  have hc := hM.2.1
  have hv1 := (pAd_v hv (fun i hi => (hM.1.2.1.2.2 i hi).2)).1
  rcases (show kd = 0 ∨ kd = 1 ∨ kd = 2 ∨ kd = 3 ∨ kd = 4 ∨ kd = 5 by omega) with rfl | rfl | rfl | rfl | rfl | rfl
  · by_cases hs : ∃ w, ytx b k0 = some (3, w)
    · obtain ⟨w, hw⟩ := hs
      have hk9 := k
      rw [show pS3 n b 0 ah T x y k0 = .ok (2 ^ tn T, ((pAd n b k0), pAp T 0 x y (nI w) ah)) by unfold pS3 pA3; rw [if_pos (by omega), pNu_g hw]] at hk9
      refine q_aload_n d142_105 rfl ?_
      refine q_getr (c := 8) (f := 6) d142_106 ⟨rfl, rfl⟩ (xk_136 hM.1.1) (xf_numbers hM.1.1) ?_
      refine q_aload_n d142_109 rfl ?_
      refine q_getv (c := 8) (f := 0) d142_110 ⟨rfl, by decide⟩ (xk_136 hM.1.1) hM.2.2.1 ?_
      refine n_aald d142_113 (xk_numbers hM.1.1) (by decide) (by omega) (by decide) (xr_numbers hM.1.1 (by omega)) ?_
      refine q_iload_n d142_114 rfl ?_
      refine q_iload_n d142_115 rfl ?_
      refine q_iconstN (z := 5) d142_116 ?_
      refine nc_eq 132 d142_117 (by decide) (by decide) (by decide) (fun q => absurd q (by decide)) (fun _ => ?_)
      refine q_iload_n d142_120 rfl ?_
      refine q_iconstN (z := 4) d142_121 ?_
      refine nc_eq 132 d142_122 (by decide) (by decide) (by decide) (fun q => absurd q (by decide)) (fun _ => ?_)
      refine q_aload_n d142_125 rfl ?_
      refine q_getv (c := 8) (f := 38) d142_126 ⟨rfl, by decide⟩ (xk_136 hM.1.1) hM.1.w ?_
      refine n0_eq 136 d142_129 (by decide) (by decide) (fun _ => ?_) (fun q => absurd q (by decide))
      refine q_aload_n d142_136 rfl ?_
      refine q_iconstN (z := 3) d142_137 ?_
      refine q_v1 d142_138 rfl rfl (xk_136 hM.1.1) (Nat.le_of_ble_eq_true rfl) (c143g hM.1 hv (by decide) (by decide) hw (fun hn M2 hG2 f2 => ?_) (fun hn v9 M2 hB2 f2 => ?_))
      · have hM2 := hM.fn hG2 f2
        have hk2 : zi M2 (140 + c) (tn T) = nI 0 := (f2.1 _ _ (by unfold FN; omega)).trans hkd
        refine n_iast d142_141 (xa_numbers hM2.1.1 hc) (by omega) (by decide) ?_
        refine q_aload_n d142_142 rfl ?_
        refine q_getr (c := 8) (f := 7) d142_143 ⟨rfl, rfl⟩ (xk_136 hM2.1.1) (xf_aheads hM2.1.1) ?_
        refine q_aload_n d142_146 rfl ?_
        refine q_getv (c := 8) (f := 0) d142_147 ⟨rfl, by decide⟩ (xk_136 hM2.1.1) (Eq.trans (by (repeat (first | rw [wi_n (Or.inl (by omega))] | rw [wi_n (Or.inr (by omega))] | rw [wi_s] | rw [wr_i] | rw [cp_n (by omega)]))) hM2.2.2.1) ?_
        refine n_aald d142_150 (xk_aheads hM2.1.1) (by decide) (by omega) (by decide) (xr_aheads hM2.1.1 (by omega)) ?_
        refine q_iload_n d142_151 rfl ?_
        refine q_iload_n d142_152 rfl ?_
        refine n_iast d142_153 (xa_aheads hM2.1.1 (by omega)) (by omega) (by decide) ?_
        refine q_iconstN (z := 1) d142_154 ?_
        refine q_iload_n d142_155 rfl ?_
        refine n_ishl1 d142_156 (by omega) ?_
        refine q_iret d142_157 rfl ?_
        have fr : Fi (FRw c (tn T)) M2 (zwi (zwi M2 (161 + c) (tn T) (nI w)) (168 + c) (tn T) (nI ah)) := ((Fi.refl _ _).wi ⟨by omega, rfl⟩).wi ⟨by omega, rfl⟩
        have hE := (hM2.rw fr).e (x := x) (y := y) (z := (nI w)) (ah := ah) (by (repeat (first | rw [wi_n (Or.inl (by omega))] | rw [wi_n (Or.inr (by omega))] | rw [wi_s] | rw [wr_i] | rw [cp_n (by omega)] | rw [cp_0 (by omega)])); exact hk2) (by (repeat (first | rw [wi_n (Or.inl (by omega))] | rw [wi_n (Or.inr (by omega))] | rw [wi_s] | rw [wr_i] | rw [cp_n (by omega)] | rw [cp_0 (by omega)])); exact (f2.1 _ _ (by unfold FN; omega)).trans hx) (by (repeat (first | rw [wi_n (Or.inl (by omega))] | rw [wi_n (Or.inr (by omega))] | rw [wi_s] | rw [wr_i] | rw [cp_n (by omega)] | rw [cp_0 (by omega)])); exact (f2.1 _ _ (by unfold FN; omega)).trans hy) (by (repeat (first | rw [wi_n (Or.inl (by omega))] | rw [wi_n (Or.inr (by omega))] | rw [wi_s] | rw [wr_i] | rw [cp_n (by omega)] | rw [cp_0 (by omega)]))) (wi_s _ _ _ _)
        have hn9 : ytx b (pAd n b k0) ≠ none := by
          obtain ⟨t, v, h5, h6⟩ := hE.2.2.2.2.2.1
          intro q
          have h5 : ytx b (pAd n b k0) = some (t, v) := h5
          rw [h5] at q; cases q
        exact (cOX_w hk9 ((f2.mono (fun a j q => FN_J q)).trans (fr.mono (fun a j q => FRw_J q))) (fun _ _ q => q)).1 hn9 _ hE (Fi.refl _ _)
      · have hB3 := hM.b hB2 f2
        refine n_iast d142_141 (xa_numbers hB3.1 hc) (by omega) (by decide) ?_
        refine q_aload_n d142_142 rfl ?_
        refine q_getr (c := 8) (f := 7) d142_143 ⟨rfl, rfl⟩ (xk_136 hB3.1) (xf_aheads hB3.1) ?_
        refine q_aload_n d142_146 rfl ?_
        refine q_getv (c := 8) (f := 0) d142_147 ⟨rfl, by decide⟩ (xk_136 hB3.1) (Eq.trans (by (repeat (first | rw [wi_n (Or.inl (by omega))] | rw [wi_n (Or.inr (by omega))] | rw [wi_s] | rw [wr_i] | rw [cp_n (by omega)]))) hB3.2.2.1) ?_
        refine n_aald d142_150 (xk_aheads hB3.1) (by decide) (by omega) (by decide) (xr_aheads hB3.1 (by omega)) ?_
        refine q_iload_n d142_151 rfl ?_
        refine q_iload_n d142_152 rfl ?_
        refine n_iast d142_153 (xa_aheads hB3.1 (by omega)) (by omega) (by decide) ?_
        refine q_iconstN (z := 1) d142_154 ?_
        refine q_iload_n d142_155 rfl ?_
        refine n_ishl1 d142_156 (by omega) ?_
        refine q_iret d142_157 rfl ?_
        have g : Fi (fun a k => (a = 136 ∧ (k = 35 ∨ k = 36 ∨ k = 37)) ∨ a = 140 + c ∨ a = 147 + c ∨ a = 154 + c ∨ a = 161 + c ∨ a = 168 + c) M2 (zwi (zwi M2 (161 + c) (tn T) v9) (168 + c) (tn T) (nI ah)) := ((Fi.refl _ _).wi (Or.inr (by omega))).wi (Or.inr (by omega))
        exact (cOX.bad hk9 (Or.inr ⟨_, _, rfl, hn, rfl⟩)) _ _ (hB3.row g) ((f2.mono (fun a j q => FN_J q)).trans (g.mono (fun a j q => by unfold FJ; omega)))
    · have hs2 : ∀ w, ytx b k0 ≠ some (3, w) := fun w q => hs ⟨w, q⟩
      have hk9 := k
      rw [show pS3 n b 0 ah T x y k0 = .error k0.2.1 by unfold pS3 pA3; rw [if_pos (by omega), pNu_b hs2]] at hk9
      refine q_aload_n d142_105 rfl ?_
      refine q_getr (c := 8) (f := 6) d142_106 ⟨rfl, rfl⟩ (xk_136 hM.1.1) (xf_numbers hM.1.1) ?_
      refine q_aload_n d142_109 rfl ?_
      refine q_getv (c := 8) (f := 0) d142_110 ⟨rfl, by decide⟩ (xk_136 hM.1.1) hM.2.2.1 ?_
      refine n_aald d142_113 (xk_numbers hM.1.1) (by decide) (by omega) (by decide) (xr_numbers hM.1.1 (by omega)) ?_
      refine q_iload_n d142_114 rfl ?_
      refine q_iload_n d142_115 rfl ?_
      refine q_iconstN (z := 5) d142_116 ?_
      refine nc_eq 132 d142_117 (by decide) (by decide) (by decide) (fun q => absurd q (by decide)) (fun _ => ?_)
      refine q_iload_n d142_120 rfl ?_
      refine q_iconstN (z := 4) d142_121 ?_
      refine nc_eq 132 d142_122 (by decide) (by decide) (by decide) (fun q => absurd q (by decide)) (fun _ => ?_)
      refine q_aload_n d142_125 rfl ?_
      refine q_getv (c := 8) (f := 38) d142_126 ⟨rfl, by decide⟩ (xk_136 hM.1.1) hM.1.w ?_
      refine n0_eq 136 d142_129 (by decide) (by decide) (fun _ => ?_) (fun q => absurd q (by decide))
      refine q_aload_n d142_136 rfl ?_
      refine q_iconstN (z := 3) d142_137 ?_
      refine q_v1 d142_138 rfl rfl (xk_136 hM.1.1) (Nat.le_of_ble_eq_true rfl) (c143e hM.1 hv (by decide) hs2 (fun v9 M2 hB2 f2 => ?_))
      have hB3 := hM.b hB2 f2
      refine n_iast d142_141 (xa_numbers hB3.1 hc) (by omega) (by decide) ?_
      refine q_aload_n d142_142 rfl ?_
      refine q_getr (c := 8) (f := 7) d142_143 ⟨rfl, rfl⟩ (xk_136 hB3.1) (xf_aheads hB3.1) ?_
      refine q_aload_n d142_146 rfl ?_
      refine q_getv (c := 8) (f := 0) d142_147 ⟨rfl, by decide⟩ (xk_136 hB3.1) (Eq.trans (by (repeat (first | rw [wi_n (Or.inl (by omega))] | rw [wi_n (Or.inr (by omega))] | rw [wi_s] | rw [wr_i] | rw [cp_n (by omega)]))) hB3.2.2.1) ?_
      refine n_aald d142_150 (xk_aheads hB3.1) (by decide) (by omega) (by decide) (xr_aheads hB3.1 (by omega)) ?_
      refine q_iload_n d142_151 rfl ?_
      refine q_iload_n d142_152 rfl ?_
      refine n_iast d142_153 (xa_aheads hB3.1 (by omega)) (by omega) (by decide) ?_
      refine q_iconstN (z := 1) d142_154 ?_
      refine q_iload_n d142_155 rfl ?_
      refine n_ishl1 d142_156 (by omega) ?_
      refine q_iret d142_157 rfl ?_
      have g : Fi (fun a k => (a = 136 ∧ (k = 35 ∨ k = 36 ∨ k = 37)) ∨ a = 140 + c ∨ a = 147 + c ∨ a = 154 + c ∨ a = 161 + c ∨ a = 168 + c) M2 (zwi (zwi M2 (161 + c) (tn T) v9) (168 + c) (tn T) (nI ah)) := ((Fi.refl _ _).wi (Or.inr (by omega))).wi (Or.inr (by omega))
      exact (cOX.e hk9 rfl) _ _ (hB3.row g) ((f2.mono (fun a j q => FN_J q)).trans (g.mono (fun a j q => by unfold FJ; omega)))
  · by_cases hs : ∃ w, ytx b k0 = some (3, w)
    · obtain ⟨w, hw⟩ := hs
      have hk9 := k
      rw [show pS3 n b 1 ah T x y k0 = .ok (2 ^ tn T, ((pAd n b k0), pAp T 1 x y (nI w) ah)) by unfold pS3 pA3; rw [if_pos (by omega), pNu_g hw]] at hk9
      refine q_aload_n d142_105 rfl ?_
      refine q_getr (c := 8) (f := 6) d142_106 ⟨rfl, rfl⟩ (xk_136 hM.1.1) (xf_numbers hM.1.1) ?_
      refine q_aload_n d142_109 rfl ?_
      refine q_getv (c := 8) (f := 0) d142_110 ⟨rfl, by decide⟩ (xk_136 hM.1.1) hM.2.2.1 ?_
      refine n_aald d142_113 (xk_numbers hM.1.1) (by decide) (by omega) (by decide) (xr_numbers hM.1.1 (by omega)) ?_
      refine q_iload_n d142_114 rfl ?_
      refine q_iload_n d142_115 rfl ?_
      refine q_iconstN (z := 5) d142_116 ?_
      refine nc_eq 132 d142_117 (by decide) (by decide) (by decide) (fun q => absurd q (by decide)) (fun _ => ?_)
      refine q_iload_n d142_120 rfl ?_
      refine q_iconstN (z := 4) d142_121 ?_
      refine nc_eq 132 d142_122 (by decide) (by decide) (by decide) (fun q => absurd q (by decide)) (fun _ => ?_)
      refine q_aload_n d142_125 rfl ?_
      refine q_getv (c := 8) (f := 38) d142_126 ⟨rfl, by decide⟩ (xk_136 hM.1.1) hM.1.w ?_
      refine n0_eq 136 d142_129 (by decide) (by decide) (fun _ => ?_) (fun q => absurd q (by decide))
      refine q_aload_n d142_136 rfl ?_
      refine q_iconstN (z := 3) d142_137 ?_
      refine q_v1 d142_138 rfl rfl (xk_136 hM.1.1) (Nat.le_of_ble_eq_true rfl) (c143g hM.1 hv (by decide) (by decide) hw (fun hn M2 hG2 f2 => ?_) (fun hn v9 M2 hB2 f2 => ?_))
      · have hM2 := hM.fn hG2 f2
        have hk2 : zi M2 (140 + c) (tn T) = nI 1 := (f2.1 _ _ (by unfold FN; omega)).trans hkd
        refine n_iast d142_141 (xa_numbers hM2.1.1 hc) (by omega) (by decide) ?_
        refine q_aload_n d142_142 rfl ?_
        refine q_getr (c := 8) (f := 7) d142_143 ⟨rfl, rfl⟩ (xk_136 hM2.1.1) (xf_aheads hM2.1.1) ?_
        refine q_aload_n d142_146 rfl ?_
        refine q_getv (c := 8) (f := 0) d142_147 ⟨rfl, by decide⟩ (xk_136 hM2.1.1) (Eq.trans (by (repeat (first | rw [wi_n (Or.inl (by omega))] | rw [wi_n (Or.inr (by omega))] | rw [wi_s] | rw [wr_i] | rw [cp_n (by omega)]))) hM2.2.2.1) ?_
        refine n_aald d142_150 (xk_aheads hM2.1.1) (by decide) (by omega) (by decide) (xr_aheads hM2.1.1 (by omega)) ?_
        refine q_iload_n d142_151 rfl ?_
        refine q_iload_n d142_152 rfl ?_
        refine n_iast d142_153 (xa_aheads hM2.1.1 (by omega)) (by omega) (by decide) ?_
        refine q_iconstN (z := 1) d142_154 ?_
        refine q_iload_n d142_155 rfl ?_
        refine n_ishl1 d142_156 (by omega) ?_
        refine q_iret d142_157 rfl ?_
        have fr : Fi (FRw c (tn T)) M2 (zwi (zwi M2 (161 + c) (tn T) (nI w)) (168 + c) (tn T) (nI ah)) := ((Fi.refl _ _).wi ⟨by omega, rfl⟩).wi ⟨by omega, rfl⟩
        have hE := (hM2.rw fr).e (x := x) (y := y) (z := (nI w)) (ah := ah) (by (repeat (first | rw [wi_n (Or.inl (by omega))] | rw [wi_n (Or.inr (by omega))] | rw [wi_s] | rw [wr_i] | rw [cp_n (by omega)] | rw [cp_0 (by omega)])); exact hk2) (by (repeat (first | rw [wi_n (Or.inl (by omega))] | rw [wi_n (Or.inr (by omega))] | rw [wi_s] | rw [wr_i] | rw [cp_n (by omega)] | rw [cp_0 (by omega)])); exact (f2.1 _ _ (by unfold FN; omega)).trans hx) (by (repeat (first | rw [wi_n (Or.inl (by omega))] | rw [wi_n (Or.inr (by omega))] | rw [wi_s] | rw [wr_i] | rw [cp_n (by omega)] | rw [cp_0 (by omega)])); exact (f2.1 _ _ (by unfold FN; omega)).trans hy) (by (repeat (first | rw [wi_n (Or.inl (by omega))] | rw [wi_n (Or.inr (by omega))] | rw [wi_s] | rw [wr_i] | rw [cp_n (by omega)] | rw [cp_0 (by omega)]))) (wi_s _ _ _ _)
        have hn9 : ytx b (pAd n b k0) ≠ none := by
          obtain ⟨t, v, h5, h6⟩ := hE.2.2.2.2.2.1
          intro q
          have h5 : ytx b (pAd n b k0) = some (t, v) := h5
          rw [h5] at q; cases q
        exact (cOX_w hk9 ((f2.mono (fun a j q => FN_J q)).trans (fr.mono (fun a j q => FRw_J q))) (fun _ _ q => q)).1 hn9 _ hE (Fi.refl _ _)
      · have hB3 := hM.b hB2 f2
        refine n_iast d142_141 (xa_numbers hB3.1 hc) (by omega) (by decide) ?_
        refine q_aload_n d142_142 rfl ?_
        refine q_getr (c := 8) (f := 7) d142_143 ⟨rfl, rfl⟩ (xk_136 hB3.1) (xf_aheads hB3.1) ?_
        refine q_aload_n d142_146 rfl ?_
        refine q_getv (c := 8) (f := 0) d142_147 ⟨rfl, by decide⟩ (xk_136 hB3.1) (Eq.trans (by (repeat (first | rw [wi_n (Or.inl (by omega))] | rw [wi_n (Or.inr (by omega))] | rw [wi_s] | rw [wr_i] | rw [cp_n (by omega)]))) hB3.2.2.1) ?_
        refine n_aald d142_150 (xk_aheads hB3.1) (by decide) (by omega) (by decide) (xr_aheads hB3.1 (by omega)) ?_
        refine q_iload_n d142_151 rfl ?_
        refine q_iload_n d142_152 rfl ?_
        refine n_iast d142_153 (xa_aheads hB3.1 (by omega)) (by omega) (by decide) ?_
        refine q_iconstN (z := 1) d142_154 ?_
        refine q_iload_n d142_155 rfl ?_
        refine n_ishl1 d142_156 (by omega) ?_
        refine q_iret d142_157 rfl ?_
        have g : Fi (fun a k => (a = 136 ∧ (k = 35 ∨ k = 36 ∨ k = 37)) ∨ a = 140 + c ∨ a = 147 + c ∨ a = 154 + c ∨ a = 161 + c ∨ a = 168 + c) M2 (zwi (zwi M2 (161 + c) (tn T) v9) (168 + c) (tn T) (nI ah)) := ((Fi.refl _ _).wi (Or.inr (by omega))).wi (Or.inr (by omega))
        exact (cOX.bad hk9 (Or.inr ⟨_, _, rfl, hn, rfl⟩)) _ _ (hB3.row g) ((f2.mono (fun a j q => FN_J q)).trans (g.mono (fun a j q => by unfold FJ; omega)))
    · have hs2 : ∀ w, ytx b k0 ≠ some (3, w) := fun w q => hs ⟨w, q⟩
      have hk9 := k
      rw [show pS3 n b 1 ah T x y k0 = .error k0.2.1 by unfold pS3 pA3; rw [if_pos (by omega), pNu_b hs2]] at hk9
      refine q_aload_n d142_105 rfl ?_
      refine q_getr (c := 8) (f := 6) d142_106 ⟨rfl, rfl⟩ (xk_136 hM.1.1) (xf_numbers hM.1.1) ?_
      refine q_aload_n d142_109 rfl ?_
      refine q_getv (c := 8) (f := 0) d142_110 ⟨rfl, by decide⟩ (xk_136 hM.1.1) hM.2.2.1 ?_
      refine n_aald d142_113 (xk_numbers hM.1.1) (by decide) (by omega) (by decide) (xr_numbers hM.1.1 (by omega)) ?_
      refine q_iload_n d142_114 rfl ?_
      refine q_iload_n d142_115 rfl ?_
      refine q_iconstN (z := 5) d142_116 ?_
      refine nc_eq 132 d142_117 (by decide) (by decide) (by decide) (fun q => absurd q (by decide)) (fun _ => ?_)
      refine q_iload_n d142_120 rfl ?_
      refine q_iconstN (z := 4) d142_121 ?_
      refine nc_eq 132 d142_122 (by decide) (by decide) (by decide) (fun q => absurd q (by decide)) (fun _ => ?_)
      refine q_aload_n d142_125 rfl ?_
      refine q_getv (c := 8) (f := 38) d142_126 ⟨rfl, by decide⟩ (xk_136 hM.1.1) hM.1.w ?_
      refine n0_eq 136 d142_129 (by decide) (by decide) (fun _ => ?_) (fun q => absurd q (by decide))
      refine q_aload_n d142_136 rfl ?_
      refine q_iconstN (z := 3) d142_137 ?_
      refine q_v1 d142_138 rfl rfl (xk_136 hM.1.1) (Nat.le_of_ble_eq_true rfl) (c143e hM.1 hv (by decide) hs2 (fun v9 M2 hB2 f2 => ?_))
      have hB3 := hM.b hB2 f2
      refine n_iast d142_141 (xa_numbers hB3.1 hc) (by omega) (by decide) ?_
      refine q_aload_n d142_142 rfl ?_
      refine q_getr (c := 8) (f := 7) d142_143 ⟨rfl, rfl⟩ (xk_136 hB3.1) (xf_aheads hB3.1) ?_
      refine q_aload_n d142_146 rfl ?_
      refine q_getv (c := 8) (f := 0) d142_147 ⟨rfl, by decide⟩ (xk_136 hB3.1) (Eq.trans (by (repeat (first | rw [wi_n (Or.inl (by omega))] | rw [wi_n (Or.inr (by omega))] | rw [wi_s] | rw [wr_i] | rw [cp_n (by omega)]))) hB3.2.2.1) ?_
      refine n_aald d142_150 (xk_aheads hB3.1) (by decide) (by omega) (by decide) (xr_aheads hB3.1 (by omega)) ?_
      refine q_iload_n d142_151 rfl ?_
      refine q_iload_n d142_152 rfl ?_
      refine n_iast d142_153 (xa_aheads hB3.1 (by omega)) (by omega) (by decide) ?_
      refine q_iconstN (z := 1) d142_154 ?_
      refine q_iload_n d142_155 rfl ?_
      refine n_ishl1 d142_156 (by omega) ?_
      refine q_iret d142_157 rfl ?_
      have g : Fi (fun a k => (a = 136 ∧ (k = 35 ∨ k = 36 ∨ k = 37)) ∨ a = 140 + c ∨ a = 147 + c ∨ a = 154 + c ∨ a = 161 + c ∨ a = 168 + c) M2 (zwi (zwi M2 (161 + c) (tn T) v9) (168 + c) (tn T) (nI ah)) := ((Fi.refl _ _).wi (Or.inr (by omega))).wi (Or.inr (by omega))
      exact (cOX.e hk9 rfl) _ _ (hB3.row g) ((f2.mono (fun a j q => FN_J q)).trans (g.mono (fun a j q => by unfold FJ; omega)))
  · by_cases hs : ∃ w, ytx b k0 = some (3, w)
    · obtain ⟨w, hw⟩ := hs
      have hk9 := k
      rw [show pS3 n b 2 ah T x y k0 = .ok (2 ^ tn T, ((pAd n b k0), pAp T 2 x y (nI w) ah)) by unfold pS3 pA3; rw [if_pos (by omega), pNu_g hw]] at hk9
      refine q_aload_n d142_105 rfl ?_
      refine q_getr (c := 8) (f := 6) d142_106 ⟨rfl, rfl⟩ (xk_136 hM.1.1) (xf_numbers hM.1.1) ?_
      refine q_aload_n d142_109 rfl ?_
      refine q_getv (c := 8) (f := 0) d142_110 ⟨rfl, by decide⟩ (xk_136 hM.1.1) hM.2.2.1 ?_
      refine n_aald d142_113 (xk_numbers hM.1.1) (by decide) (by omega) (by decide) (xr_numbers hM.1.1 (by omega)) ?_
      refine q_iload_n d142_114 rfl ?_
      refine q_iload_n d142_115 rfl ?_
      refine q_iconstN (z := 5) d142_116 ?_
      refine nc_eq 132 d142_117 (by decide) (by decide) (by decide) (fun q => absurd q (by decide)) (fun _ => ?_)
      refine q_iload_n d142_120 rfl ?_
      refine q_iconstN (z := 4) d142_121 ?_
      refine nc_eq 132 d142_122 (by decide) (by decide) (by decide) (fun q => absurd q (by decide)) (fun _ => ?_)
      refine q_aload_n d142_125 rfl ?_
      refine q_getv (c := 8) (f := 38) d142_126 ⟨rfl, by decide⟩ (xk_136 hM.1.1) hM.1.w ?_
      refine n0_eq 136 d142_129 (by decide) (by decide) (fun _ => ?_) (fun q => absurd q (by decide))
      refine q_aload_n d142_136 rfl ?_
      refine q_iconstN (z := 3) d142_137 ?_
      refine q_v1 d142_138 rfl rfl (xk_136 hM.1.1) (Nat.le_of_ble_eq_true rfl) (c143g hM.1 hv (by decide) (by decide) hw (fun hn M2 hG2 f2 => ?_) (fun hn v9 M2 hB2 f2 => ?_))
      · have hM2 := hM.fn hG2 f2
        have hk2 : zi M2 (140 + c) (tn T) = nI 2 := (f2.1 _ _ (by unfold FN; omega)).trans hkd
        refine n_iast d142_141 (xa_numbers hM2.1.1 hc) (by omega) (by decide) ?_
        refine q_aload_n d142_142 rfl ?_
        refine q_getr (c := 8) (f := 7) d142_143 ⟨rfl, rfl⟩ (xk_136 hM2.1.1) (xf_aheads hM2.1.1) ?_
        refine q_aload_n d142_146 rfl ?_
        refine q_getv (c := 8) (f := 0) d142_147 ⟨rfl, by decide⟩ (xk_136 hM2.1.1) (Eq.trans (by (repeat (first | rw [wi_n (Or.inl (by omega))] | rw [wi_n (Or.inr (by omega))] | rw [wi_s] | rw [wr_i] | rw [cp_n (by omega)]))) hM2.2.2.1) ?_
        refine n_aald d142_150 (xk_aheads hM2.1.1) (by decide) (by omega) (by decide) (xr_aheads hM2.1.1 (by omega)) ?_
        refine q_iload_n d142_151 rfl ?_
        refine q_iload_n d142_152 rfl ?_
        refine n_iast d142_153 (xa_aheads hM2.1.1 (by omega)) (by omega) (by decide) ?_
        refine q_iconstN (z := 1) d142_154 ?_
        refine q_iload_n d142_155 rfl ?_
        refine n_ishl1 d142_156 (by omega) ?_
        refine q_iret d142_157 rfl ?_
        have fr : Fi (FRw c (tn T)) M2 (zwi (zwi M2 (161 + c) (tn T) (nI w)) (168 + c) (tn T) (nI ah)) := ((Fi.refl _ _).wi ⟨by omega, rfl⟩).wi ⟨by omega, rfl⟩
        have hE := (hM2.rw fr).e (x := x) (y := y) (z := (nI w)) (ah := ah) (by (repeat (first | rw [wi_n (Or.inl (by omega))] | rw [wi_n (Or.inr (by omega))] | rw [wi_s] | rw [wr_i] | rw [cp_n (by omega)] | rw [cp_0 (by omega)])); exact hk2) (by (repeat (first | rw [wi_n (Or.inl (by omega))] | rw [wi_n (Or.inr (by omega))] | rw [wi_s] | rw [wr_i] | rw [cp_n (by omega)] | rw [cp_0 (by omega)])); exact (f2.1 _ _ (by unfold FN; omega)).trans hx) (by (repeat (first | rw [wi_n (Or.inl (by omega))] | rw [wi_n (Or.inr (by omega))] | rw [wi_s] | rw [wr_i] | rw [cp_n (by omega)] | rw [cp_0 (by omega)])); exact (f2.1 _ _ (by unfold FN; omega)).trans hy) (by (repeat (first | rw [wi_n (Or.inl (by omega))] | rw [wi_n (Or.inr (by omega))] | rw [wi_s] | rw [wr_i] | rw [cp_n (by omega)] | rw [cp_0 (by omega)]))) (wi_s _ _ _ _)
        have hn9 : ytx b (pAd n b k0) ≠ none := by
          obtain ⟨t, v, h5, h6⟩ := hE.2.2.2.2.2.1
          intro q
          have h5 : ytx b (pAd n b k0) = some (t, v) := h5
          rw [h5] at q; cases q
        exact (cOX_w hk9 ((f2.mono (fun a j q => FN_J q)).trans (fr.mono (fun a j q => FRw_J q))) (fun _ _ q => q)).1 hn9 _ hE (Fi.refl _ _)
      · have hB3 := hM.b hB2 f2
        refine n_iast d142_141 (xa_numbers hB3.1 hc) (by omega) (by decide) ?_
        refine q_aload_n d142_142 rfl ?_
        refine q_getr (c := 8) (f := 7) d142_143 ⟨rfl, rfl⟩ (xk_136 hB3.1) (xf_aheads hB3.1) ?_
        refine q_aload_n d142_146 rfl ?_
        refine q_getv (c := 8) (f := 0) d142_147 ⟨rfl, by decide⟩ (xk_136 hB3.1) (Eq.trans (by (repeat (first | rw [wi_n (Or.inl (by omega))] | rw [wi_n (Or.inr (by omega))] | rw [wi_s] | rw [wr_i] | rw [cp_n (by omega)]))) hB3.2.2.1) ?_
        refine n_aald d142_150 (xk_aheads hB3.1) (by decide) (by omega) (by decide) (xr_aheads hB3.1 (by omega)) ?_
        refine q_iload_n d142_151 rfl ?_
        refine q_iload_n d142_152 rfl ?_
        refine n_iast d142_153 (xa_aheads hB3.1 (by omega)) (by omega) (by decide) ?_
        refine q_iconstN (z := 1) d142_154 ?_
        refine q_iload_n d142_155 rfl ?_
        refine n_ishl1 d142_156 (by omega) ?_
        refine q_iret d142_157 rfl ?_
        have g : Fi (fun a k => (a = 136 ∧ (k = 35 ∨ k = 36 ∨ k = 37)) ∨ a = 140 + c ∨ a = 147 + c ∨ a = 154 + c ∨ a = 161 + c ∨ a = 168 + c) M2 (zwi (zwi M2 (161 + c) (tn T) v9) (168 + c) (tn T) (nI ah)) := ((Fi.refl _ _).wi (Or.inr (by omega))).wi (Or.inr (by omega))
        exact (cOX.bad hk9 (Or.inr ⟨_, _, rfl, hn, rfl⟩)) _ _ (hB3.row g) ((f2.mono (fun a j q => FN_J q)).trans (g.mono (fun a j q => by unfold FJ; omega)))
    · have hs2 : ∀ w, ytx b k0 ≠ some (3, w) := fun w q => hs ⟨w, q⟩
      have hk9 := k
      rw [show pS3 n b 2 ah T x y k0 = .error k0.2.1 by unfold pS3 pA3; rw [if_pos (by omega), pNu_b hs2]] at hk9
      refine q_aload_n d142_105 rfl ?_
      refine q_getr (c := 8) (f := 6) d142_106 ⟨rfl, rfl⟩ (xk_136 hM.1.1) (xf_numbers hM.1.1) ?_
      refine q_aload_n d142_109 rfl ?_
      refine q_getv (c := 8) (f := 0) d142_110 ⟨rfl, by decide⟩ (xk_136 hM.1.1) hM.2.2.1 ?_
      refine n_aald d142_113 (xk_numbers hM.1.1) (by decide) (by omega) (by decide) (xr_numbers hM.1.1 (by omega)) ?_
      refine q_iload_n d142_114 rfl ?_
      refine q_iload_n d142_115 rfl ?_
      refine q_iconstN (z := 5) d142_116 ?_
      refine nc_eq 132 d142_117 (by decide) (by decide) (by decide) (fun q => absurd q (by decide)) (fun _ => ?_)
      refine q_iload_n d142_120 rfl ?_
      refine q_iconstN (z := 4) d142_121 ?_
      refine nc_eq 132 d142_122 (by decide) (by decide) (by decide) (fun q => absurd q (by decide)) (fun _ => ?_)
      refine q_aload_n d142_125 rfl ?_
      refine q_getv (c := 8) (f := 38) d142_126 ⟨rfl, by decide⟩ (xk_136 hM.1.1) hM.1.w ?_
      refine n0_eq 136 d142_129 (by decide) (by decide) (fun _ => ?_) (fun q => absurd q (by decide))
      refine q_aload_n d142_136 rfl ?_
      refine q_iconstN (z := 3) d142_137 ?_
      refine q_v1 d142_138 rfl rfl (xk_136 hM.1.1) (Nat.le_of_ble_eq_true rfl) (c143e hM.1 hv (by decide) hs2 (fun v9 M2 hB2 f2 => ?_))
      have hB3 := hM.b hB2 f2
      refine n_iast d142_141 (xa_numbers hB3.1 hc) (by omega) (by decide) ?_
      refine q_aload_n d142_142 rfl ?_
      refine q_getr (c := 8) (f := 7) d142_143 ⟨rfl, rfl⟩ (xk_136 hB3.1) (xf_aheads hB3.1) ?_
      refine q_aload_n d142_146 rfl ?_
      refine q_getv (c := 8) (f := 0) d142_147 ⟨rfl, by decide⟩ (xk_136 hB3.1) (Eq.trans (by (repeat (first | rw [wi_n (Or.inl (by omega))] | rw [wi_n (Or.inr (by omega))] | rw [wi_s] | rw [wr_i] | rw [cp_n (by omega)]))) hB3.2.2.1) ?_
      refine n_aald d142_150 (xk_aheads hB3.1) (by decide) (by omega) (by decide) (xr_aheads hB3.1 (by omega)) ?_
      refine q_iload_n d142_151 rfl ?_
      refine q_iload_n d142_152 rfl ?_
      refine n_iast d142_153 (xa_aheads hB3.1 (by omega)) (by omega) (by decide) ?_
      refine q_iconstN (z := 1) d142_154 ?_
      refine q_iload_n d142_155 rfl ?_
      refine n_ishl1 d142_156 (by omega) ?_
      refine q_iret d142_157 rfl ?_
      have g : Fi (fun a k => (a = 136 ∧ (k = 35 ∨ k = 36 ∨ k = 37)) ∨ a = 140 + c ∨ a = 147 + c ∨ a = 154 + c ∨ a = 161 + c ∨ a = 168 + c) M2 (zwi (zwi M2 (161 + c) (tn T) v9) (168 + c) (tn T) (nI ah)) := ((Fi.refl _ _).wi (Or.inr (by omega))).wi (Or.inr (by omega))
      exact (cOX.e hk9 rfl) _ _ (hB3.row g) ((f2.mono (fun a j q => FN_J q)).trans (g.mono (fun a j q => by unfold FJ; omega)))
  · by_cases hs : ∃ w, ytx b k0 = some (3, w)
    · obtain ⟨w, hw⟩ := hs
      have hk9 := k
      rw [show pS3 n b 3 ah T x y k0 = .ok (2 ^ tn T, ((pAd n b k0), pAp T 3 x y (nI w) ah)) by unfold pS3 pA3; rw [if_pos (by omega), pNu_g hw]] at hk9
      refine q_aload_n d142_105 rfl ?_
      refine q_getr (c := 8) (f := 6) d142_106 ⟨rfl, rfl⟩ (xk_136 hM.1.1) (xf_numbers hM.1.1) ?_
      refine q_aload_n d142_109 rfl ?_
      refine q_getv (c := 8) (f := 0) d142_110 ⟨rfl, by decide⟩ (xk_136 hM.1.1) hM.2.2.1 ?_
      refine n_aald d142_113 (xk_numbers hM.1.1) (by decide) (by omega) (by decide) (xr_numbers hM.1.1 (by omega)) ?_
      refine q_iload_n d142_114 rfl ?_
      refine q_iload_n d142_115 rfl ?_
      refine q_iconstN (z := 5) d142_116 ?_
      refine nc_eq 132 d142_117 (by decide) (by decide) (by decide) (fun q => absurd q (by decide)) (fun _ => ?_)
      refine q_iload_n d142_120 rfl ?_
      refine q_iconstN (z := 4) d142_121 ?_
      refine nc_eq 132 d142_122 (by decide) (by decide) (by decide) (fun q => absurd q (by decide)) (fun _ => ?_)
      refine q_aload_n d142_125 rfl ?_
      refine q_getv (c := 8) (f := 38) d142_126 ⟨rfl, by decide⟩ (xk_136 hM.1.1) hM.1.w ?_
      refine n0_eq 136 d142_129 (by decide) (by decide) (fun _ => ?_) (fun q => absurd q (by decide))
      refine q_aload_n d142_136 rfl ?_
      refine q_iconstN (z := 3) d142_137 ?_
      refine q_v1 d142_138 rfl rfl (xk_136 hM.1.1) (Nat.le_of_ble_eq_true rfl) (c143g hM.1 hv (by decide) (by decide) hw (fun hn M2 hG2 f2 => ?_) (fun hn v9 M2 hB2 f2 => ?_))
      · have hM2 := hM.fn hG2 f2
        have hk2 : zi M2 (140 + c) (tn T) = nI 3 := (f2.1 _ _ (by unfold FN; omega)).trans hkd
        refine n_iast d142_141 (xa_numbers hM2.1.1 hc) (by omega) (by decide) ?_
        refine q_aload_n d142_142 rfl ?_
        refine q_getr (c := 8) (f := 7) d142_143 ⟨rfl, rfl⟩ (xk_136 hM2.1.1) (xf_aheads hM2.1.1) ?_
        refine q_aload_n d142_146 rfl ?_
        refine q_getv (c := 8) (f := 0) d142_147 ⟨rfl, by decide⟩ (xk_136 hM2.1.1) (Eq.trans (by (repeat (first | rw [wi_n (Or.inl (by omega))] | rw [wi_n (Or.inr (by omega))] | rw [wi_s] | rw [wr_i] | rw [cp_n (by omega)]))) hM2.2.2.1) ?_
        refine n_aald d142_150 (xk_aheads hM2.1.1) (by decide) (by omega) (by decide) (xr_aheads hM2.1.1 (by omega)) ?_
        refine q_iload_n d142_151 rfl ?_
        refine q_iload_n d142_152 rfl ?_
        refine n_iast d142_153 (xa_aheads hM2.1.1 (by omega)) (by omega) (by decide) ?_
        refine q_iconstN (z := 1) d142_154 ?_
        refine q_iload_n d142_155 rfl ?_
        refine n_ishl1 d142_156 (by omega) ?_
        refine q_iret d142_157 rfl ?_
        have fr : Fi (FRw c (tn T)) M2 (zwi (zwi M2 (161 + c) (tn T) (nI w)) (168 + c) (tn T) (nI ah)) := ((Fi.refl _ _).wi ⟨by omega, rfl⟩).wi ⟨by omega, rfl⟩
        have hE := (hM2.rw fr).e (x := x) (y := y) (z := (nI w)) (ah := ah) (by (repeat (first | rw [wi_n (Or.inl (by omega))] | rw [wi_n (Or.inr (by omega))] | rw [wi_s] | rw [wr_i] | rw [cp_n (by omega)] | rw [cp_0 (by omega)])); exact hk2) (by (repeat (first | rw [wi_n (Or.inl (by omega))] | rw [wi_n (Or.inr (by omega))] | rw [wi_s] | rw [wr_i] | rw [cp_n (by omega)] | rw [cp_0 (by omega)])); exact (f2.1 _ _ (by unfold FN; omega)).trans hx) (by (repeat (first | rw [wi_n (Or.inl (by omega))] | rw [wi_n (Or.inr (by omega))] | rw [wi_s] | rw [wr_i] | rw [cp_n (by omega)] | rw [cp_0 (by omega)])); exact (f2.1 _ _ (by unfold FN; omega)).trans hy) (by (repeat (first | rw [wi_n (Or.inl (by omega))] | rw [wi_n (Or.inr (by omega))] | rw [wi_s] | rw [wr_i] | rw [cp_n (by omega)] | rw [cp_0 (by omega)]))) (wi_s _ _ _ _)
        have hn9 : ytx b (pAd n b k0) ≠ none := by
          obtain ⟨t, v, h5, h6⟩ := hE.2.2.2.2.2.1
          intro q
          have h5 : ytx b (pAd n b k0) = some (t, v) := h5
          rw [h5] at q; cases q
        exact (cOX_w hk9 ((f2.mono (fun a j q => FN_J q)).trans (fr.mono (fun a j q => FRw_J q))) (fun _ _ q => q)).1 hn9 _ hE (Fi.refl _ _)
      · have hB3 := hM.b hB2 f2
        refine n_iast d142_141 (xa_numbers hB3.1 hc) (by omega) (by decide) ?_
        refine q_aload_n d142_142 rfl ?_
        refine q_getr (c := 8) (f := 7) d142_143 ⟨rfl, rfl⟩ (xk_136 hB3.1) (xf_aheads hB3.1) ?_
        refine q_aload_n d142_146 rfl ?_
        refine q_getv (c := 8) (f := 0) d142_147 ⟨rfl, by decide⟩ (xk_136 hB3.1) (Eq.trans (by (repeat (first | rw [wi_n (Or.inl (by omega))] | rw [wi_n (Or.inr (by omega))] | rw [wi_s] | rw [wr_i] | rw [cp_n (by omega)]))) hB3.2.2.1) ?_
        refine n_aald d142_150 (xk_aheads hB3.1) (by decide) (by omega) (by decide) (xr_aheads hB3.1 (by omega)) ?_
        refine q_iload_n d142_151 rfl ?_
        refine q_iload_n d142_152 rfl ?_
        refine n_iast d142_153 (xa_aheads hB3.1 (by omega)) (by omega) (by decide) ?_
        refine q_iconstN (z := 1) d142_154 ?_
        refine q_iload_n d142_155 rfl ?_
        refine n_ishl1 d142_156 (by omega) ?_
        refine q_iret d142_157 rfl ?_
        have g : Fi (fun a k => (a = 136 ∧ (k = 35 ∨ k = 36 ∨ k = 37)) ∨ a = 140 + c ∨ a = 147 + c ∨ a = 154 + c ∨ a = 161 + c ∨ a = 168 + c) M2 (zwi (zwi M2 (161 + c) (tn T) v9) (168 + c) (tn T) (nI ah)) := ((Fi.refl _ _).wi (Or.inr (by omega))).wi (Or.inr (by omega))
        exact (cOX.bad hk9 (Or.inr ⟨_, _, rfl, hn, rfl⟩)) _ _ (hB3.row g) ((f2.mono (fun a j q => FN_J q)).trans (g.mono (fun a j q => by unfold FJ; omega)))
    · have hs2 : ∀ w, ytx b k0 ≠ some (3, w) := fun w q => hs ⟨w, q⟩
      have hk9 := k
      rw [show pS3 n b 3 ah T x y k0 = .error k0.2.1 by unfold pS3 pA3; rw [if_pos (by omega), pNu_b hs2]] at hk9
      refine q_aload_n d142_105 rfl ?_
      refine q_getr (c := 8) (f := 6) d142_106 ⟨rfl, rfl⟩ (xk_136 hM.1.1) (xf_numbers hM.1.1) ?_
      refine q_aload_n d142_109 rfl ?_
      refine q_getv (c := 8) (f := 0) d142_110 ⟨rfl, by decide⟩ (xk_136 hM.1.1) hM.2.2.1 ?_
      refine n_aald d142_113 (xk_numbers hM.1.1) (by decide) (by omega) (by decide) (xr_numbers hM.1.1 (by omega)) ?_
      refine q_iload_n d142_114 rfl ?_
      refine q_iload_n d142_115 rfl ?_
      refine q_iconstN (z := 5) d142_116 ?_
      refine nc_eq 132 d142_117 (by decide) (by decide) (by decide) (fun q => absurd q (by decide)) (fun _ => ?_)
      refine q_iload_n d142_120 rfl ?_
      refine q_iconstN (z := 4) d142_121 ?_
      refine nc_eq 132 d142_122 (by decide) (by decide) (by decide) (fun q => absurd q (by decide)) (fun _ => ?_)
      refine q_aload_n d142_125 rfl ?_
      refine q_getv (c := 8) (f := 38) d142_126 ⟨rfl, by decide⟩ (xk_136 hM.1.1) hM.1.w ?_
      refine n0_eq 136 d142_129 (by decide) (by decide) (fun _ => ?_) (fun q => absurd q (by decide))
      refine q_aload_n d142_136 rfl ?_
      refine q_iconstN (z := 3) d142_137 ?_
      refine q_v1 d142_138 rfl rfl (xk_136 hM.1.1) (Nat.le_of_ble_eq_true rfl) (c143e hM.1 hv (by decide) hs2 (fun v9 M2 hB2 f2 => ?_))
      have hB3 := hM.b hB2 f2
      refine n_iast d142_141 (xa_numbers hB3.1 hc) (by omega) (by decide) ?_
      refine q_aload_n d142_142 rfl ?_
      refine q_getr (c := 8) (f := 7) d142_143 ⟨rfl, rfl⟩ (xk_136 hB3.1) (xf_aheads hB3.1) ?_
      refine q_aload_n d142_146 rfl ?_
      refine q_getv (c := 8) (f := 0) d142_147 ⟨rfl, by decide⟩ (xk_136 hB3.1) (Eq.trans (by (repeat (first | rw [wi_n (Or.inl (by omega))] | rw [wi_n (Or.inr (by omega))] | rw [wi_s] | rw [wr_i] | rw [cp_n (by omega)]))) hB3.2.2.1) ?_
      refine n_aald d142_150 (xk_aheads hB3.1) (by decide) (by omega) (by decide) (xr_aheads hB3.1 (by omega)) ?_
      refine q_iload_n d142_151 rfl ?_
      refine q_iload_n d142_152 rfl ?_
      refine n_iast d142_153 (xa_aheads hB3.1 (by omega)) (by omega) (by decide) ?_
      refine q_iconstN (z := 1) d142_154 ?_
      refine q_iload_n d142_155 rfl ?_
      refine n_ishl1 d142_156 (by omega) ?_
      refine q_iret d142_157 rfl ?_
      have g : Fi (fun a k => (a = 136 ∧ (k = 35 ∨ k = 36 ∨ k = 37)) ∨ a = 140 + c ∨ a = 147 + c ∨ a = 154 + c ∨ a = 161 + c ∨ a = 168 + c) M2 (zwi (zwi M2 (161 + c) (tn T) v9) (168 + c) (tn T) (nI ah)) := ((Fi.refl _ _).wi (Or.inr (by omega))).wi (Or.inr (by omega))
      exact (cOX.e hk9 rfl) _ _ (hB3.row g) ((f2.mono (fun a j q => FN_J q)).trans (g.mono (fun a j q => by unfold FJ; omega)))
  · have hk9 := k
    rw [show pS3 n b 4 ah T x y k0 = .ok (2 ^ tn T, (k0, pAp T 4 x y (-1) ah)) by unfold pS3 pA3; rw [if_neg (by omega)]] at hk9
    refine q_aload_n d142_105 rfl ?_
    refine q_getr (c := 8) (f := 6) d142_106 ⟨rfl, rfl⟩ (xk_136 hM.1.1) (xf_numbers hM.1.1) ?_
    refine q_aload_n d142_109 rfl ?_
    refine q_getv (c := 8) (f := 0) d142_110 ⟨rfl, by decide⟩ (xk_136 hM.1.1) hM.2.2.1 ?_
    refine n_aald d142_113 (xk_numbers hM.1.1) (by decide) (by omega) (by decide) (xr_numbers hM.1.1 (by omega)) ?_
    refine q_iload_n d142_114 rfl ?_
    refine q_iload_n d142_115 rfl ?_
    refine q_iconstN (z := 5) d142_116 ?_
    refine nc_eq 132 d142_117 (by decide) (by decide) (by decide) (fun q => absurd q (by decide)) (fun _ => ?_)
    refine q_iload_n d142_120 rfl ?_
    refine q_iconstN (z := 4) d142_121 ?_
    refine nc_eq 132 d142_122 (by decide) (by decide) (by decide) (fun _ => ?_) (fun q => absurd q (by decide))
    refine q_iconst (x := (-1)) d142_132 rfl ?_
    refine q_goto 141 d142_133 (by decide) ?_
    refine n_iast d142_141 (xa_numbers hM.1.1 (by omega)) (by omega) (by decide) ?_
    refine q_aload_n d142_142 rfl ?_
    refine q_getr (c := 8) (f := 7) d142_143 ⟨rfl, rfl⟩ (xk_136 hM.1.1) (xf_aheads hM.1.1) ?_
    refine q_aload_n d142_146 rfl ?_
    refine q_getv (c := 8) (f := 0) d142_147 ⟨rfl, by decide⟩ (xk_136 hM.1.1) (Eq.trans (by (repeat (first | rw [wi_n (Or.inl (by omega))] | rw [wi_n (Or.inr (by omega))] | rw [wi_s] | rw [wr_i] | rw [cp_n (by omega)]))) hM.2.2.1) ?_
    refine n_aald d142_150 (xk_aheads hM.1.1) (by decide) (by omega) (by decide) (xr_aheads hM.1.1 (by omega)) ?_
    refine q_iload_n d142_151 rfl ?_
    refine q_iload_n d142_152 rfl ?_
    refine n_iast d142_153 (xa_aheads hM.1.1 (by omega)) (by omega) (by decide) ?_
    refine q_iconstN (z := 1) d142_154 ?_
    refine q_iload_n d142_155 rfl ?_
    refine n_ishl1 d142_156 (by omega) ?_
    refine q_iret d142_157 rfl ?_
    have fr : Fi (FRw c (tn T)) M1 (zwi (zwi M1 (161 + c) (tn T) (-1)) (168 + c) (tn T) (nI ah)) := ((Fi.refl _ _).wi ⟨by omega, rfl⟩).wi ⟨by omega, rfl⟩
    have hE := (hM.rw fr).e (x := x) (y := y) (z := (-1)) (ah := ah) (by (repeat (first | rw [wi_n (Or.inl (by omega))] | rw [wi_n (Or.inr (by omega))] | rw [wi_s] | rw [wr_i] | rw [cp_n (by omega)] | rw [cp_0 (by omega)])); exact hkd) (by (repeat (first | rw [wi_n (Or.inl (by omega))] | rw [wi_n (Or.inr (by omega))] | rw [wi_s] | rw [wr_i] | rw [cp_n (by omega)] | rw [cp_0 (by omega)])); exact hx) (by (repeat (first | rw [wi_n (Or.inl (by omega))] | rw [wi_n (Or.inr (by omega))] | rw [wi_s] | rw [wr_i] | rw [cp_n (by omega)] | rw [cp_0 (by omega)])); exact hy) (by (repeat (first | rw [wi_n (Or.inl (by omega))] | rw [wi_n (Or.inr (by omega))] | rw [wi_s] | rw [wr_i] | rw [cp_n (by omega)] | rw [cp_0 (by omega)]))) (wi_s _ _ _ _)
    have hn9 : ytx b k0 ≠ none := by
      obtain ⟨t, v, h5, h6⟩ := hE.2.2.2.2.2.1
      intro q
      have h5 : ytx b k0 = some (t, v) := h5
      rw [h5] at q; cases q
    exact (cOX_w hk9 (fr.mono (fun a j q => FRw_J q)) (fun _ _ q => q)).1 hn9 _ hE (Fi.refl _ _)
  · have hk9 := k
    rw [show pS3 n b 5 ah T x y k0 = .ok (2 ^ tn T, (k0, pAp T 5 x y (-1) ah)) by unfold pS3 pA3; rw [if_neg (by omega)]] at hk9
    refine q_aload_n d142_105 rfl ?_
    refine q_getr (c := 8) (f := 6) d142_106 ⟨rfl, rfl⟩ (xk_136 hM.1.1) (xf_numbers hM.1.1) ?_
    refine q_aload_n d142_109 rfl ?_
    refine q_getv (c := 8) (f := 0) d142_110 ⟨rfl, by decide⟩ (xk_136 hM.1.1) hM.2.2.1 ?_
    refine n_aald d142_113 (xk_numbers hM.1.1) (by decide) (by omega) (by decide) (xr_numbers hM.1.1 (by omega)) ?_
    refine q_iload_n d142_114 rfl ?_
    refine q_iload_n d142_115 rfl ?_
    refine q_iconstN (z := 5) d142_116 ?_
    refine nc_eq 132 d142_117 (by decide) (by decide) (by decide) (fun _ => ?_) (fun q => absurd q (by decide))
    refine q_iconst (x := (-1)) d142_132 rfl ?_
    refine q_goto 141 d142_133 (by decide) ?_
    refine n_iast d142_141 (xa_numbers hM.1.1 (by omega)) (by omega) (by decide) ?_
    refine q_aload_n d142_142 rfl ?_
    refine q_getr (c := 8) (f := 7) d142_143 ⟨rfl, rfl⟩ (xk_136 hM.1.1) (xf_aheads hM.1.1) ?_
    refine q_aload_n d142_146 rfl ?_
    refine q_getv (c := 8) (f := 0) d142_147 ⟨rfl, by decide⟩ (xk_136 hM.1.1) (Eq.trans (by (repeat (first | rw [wi_n (Or.inl (by omega))] | rw [wi_n (Or.inr (by omega))] | rw [wi_s] | rw [wr_i] | rw [cp_n (by omega)]))) hM.2.2.1) ?_
    refine n_aald d142_150 (xk_aheads hM.1.1) (by decide) (by omega) (by decide) (xr_aheads hM.1.1 (by omega)) ?_
    refine q_iload_n d142_151 rfl ?_
    refine q_iload_n d142_152 rfl ?_
    refine n_iast d142_153 (xa_aheads hM.1.1 (by omega)) (by omega) (by decide) ?_
    refine q_iconstN (z := 1) d142_154 ?_
    refine q_iload_n d142_155 rfl ?_
    refine n_ishl1 d142_156 (by omega) ?_
    refine q_iret d142_157 rfl ?_
    have fr : Fi (FRw c (tn T)) M1 (zwi (zwi M1 (161 + c) (tn T) (-1)) (168 + c) (tn T) (nI ah)) := ((Fi.refl _ _).wi ⟨by omega, rfl⟩).wi ⟨by omega, rfl⟩
    have hE := (hM.rw fr).e (x := x) (y := y) (z := (-1)) (ah := ah) (by (repeat (first | rw [wi_n (Or.inl (by omega))] | rw [wi_n (Or.inr (by omega))] | rw [wi_s] | rw [wr_i] | rw [cp_n (by omega)] | rw [cp_0 (by omega)])); exact hkd) (by (repeat (first | rw [wi_n (Or.inl (by omega))] | rw [wi_n (Or.inr (by omega))] | rw [wi_s] | rw [wr_i] | rw [cp_n (by omega)] | rw [cp_0 (by omega)])); exact hx) (by (repeat (first | rw [wi_n (Or.inl (by omega))] | rw [wi_n (Or.inr (by omega))] | rw [wi_s] | rw [wr_i] | rw [cp_n (by omega)] | rw [cp_0 (by omega)])); exact hy) (by (repeat (first | rw [wi_n (Or.inl (by omega))] | rw [wi_n (Or.inr (by omega))] | rw [wi_s] | rw [wr_i] | rw [cp_n (by omega)] | rw [cp_0 (by omega)]))) (wi_s _ _ _ _)
    have hn9 : ytx b k0 ≠ none := by
      obtain ⟨t, v, h5, h6⟩ := hE.2.2.2.2.2.1
      intro q
      have h5 : ytx b k0 = some (t, v) := h5
      rw [h5] at q; cases q
    exact (cOX_w hk9 (fr.mono (fun a j q => FRw_J q)) (fun _ _ q => q)).1 hn9 _ hE (Fi.refl _ _)
theorem g142b {d : Nat} {Q : Option Value → zM → Prop} {M1 : zM} {c n o kd ah : Nat} {b : Nat → Nat} {k0 : yK} {T : yT} {x : Int32} (hM : GM M1 c n b o k0 T) (hv : yKv n b k0) (h12 : tn T < 12) (hk : kd < 6) (hkd : zi M1 (140 + c) (tn T) = nI kd) (hx : zi M1 (147 + c) (tn T) = x) (k : cOX Q M1 c n b o (pS2 n b kd ah T x k0)) : qW (zEv (d + 11)) 142 Q 68 [(3, .int (nI kd)), (2, .int (nI (tn T))), (0, .ref 136), (1, .int (nI ah))] [] M1 := by
  have hc := hM.2.1
  have hv1 := (pAd_v hv (fun i hi => (hM.1.2.1.2.2 i hi).2)).1
  rcases (show kd = 0 ∨ kd = 1 ∨ kd = 2 ∨ kd = 3 ∨ kd = 4 ∨ kd = 5 by omega) with rfl | rfl | rfl | rfl | rfl | rfl
  · have hk9 := k
    rw [show pS2 n b 0 ah T x k0 = pS3 n b 0 ah T x (-1) k0 by unfold pS2 pA2; rw [if_neg (by omega)]] at hk9
    refine q_aload_n d142_68 rfl ?_
    refine q_getr (c := 8) (f := 5) d142_69 ⟨rfl, rfl⟩ (xk_136 hM.1.1) (xf_seconds hM.1.1) ?_
    refine q_aload_n d142_72 rfl ?_
    refine q_getv (c := 8) (f := 0) d142_73 ⟨rfl, by decide⟩ (xk_136 hM.1.1) hM.2.2.1 ?_
    refine n_aald d142_76 (xk_seconds hM.1.1) (by decide) (by omega) (by decide) (xr_seconds hM.1.1 (by omega)) ?_
    refine q_iload_n d142_77 rfl ?_
    refine q_iload_n d142_78 rfl ?_
    refine q_iconstN (z := 2) d142_79 ?_
    refine nc_eq 88 d142_80 (by decide) (by decide) (by decide) (fun q => absurd q (by decide)) (fun _ => ?_)
    refine q_iload_n d142_83 rfl ?_
    refine q_iconstN (z := 4) d142_84 ?_
    refine nc_ne 95 d142_85 (by decide) (by decide) (by decide) (fun _ => ?_) (fun q => absurd q (by decide))
    refine q_iconst (x := (-1)) d142_95 rfl ?_
    refine q_goto 104 d142_96 (by decide) ?_
    refine n_iast d142_104 (xa_seconds hM.1.1 (by omega)) (by omega) (by decide) ?_
    have fr : Fi (FRw c (tn T)) M1 (zwi M1 (154 + c) (tn T) (-1)) := (Fi.refl _ _).wi ⟨by omega, rfl⟩
    exact g142c (hM.rw fr) hv h12 (by omega) (by (repeat (first | rw [wi_n (Or.inl (by omega))] | rw [wi_n (Or.inr (by omega))] | rw [wi_s] | rw [wr_i] | rw [cp_n (by omega)] | rw [cp_0 (by omega)])); exact hkd) (by (repeat (first | rw [wi_n (Or.inl (by omega))] | rw [wi_n (Or.inr (by omega))] | rw [wi_s] | rw [wr_i] | rw [cp_n (by omega)] | rw [cp_0 (by omega)])); exact hx) (by (repeat (first | rw [wi_n (Or.inl (by omega))] | rw [wi_n (Or.inr (by omega))] | rw [wi_s] | rw [wr_i] | rw [cp_n (by omega)] | rw [cp_0 (by omega)]))) (cOX_w hk9 (fr.mono (fun a j q => FRw_J q)) (fun _ _ q => q))
  · have hk9 := k
    rw [show pS2 n b 1 ah T x k0 = pS3 n b 1 ah T x (-1) k0 by unfold pS2 pA2; rw [if_neg (by omega)]] at hk9
    refine q_aload_n d142_68 rfl ?_
    refine q_getr (c := 8) (f := 5) d142_69 ⟨rfl, rfl⟩ (xk_136 hM.1.1) (xf_seconds hM.1.1) ?_
    refine q_aload_n d142_72 rfl ?_
    refine q_getv (c := 8) (f := 0) d142_73 ⟨rfl, by decide⟩ (xk_136 hM.1.1) hM.2.2.1 ?_
    refine n_aald d142_76 (xk_seconds hM.1.1) (by decide) (by omega) (by decide) (xr_seconds hM.1.1 (by omega)) ?_
    refine q_iload_n d142_77 rfl ?_
    refine q_iload_n d142_78 rfl ?_
    refine q_iconstN (z := 2) d142_79 ?_
    refine nc_eq 88 d142_80 (by decide) (by decide) (by decide) (fun q => absurd q (by decide)) (fun _ => ?_)
    refine q_iload_n d142_83 rfl ?_
    refine q_iconstN (z := 4) d142_84 ?_
    refine nc_ne 95 d142_85 (by decide) (by decide) (by decide) (fun _ => ?_) (fun q => absurd q (by decide))
    refine q_iconst (x := (-1)) d142_95 rfl ?_
    refine q_goto 104 d142_96 (by decide) ?_
    refine n_iast d142_104 (xa_seconds hM.1.1 (by omega)) (by omega) (by decide) ?_
    have fr : Fi (FRw c (tn T)) M1 (zwi M1 (154 + c) (tn T) (-1)) := (Fi.refl _ _).wi ⟨by omega, rfl⟩
    exact g142c (hM.rw fr) hv h12 (by omega) (by (repeat (first | rw [wi_n (Or.inl (by omega))] | rw [wi_n (Or.inr (by omega))] | rw [wi_s] | rw [wr_i] | rw [cp_n (by omega)] | rw [cp_0 (by omega)])); exact hkd) (by (repeat (first | rw [wi_n (Or.inl (by omega))] | rw [wi_n (Or.inr (by omega))] | rw [wi_s] | rw [wr_i] | rw [cp_n (by omega)] | rw [cp_0 (by omega)])); exact hx) (by (repeat (first | rw [wi_n (Or.inl (by omega))] | rw [wi_n (Or.inr (by omega))] | rw [wi_s] | rw [wr_i] | rw [cp_n (by omega)] | rw [cp_0 (by omega)]))) (cOX_w hk9 (fr.mono (fun a j q => FRw_J q)) (fun _ _ q => q))
  · by_cases hs : ∃ w, ytx b k0 = some (2, w)
    · obtain ⟨w, hw⟩ := hs
      have hk9 := k
      rw [show pS2 n b 2 ah T x k0 = pS3 n b 2 ah T x (nI w) (pAd n b k0) by unfold pS2 pA2; rw [if_pos (by omega), pAc_g hw]] at hk9
      refine q_aload_n d142_68 rfl ?_
      refine q_getr (c := 8) (f := 5) d142_69 ⟨rfl, rfl⟩ (xk_136 hM.1.1) (xf_seconds hM.1.1) ?_
      refine q_aload_n d142_72 rfl ?_
      refine q_getv (c := 8) (f := 0) d142_73 ⟨rfl, by decide⟩ (xk_136 hM.1.1) hM.2.2.1 ?_
      refine n_aald d142_76 (xk_seconds hM.1.1) (by decide) (by omega) (by decide) (xr_seconds hM.1.1 (by omega)) ?_
      refine q_iload_n d142_77 rfl ?_
      refine q_iload_n d142_78 rfl ?_
      refine q_iconstN (z := 2) d142_79 ?_
      refine nc_eq 88 d142_80 (by decide) (by decide) (by decide) (fun _ => ?_) (fun q => absurd q (by decide))
      refine q_aload_n d142_88 rfl ?_
      refine q_getv (c := 8) (f := 38) d142_89 ⟨rfl, by decide⟩ (xk_136 hM.1.1) hM.1.w ?_
      refine n0_eq 99 d142_92 (by decide) (by decide) (fun _ => ?_) (fun q => absurd q (by decide))
      refine q_aload_n d142_99 rfl ?_
      refine q_iconstN (z := 2) d142_100 ?_
      refine q_v1 d142_101 rfl rfl (xk_136 hM.1.1) (Nat.le_of_ble_eq_true rfl) (c143g hM.1 hv (by decide) (by decide) hw (fun hn M2 hG2 f2 => ?_) (fun hn v9 M2 hB2 f2 => ?_))
      · have hM2 := hM.fn hG2 f2
        have hk2 : zi M2 (140 + c) (tn T) = nI 2 := (f2.1 _ _ (by unfold FN; omega)).trans hkd
        refine n_iast d142_104 (xa_seconds hM2.1.1 hc) (by omega) (by decide) ?_
        have fr : Fi (FRw c (tn T)) M2 (zwi M2 (154 + c) (tn T) (nI w)) := (Fi.refl _ _).wi ⟨by omega, rfl⟩
        exact g142c (hM2.rw fr) hv1 h12 (by omega) (by (repeat (first | rw [wi_n (Or.inl (by omega))] | rw [wi_n (Or.inr (by omega))] | rw [wi_s] | rw [wr_i] | rw [cp_n (by omega)] | rw [cp_0 (by omega)])); exact hk2) (by (repeat (first | rw [wi_n (Or.inl (by omega))] | rw [wi_n (Or.inr (by omega))] | rw [wi_s] | rw [wr_i] | rw [cp_n (by omega)] | rw [cp_0 (by omega)])); exact (f2.1 _ _ (by unfold FN; omega)).trans hx) (by (repeat (first | rw [wi_n (Or.inl (by omega))] | rw [wi_n (Or.inr (by omega))] | rw [wi_s] | rw [wr_i] | rw [cp_n (by omega)] | rw [cp_0 (by omega)]))) (cOX_w hk9 ((f2.mono (fun a j q => FN_J q)).trans (fr.mono (fun a j q => FRw_J q))) (fun _ _ q => q))
      · have hB3 := hM.b hB2 f2
        refine n_iast d142_104 (xa_seconds hB3.1 hc) (by omega) (by decide) ?_
        have g : Fi (fun a k => (a = 136 ∧ (k = 35 ∨ k = 36 ∨ k = 37)) ∨ a = 140 + c ∨ a = 147 + c ∨ a = 154 + c ∨ a = 161 + c ∨ a = 168 + c) M2 (zwi M2 (154 + c) (tn T) v9) := (Fi.refl _ _).wi (Or.inr (by omega))
        exact b142c (hB3.row g) h12 (by omega) (fun v M' h1 h2 => (cOX.bad hk9 (pS3_b hn)) v M' h1 (((f2.mono (fun a j q => FN_J q)).trans (g.mono (fun a j q => by unfold FJ; omega))).trans h2))
    · have hs2 : ∀ w, ytx b k0 ≠ some (2, w) := fun w q => hs ⟨w, q⟩
      have hk9 := k
      rw [show pS2 n b 2 ah T x k0 = .error k0.2.1 by unfold pS2 pA2; rw [if_pos (by omega), pAc_b hs2]] at hk9
      refine q_aload_n d142_68 rfl ?_
      refine q_getr (c := 8) (f := 5) d142_69 ⟨rfl, rfl⟩ (xk_136 hM.1.1) (xf_seconds hM.1.1) ?_
      refine q_aload_n d142_72 rfl ?_
      refine q_getv (c := 8) (f := 0) d142_73 ⟨rfl, by decide⟩ (xk_136 hM.1.1) hM.2.2.1 ?_
      refine n_aald d142_76 (xk_seconds hM.1.1) (by decide) (by omega) (by decide) (xr_seconds hM.1.1 (by omega)) ?_
      refine q_iload_n d142_77 rfl ?_
      refine q_iload_n d142_78 rfl ?_
      refine q_iconstN (z := 2) d142_79 ?_
      refine nc_eq 88 d142_80 (by decide) (by decide) (by decide) (fun _ => ?_) (fun q => absurd q (by decide))
      refine q_aload_n d142_88 rfl ?_
      refine q_getv (c := 8) (f := 38) d142_89 ⟨rfl, by decide⟩ (xk_136 hM.1.1) hM.1.w ?_
      refine n0_eq 99 d142_92 (by decide) (by decide) (fun _ => ?_) (fun q => absurd q (by decide))
      refine q_aload_n d142_99 rfl ?_
      refine q_iconstN (z := 2) d142_100 ?_
      refine q_v1 d142_101 rfl rfl (xk_136 hM.1.1) (Nat.le_of_ble_eq_true rfl) (c143e hM.1 hv (by decide) hs2 (fun v9 M2 hB2 f2 => ?_))
      have hB3 := hM.b hB2 f2
      refine n_iast d142_104 (xa_seconds hB3.1 hc) (by omega) (by decide) ?_
      have g : Fi (fun a k => (a = 136 ∧ (k = 35 ∨ k = 36 ∨ k = 37)) ∨ a = 140 + c ∨ a = 147 + c ∨ a = 154 + c ∨ a = 161 + c ∨ a = 168 + c) M2 (zwi M2 (154 + c) (tn T) v9) := (Fi.refl _ _).wi (Or.inr (by omega))
      exact b142c (hB3.row g) h12 (by omega) (fun v M' h1 h2 => (cOX.e hk9 rfl) v M' h1 (((f2.mono (fun a j q => FN_J q)).trans (g.mono (fun a j q => by unfold FJ; omega))).trans h2))
  · have hk9 := k
    rw [show pS2 n b 3 ah T x k0 = pS3 n b 3 ah T x (-1) k0 by unfold pS2 pA2; rw [if_neg (by omega)]] at hk9
    refine q_aload_n d142_68 rfl ?_
    refine q_getr (c := 8) (f := 5) d142_69 ⟨rfl, rfl⟩ (xk_136 hM.1.1) (xf_seconds hM.1.1) ?_
    refine q_aload_n d142_72 rfl ?_
    refine q_getv (c := 8) (f := 0) d142_73 ⟨rfl, by decide⟩ (xk_136 hM.1.1) hM.2.2.1 ?_
    refine n_aald d142_76 (xk_seconds hM.1.1) (by decide) (by omega) (by decide) (xr_seconds hM.1.1 (by omega)) ?_
    refine q_iload_n d142_77 rfl ?_
    refine q_iload_n d142_78 rfl ?_
    refine q_iconstN (z := 2) d142_79 ?_
    refine nc_eq 88 d142_80 (by decide) (by decide) (by decide) (fun q => absurd q (by decide)) (fun _ => ?_)
    refine q_iload_n d142_83 rfl ?_
    refine q_iconstN (z := 4) d142_84 ?_
    refine nc_ne 95 d142_85 (by decide) (by decide) (by decide) (fun _ => ?_) (fun q => absurd q (by decide))
    refine q_iconst (x := (-1)) d142_95 rfl ?_
    refine q_goto 104 d142_96 (by decide) ?_
    refine n_iast d142_104 (xa_seconds hM.1.1 (by omega)) (by omega) (by decide) ?_
    have fr : Fi (FRw c (tn T)) M1 (zwi M1 (154 + c) (tn T) (-1)) := (Fi.refl _ _).wi ⟨by omega, rfl⟩
    exact g142c (hM.rw fr) hv h12 (by omega) (by (repeat (first | rw [wi_n (Or.inl (by omega))] | rw [wi_n (Or.inr (by omega))] | rw [wi_s] | rw [wr_i] | rw [cp_n (by omega)] | rw [cp_0 (by omega)])); exact hkd) (by (repeat (first | rw [wi_n (Or.inl (by omega))] | rw [wi_n (Or.inr (by omega))] | rw [wi_s] | rw [wr_i] | rw [cp_n (by omega)] | rw [cp_0 (by omega)])); exact hx) (by (repeat (first | rw [wi_n (Or.inl (by omega))] | rw [wi_n (Or.inr (by omega))] | rw [wi_s] | rw [wr_i] | rw [cp_n (by omega)] | rw [cp_0 (by omega)]))) (cOX_w hk9 (fr.mono (fun a j q => FRw_J q)) (fun _ _ q => q))
  · by_cases hs : ∃ w, ytx b k0 = some (2, w)
    · obtain ⟨w, hw⟩ := hs
      have hk9 := k
      rw [show pS2 n b 4 ah T x k0 = pS3 n b 4 ah T x (nI w) (pAd n b k0) by unfold pS2 pA2; rw [if_pos (by omega), pAc_g hw]] at hk9
      refine q_aload_n d142_68 rfl ?_
      refine q_getr (c := 8) (f := 5) d142_69 ⟨rfl, rfl⟩ (xk_136 hM.1.1) (xf_seconds hM.1.1) ?_
      refine q_aload_n d142_72 rfl ?_
      refine q_getv (c := 8) (f := 0) d142_73 ⟨rfl, by decide⟩ (xk_136 hM.1.1) hM.2.2.1 ?_
      refine n_aald d142_76 (xk_seconds hM.1.1) (by decide) (by omega) (by decide) (xr_seconds hM.1.1 (by omega)) ?_
      refine q_iload_n d142_77 rfl ?_
      refine q_iload_n d142_78 rfl ?_
      refine q_iconstN (z := 2) d142_79 ?_
      refine nc_eq 88 d142_80 (by decide) (by decide) (by decide) (fun q => absurd q (by decide)) (fun _ => ?_)
      refine q_iload_n d142_83 rfl ?_
      refine q_iconstN (z := 4) d142_84 ?_
      refine nc_ne 95 d142_85 (by decide) (by decide) (by decide) (fun q => absurd q (by decide)) (fun _ => ?_)
      refine q_aload_n d142_88 rfl ?_
      refine q_getv (c := 8) (f := 38) d142_89 ⟨rfl, by decide⟩ (xk_136 hM.1.1) hM.1.w ?_
      refine n0_eq 99 d142_92 (by decide) (by decide) (fun _ => ?_) (fun q => absurd q (by decide))
      refine q_aload_n d142_99 rfl ?_
      refine q_iconstN (z := 2) d142_100 ?_
      refine q_v1 d142_101 rfl rfl (xk_136 hM.1.1) (Nat.le_of_ble_eq_true rfl) (c143g hM.1 hv (by decide) (by decide) hw (fun hn M2 hG2 f2 => ?_) (fun hn v9 M2 hB2 f2 => ?_))
      · have hM2 := hM.fn hG2 f2
        have hk2 : zi M2 (140 + c) (tn T) = nI 4 := (f2.1 _ _ (by unfold FN; omega)).trans hkd
        refine n_iast d142_104 (xa_seconds hM2.1.1 hc) (by omega) (by decide) ?_
        have fr : Fi (FRw c (tn T)) M2 (zwi M2 (154 + c) (tn T) (nI w)) := (Fi.refl _ _).wi ⟨by omega, rfl⟩
        exact g142c (hM2.rw fr) hv1 h12 (by omega) (by (repeat (first | rw [wi_n (Or.inl (by omega))] | rw [wi_n (Or.inr (by omega))] | rw [wi_s] | rw [wr_i] | rw [cp_n (by omega)] | rw [cp_0 (by omega)])); exact hk2) (by (repeat (first | rw [wi_n (Or.inl (by omega))] | rw [wi_n (Or.inr (by omega))] | rw [wi_s] | rw [wr_i] | rw [cp_n (by omega)] | rw [cp_0 (by omega)])); exact (f2.1 _ _ (by unfold FN; omega)).trans hx) (by (repeat (first | rw [wi_n (Or.inl (by omega))] | rw [wi_n (Or.inr (by omega))] | rw [wi_s] | rw [wr_i] | rw [cp_n (by omega)] | rw [cp_0 (by omega)]))) (cOX_w hk9 ((f2.mono (fun a j q => FN_J q)).trans (fr.mono (fun a j q => FRw_J q))) (fun _ _ q => q))
      · have hB3 := hM.b hB2 f2
        refine n_iast d142_104 (xa_seconds hB3.1 hc) (by omega) (by decide) ?_
        have g : Fi (fun a k => (a = 136 ∧ (k = 35 ∨ k = 36 ∨ k = 37)) ∨ a = 140 + c ∨ a = 147 + c ∨ a = 154 + c ∨ a = 161 + c ∨ a = 168 + c) M2 (zwi M2 (154 + c) (tn T) v9) := (Fi.refl _ _).wi (Or.inr (by omega))
        exact b142c (hB3.row g) h12 (by omega) (fun v M' h1 h2 => (cOX.bad hk9 (pS3_b hn)) v M' h1 (((f2.mono (fun a j q => FN_J q)).trans (g.mono (fun a j q => by unfold FJ; omega))).trans h2))
    · have hs2 : ∀ w, ytx b k0 ≠ some (2, w) := fun w q => hs ⟨w, q⟩
      have hk9 := k
      rw [show pS2 n b 4 ah T x k0 = .error k0.2.1 by unfold pS2 pA2; rw [if_pos (by omega), pAc_b hs2]] at hk9
      refine q_aload_n d142_68 rfl ?_
      refine q_getr (c := 8) (f := 5) d142_69 ⟨rfl, rfl⟩ (xk_136 hM.1.1) (xf_seconds hM.1.1) ?_
      refine q_aload_n d142_72 rfl ?_
      refine q_getv (c := 8) (f := 0) d142_73 ⟨rfl, by decide⟩ (xk_136 hM.1.1) hM.2.2.1 ?_
      refine n_aald d142_76 (xk_seconds hM.1.1) (by decide) (by omega) (by decide) (xr_seconds hM.1.1 (by omega)) ?_
      refine q_iload_n d142_77 rfl ?_
      refine q_iload_n d142_78 rfl ?_
      refine q_iconstN (z := 2) d142_79 ?_
      refine nc_eq 88 d142_80 (by decide) (by decide) (by decide) (fun q => absurd q (by decide)) (fun _ => ?_)
      refine q_iload_n d142_83 rfl ?_
      refine q_iconstN (z := 4) d142_84 ?_
      refine nc_ne 95 d142_85 (by decide) (by decide) (by decide) (fun q => absurd q (by decide)) (fun _ => ?_)
      refine q_aload_n d142_88 rfl ?_
      refine q_getv (c := 8) (f := 38) d142_89 ⟨rfl, by decide⟩ (xk_136 hM.1.1) hM.1.w ?_
      refine n0_eq 99 d142_92 (by decide) (by decide) (fun _ => ?_) (fun q => absurd q (by decide))
      refine q_aload_n d142_99 rfl ?_
      refine q_iconstN (z := 2) d142_100 ?_
      refine q_v1 d142_101 rfl rfl (xk_136 hM.1.1) (Nat.le_of_ble_eq_true rfl) (c143e hM.1 hv (by decide) hs2 (fun v9 M2 hB2 f2 => ?_))
      have hB3 := hM.b hB2 f2
      refine n_iast d142_104 (xa_seconds hB3.1 hc) (by omega) (by decide) ?_
      have g : Fi (fun a k => (a = 136 ∧ (k = 35 ∨ k = 36 ∨ k = 37)) ∨ a = 140 + c ∨ a = 147 + c ∨ a = 154 + c ∨ a = 161 + c ∨ a = 168 + c) M2 (zwi M2 (154 + c) (tn T) v9) := (Fi.refl _ _).wi (Or.inr (by omega))
      exact b142c (hB3.row g) h12 (by omega) (fun v M' h1 h2 => (cOX.e hk9 rfl) v M' h1 (((f2.mono (fun a j q => FN_J q)).trans (g.mono (fun a j q => by unfold FJ; omega))).trans h2))
  · have hk9 := k
    rw [show pS2 n b 5 ah T x k0 = pS3 n b 5 ah T x (-1) k0 by unfold pS2 pA2; rw [if_neg (by omega)]] at hk9
    refine q_aload_n d142_68 rfl ?_
    refine q_getr (c := 8) (f := 5) d142_69 ⟨rfl, rfl⟩ (xk_136 hM.1.1) (xf_seconds hM.1.1) ?_
    refine q_aload_n d142_72 rfl ?_
    refine q_getv (c := 8) (f := 0) d142_73 ⟨rfl, by decide⟩ (xk_136 hM.1.1) hM.2.2.1 ?_
    refine n_aald d142_76 (xk_seconds hM.1.1) (by decide) (by omega) (by decide) (xr_seconds hM.1.1 (by omega)) ?_
    refine q_iload_n d142_77 rfl ?_
    refine q_iload_n d142_78 rfl ?_
    refine q_iconstN (z := 2) d142_79 ?_
    refine nc_eq 88 d142_80 (by decide) (by decide) (by decide) (fun q => absurd q (by decide)) (fun _ => ?_)
    refine q_iload_n d142_83 rfl ?_
    refine q_iconstN (z := 4) d142_84 ?_
    refine nc_ne 95 d142_85 (by decide) (by decide) (by decide) (fun _ => ?_) (fun q => absurd q (by decide))
    refine q_iconst (x := (-1)) d142_95 rfl ?_
    refine q_goto 104 d142_96 (by decide) ?_
    refine n_iast d142_104 (xa_seconds hM.1.1 (by omega)) (by omega) (by decide) ?_
    have fr : Fi (FRw c (tn T)) M1 (zwi M1 (154 + c) (tn T) (-1)) := (Fi.refl _ _).wi ⟨by omega, rfl⟩
    exact g142c (hM.rw fr) hv h12 (by omega) (by (repeat (first | rw [wi_n (Or.inl (by omega))] | rw [wi_n (Or.inr (by omega))] | rw [wi_s] | rw [wr_i] | rw [cp_n (by omega)] | rw [cp_0 (by omega)])); exact hkd) (by (repeat (first | rw [wi_n (Or.inl (by omega))] | rw [wi_n (Or.inr (by omega))] | rw [wi_s] | rw [wr_i] | rw [cp_n (by omega)] | rw [cp_0 (by omega)])); exact hx) (by (repeat (first | rw [wi_n (Or.inl (by omega))] | rw [wi_n (Or.inr (by omega))] | rw [wi_s] | rw [wr_i] | rw [cp_n (by omega)] | rw [cp_0 (by omega)]))) (cOX_w hk9 (fr.mono (fun a j q => FRw_J q)) (fun _ _ q => q))
theorem g142a {d : Nat} {Q : Option Value → zM → Prop} {M1 : zM} {c n o kd ah : Nat} {b : Nat → Nat} {k0 : yK} {T : yT}  (hM : GM M1 c n b o k0 T) (hv : yKv n b k0) (h12 : tn T < 12) (hk : kd < 6) (hkd : zi M1 (140 + c) (tn T) = nI kd) (k : cOX Q M1 c n b o (pS1 n b kd ah T k0)) : qW (zEv (d + 11)) 142 Q 36 [(3, .int (nI kd)), (2, .int (nI (tn T))), (0, .ref 136), (1, .int (nI ah))] [] M1 := by
  have hc := hM.2.1
  have hv1 := (pAd_v hv (fun i hi => (hM.1.2.1.2.2 i hi).2)).1
  rcases (show kd = 0 ∨ kd = 1 ∨ kd = 2 ∨ kd = 3 ∨ kd = 4 ∨ kd = 5 by omega) with rfl | rfl | rfl | rfl | rfl | rfl
  · by_cases hs : ∃ w, ytx b k0 = some (2, w)
    · obtain ⟨w, hw⟩ := hs
      have hk9 := k
      rw [show pS1 n b 0 ah T k0 = pS2 n b 0 ah T (nI w) (pAd n b k0) by unfold pS1 pA1; rw [if_neg (by omega), pAc_g hw]] at hk9
      refine q_aload_n d142_36 rfl ?_
      refine q_getr (c := 8) (f := 4) d142_37 ⟨rfl, rfl⟩ (xk_136 hM.1.1) (xf_firsts hM.1.1) ?_
      refine q_aload_n d142_40 rfl ?_
      refine q_getv (c := 8) (f := 0) d142_41 ⟨rfl, by decide⟩ (xk_136 hM.1.1) hM.2.2.1 ?_
      refine n_aald d142_44 (xk_firsts hM.1.1) (by decide) (by omega) (by decide) (xr_firsts hM.1.1 (by omega)) ?_
      refine q_iload_n d142_45 rfl ?_
      refine q_iload_n d142_46 rfl ?_
      refine q_iconstN (z := 5) d142_47 ?_
      refine nc_eq 58 d142_48 (by decide) (by decide) (by decide) (fun q => absurd q (by decide)) (fun _ => ?_)
      refine q_aload_n d142_51 rfl ?_
      refine q_getv (c := 8) (f := 38) d142_52 ⟨rfl, by decide⟩ (xk_136 hM.1.1) hM.1.w ?_
      refine n0_eq 62 d142_55 (by decide) (by decide) (fun _ => ?_) (fun q => absurd q (by decide))
      refine q_aload_n d142_62 rfl ?_
      refine q_iconstN (z := 2) d142_63 ?_
      refine q_v1 d142_64 rfl rfl (xk_136 hM.1.1) (Nat.le_of_ble_eq_true rfl) (c143g hM.1 hv (by decide) (by decide) hw (fun hn M2 hG2 f2 => ?_) (fun hn v9 M2 hB2 f2 => ?_))
      · have hM2 := hM.fn hG2 f2
        have hk2 : zi M2 (140 + c) (tn T) = nI 0 := (f2.1 _ _ (by unfold FN; omega)).trans hkd
        refine n_iast d142_67 (xa_firsts hM2.1.1 hc) (by omega) (by decide) ?_
        have fr : Fi (FRw c (tn T)) M2 (zwi M2 (147 + c) (tn T) (nI w)) := (Fi.refl _ _).wi ⟨by omega, rfl⟩
        exact g142b (hM2.rw fr) hv1 h12 (by omega) (by (repeat (first | rw [wi_n (Or.inl (by omega))] | rw [wi_n (Or.inr (by omega))] | rw [wi_s] | rw [wr_i] | rw [cp_n (by omega)] | rw [cp_0 (by omega)])); exact hk2) (by (repeat (first | rw [wi_n (Or.inl (by omega))] | rw [wi_n (Or.inr (by omega))] | rw [wi_s] | rw [wr_i] | rw [cp_n (by omega)] | rw [cp_0 (by omega)]))) (cOX_w hk9 ((f2.mono (fun a j q => FN_J q)).trans (fr.mono (fun a j q => FRw_J q))) (fun _ _ q => q))
      · have hB3 := hM.b hB2 f2
        refine n_iast d142_67 (xa_firsts hB3.1 hc) (by omega) (by decide) ?_
        have g : Fi (fun a k => (a = 136 ∧ (k = 35 ∨ k = 36 ∨ k = 37)) ∨ a = 140 + c ∨ a = 147 + c ∨ a = 154 + c ∨ a = 161 + c ∨ a = 168 + c) M2 (zwi M2 (147 + c) (tn T) v9) := (Fi.refl _ _).wi (Or.inr (by omega))
        exact b142b (hB3.row g) h12 (by omega) (fun v M' h1 h2 => (cOX.bad hk9 (pS2_b hn)) v M' h1 (((f2.mono (fun a j q => FN_J q)).trans (g.mono (fun a j q => by unfold FJ; omega))).trans h2))
    · have hs2 : ∀ w, ytx b k0 ≠ some (2, w) := fun w q => hs ⟨w, q⟩
      have hk9 := k
      rw [show pS1 n b 0 ah T k0 = .error k0.2.1 by unfold pS1 pA1; rw [if_neg (by omega), pAc_b hs2]] at hk9
      refine q_aload_n d142_36 rfl ?_
      refine q_getr (c := 8) (f := 4) d142_37 ⟨rfl, rfl⟩ (xk_136 hM.1.1) (xf_firsts hM.1.1) ?_
      refine q_aload_n d142_40 rfl ?_
      refine q_getv (c := 8) (f := 0) d142_41 ⟨rfl, by decide⟩ (xk_136 hM.1.1) hM.2.2.1 ?_
      refine n_aald d142_44 (xk_firsts hM.1.1) (by decide) (by omega) (by decide) (xr_firsts hM.1.1 (by omega)) ?_
      refine q_iload_n d142_45 rfl ?_
      refine q_iload_n d142_46 rfl ?_
      refine q_iconstN (z := 5) d142_47 ?_
      refine nc_eq 58 d142_48 (by decide) (by decide) (by decide) (fun q => absurd q (by decide)) (fun _ => ?_)
      refine q_aload_n d142_51 rfl ?_
      refine q_getv (c := 8) (f := 38) d142_52 ⟨rfl, by decide⟩ (xk_136 hM.1.1) hM.1.w ?_
      refine n0_eq 62 d142_55 (by decide) (by decide) (fun _ => ?_) (fun q => absurd q (by decide))
      refine q_aload_n d142_62 rfl ?_
      refine q_iconstN (z := 2) d142_63 ?_
      refine q_v1 d142_64 rfl rfl (xk_136 hM.1.1) (Nat.le_of_ble_eq_true rfl) (c143e hM.1 hv (by decide) hs2 (fun v9 M2 hB2 f2 => ?_))
      have hB3 := hM.b hB2 f2
      refine n_iast d142_67 (xa_firsts hB3.1 hc) (by omega) (by decide) ?_
      have g : Fi (fun a k => (a = 136 ∧ (k = 35 ∨ k = 36 ∨ k = 37)) ∨ a = 140 + c ∨ a = 147 + c ∨ a = 154 + c ∨ a = 161 + c ∨ a = 168 + c) M2 (zwi M2 (147 + c) (tn T) v9) := (Fi.refl _ _).wi (Or.inr (by omega))
      exact b142b (hB3.row g) h12 (by omega) (fun v M' h1 h2 => (cOX.e hk9 rfl) v M' h1 (((f2.mono (fun a j q => FN_J q)).trans (g.mono (fun a j q => by unfold FJ; omega))).trans h2))
  · by_cases hs : ∃ w, ytx b k0 = some (2, w)
    · obtain ⟨w, hw⟩ := hs
      have hk9 := k
      rw [show pS1 n b 1 ah T k0 = pS2 n b 1 ah T (nI w) (pAd n b k0) by unfold pS1 pA1; rw [if_neg (by omega), pAc_g hw]] at hk9
      refine q_aload_n d142_36 rfl ?_
      refine q_getr (c := 8) (f := 4) d142_37 ⟨rfl, rfl⟩ (xk_136 hM.1.1) (xf_firsts hM.1.1) ?_
      refine q_aload_n d142_40 rfl ?_
      refine q_getv (c := 8) (f := 0) d142_41 ⟨rfl, by decide⟩ (xk_136 hM.1.1) hM.2.2.1 ?_
      refine n_aald d142_44 (xk_firsts hM.1.1) (by decide) (by omega) (by decide) (xr_firsts hM.1.1 (by omega)) ?_
      refine q_iload_n d142_45 rfl ?_
      refine q_iload_n d142_46 rfl ?_
      refine q_iconstN (z := 5) d142_47 ?_
      refine nc_eq 58 d142_48 (by decide) (by decide) (by decide) (fun q => absurd q (by decide)) (fun _ => ?_)
      refine q_aload_n d142_51 rfl ?_
      refine q_getv (c := 8) (f := 38) d142_52 ⟨rfl, by decide⟩ (xk_136 hM.1.1) hM.1.w ?_
      refine n0_eq 62 d142_55 (by decide) (by decide) (fun _ => ?_) (fun q => absurd q (by decide))
      refine q_aload_n d142_62 rfl ?_
      refine q_iconstN (z := 2) d142_63 ?_
      refine q_v1 d142_64 rfl rfl (xk_136 hM.1.1) (Nat.le_of_ble_eq_true rfl) (c143g hM.1 hv (by decide) (by decide) hw (fun hn M2 hG2 f2 => ?_) (fun hn v9 M2 hB2 f2 => ?_))
      · have hM2 := hM.fn hG2 f2
        have hk2 : zi M2 (140 + c) (tn T) = nI 1 := (f2.1 _ _ (by unfold FN; omega)).trans hkd
        refine n_iast d142_67 (xa_firsts hM2.1.1 hc) (by omega) (by decide) ?_
        have fr : Fi (FRw c (tn T)) M2 (zwi M2 (147 + c) (tn T) (nI w)) := (Fi.refl _ _).wi ⟨by omega, rfl⟩
        exact g142b (hM2.rw fr) hv1 h12 (by omega) (by (repeat (first | rw [wi_n (Or.inl (by omega))] | rw [wi_n (Or.inr (by omega))] | rw [wi_s] | rw [wr_i] | rw [cp_n (by omega)] | rw [cp_0 (by omega)])); exact hk2) (by (repeat (first | rw [wi_n (Or.inl (by omega))] | rw [wi_n (Or.inr (by omega))] | rw [wi_s] | rw [wr_i] | rw [cp_n (by omega)] | rw [cp_0 (by omega)]))) (cOX_w hk9 ((f2.mono (fun a j q => FN_J q)).trans (fr.mono (fun a j q => FRw_J q))) (fun _ _ q => q))
      · have hB3 := hM.b hB2 f2
        refine n_iast d142_67 (xa_firsts hB3.1 hc) (by omega) (by decide) ?_
        have g : Fi (fun a k => (a = 136 ∧ (k = 35 ∨ k = 36 ∨ k = 37)) ∨ a = 140 + c ∨ a = 147 + c ∨ a = 154 + c ∨ a = 161 + c ∨ a = 168 + c) M2 (zwi M2 (147 + c) (tn T) v9) := (Fi.refl _ _).wi (Or.inr (by omega))
        exact b142b (hB3.row g) h12 (by omega) (fun v M' h1 h2 => (cOX.bad hk9 (pS2_b hn)) v M' h1 (((f2.mono (fun a j q => FN_J q)).trans (g.mono (fun a j q => by unfold FJ; omega))).trans h2))
    · have hs2 : ∀ w, ytx b k0 ≠ some (2, w) := fun w q => hs ⟨w, q⟩
      have hk9 := k
      rw [show pS1 n b 1 ah T k0 = .error k0.2.1 by unfold pS1 pA1; rw [if_neg (by omega), pAc_b hs2]] at hk9
      refine q_aload_n d142_36 rfl ?_
      refine q_getr (c := 8) (f := 4) d142_37 ⟨rfl, rfl⟩ (xk_136 hM.1.1) (xf_firsts hM.1.1) ?_
      refine q_aload_n d142_40 rfl ?_
      refine q_getv (c := 8) (f := 0) d142_41 ⟨rfl, by decide⟩ (xk_136 hM.1.1) hM.2.2.1 ?_
      refine n_aald d142_44 (xk_firsts hM.1.1) (by decide) (by omega) (by decide) (xr_firsts hM.1.1 (by omega)) ?_
      refine q_iload_n d142_45 rfl ?_
      refine q_iload_n d142_46 rfl ?_
      refine q_iconstN (z := 5) d142_47 ?_
      refine nc_eq 58 d142_48 (by decide) (by decide) (by decide) (fun q => absurd q (by decide)) (fun _ => ?_)
      refine q_aload_n d142_51 rfl ?_
      refine q_getv (c := 8) (f := 38) d142_52 ⟨rfl, by decide⟩ (xk_136 hM.1.1) hM.1.w ?_
      refine n0_eq 62 d142_55 (by decide) (by decide) (fun _ => ?_) (fun q => absurd q (by decide))
      refine q_aload_n d142_62 rfl ?_
      refine q_iconstN (z := 2) d142_63 ?_
      refine q_v1 d142_64 rfl rfl (xk_136 hM.1.1) (Nat.le_of_ble_eq_true rfl) (c143e hM.1 hv (by decide) hs2 (fun v9 M2 hB2 f2 => ?_))
      have hB3 := hM.b hB2 f2
      refine n_iast d142_67 (xa_firsts hB3.1 hc) (by omega) (by decide) ?_
      have g : Fi (fun a k => (a = 136 ∧ (k = 35 ∨ k = 36 ∨ k = 37)) ∨ a = 140 + c ∨ a = 147 + c ∨ a = 154 + c ∨ a = 161 + c ∨ a = 168 + c) M2 (zwi M2 (147 + c) (tn T) v9) := (Fi.refl _ _).wi (Or.inr (by omega))
      exact b142b (hB3.row g) h12 (by omega) (fun v M' h1 h2 => (cOX.e hk9 rfl) v M' h1 (((f2.mono (fun a j q => FN_J q)).trans (g.mono (fun a j q => by unfold FJ; omega))).trans h2))
  · by_cases hs : ∃ w, ytx b k0 = some (2, w)
    · obtain ⟨w, hw⟩ := hs
      have hk9 := k
      rw [show pS1 n b 2 ah T k0 = pS2 n b 2 ah T (nI w) (pAd n b k0) by unfold pS1 pA1; rw [if_neg (by omega), pAc_g hw]] at hk9
      refine q_aload_n d142_36 rfl ?_
      refine q_getr (c := 8) (f := 4) d142_37 ⟨rfl, rfl⟩ (xk_136 hM.1.1) (xf_firsts hM.1.1) ?_
      refine q_aload_n d142_40 rfl ?_
      refine q_getv (c := 8) (f := 0) d142_41 ⟨rfl, by decide⟩ (xk_136 hM.1.1) hM.2.2.1 ?_
      refine n_aald d142_44 (xk_firsts hM.1.1) (by decide) (by omega) (by decide) (xr_firsts hM.1.1 (by omega)) ?_
      refine q_iload_n d142_45 rfl ?_
      refine q_iload_n d142_46 rfl ?_
      refine q_iconstN (z := 5) d142_47 ?_
      refine nc_eq 58 d142_48 (by decide) (by decide) (by decide) (fun q => absurd q (by decide)) (fun _ => ?_)
      refine q_aload_n d142_51 rfl ?_
      refine q_getv (c := 8) (f := 38) d142_52 ⟨rfl, by decide⟩ (xk_136 hM.1.1) hM.1.w ?_
      refine n0_eq 62 d142_55 (by decide) (by decide) (fun _ => ?_) (fun q => absurd q (by decide))
      refine q_aload_n d142_62 rfl ?_
      refine q_iconstN (z := 2) d142_63 ?_
      refine q_v1 d142_64 rfl rfl (xk_136 hM.1.1) (Nat.le_of_ble_eq_true rfl) (c143g hM.1 hv (by decide) (by decide) hw (fun hn M2 hG2 f2 => ?_) (fun hn v9 M2 hB2 f2 => ?_))
      · have hM2 := hM.fn hG2 f2
        have hk2 : zi M2 (140 + c) (tn T) = nI 2 := (f2.1 _ _ (by unfold FN; omega)).trans hkd
        refine n_iast d142_67 (xa_firsts hM2.1.1 hc) (by omega) (by decide) ?_
        have fr : Fi (FRw c (tn T)) M2 (zwi M2 (147 + c) (tn T) (nI w)) := (Fi.refl _ _).wi ⟨by omega, rfl⟩
        exact g142b (hM2.rw fr) hv1 h12 (by omega) (by (repeat (first | rw [wi_n (Or.inl (by omega))] | rw [wi_n (Or.inr (by omega))] | rw [wi_s] | rw [wr_i] | rw [cp_n (by omega)] | rw [cp_0 (by omega)])); exact hk2) (by (repeat (first | rw [wi_n (Or.inl (by omega))] | rw [wi_n (Or.inr (by omega))] | rw [wi_s] | rw [wr_i] | rw [cp_n (by omega)] | rw [cp_0 (by omega)]))) (cOX_w hk9 ((f2.mono (fun a j q => FN_J q)).trans (fr.mono (fun a j q => FRw_J q))) (fun _ _ q => q))
      · have hB3 := hM.b hB2 f2
        refine n_iast d142_67 (xa_firsts hB3.1 hc) (by omega) (by decide) ?_
        have g : Fi (fun a k => (a = 136 ∧ (k = 35 ∨ k = 36 ∨ k = 37)) ∨ a = 140 + c ∨ a = 147 + c ∨ a = 154 + c ∨ a = 161 + c ∨ a = 168 + c) M2 (zwi M2 (147 + c) (tn T) v9) := (Fi.refl _ _).wi (Or.inr (by omega))
        exact b142b (hB3.row g) h12 (by omega) (fun v M' h1 h2 => (cOX.bad hk9 (pS2_b hn)) v M' h1 (((f2.mono (fun a j q => FN_J q)).trans (g.mono (fun a j q => by unfold FJ; omega))).trans h2))
    · have hs2 : ∀ w, ytx b k0 ≠ some (2, w) := fun w q => hs ⟨w, q⟩
      have hk9 := k
      rw [show pS1 n b 2 ah T k0 = .error k0.2.1 by unfold pS1 pA1; rw [if_neg (by omega), pAc_b hs2]] at hk9
      refine q_aload_n d142_36 rfl ?_
      refine q_getr (c := 8) (f := 4) d142_37 ⟨rfl, rfl⟩ (xk_136 hM.1.1) (xf_firsts hM.1.1) ?_
      refine q_aload_n d142_40 rfl ?_
      refine q_getv (c := 8) (f := 0) d142_41 ⟨rfl, by decide⟩ (xk_136 hM.1.1) hM.2.2.1 ?_
      refine n_aald d142_44 (xk_firsts hM.1.1) (by decide) (by omega) (by decide) (xr_firsts hM.1.1 (by omega)) ?_
      refine q_iload_n d142_45 rfl ?_
      refine q_iload_n d142_46 rfl ?_
      refine q_iconstN (z := 5) d142_47 ?_
      refine nc_eq 58 d142_48 (by decide) (by decide) (by decide) (fun q => absurd q (by decide)) (fun _ => ?_)
      refine q_aload_n d142_51 rfl ?_
      refine q_getv (c := 8) (f := 38) d142_52 ⟨rfl, by decide⟩ (xk_136 hM.1.1) hM.1.w ?_
      refine n0_eq 62 d142_55 (by decide) (by decide) (fun _ => ?_) (fun q => absurd q (by decide))
      refine q_aload_n d142_62 rfl ?_
      refine q_iconstN (z := 2) d142_63 ?_
      refine q_v1 d142_64 rfl rfl (xk_136 hM.1.1) (Nat.le_of_ble_eq_true rfl) (c143e hM.1 hv (by decide) hs2 (fun v9 M2 hB2 f2 => ?_))
      have hB3 := hM.b hB2 f2
      refine n_iast d142_67 (xa_firsts hB3.1 hc) (by omega) (by decide) ?_
      have g : Fi (fun a k => (a = 136 ∧ (k = 35 ∨ k = 36 ∨ k = 37)) ∨ a = 140 + c ∨ a = 147 + c ∨ a = 154 + c ∨ a = 161 + c ∨ a = 168 + c) M2 (zwi M2 (147 + c) (tn T) v9) := (Fi.refl _ _).wi (Or.inr (by omega))
      exact b142b (hB3.row g) h12 (by omega) (fun v M' h1 h2 => (cOX.e hk9 rfl) v M' h1 (((f2.mono (fun a j q => FN_J q)).trans (g.mono (fun a j q => by unfold FJ; omega))).trans h2))
  · by_cases hs : ∃ w, ytx b k0 = some (2, w)
    · obtain ⟨w, hw⟩ := hs
      have hk9 := k
      rw [show pS1 n b 3 ah T k0 = pS2 n b 3 ah T (nI w) (pAd n b k0) by unfold pS1 pA1; rw [if_neg (by omega), pAc_g hw]] at hk9
      refine q_aload_n d142_36 rfl ?_
      refine q_getr (c := 8) (f := 4) d142_37 ⟨rfl, rfl⟩ (xk_136 hM.1.1) (xf_firsts hM.1.1) ?_
      refine q_aload_n d142_40 rfl ?_
      refine q_getv (c := 8) (f := 0) d142_41 ⟨rfl, by decide⟩ (xk_136 hM.1.1) hM.2.2.1 ?_
      refine n_aald d142_44 (xk_firsts hM.1.1) (by decide) (by omega) (by decide) (xr_firsts hM.1.1 (by omega)) ?_
      refine q_iload_n d142_45 rfl ?_
      refine q_iload_n d142_46 rfl ?_
      refine q_iconstN (z := 5) d142_47 ?_
      refine nc_eq 58 d142_48 (by decide) (by decide) (by decide) (fun q => absurd q (by decide)) (fun _ => ?_)
      refine q_aload_n d142_51 rfl ?_
      refine q_getv (c := 8) (f := 38) d142_52 ⟨rfl, by decide⟩ (xk_136 hM.1.1) hM.1.w ?_
      refine n0_eq 62 d142_55 (by decide) (by decide) (fun _ => ?_) (fun q => absurd q (by decide))
      refine q_aload_n d142_62 rfl ?_
      refine q_iconstN (z := 2) d142_63 ?_
      refine q_v1 d142_64 rfl rfl (xk_136 hM.1.1) (Nat.le_of_ble_eq_true rfl) (c143g hM.1 hv (by decide) (by decide) hw (fun hn M2 hG2 f2 => ?_) (fun hn v9 M2 hB2 f2 => ?_))
      · have hM2 := hM.fn hG2 f2
        have hk2 : zi M2 (140 + c) (tn T) = nI 3 := (f2.1 _ _ (by unfold FN; omega)).trans hkd
        refine n_iast d142_67 (xa_firsts hM2.1.1 hc) (by omega) (by decide) ?_
        have fr : Fi (FRw c (tn T)) M2 (zwi M2 (147 + c) (tn T) (nI w)) := (Fi.refl _ _).wi ⟨by omega, rfl⟩
        exact g142b (hM2.rw fr) hv1 h12 (by omega) (by (repeat (first | rw [wi_n (Or.inl (by omega))] | rw [wi_n (Or.inr (by omega))] | rw [wi_s] | rw [wr_i] | rw [cp_n (by omega)] | rw [cp_0 (by omega)])); exact hk2) (by (repeat (first | rw [wi_n (Or.inl (by omega))] | rw [wi_n (Or.inr (by omega))] | rw [wi_s] | rw [wr_i] | rw [cp_n (by omega)] | rw [cp_0 (by omega)]))) (cOX_w hk9 ((f2.mono (fun a j q => FN_J q)).trans (fr.mono (fun a j q => FRw_J q))) (fun _ _ q => q))
      · have hB3 := hM.b hB2 f2
        refine n_iast d142_67 (xa_firsts hB3.1 hc) (by omega) (by decide) ?_
        have g : Fi (fun a k => (a = 136 ∧ (k = 35 ∨ k = 36 ∨ k = 37)) ∨ a = 140 + c ∨ a = 147 + c ∨ a = 154 + c ∨ a = 161 + c ∨ a = 168 + c) M2 (zwi M2 (147 + c) (tn T) v9) := (Fi.refl _ _).wi (Or.inr (by omega))
        exact b142b (hB3.row g) h12 (by omega) (fun v M' h1 h2 => (cOX.bad hk9 (pS2_b hn)) v M' h1 (((f2.mono (fun a j q => FN_J q)).trans (g.mono (fun a j q => by unfold FJ; omega))).trans h2))
    · have hs2 : ∀ w, ytx b k0 ≠ some (2, w) := fun w q => hs ⟨w, q⟩
      have hk9 := k
      rw [show pS1 n b 3 ah T k0 = .error k0.2.1 by unfold pS1 pA1; rw [if_neg (by omega), pAc_b hs2]] at hk9
      refine q_aload_n d142_36 rfl ?_
      refine q_getr (c := 8) (f := 4) d142_37 ⟨rfl, rfl⟩ (xk_136 hM.1.1) (xf_firsts hM.1.1) ?_
      refine q_aload_n d142_40 rfl ?_
      refine q_getv (c := 8) (f := 0) d142_41 ⟨rfl, by decide⟩ (xk_136 hM.1.1) hM.2.2.1 ?_
      refine n_aald d142_44 (xk_firsts hM.1.1) (by decide) (by omega) (by decide) (xr_firsts hM.1.1 (by omega)) ?_
      refine q_iload_n d142_45 rfl ?_
      refine q_iload_n d142_46 rfl ?_
      refine q_iconstN (z := 5) d142_47 ?_
      refine nc_eq 58 d142_48 (by decide) (by decide) (by decide) (fun q => absurd q (by decide)) (fun _ => ?_)
      refine q_aload_n d142_51 rfl ?_
      refine q_getv (c := 8) (f := 38) d142_52 ⟨rfl, by decide⟩ (xk_136 hM.1.1) hM.1.w ?_
      refine n0_eq 62 d142_55 (by decide) (by decide) (fun _ => ?_) (fun q => absurd q (by decide))
      refine q_aload_n d142_62 rfl ?_
      refine q_iconstN (z := 2) d142_63 ?_
      refine q_v1 d142_64 rfl rfl (xk_136 hM.1.1) (Nat.le_of_ble_eq_true rfl) (c143e hM.1 hv (by decide) hs2 (fun v9 M2 hB2 f2 => ?_))
      have hB3 := hM.b hB2 f2
      refine n_iast d142_67 (xa_firsts hB3.1 hc) (by omega) (by decide) ?_
      have g : Fi (fun a k => (a = 136 ∧ (k = 35 ∨ k = 36 ∨ k = 37)) ∨ a = 140 + c ∨ a = 147 + c ∨ a = 154 + c ∨ a = 161 + c ∨ a = 168 + c) M2 (zwi M2 (147 + c) (tn T) v9) := (Fi.refl _ _).wi (Or.inr (by omega))
      exact b142b (hB3.row g) h12 (by omega) (fun v M' h1 h2 => (cOX.e hk9 rfl) v M' h1 (((f2.mono (fun a j q => FN_J q)).trans (g.mono (fun a j q => by unfold FJ; omega))).trans h2))
  · by_cases hs : ∃ w, ytx b k0 = some (2, w)
    · obtain ⟨w, hw⟩ := hs
      have hk9 := k
      rw [show pS1 n b 4 ah T k0 = pS2 n b 4 ah T (nI w) (pAd n b k0) by unfold pS1 pA1; rw [if_neg (by omega), pAc_g hw]] at hk9
      refine q_aload_n d142_36 rfl ?_
      refine q_getr (c := 8) (f := 4) d142_37 ⟨rfl, rfl⟩ (xk_136 hM.1.1) (xf_firsts hM.1.1) ?_
      refine q_aload_n d142_40 rfl ?_
      refine q_getv (c := 8) (f := 0) d142_41 ⟨rfl, by decide⟩ (xk_136 hM.1.1) hM.2.2.1 ?_
      refine n_aald d142_44 (xk_firsts hM.1.1) (by decide) (by omega) (by decide) (xr_firsts hM.1.1 (by omega)) ?_
      refine q_iload_n d142_45 rfl ?_
      refine q_iload_n d142_46 rfl ?_
      refine q_iconstN (z := 5) d142_47 ?_
      refine nc_eq 58 d142_48 (by decide) (by decide) (by decide) (fun q => absurd q (by decide)) (fun _ => ?_)
      refine q_aload_n d142_51 rfl ?_
      refine q_getv (c := 8) (f := 38) d142_52 ⟨rfl, by decide⟩ (xk_136 hM.1.1) hM.1.w ?_
      refine n0_eq 62 d142_55 (by decide) (by decide) (fun _ => ?_) (fun q => absurd q (by decide))
      refine q_aload_n d142_62 rfl ?_
      refine q_iconstN (z := 2) d142_63 ?_
      refine q_v1 d142_64 rfl rfl (xk_136 hM.1.1) (Nat.le_of_ble_eq_true rfl) (c143g hM.1 hv (by decide) (by decide) hw (fun hn M2 hG2 f2 => ?_) (fun hn v9 M2 hB2 f2 => ?_))
      · have hM2 := hM.fn hG2 f2
        have hk2 : zi M2 (140 + c) (tn T) = nI 4 := (f2.1 _ _ (by unfold FN; omega)).trans hkd
        refine n_iast d142_67 (xa_firsts hM2.1.1 hc) (by omega) (by decide) ?_
        have fr : Fi (FRw c (tn T)) M2 (zwi M2 (147 + c) (tn T) (nI w)) := (Fi.refl _ _).wi ⟨by omega, rfl⟩
        exact g142b (hM2.rw fr) hv1 h12 (by omega) (by (repeat (first | rw [wi_n (Or.inl (by omega))] | rw [wi_n (Or.inr (by omega))] | rw [wi_s] | rw [wr_i] | rw [cp_n (by omega)] | rw [cp_0 (by omega)])); exact hk2) (by (repeat (first | rw [wi_n (Or.inl (by omega))] | rw [wi_n (Or.inr (by omega))] | rw [wi_s] | rw [wr_i] | rw [cp_n (by omega)] | rw [cp_0 (by omega)]))) (cOX_w hk9 ((f2.mono (fun a j q => FN_J q)).trans (fr.mono (fun a j q => FRw_J q))) (fun _ _ q => q))
      · have hB3 := hM.b hB2 f2
        refine n_iast d142_67 (xa_firsts hB3.1 hc) (by omega) (by decide) ?_
        have g : Fi (fun a k => (a = 136 ∧ (k = 35 ∨ k = 36 ∨ k = 37)) ∨ a = 140 + c ∨ a = 147 + c ∨ a = 154 + c ∨ a = 161 + c ∨ a = 168 + c) M2 (zwi M2 (147 + c) (tn T) v9) := (Fi.refl _ _).wi (Or.inr (by omega))
        exact b142b (hB3.row g) h12 (by omega) (fun v M' h1 h2 => (cOX.bad hk9 (pS2_b hn)) v M' h1 (((f2.mono (fun a j q => FN_J q)).trans (g.mono (fun a j q => by unfold FJ; omega))).trans h2))
    · have hs2 : ∀ w, ytx b k0 ≠ some (2, w) := fun w q => hs ⟨w, q⟩
      have hk9 := k
      rw [show pS1 n b 4 ah T k0 = .error k0.2.1 by unfold pS1 pA1; rw [if_neg (by omega), pAc_b hs2]] at hk9
      refine q_aload_n d142_36 rfl ?_
      refine q_getr (c := 8) (f := 4) d142_37 ⟨rfl, rfl⟩ (xk_136 hM.1.1) (xf_firsts hM.1.1) ?_
      refine q_aload_n d142_40 rfl ?_
      refine q_getv (c := 8) (f := 0) d142_41 ⟨rfl, by decide⟩ (xk_136 hM.1.1) hM.2.2.1 ?_
      refine n_aald d142_44 (xk_firsts hM.1.1) (by decide) (by omega) (by decide) (xr_firsts hM.1.1 (by omega)) ?_
      refine q_iload_n d142_45 rfl ?_
      refine q_iload_n d142_46 rfl ?_
      refine q_iconstN (z := 5) d142_47 ?_
      refine nc_eq 58 d142_48 (by decide) (by decide) (by decide) (fun q => absurd q (by decide)) (fun _ => ?_)
      refine q_aload_n d142_51 rfl ?_
      refine q_getv (c := 8) (f := 38) d142_52 ⟨rfl, by decide⟩ (xk_136 hM.1.1) hM.1.w ?_
      refine n0_eq 62 d142_55 (by decide) (by decide) (fun _ => ?_) (fun q => absurd q (by decide))
      refine q_aload_n d142_62 rfl ?_
      refine q_iconstN (z := 2) d142_63 ?_
      refine q_v1 d142_64 rfl rfl (xk_136 hM.1.1) (Nat.le_of_ble_eq_true rfl) (c143e hM.1 hv (by decide) hs2 (fun v9 M2 hB2 f2 => ?_))
      have hB3 := hM.b hB2 f2
      refine n_iast d142_67 (xa_firsts hB3.1 hc) (by omega) (by decide) ?_
      have g : Fi (fun a k => (a = 136 ∧ (k = 35 ∨ k = 36 ∨ k = 37)) ∨ a = 140 + c ∨ a = 147 + c ∨ a = 154 + c ∨ a = 161 + c ∨ a = 168 + c) M2 (zwi M2 (147 + c) (tn T) v9) := (Fi.refl _ _).wi (Or.inr (by omega))
      exact b142b (hB3.row g) h12 (by omega) (fun v M' h1 h2 => (cOX.e hk9 rfl) v M' h1 (((f2.mono (fun a j q => FN_J q)).trans (g.mono (fun a j q => by unfold FJ; omega))).trans h2))
  · have hk9 := k
    rw [show pS1 n b 5 ah T k0 = pS2 n b 5 ah T (-1) k0 by unfold pS1 pA1; rw [if_pos (by omega)]] at hk9
    refine q_aload_n d142_36 rfl ?_
    refine q_getr (c := 8) (f := 4) d142_37 ⟨rfl, rfl⟩ (xk_136 hM.1.1) (xf_firsts hM.1.1) ?_
    refine q_aload_n d142_40 rfl ?_
    refine q_getv (c := 8) (f := 0) d142_41 ⟨rfl, by decide⟩ (xk_136 hM.1.1) hM.2.2.1 ?_
    refine n_aald d142_44 (xk_firsts hM.1.1) (by decide) (by omega) (by decide) (xr_firsts hM.1.1 (by omega)) ?_
    refine q_iload_n d142_45 rfl ?_
    refine q_iload_n d142_46 rfl ?_
    refine q_iconstN (z := 5) d142_47 ?_
    refine nc_eq 58 d142_48 (by decide) (by decide) (by decide) (fun _ => ?_) (fun q => absurd q (by decide))
    refine q_iconst (x := (-1)) d142_58 rfl ?_
    refine q_goto 67 d142_59 (by decide) ?_
    refine n_iast d142_67 (xa_firsts hM.1.1 (by omega)) (by omega) (by decide) ?_
    have fr : Fi (FRw c (tn T)) M1 (zwi M1 (147 + c) (tn T) (-1)) := (Fi.refl _ _).wi ⟨by omega, rfl⟩
    exact g142b (hM.rw fr) hv h12 (by omega) (by (repeat (first | rw [wi_n (Or.inl (by omega))] | rw [wi_n (Or.inr (by omega))] | rw [wi_s] | rw [wr_i] | rw [cp_n (by omega)] | rw [cp_0 (by omega)])); exact hkd) (by (repeat (first | rw [wi_n (Or.inl (by omega))] | rw [wi_n (Or.inr (by omega))] | rw [wi_s] | rw [wr_i] | rw [cp_n (by omega)] | rw [cp_0 (by omega)]))) (cOX_w hk9 (fr.mono (fun a j q => FRw_J q)) (fun _ _ q => q))
theorem c142 {d : Nat} {M : zM} {Q : Option Value → zM → Prop} {c n o ah kd : Nat} {b : Nat → Nat} {K : yQ} (hG : GX M c n b o K) (hv : yQv n b K) (tok : ytx b K.1 = some (1, kd)) (h12 : tn K.2 < 12) (k : cOX Q M c n b o (pSt n b ah K)) : qC (d + 12) 142 [.ref 136, .int (nI ah)] M Q := by
  refine qC_of (by decide) (Nat.le_of_ble_eq_true rfl) ?_
  obtain ⟨e1, e2, h6⟩ := (ytx_i tok).1 rfl
  rw [pSt_1 e2.symm h6 h12] at k
  refine q_aload_n d142_0 rfl ?_
  refine q_getv (c := 8) (f := 37) d142_1 ⟨rfl, by decide⟩ (xk_136 hG.1) hG.2.2.2.2.2.2.2.2.1 ?_
  refine q_istore_n d142_4 (by decide) rfl ?_
  refine q_aload_n d142_5 rfl ?_
  refine q_dup d142_6 rfl ?_
  refine q_getv (c := 8) (f := 37) d142_7 ⟨rfl, by decide⟩ (xk_136 hG.1) hG.2.2.2.2.2.2.2.2.1 ?_
  refine q_iconstN (z := 1) d142_10 ?_
  refine n_iadd d142_11 ?_
  refine q_puti (c := 8) (f := 37) d142_12 ⟨rfl, rfl, by decide⟩ (xk_136 hG.1) ?_
  have f1 : Fi (fun a k => a = 136 ∧ k = 37) M (zwi M 136 37 (nI (tn K.2 + 1))) := (Fi.refl _ _).wi ⟨rfl, rfl⟩
  have hK1 := hG.k.fi f1 ⟨fun j _ _ _ => by omega, fun j => by omega⟩
  have hc := hG.2.1
  have hM1 : GM (zwi M 136 37 (nI (tn K.2 + 1))) c n b o K.1 K.2 := ⟨hK1, hc, (wi_n (by omega)).trans hG.2.2.1, (wi_n (by omega)).trans hG.2.2.2.2.2.2.1, (wi_n (by omega)).trans hG.2.2.2.2.2.2.2.1, wi_s _ _ _ _, hG.2.2.2.2.2.2.2.2.2.fi f1 (fun a j q => by omega)⟩
  obtain ⟨t9, v9, htv, h33, h34, h38⟩ := hK1.2.2.2
  rw [tok] at htv
  cases htv
  refine q_aload_n d142_15 rfl ?_
  refine q_getv (c := 8) (f := 34) d142_16 ⟨rfl, by decide⟩ (xk_136 hM1.1.1) (h34 (by decide)) ?_
  refine q_istore_n d142_19 (by decide) rfl ?_
  refine q_aload_n d142_20 rfl ?_
  refine q_v0 d142_21 rfl rfl (xk_136 hM1.1.1) (Nat.le_of_ble_eq_true rfl) (c134k hM1.1 hv.1 (fun hn M2 hG2 f2 => ?_) (fun hn M2 hB2 f2 => ?_))
  · have hM2 := hM1.fn hG2 f2
    refine q_aload_n d142_24 rfl ?_
    refine q_getr (c := 8) (f := 3) d142_25 ⟨rfl, rfl⟩ (xk_136 hM2.1.1) (xf_kinds hM2.1.1) ?_
    refine q_aload_n d142_28 rfl ?_
    refine q_getv (c := 8) (f := 0) d142_29 ⟨rfl, by decide⟩ (xk_136 hM2.1.1) hM2.2.2.1 ?_
    refine n_aald d142_32 (xk_kinds hM2.1.1) (by decide) (by omega) (by decide) (xr_kinds hM2.1.1 (by omega)) ?_
    refine q_iload_n d142_33 rfl ?_
    refine q_iload_n d142_34 rfl ?_
    refine n_iast d142_35 (xa_kinds hM2.1.1 (by omega)) (by omega) (by decide) ?_
    have fr : Fi (FRw c (tn K.2)) M2 (zwi M2 (140 + c) (tn K.2) (nI kd)) := (Fi.refl _ _).wi ⟨by omega, rfl⟩
    exact g142a (hM2.rw fr) (pAd_v hv.1 (fun i hi => (hG.2.2.2.1.2.2 i hi).2)).1 h12 h6 (wi_s _ _ _ _) (cOX_w k ((f1.mono (fun a j q => by unfold FJ; omega)).trans ((f2.mono (fun a j q => FN_J q)).trans (fr.mono (fun a j q => FRw_J q)))) (fun _ _ q => q))
  · have hB3 := hM1.b hB2 f2
    refine q_aload_n d142_24 rfl ?_
    refine q_getr (c := 8) (f := 3) d142_25 ⟨rfl, rfl⟩ (xk_136 hB3.1) (xf_kinds hB3.1) ?_
    refine q_aload_n d142_28 rfl ?_
    refine q_getv (c := 8) (f := 0) d142_29 ⟨rfl, by decide⟩ (xk_136 hB3.1) hB3.2.2.1 ?_
    refine n_aald d142_32 (xk_kinds hB3.1) (by decide) (by omega) (by decide) (xr_kinds hB3.1 (by omega)) ?_
    refine q_iload_n d142_33 rfl ?_
    refine q_iload_n d142_34 rfl ?_
    refine n_iast d142_35 (xa_kinds hB3.1 (by omega)) (by omega) (by decide) ?_
    have g : Fi (fun a k => (a = 136 ∧ (k = 35 ∨ k = 36 ∨ k = 37)) ∨ a = 140 + c ∨ a = 147 + c ∨ a = 154 + c ∨ a = 161 + c ∨ a = 168 + c) M2 (zwi M2 (140 + c) (tn K.2) (nI kd)) := (Fi.refl _ _).wi (Or.inr (by omega))
    exact b142a (hB3.row g) h12 h6 (fun v M' h1 h2 => k.bad (pS1_b hn) v M' h1 ((f1.mono (fun a j q => by unfold FJ; omega)).trans (((f2.mono (fun a j q => FN_J q)).trans (g.mono (fun a j q => by unfold FJ; omega))).trans h2)))
