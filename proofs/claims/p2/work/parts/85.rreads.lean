/-! ===== the reference: tokens are taken ===== -/
/-! the reference reads -/
/-- the text that is built: the rows of text c -/
def XRw (M : zM) (c : Nat) (T : yT) : Prop := ∀ k, k < tn T → zi M (140 + c) k = nI (tk T k) ∧ zi M (147 + c) k = tf T k ∧ zi M (154 + c) k = ts T k ∧ zi M (161 + c) k = tu T k ∧ zi M (168 + c) k = nI (ta T k)
/-- well, at K -/
def GX (M : zM) (c n : Nat) (b : Nat → Nat) (o : Nat) (K : yQ) : Prop := SX M ∧ c < 6 ∧ zi M 136 0 = nI c ∧ TXp M n b ∧ (zi M 136 31 = nI K.1.2.2 ∧ zi M 136 32 = nI K.1.2.1) ∧ (∃ t v, ytx b K.1 = some (t, v) ∧ zi M 136 33 = nI t ∧ (t ≠ 0 → zi M 136 34 = nI v) ∧ zi M 136 38 = nI 0) ∧ zi M 136 35 = nI o ∧ zi M 136 36 = tp K.2 ∧ zi M 136 37 = nI (tn K.2) ∧ XRw M c K.2
/-- a fault was met -/
def BX (M : zM) (c n : Nat) (b : Nat → Nat) (f : Nat) : Prop := SX M ∧ c < 6 ∧ zi M 136 0 = nI c ∧ TXp M n b ∧ zi M 136 38 = nI 1 ∧ zi M 136 32 = nI f
def FJ (c : Nat) : Nat → Nat → Prop := fun a k => (a = 136 ∧ 30 < k ∧ k < 39) ∨ a = 140 + c ∨ a = 147 + c ∨ a = 154 + c ∨ a = 161 + c ∨ a = 168 + c
theorem FN_J {c a k : Nat} (h : FN a k) : FJ c a k := by unfold FN at h; unfold FJ; omega
theorem FJ_t {c : Nat} (hc : c < 6) : ¬ FJ c 136 30 ∧ ∀ k, ¬ FJ c 208 k := ⟨by unfold FJ; omega, fun k => by unfold FJ; omega⟩
theorem XRw.fi {M M' : zM} {F : Nat → Nat → Prop} {c : Nat} {T : yT} (h : XRw M c T) (f : Fi F M M') (hs : ∀ a k, a = 140 + c ∨ a = 147 + c ∨ a = 154 + c ∨ a = 161 + c ∨ a = 168 + c → ¬ F a k) : XRw M' c T := fun k hk => ⟨(f.1 _ _ (hs _ _ (by omega))).trans (h k hk).1, (f.1 _ _ (hs _ _ (by omega))).trans (h k hk).2.1, (f.1 _ _ (hs _ _ (by omega))).trans (h k hk).2.2.1, (f.1 _ _ (hs _ _ (by omega))).trans (h k hk).2.2.2.1, (f.1 _ _ (hs _ _ (by omega))).trans (h k hk).2.2.2.2⟩
theorem GX.bad {M : zM} {c n o : Nat} {b : Nat → Nat} {K : yQ} (h : GX M c n b o K) : BX (zwi M 136 38 (nI 1)) c n b K.1.2.1 := by
  have f : Fi (fun a k => a = 136 ∧ k = 38) M (zwi M 136 38 (nI 1)) := (Fi.refl _ _).wi ⟨rfl, rfl⟩
  exact ⟨SX_fi h.1 f, h.2.1, (f.1 _ _ (by omega)).trans h.2.2.1, TXp_fi h.2.2.2.1 f ⟨by omega, fun k => by omega⟩, wi_s _ _ _ _, (f.1 _ _ (by omega)).trans h.2.2.2.2.1.2⟩
theorem GX.badF {M : zM} {c : Nat} : Fi (FJ c) M (zwi M 136 38 (nI 1)) := (Fi.refl _ _).wi (Or.inl ⟨rfl, by omega, by omega⟩)
theorem BX.bad {M : zM} {c n f : Nat} {b : Nat → Nat} (h : BX M c n b f) : BX (zwi M 136 38 (nI 1)) c n b f := by
  have g : Fi (fun a k => a = 136 ∧ k = 38) M (zwi M 136 38 (nI 1)) := (Fi.refl _ _).wi ⟨rfl, rfl⟩
  exact ⟨SX_fi h.1 g, h.2.1, (g.1 _ _ (by omega)).trans h.2.2.1, TXp_fi h.2.2.2.1 g ⟨by omega, fun k => by omega⟩, wi_s _ _ _ _, (g.1 _ _ (by omega)).trans h.2.2.2.2.2⟩
/-- what is written behind a fault changes nothing -/
theorem BX.row {M M' : zM} {c n f : Nat} {b : Nat → Nat} (h : BX M c n b f) (g : Fi (fun a k => (a = 136 ∧ (k = 35 ∨ k = 36 ∨ k = 37)) ∨ a = 140 + c ∨ a = 147 + c ∨ a = 154 + c ∨ a = 161 + c ∨ a = 168 + c) M M') : BX M' c n b f := by
  have hc := h.2.1
  exact ⟨SX_fi h.1 g, h.2.1, (g.1 _ _ (by omega)).trans h.2.2.1, TXp_fi h.2.2.2.1 g ⟨by omega, fun k => by omega⟩, (g.1 _ _ (by omega)).trans h.2.2.2.2.1, (g.1 _ _ (by omega)).trans h.2.2.2.2.2⟩
theorem BX.f0 {M : zM} {c n f : Nat} {b : Nat → Nat} (h : BX M c n b f) : zi M 136 38 = nI 1 := h.2.2.2.2.1
theorem GX.w {M : zM} {c n o : Nat} {b : Nat → Nat} {K : yQ} (h : GX M c n b o K) : zi M 136 38 = nI 0 := by obtain ⟨t, v, h1, h2, h3, h4⟩ := h.2.2.2.2.2.1; exact h4
/-- what a piece leaves -/
def cOX (Q : Option Value → zM → Prop) (M : zM) (c n : Nat) (b : Nat → Nat) (o : Nat) (R : Except Nat (Nat × yQ)) : Prop := match R with
  | .error f => ∀ v M', BX M' c n b f → Fi (FJ c) M M' → Q (some (.int v)) M'
  | .ok (w, K1) => (ytx b K1.1 ≠ none → ∀ M', GX M' c n b o K1 → Fi (FJ c) M M' → Q (some (.int (nI w))) M') ∧ (ytx b K1.1 = none → ∀ v M', BX M' c n b K1.1.2.1 → Fi (FJ c) M M' → Q (some (.int v)) M')
theorem cOX.e {Q : Option Value → zM → Prop} {M : zM} {c n f o : Nat} {b : Nat → Nat} {R : Except Nat (Nat × yQ)} (h : cOX Q M c n b o R) (e : R = .error f) : ∀ v M', BX M' c n b f → Fi (FJ c) M M' → Q (some (.int v)) M' := by subst e; exact h
theorem cOX.g {Q : Option Value → zM → Prop} {M : zM} {c n o w : Nat} {b : Nat → Nat} {K1 : yQ} {R : Except Nat (Nat × yQ)} (h : cOX Q M c n b o R) (e : R = .ok (w, K1)) (hn : ytx b K1.1 ≠ none) : ∀ M', GX M' c n b o K1 → Fi (FJ c) M M' → Q (some (.int (nI w))) M' := by subst e; exact h.1 hn
theorem cOX.b {Q : Option Value → zM → Prop} {M : zM} {c n o w : Nat} {b : Nat → Nat} {K1 : yQ} {R : Except Nat (Nat × yQ)} (h : cOX Q M c n b o R) (e : R = .ok (w, K1)) (hn : ytx b K1.1 = none) : ∀ v M', BX M' c n b K1.1.2.1 → Fi (FJ c) M M' → Q (some (.int v)) M' := by subst e; exact h.2 hn
theorem cOX_e {Q : Option Value → zM → Prop} {M : zM} {c n f o : Nat} {b : Nat → Nat} {R : Except Nat (Nat × yQ)} (e : R = .error f) (h : ∀ v M', BX M' c n b f → Fi (FJ c) M M' → Q (some (.int v)) M') : cOX Q M c n b o R := by subst e; exact h
theorem cOX_o {Q : Option Value → zM → Prop} {M : zM} {c n o w : Nat} {b : Nat → Nat} {K1 : yQ} {R : Except Nat (Nat × yQ)} (e : R = .ok (w, K1)) (h : ytx b K1.1 ≠ none → ∀ M', GX M' c n b o K1 → Fi (FJ c) M M' → Q (some (.int (nI w))) M') (g : ytx b K1.1 = none → ∀ v M', BX M' c n b K1.1.2.1 → Fi (FJ c) M M' → Q (some (.int v)) M') : cOX Q M c n b o R := by subst e; exact ⟨h, g⟩
theorem cOX_w {Q Q' : Option Value → zM → Prop} {M M1 : zM} {c n o : Nat} {b : Nat → Nat} {R : Except Nat (Nat × yQ)} (h : cOX Q M c n b o R) (f : Fi (FJ c) M M1) (hq : ∀ (v : Int32) M', Q (some (.int v)) M' → Q' (some (.int v)) M') : cOX Q' M1 c n b o R := by
  cases R with
  | error e => exact fun v M' g f1 => hq _ _ (h v M' g (f.trans f1))
  | ok r => exact ⟨fun hn M' g f1 => hq _ _ (h.1 hn M' g (f.trans f1)), fun hn v M' g f1 => hq _ _ (h.2 hn v M' g (f.trans f1))⟩
theorem c134g {d : Nat} {M : zM} {Q : Option Value → zM → Prop} {c n o : Nat} {b : Nat → Nat} {K : yQ} (hG : GX M c n b o K) (hv : yQv n b K) (k : ytx b (pAd n b K.1) ≠ none → ∀ M', GX M' c n b o (pAd n b K.1, K.2) → Fi (FJ c) M M' → Q none M') (kb : ytx b (pAd n b K.1) = none → ∀ M', BX M' c n b (pAd n b K.1).2.1 → Fi (FJ c) M M' → Q none M') : qC (d + 10) 134 [.ref 136] M Q := by
  have hc := hG.2.1
  refine c134 hG.1 hG.2.2.2.1 hG.2.2.2.2.1.1 hv.1.1.2.1 hG.w (fun M' h1 h2 h3 f => ?_)
  have hX := SX_fi hG.1 f
  have ht := TXp_fi hG.2.2.2.1 f FN_t
  have h0 : zi M' 136 0 = nI c := (f.1 _ _ (by unfold FN; omega)).trans hG.2.2.1
  cases e : ytx b (pAd n b K.1) with
  | none => exact kb e M' ⟨hX, hc, h0, ht, h3.2 e, h2⟩ (f.mono (fun a k q => FN_J q))
  | some r => exact k (by rw [e]; exact fun q => by cases q) M' ⟨hX, hc, h0, ht, ⟨h1, h2⟩, ⟨r.1, r.2, e, h3.1 r.1 r.2 e⟩, (f.1 _ _ (by unfold FN; omega)).trans hG.2.2.2.2.2.2.1, (f.1 _ _ (by unfold FN; omega)).trans hG.2.2.2.2.2.2.2.1, (f.1 _ _ (by unfold FN; omega)).trans hG.2.2.2.2.2.2.2.2.1, hG.2.2.2.2.2.2.2.2.2.fi f (fun a k q => by unfold FN; omega)⟩ (f.mono (fun a k q => FN_J q))
theorem d140_0 : decode (zB 140) 0 = .ok (.aload_n 0, 1) := by decide +kernel
theorem d140_1 : decode (zB 140) 1 = .ok (.getfield 162, 3) := by decide +kernel
theorem d140_4 : decode (zB 140) 4 = .ok (.ifCond .ne 23, 3) := by decide +kernel
theorem d140_7 : decode (zB 140) 7 = .ok (.aload_n 0, 1) := by decide +kernel
theorem d140_8 : decode (zB 140) 8 = .ok (.getfield 166, 3) := by decide +kernel
theorem d140_11 : decode (zB 140) 11 = .ok (.iconst 4, 1) := by decide +kernel
theorem d140_12 : decode (zB 140) 12 = .ok (.if_icmp .ne 15, 3) := by decide +kernel
theorem d140_15 : decode (zB 140) 15 = .ok (.aload_n 0, 1) := by decide +kernel
theorem d140_16 : decode (zB 140) 16 = .ok (.getfield 172, 3) := by decide +kernel
theorem d140_19 : decode (zB 140) 19 = .ok (.iload_n 1, 1) := by decide +kernel
theorem d140_20 : decode (zB 140) 20 = .ok (.if_icmp .ne 7, 3) := by decide +kernel
theorem d140_23 : decode (zB 140) 23 = .ok (.iconst 1, 1) := by decide +kernel
theorem d140_24 : decode (zB 140) 24 = .ok (.goto 4, 3) := by decide +kernel
theorem d140_27 : decode (zB 140) 27 = .ok (.iconst 0, 1) := by decide +kernel
theorem d140_28 : decode (zB 140) 28 = .ok (.ireturn, 1) := by decide +kernel
theorem ytx_sg {b : Nat → Nat} {k : yK} {t v : Nat} (h : ytx b k = some (t, v)) {s : Nat} (hs : 3 < s) : k.1 = s ↔ t = 4 ∧ v = s := by
  unfold ytx at h
  by_cases c0 : k.1 = 0
  · rw [if_pos c0] at h; cases h; omega
  · rw [if_neg c0] at h
    by_cases c1 : k.1 = 1
    · rw [if_pos c1] at h
      split at h
      · cases h; omega
      · split at h
        · cases h; omega
        · cases h
    · rw [if_neg c1] at h
      by_cases c2 : k.1 = 2
      · rw [if_pos c2] at h; cases h; omega
      · rw [if_neg c2] at h
        by_cases c3 : k.1 = 3
        · rw [if_pos c3] at h; cases h
        · rw [if_neg c3] at h; cases h; omega
theorem ytx_t4 {b : Nat → Nat} {k : yK} {t v : Nat} (h : ytx b k = some (t, v)) (hk : k.1 < 256) : t ≤ 4 ∧ (t = 4 → v < 256) := by
  unfold ytx at h
  by_cases c0 : k.1 = 0
  · rw [if_pos c0] at h; cases h; omega
  · rw [if_neg c0] at h
    by_cases c1 : k.1 = 1
    · rw [if_pos c1] at h
      split at h
      · cases h; omega
      · split at h
        · cases h; omega
        · cases h
    · rw [if_neg c1] at h
      by_cases c2 : k.1 = 2
      · rw [if_pos c2] at h; cases h; omega
      · rw [if_neg c2] at h
        by_cases c3 : k.1 = 3
        · rw [if_pos c3] at h; cases h
        · rw [if_neg c3] at h; cases h; exact ⟨by omega, fun _ => hk⟩
theorem c140t {d : Nat} {M : zM} {Q : Option Value → zM → Prop} {c n o : Nat} {b : Nat → Nat} {K : yQ} {s : Nat} (hG : GX M c n b o K) (hv : yQv n b K) (hs : 3 < s) (hs2 : s < 256) (h : K.1.1 = s) (k : Q (some (.int (nI 1))) M) : qC (d + 1) 140 [.ref 136, .int (nI s)] M Q := by
  refine qC_of (by decide) (Nat.le_of_ble_eq_true rfl) ?_
  have hc := hG.2.1
  have h120 := hG.2.2.2.1.1
  have hk1 := hv.1.1.1
  have hk2 := hv.1.1.2.1
  have hk3 := hv.1.1.2.2.1
  obtain ⟨t, v, htv, h33, h34, h38⟩ := hG.2.2.2.2.2.1
  have ht4 := ytx_t4 htv hk3
  have hy := (ytx_sg htv hs).mp h
  refine q_aload_n d140_0 rfl ?_
  refine q_getv (c := 8) (f := 38) d140_1 ⟨rfl, by decide⟩ (xk_136 hG.1) hG.w ?_
  refine n0_ne 27 d140_4 (by decide) (by decide) (fun q => absurd q (by decide)) (fun _ => ?_)
  refine q_aload_n d140_7 rfl ?_
  refine q_getv (c := 8) (f := 33) d140_8 ⟨rfl, by decide⟩ (xk_136 hG.1) h33 ?_
  refine q_iconstN (z := 4) d140_11 ?_
  refine nc_ne 27 d140_12 (by decide) (by omega) (by omega) (fun h12 => (False.elim (h12 hy.1))) (fun h12 => ?_)
  have hv4 := ht4.2 h12
  refine q_aload_n d140_15 rfl ?_
  refine q_getv (c := 8) (f := 34) d140_16 ⟨rfl, by decide⟩ (xk_136 hG.1) (h34 (by omega)) ?_
  refine q_iload_n d140_19 rfl ?_
  refine nc_ne 27 d140_20 (by decide) (by omega) (by omega) (fun h20 => (False.elim (h20 hy.2))) (fun h20 => ?_)
  refine q_iconstN (z := 1) d140_23 ?_
  refine q_goto 28 d140_24 (by decide) ?_
  refine q_zret d140_28 rfl (by decide) ?_
  exact k
theorem c140n {d : Nat} {M : zM} {Q : Option Value → zM → Prop} {c n o : Nat} {b : Nat → Nat} {K : yQ} {s : Nat} (hG : GX M c n b o K) (hv : yQv n b K) (hs : 3 < s) (hs2 : s < 256) (h : ¬ K.1.1 = s) (k : Q (some (.int (nI 0))) M) : qC (d + 1) 140 [.ref 136, .int (nI s)] M Q := by
  refine qC_of (by decide) (Nat.le_of_ble_eq_true rfl) ?_
  have hc := hG.2.1
  have h120 := hG.2.2.2.1.1
  have hk1 := hv.1.1.1
  have hk2 := hv.1.1.2.1
  have hk3 := hv.1.1.2.2.1
  obtain ⟨t, v, htv, h33, h34, h38⟩ := hG.2.2.2.2.2.1
  have ht4 := ytx_t4 htv hk3
  have hy : ¬ (t = 4 ∧ v = s) := fun q => h ((ytx_sg htv hs).mpr q)
  refine q_aload_n d140_0 rfl ?_
  refine q_getv (c := 8) (f := 38) d140_1 ⟨rfl, by decide⟩ (xk_136 hG.1) hG.w ?_
  refine n0_ne 27 d140_4 (by decide) (by decide) (fun q => absurd q (by decide)) (fun _ => ?_)
  refine q_aload_n d140_7 rfl ?_
  refine q_getv (c := 8) (f := 33) d140_8 ⟨rfl, by decide⟩ (xk_136 hG.1) h33 ?_
  refine q_iconstN (z := 4) d140_11 ?_
  refine nc_ne 27 d140_12 (by decide) (by omega) (by omega) (fun h12 => ?_) (fun h12 => ?_)
  · refine q_iconstN (z := 0) d140_27 ?_
    refine q_zret d140_28 rfl (by decide) ?_
    exact k
  · have hv4 := ht4.2 h12
    refine q_aload_n d140_15 rfl ?_
    refine q_getv (c := 8) (f := 34) d140_16 ⟨rfl, by decide⟩ (xk_136 hG.1) (h34 (by omega)) ?_
    refine q_iload_n d140_19 rfl ?_
    refine nc_ne 27 d140_20 (by decide) (by omega) (by omega) (fun h20 => ?_) (fun h20 => (False.elim (hy ⟨h12, h20⟩)))
    refine q_iconstN (z := 0) d140_27 ?_
    refine q_zret d140_28 rfl (by decide) ?_
    exact k
theorem c140f {d : Nat} {M : zM} {Q : Option Value → zM → Prop} {c n f : Nat} {b : Nat → Nat} {x : Int32} (hB : BX M c n b f) (k : Q (some (.int (nI 0))) M) : qC (d + 1) 140 [.ref 136, .int x] M Q := by
  refine qC_of (by decide) (Nat.le_of_ble_eq_true rfl) ?_
  refine q_aload_n d140_0 rfl ?_
  refine q_getv (c := 8) (f := 38) d140_1 ⟨rfl, by decide⟩ (xk_136 hB.1) hB.f0 ?_
  refine n0_ne 27 d140_4 (by decide) (by decide) (fun _ => ?_) (fun q => absurd q (by decide))
  refine q_iconstN (z := 0) d140_27 ?_
  refine q_zret d140_28 rfl (by decide) ?_
  exact k
theorem c134b {d : Nat} {M : zM} {Q : Option Value → zM → Prop} {c n f : Nat} {b : Nat → Nat} (hB : BX M c n b f) (k : Q none M) : qC (d + 10) 134 [.ref 136] M Q := c134f hB.1 hB.f0 k
theorem d143_0 : decode (zB 143) 0 = .ok (.aload_n 0, 1) := by decide +kernel
theorem d143_1 : decode (zB 143) 1 = .ok (.getfield 166, 3) := by decide +kernel
theorem d143_4 : decode (zB 143) 4 = .ok (.iload_n 1, 1) := by decide +kernel
theorem d143_5 : decode (zB 143) 5 = .ok (.if_icmp .eq 8, 3) := by decide +kernel
theorem d143_8 : decode (zB 143) 8 = .ok (.aload_n 0, 1) := by decide +kernel
theorem d143_9 : decode (zB 143) 9 = .ok (.iconst 1, 1) := by decide +kernel
theorem d143_10 : decode (zB 143) 10 = .ok (.putfield 162, 3) := by decide +kernel
theorem d143_13 : decode (zB 143) 13 = .ok (.aload_n 0, 1) := by decide +kernel
theorem d143_14 : decode (zB 143) 14 = .ok (.getfield 172, 3) := by decide +kernel
theorem d143_17 : decode (zB 143) 17 = .ok (.istore_n 2, 1) := by decide +kernel
theorem d143_18 : decode (zB 143) 18 = .ok (.aload_n 0, 1) := by decide +kernel
theorem d143_19 : decode (zB 143) 19 = .ok (.invokevirtual 175, 3) := by decide +kernel
theorem d143_22 : decode (zB 143) 22 = .ok (.iload_n 2, 1) := by decide +kernel
theorem d143_23 : decode (zB 143) 23 = .ok (.ireturn, 1) := by decide +kernel
def yTk (b : Nat → Nat) (k : yK) (s v : Nat) : Prop := ytx b k = some (s, v)
theorem c143t {d : Nat} {M : zM} {Q : Option Value → zM → Prop} {c n o : Nat} {b : Nat → Nat} {K : yQ} {s w : Nat} (hG : GX M c n b o K) (hv : yQv n b K) (hs : s ≠ 0) (hs5 : s < 5) (e : ytx b K.1 = some (s, w)) (k : ytx b (pAd n b K.1) ≠ none → ∀ M', GX M' c n b o (pAd n b K.1, K.2) → Fi (FJ c) M M' → Q (some (.int (nI w))) M') (kb : ytx b (pAd n b K.1) = none → ∀ v M', BX M' c n b (pAd n b K.1).2.1 → Fi (FJ c) M M' → Q (some (.int v)) M') : qC (d + 11) 143 [.ref 136, .int (nI s)] M Q := by
  refine qC_of (by decide) (Nat.le_of_ble_eq_true rfl) ?_
  have hc := hG.2.1
  have h120 := hG.2.2.2.1.1
  have hk1 := hv.1.1.1
  have hk2 := hv.1.1.2.1
  have hk3 := hv.1.1.2.2.1
  obtain ⟨t, v, htv, h33, h34, h38⟩ := hG.2.2.2.2.2.1
  have ht4 := ytx_t4 htv hk3
  rw [e] at htv
  cases htv
  refine q_aload_n d143_0 rfl ?_
  refine q_getv (c := 8) (f := 33) d143_1 ⟨rfl, by decide⟩ (xk_136 hG.1) h33 ?_
  refine q_iload_n d143_4 rfl ?_
  refine nc_eq 13 d143_5 (by decide) (by omega) (by omega) (fun h5 => ?_) (fun h5 => (False.elim (h5 rfl)))
  refine q_aload_n d143_13 rfl ?_
  refine q_getv (c := 8) (f := 34) d143_14 ⟨rfl, by decide⟩ (xk_136 hG.1) (h34 (by omega)) ?_
  refine q_istore_n d143_17 (by decide) rfl ?_
  refine q_aload_n d143_18 rfl ?_
  exact q_v0 d143_19 rfl rfl (xk_136 hG.1) (Nat.le_of_ble_eq_true rfl) (c134g hG hv (fun hn M1 hG1 f1 => (q_iload_n d143_22 rfl (q_iret d143_23 rfl (k hn M1 hG1 f1)))) (fun hn M1 hB1 f1 => (q_iload_n d143_22 rfl (q_iret d143_23 rfl (kb hn _ M1 hB1 f1)))))
theorem c143n {d : Nat} {M : zM} {Q : Option Value → zM → Prop} {c n o : Nat} {b : Nat → Nat} {K : yQ} {s : Nat} (hG : GX M c n b o K) (hv : yQv n b K) (hs5 : s < 5) (e : ∀ w, ytx b K.1 ≠ some (s, w)) (kb : ∀ v M', BX M' c n b K.1.2.1 → Fi (FJ c) M M' → Q (some (.int v)) M') : qC (d + 11) 143 [.ref 136, .int (nI s)] M Q := by
  refine qC_of (by decide) (Nat.le_of_ble_eq_true rfl) ?_
  have hc := hG.2.1
  have h120 := hG.2.2.2.1.1
  have hk1 := hv.1.1.1
  have hk2 := hv.1.1.2.1
  have hk3 := hv.1.1.2.2.1
  obtain ⟨t, v, htv, h33, h34, h38⟩ := hG.2.2.2.2.2.1
  have ht4 := ytx_t4 htv hk3
  refine q_aload_n d143_0 rfl ?_
  refine q_getv (c := 8) (f := 33) d143_1 ⟨rfl, by decide⟩ (xk_136 hG.1) h33 ?_
  refine q_iload_n d143_4 rfl ?_
  refine nc_eq 13 d143_5 (by decide) (by omega) (by omega) (fun h5 => (False.elim (e v (by rw [h5] at htv; exact htv)))) (fun h5 => ?_)
  refine q_aload_n d143_8 rfl ?_
  refine q_iconstN (z := 1) d143_9 ?_
  refine q_putz (c := 8) (f := 38) d143_10 ⟨rfl, rfl, by decide⟩ (xk_136 hG.1) (Or.inr rfl) ?_
  refine q_aload_n d143_13 rfl ?_
  refine q_getv (c := 8) (f := 34) d143_14 ⟨rfl, by decide⟩ (xk_136 hG.1) rfl ?_
  refine q_istore_n d143_17 (by decide) rfl ?_
  refine q_aload_n d143_18 rfl ?_
  refine q_v0 d143_19 rfl rfl (xk_136 hG.1) (Nat.le_of_ble_eq_true rfl) (c134b hG.bad ?_)
  refine q_iload_n d143_22 rfl ?_
  refine q_iret d143_23 rfl ?_
  exact kb _ _ hG.bad GX.badF
