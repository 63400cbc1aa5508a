/-! ===== turns and ticks keep it ===== -/
def ym1 (X : yX) (s : Nat) : Nat := yln X.2 + (if gt (yxs X s) = 1 then 1 else 0)
theorem ytr_m {T : yT} {n : Int32} {s i : Nat} {X : yX} (hg : gt (yxs X s) = 1) : ym1 (ytr T n s i X) s ≤ ym1 X s + 1 := by
  have h := (ytr_d (T := T) (n := n) (i := i) hg).2.2.1
  unfold ym1
  rw [if_pos hg]
  split at h <;> rename_i h2
  · rw [if_pos h2]; omega
  · rw [if_neg h2]; omega
theorem yfl_ok {T : Nat → yT} {c s g0 fr : Nat} {nm : Nat → Int32} (hs : s < 3) : ∀ (k i : Nat) (X : yX), OKW T c X.1 → gx (yxs X s) = g0 → (∀ j, i ≤ j → fr.testBit j = true → j < tn (T g0) ∧ gd (yxs X s) j = 0) → (gt (yxs X s) = 1 ∨ gt (yxs X s) = 2 ∨ gt (yxs X s) = 5) →
    OKW T c (yfl (T g0) nm s fr k i X).1 ∧ gx (yxs (yfl (T g0) nm s fr k i X) s) = g0 ∧ (gt (yxs (yfl (T g0) nm s fr k i X) s) = 1 ∨ gt (yxs (yfl (T g0) nm s fr k i X) s) = 2 ∨ gt (yxs (yfl (T g0) nm s fr k i X) s) = 5) ∧
    (∀ r, r ≠ s → yxs (yfl (T g0) nm s fr k i X) r = yxs X r) ∧ ym1 (yfl (T g0) nm s fr k i X) s ≤ ym1 X s + k
  | 0, i, X, h, hx, hf, hg => ⟨h, hx, hg, fun _ _ => rfl, Nat.le_refl _⟩
  | k + 1, i, X, h, hx, hf, hg => by
    rw [yfl]
    by_cases h1 : gt (yxs X s) = 1
    · rw [if_pos h1]
      by_cases hb : fr.testBit i = true
      · rw [if_pos hb]
        have hi := hf i (Nat.le_refl _) hb
        have hd := ytr_d (T := T g0) (n := nm i) (i := i) h1
        have ho : OKW T c (ytr (T g0) (nm i) s i X).1 := by
          have := ytr_ok (n := nm i) (i := i) h hs h1 (by rw [hx]; exact hi.1) hi.2
          rw [hx] at this; exact this
        obtain ⟨a1, a2, a3, a4, a5⟩ := yfl_ok (nm := nm) hs k (i + 1) (ytr (T g0) (nm i) s i X) ho (hd.2.1.trans hx) (fun j hj hjb => ⟨(hf j (by omega) hjb).1, by rw [hd.1 j (by omega)]; exact (hf j (by omega) hjb).2⟩) hd.2.2.2
        have hm := ytr_m (T := T g0) (n := nm i) (i := i) h1
        exact ⟨a1, a2, a3, fun r hr => (a4 r hr).trans (ytr_n hr), by omega⟩
      · rw [if_neg hb]
        obtain ⟨a1, a2, a3, a4, a5⟩ := yfl_ok (nm := nm) hs k (i + 1) X h hx (fun j hj hjb => hf j (by omega) hjb) hg
        exact ⟨a1, a2, a3, a4, by omega⟩
    · rw [if_neg h1]; exact ⟨h, hx, hg, fun _ _ => rfl, by omega⟩
theorem yen_ok {T : Nat → yT} {c s v : Nat} {X : yX} (h : OKW T c X.1) (hs : s < 3) (hg : gt (yxs X s) ≠ 0) (hv : v ≠ 0) (h5 : v ≤ 5) : OKW T c (yen X s v).1 := OKW_ss h (OKS_st (h.2.2 s hs) hg hv h5)
theorem yen_s {X : yX} {s v : Nat} : yxs (yen X s v) s = gtS (yxs X s) v := yss_s _ _ _
theorem yen_n {X : yX} {s v r : Nat} (h : r ≠ s) : yxs (yen X s v) r = yxs X r := yss_n h
theorem yen_l {X : yX} {s v : Nat} : yln (yen X s v).2 ≤ yln X.2 + 1 := yln_lg _ _
theorem front_bit {T : yT} {S : yS} {j : Nat} (h : (yfr T S).testBit j = true) : j < tn T ∧ gd S j = 0 := by
  unfold yfr at h
  rw [ymk_bit] at h
  simp only [Bool.and_eq_true, decide_eq_true_eq, beq_iff_eq] at h
  exact ⟨h.1, h.2.1⟩
theorem yfo_ok {T : Nat → yT} {c s : Nat} {nm : Nat → Int32} {X : yX} (h : OKW T c X.1) (hs : s < 3) (hg : gt (yxs X s) = 1) :
    OKW T c (yfo (T (gx (yxs X s))) nm s X).1 ∧ gx (yxs (yfo (T (gx (yxs X s))) nm s X) s) = gx (yxs X s) ∧ gt (yxs (yfo (T (gx (yxs X s))) nm s X) s) ≠ 0 ∧ (∀ r, r ≠ s → yxs (yfo (T (gx (yxs X s))) nm s X) r = yxs X r) ∧ yln (yfo (T (gx (yxs X s))) nm s X).2 ≤ yln X.2 + 13 := by
  obtain ⟨a1, a2, a3, a4, a5⟩ := yfl_ok (fr := yfr (T (gx (yxs X s))) (yxs X s)) (nm := nm) hs 12 0 X h rfl (fun j _ hj => front_bit hj) (Or.inl hg)
  unfold yfo
  simp only []
  generalize yfl (T (gx (yxs X s))) nm s (yfr (T (gx (yxs X s))) (yxs X s)) 12 0 X = X1 at a1 a2 a3 a4 a5 ⊢
  have hm : ym1 X s = yln X.2 + 1 := by unfold ym1; rw [if_pos hg]
  by_cases hc : gt (yxs X1 s) = 1 ∧ gm (yxs X1 s) 1 = 2 ^ tn (T (gx (yxs X s))) - 1
  · rw [if_pos hc]
    have h1 : ym1 X1 s = yln X1.2 + 1 := by unfold ym1; rw [if_pos hc.1]
    have h2 := yen_l (X := X1) (s := s) (v := 3)
    refine ⟨yen_ok a1 hs (by omega) (by omega) (by omega), by rw [yen_s]; exact a2, by rw [yen_s]; exact (by decide : (3 : Nat) ≠ 0), fun r hr => (yen_n hr).trans (a4 r hr), by omega⟩
  · rw [if_neg hc]
    have h1 : yln X1.2 ≤ ym1 X1 s := by unfold ym1; omega
    refine ⟨a1, a2, by omega, a4, by omega⟩
theorem yun_ok {T : Nat → yT} {c s : Nat} {X : yX} (h : OKW T c X.1) (hs : s < 3) (hg : gt (yxs X s) ≠ 0) :
    OKW T c (yun (T (gx (yxs X s))) s X).1 ∧ gx (yxs (yun (T (gx (yxs X s))) s X) s) = gx (yxs X s) ∧ gt (yxs (yun (T (gx (yxs X s))) s X) s) = gt (yxs X s) ∧ (∀ r, r ≠ s → yxs (yun (T (gx (yxs X s))) s X) r = yxs X r) ∧ yln (yun (T (gx (yxs X s))) s X).2 ≤ yln X.2 + 1 := by
  have hS : OKS T c (yxs X s) := h.2.2 s hs
  unfold yun
  simp only []
  cases ho : go (yxs X s) with
  | nil => exact ⟨h, rfl, rfl, fun _ _ => rfl, Nat.le_succ _⟩
  | cons i t =>
    have hi : gd (yxs X s) i = 1 := (hS.2.2.2.1 i).mp (by rw [ho]; exact List.mem_cons_self)
    have hz : i < gz T (yxs X s) := Nat.lt_of_not_le (fun q => by have := hS.2.2.2.2.1 i q; omega)
    have hz2 : gz T (yxs X s) = tn (T (gx (yxs X s))) := by unfold gz; rw [if_neg hg]
    simp only []
    by_cases hr : (if ypl (gq (yxs X s)) i = true then 1 else yob (T (gx (yxs X s))) X.1.1 i (gb (yxs X s) i) (-1)) = 0
    · rw [if_pos hr]
      have hp : ypl (gq (yxs X s)) i = false := by
        cases hq : ypl (gq (yxs X s)) i with
        | false => rfl
        | true => rw [hq, if_pos rfl] at hr; exact absurd hr (by decide)
      rw [hp, if_neg (by decide)] at hr
      refine ⟨OKW_ss (X := ysp X _) ⟨h.1, OKP_ch (h.1.2 _ (hS.2.1 hg)) (by omega) h.2.1 hr, h.2.2⟩ (OKS_undo (S := gqS (yxs X s) _) hS ho (Or.inl rfl)), ?_, ?_, fun r hr2 => yss_n (X := ysp X _) hr2, yln_lg _ _⟩
      · show gx (yxs (yss (ysp X _) s _) s) = _; rw [yss_s]; rfl
      · show gt (yxs (yss (ysp X _) s _) s) = _; rw [yss_s]; rfl
    · rw [if_neg hr]
      refine ⟨OKW_ss h (OKS_undo (S := gqS (yxs X s) _) hS ho (Or.inr rfl)), ?_, ?_, fun r hr2 => yss_n hr2, yln_lg _ _⟩
      · show gx (yxs (yss X s _) s) = _; rw [yss_s]; rfl
      · show gt (yxs (yss X s _) s) = _; rw [yss_s]; rfl
theorem yba_ok {T : Nat → yT} {c s : Nat} {X : yX} (h : OKW T c X.1) (hs : s < 3) (hg : gt (yxs X s) ≠ 0) :
    OKW T c (yba (T (gx (yxs X s))) s X).1 ∧ gx (yxs (yba (T (gx (yxs X s))) s X) s) = gx (yxs X s) ∧ gt (yxs (yba (T (gx (yxs X s))) s X) s) ≠ 0 ∧ (∀ r, r ≠ s → yxs (yba (T (gx (yxs X s))) s X) r = yxs X r) ∧ yln (yba (T (gx (yxs X s))) s X).2 ≤ yln X.2 + 2 := by
  obtain ⟨a1, a2, a3, a4, a5⟩ := yun_ok h hs hg
  unfold yba
  simp only []
  generalize yun (T (gx (yxs X s))) s X = X1 at a1 a2 a3 a4 a5 ⊢
  by_cases hc : gm (yxs X1 s) 1 = 0
  · rw [if_pos hc]
    have h2 := yen_l (X := X1) (s := s) (v := 4)
    exact ⟨yen_ok a1 hs (by omega) (by omega) (by omega), by rw [yen_s]; exact a2, by rw [yen_s]; exact (by decide : (4 : Nat) ≠ 0), fun r hr => (yen_n hr).trans (a4 r hr), by omega⟩
  · rw [if_neg hc]; exact ⟨a1, a2, by omega, a4, by omega⟩
theorem ytu_ok {T : Nat → yT} {nm : Nat → Nat → Int32} {c s : Nat} {X : yX} (h : OKW T c X.1) (hs : s < 3) :
    OKW T c (ytu T nm s X).1 ∧ (∀ r, gx (yxs (ytu T nm s X) r) = gx (yxs X r) ∧ (gt (yxs (ytu T nm s X) r) = 0 ↔ gt (yxs X r) = 0)) ∧ yln (ytu T nm s X).2 ≤ yln X.2 + 13 := by
  unfold ytu
  by_cases h1 : gt (yxs X s) = 1
  · rw [if_pos h1]
    obtain ⟨a1, a2, a3, a4, a5⟩ := yfo_ok (nm := nm s) h hs h1
    refine ⟨a1, fun r => ?_, a5⟩
    by_cases e : r = s
    · subst e; exact ⟨a2, by omega⟩
    · rw [a4 r e]; exact ⟨rfl, Iff.rfl⟩
  · rw [if_neg h1]
    by_cases h2 : gt (yxs X s) = 2
    · rw [if_pos h2]
      obtain ⟨a1, a2, a3, a4, a5⟩ := yba_ok h hs (by omega)
      refine ⟨a1, fun r => ?_, by omega⟩
      by_cases e : r = s
      · subst e; exact ⟨a2, by omega⟩
      · rw [a4 r e]; exact ⟨rfl, Iff.rfl⟩
    · rw [if_neg h2]; exact ⟨h, fun r => ⟨rfl, Iff.rfl⟩, by omega⟩
theorem yti_ok {T : Nat → yT} {nm : Nat → Nat → Int32} {c : Nat} {X : yX} (h : OKW T c X.1) :
    OKW T c (yti T nm X).1 ∧ (∀ r, gx (yxs (yti T nm X) r) = gx (yxs X r) ∧ (gt (yxs (yti T nm X) r) = 0 ↔ gt (yxs X r) = 0)) ∧ yln (yti T nm X).2 ≤ yln X.2 + 39 := by
  obtain ⟨a1, a2, a3⟩ := ytu_ok (nm := nm) h (show 0 < 3 by omega)
  obtain ⟨b1, b2, b3⟩ := ytu_ok (nm := nm) a1 (show 1 < 3 by omega)
  obtain ⟨c1, c2, c3⟩ := ytu_ok (nm := nm) b1 (show 2 < 3 by omega)
  exact ⟨c1, fun r => ⟨(c2 r).1.trans ((b2 r).1.trans (a2 r).1), (c2 r).2.trans ((b2 r).2.trans (a2 r).2)⟩, by unfold yti; omega⟩
theorem ytn_ok {T : Nat → yT} {nm : Nat → Nat → Int32} {c : Nat} : ∀ (k : Nat) (X : yX), OKW T c X.1 → OKW T c (ytn T nm k X).1 ∧ ∀ r, gx (yxs (ytn T nm k X) r) = gx (yxs X r) ∧ (gt (yxs (ytn T nm k X) r) = 0 ↔ gt (yxs X r) = 0)
  | 0, X, h => ⟨h, fun r => ⟨rfl, Iff.rfl⟩⟩
  | k + 1, X, h => by
    obtain ⟨a1, a2, -⟩ := yti_ok (nm := nm) h
    obtain ⟨b1, b2⟩ := ytn_ok (nm := nm) k _ a1
    exact ⟨b1, fun r => ⟨(b2 r).1.trans (a2 r).1, (b2 r).2.trans (a2 r).2⟩⟩
