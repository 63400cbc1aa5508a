/-! ===== what the calls keep ===== -/
def yCs (S S' : yS) : Prop := gt S = gt S' ∧ (gt S ≠ 0 → gx S = gx S') ∧ gd S = gd S' ∧ go S = go S' ∧ (∀ k, gd S k = 1 → gb S k = gb S' k) ∧ gf S = gf S'
theorem yCs.rf (S : yS) : yCs S S := ⟨rfl, fun _ => rfl, rfl, rfl, fun _ _ => rfl, rfl⟩
theorem yCs.tr {S S' S'' : yS} (h : yCs S S') (g : yCs S' S'') : yCs S S'' := ⟨h.1.trans g.1, fun q => (h.2.1 q).trans (g.2.1 (by rw [← h.1]; exact q)), h.2.2.1.trans g.2.2.1, h.2.2.2.1.trans g.2.2.2.1, fun k q => (h.2.2.2.2.1 k q).trans (g.2.2.2.2.1 k (by rw [← h.2.2.1]; exact q)), h.2.2.2.2.2.trans g.2.2.2.2.2⟩
theorem yCo.rf (W : yW) : yCo W W := ⟨rfl, fun s _ => yCs.rf _⟩
theorem yCo.tr {W W' W'' : yW} (h : yCo W W') (g : yCo W' W'') : yCo W W'' := ⟨h.1.trans g.1, fun s hs => yCs.tr (h.2 s hs) (g.2 s hs)⟩
theorem yCo.u {W W' : yW} {P P' : yP} {s : Nat} {S S' : yS} (h : yCo W W') (e : P = P') (hS : yCs S S') : yCo (P, yu W.2 s S) (P', yu W'.2 s S') := by
  refine ⟨e, fun r hr => ?_⟩
  show yCs (yu W.2 s S r) (yu W'.2 s S' r)
  by_cases q : r = s
  · subst q; rw [yu_s, yu_s]; exact hS
  · rw [yu_n q, yu_n q]; exact h.2 r hr
theorem yCs.m {S S' : yS} (h : yCs S S') (v : Nat) : gm S v = gm S' v := by unfold gm; rw [h.2.2.1]
theorem yag_co {T : Nat → yT} {c : Nat} {W R : yW} {l : yL} (h : yCo W R) (hO : OKW T c W) (hl : yle T c W l) : yle T c R l ∧ yCo (yag T W l) (yag T R l) := by
  obtain ⟨e, s, i⟩ := l
  obtain ⟨h0, hS⟩ := h
  rcases hl with ⟨rfl, h1, h2⟩ | ⟨rfl, h1, h2, h3, h4, h5⟩ | ⟨rfl, h1, h2, h3⟩ | ⟨rfl, h1, h2, ⟨t, h3⟩, h5⟩ | ⟨rfl, h1, h2, ⟨t, h3⟩⟩ | ⟨rfl, h1, h2, h3⟩ | ⟨rfl, h1, h2⟩
  · exact ⟨Or.inl ⟨rfl, h1, h2⟩, yCo.u ⟨h0, hS⟩ h0 (yCs.rf _)⟩
  · have h1 : s < 3 := h1
    have hs : yCs (W.2 s) (R.2 s) := hS s h1
    have h2 : gt (W.2 s) = 1 := h2
    have ex : gx (W.2 s) = gx (R.2 s) := hs.2.1 (by omega)
    have h3 : i < tn (T (gx (W.2 s))) := h3
    have h4 : gd (W.2 s) i = 0 := h4
    have h5 : yob (T (gx (W.2 s))) W.1 i (tu (T (gx (W.2 s))) i) 1 = 0 := h5
    refine ⟨Or.inr (Or.inl ⟨rfl, h1, hs.1.symm.trans h2, ?_, ?_, ?_⟩), ?_⟩
    · show i < tn (T (gx (R.2 s))); rw [← ex]; exact h3
    · show gd (R.2 s) i = 0; rw [← hs.2.2.1]; exact h4
    · show yob (T (gx (R.2 s))) R.1 i (tu (T (gx (R.2 s))) i) 1 = 0; rw [← ex, ← h0]; exact h5
    · show yCo (ych (T (gx (W.2 s))) W.1 i (tu (T (gx (W.2 s))) i) 1, yu W.2 s (yDn (W.2 s) i (tu (T (gx (W.2 s))) i))) (ych (T (gx (R.2 s))) R.1 i (tu (T (gx (R.2 s))) i) 1, yu R.2 s (yDn (R.2 s) i (tu (T (gx (R.2 s))) i)))
      rw [← ex, ← h0]
      refine yCo.u ⟨h0, hS⟩ rfl ⟨hs.1, hs.2.1, ?_, ?_, fun k q => ?_, hs.2.2.2.2.2⟩
      · show yu (gd (W.2 s)) i 1 = yu (gd (R.2 s)) i 1; rw [hs.2.2.1]
      · show i :: go (W.2 s) = i :: go (R.2 s); rw [hs.2.2.2.1]
      · have q : yu (gd (W.2 s)) i 1 k = 1 := q
        show yu (gb (W.2 s)) i _ k = yu (gb (R.2 s)) i _ k
        by_cases e : k = i
        · subst e; rw [yu_s, yu_s]
        · rw [yu_n e] at q; rw [yu_n e, yu_n e]; exact hs.2.2.2.2.1 k q
  · have h1 : s < 3 := h1
    have hs : yCs (W.2 s) (R.2 s) := hS s h1
    have h2 : gt (W.2 s) = 1 := h2
    have ex : gx (W.2 s) = gx (R.2 s) := hs.2.1 (by omega)
    have h3 : i < tn (T (gx (W.2 s))) := h3
    refine ⟨Or.inr (Or.inr (Or.inl ⟨rfl, h1, hs.1.symm.trans h2, ?_⟩)), ?_⟩
    · show i < tn (T (gx (R.2 s))); rw [← ex]; exact h3
    · show yCo (W.1, yu W.2 s (yfS (W.2 s) i 0 (ypa (T (gx (W.2 s))) (gm (W.2 s) 1)))) (R.1, yu R.2 s (yfS (R.2 s) i 0 (ypa (T (gx (R.2 s))) (gm (R.2 s) 1))))
      rw [← ex, ← hs.m 1]
      refine yCo.u ⟨h0, hS⟩ h0 ?_
      unfold yfS
      simp only []
      split
      · exact ⟨hs.1, hs.2.1, hs.2.2.1, hs.2.2.2.1, hs.2.2.2.2.1, by show yu (gf (W.2 s)) i (gf (W.2 s) i + 1) = yu (gf (R.2 s)) i (gf (R.2 s) i + 1); rw [hs.2.2.2.2.2]⟩
      · exact ⟨rfl, fun _ => ex, hs.2.2.1, hs.2.2.2.1, hs.2.2.2.2.1, by show yu (gf (W.2 s)) i (gf (W.2 s) i + 1) = yu (gf (R.2 s)) i (gf (R.2 s) i + 1); rw [hs.2.2.2.2.2]⟩
  · have h1 : s < 3 := h1
    have hs : yCs (W.2 s) (R.2 s) := hS s h1
    have h2 : gt (W.2 s) ≠ 0 := h2
    have ex : gx (W.2 s) = gx (R.2 s) := hs.2.1 h2
    have h3 : go (W.2 s) = i :: t := h3
    have h5 : yob (T (gx (W.2 s))) W.1 i (gb (W.2 s) i) (-1) = 0 := h5
    have hgd : gd (W.2 s) i = 1 := ((hO.2.2 s h1).2.2.2.1 i).mp (by rw [h3]; exact List.mem_cons_self)
    have eb := hs.2.2.2.2.1 i hgd
    refine ⟨Or.inr (Or.inr (Or.inr (Or.inl ⟨rfl, h1, by rw [← hs.1]; exact h2, ⟨t, hs.2.2.2.1.symm.trans h3⟩, ?_⟩))), ?_⟩
    · show yob (T (gx (R.2 s))) R.1 i (gb (R.2 s) i) (-1) = 0; rw [← ex, ← h0, ← eb]; exact h5
    · show yCo (ych (T (gx (W.2 s))) W.1 i (gb (W.2 s) i) (-1), yu W.2 s (goS (gdS (W.2 s) (yu (gd (W.2 s)) i 2)) (go (W.2 s)).tail)) (ych (T (gx (R.2 s))) R.1 i (gb (R.2 s) i) (-1), yu R.2 s (goS (gdS (R.2 s) (yu (gd (R.2 s)) i 2)) (go (R.2 s)).tail))
      rw [← ex, ← h0, ← eb]
      refine yCo.u ⟨h0, hS⟩ rfl ⟨hs.1, hs.2.1, ?_, ?_, fun k q => ?_, hs.2.2.2.2.2⟩
      · show yu (gd (W.2 s)) i 2 = yu (gd (R.2 s)) i 2; rw [hs.2.2.1]
      · show (go (W.2 s)).tail = (go (R.2 s)).tail; rw [hs.2.2.2.1]
      · have q : yu (gd (W.2 s)) i 2 k = 1 := q
        show gb (W.2 s) k = gb (R.2 s) k
        by_cases e : k = i
        · subst e; exact eb
        · rw [yu_n e] at q; exact hs.2.2.2.2.1 k q
  · have h1 : s < 3 := h1
    have hs : yCs (W.2 s) (R.2 s) := hS s h1
    have h2 : gt (W.2 s) ≠ 0 := h2
    have h3 : go (W.2 s) = i :: t := h3
    have hgd : gd (W.2 s) i = 1 := ((hO.2.2 s h1).2.2.2.1 i).mp (by rw [h3]; exact List.mem_cons_self)
    have eb := hs.2.2.2.2.1 i hgd
    refine ⟨Or.inr (Or.inr (Or.inr (Or.inr (Or.inl ⟨rfl, h1, by rw [← hs.1]; exact h2, ⟨t, hs.2.2.2.1.symm.trans h3⟩⟩)))), ?_⟩
    show yCo (W.1, yu W.2 s (gwS (goS (gdS (W.2 s) (yu (gd (W.2 s)) i 3)) (go (W.2 s)).tail) (yu (gw (W.2 s)) i 0))) (R.1, yu R.2 s (gwS (goS (gdS (R.2 s) (yu (gd (R.2 s)) i 3)) (go (R.2 s)).tail) (yu (gw (R.2 s)) i 0)))
    refine yCo.u ⟨h0, hS⟩ h0 ⟨hs.1, hs.2.1, ?_, ?_, fun k q => ?_, hs.2.2.2.2.2⟩
    · show yu (gd (W.2 s)) i 3 = yu (gd (R.2 s)) i 3; rw [hs.2.2.1]
    · show (go (W.2 s)).tail = (go (R.2 s)).tail; rw [hs.2.2.2.1]
    · have q : yu (gd (W.2 s)) i 3 k = 1 := q
      show gb (W.2 s) k = gb (R.2 s) k
      by_cases e : k = i
      · subst e; exact eb
      · rw [yu_n e] at q; exact hs.2.2.2.2.1 k q
  · have h1 : s < 3 := h1
    have hs : yCs (W.2 s) (R.2 s) := hS s h1
    have h2 : gt (W.2 s) ≠ 0 := h2
    refine ⟨Or.inr (Or.inr (Or.inr (Or.inr (Or.inr (Or.inl ⟨rfl, h1, by rw [← hs.1]; exact h2, h3⟩))))), ?_⟩
    exact yCo.u ⟨h0, hS⟩ h0 ⟨rfl, fun _ => hs.2.1 h2, hs.2.2.1, hs.2.2.2.1, hs.2.2.2.2.1, hs.2.2.2.2.2⟩
  · refine ⟨Or.inr (Or.inr (Or.inr (Or.inr (Or.inr (Or.inr ⟨rfl, h1, h2⟩))))), ?_⟩
    show yCo ((yu W.1.1 s (nI i), W.1.2), W.2) ((yu R.1.1 s (nI i), R.1.2), R.2)
    rw [← h0]
    exact ⟨rfl, hS⟩
/-- a log that tells the world -/
def yI (T : Nat → yT) (c : Nat) (X : yX) : Prop := ∃ L, X.2 = some L ∧ yva T c L ∧ yCo X.1 (yre T L)
theorem yre_a {T : Nat → yT} {L : List yL} {l : yL} : yre T (L ++ [l]) = yag T (yre T L) l := by
  unfold yre
  rw [List.foldl_append]
  rfl
theorem yva_a {T : Nat → yT} {c : Nat} {L : List yL} {l : yL} (h : yva T c L) (hl : yle T c (yre T L) l) : yva T c (L ++ [l]) := by
  intro k hk
  rw [List.length_append] at hk
  have hk : k < L.length + 1 := hk
  by_cases e : k = L.length
  · subst e
    rw [List.take_left' rfl, List.getD_eq_getElem?_getD, List.getElem?_append_right (Nat.le_refl _), Nat.sub_self]
    exact hl
  · have hk2 : k < L.length := by omega
    rw [List.take_append_of_le_length (by omega), List.getD_eq_getElem?_getD, List.getElem?_append_left hk2, ← List.getD_eq_getElem?_getD]
    exact h k hk2
theorem yI.st {T : Nat → yT} {c : Nat} {X : yX} {W' : yW} {l : yL} (h : yI T c X) (hO : OKW T c X.1) (hl : yle T c X.1 l) (hw : yCo W' (yag T X.1 l)) : yI T c (W', ylg X.2 l) := by
  obtain ⟨L, e, h1, h2⟩ := h
  obtain ⟨h3, h4⟩ := yag_co h2 hO hl
  refine ⟨L ++ [l], by rw [e]; rfl, yva_a h1 h3, ?_⟩
  rw [yre_a]
  exact hw.tr h4
theorem yI_en {T : Nat → yT} {c s v : Nat} {X : yX} (h : yI T c X) (hO : OKW T c X.1) (hs : s < 3) (hg : gt (yxs X s) ≠ 0) (h3 : 3 ≤ v) (h5 : v ≤ 5) : yI T c (yen X s v) :=
  h.st hO (Or.inr (Or.inr (Or.inr (Or.inr (Or.inr (Or.inl ⟨rfl, hs, hg, h3, h5⟩)))))) (yCo.rf _)
theorem yCs_fS {S : yS} {p : Nat → Int32} {i : Nat} {r r' : Int32} {b : Bool} : yCs (yfS (gpS S p) i r b) (yfS S i r' b) := by
  cases b
  · exact ⟨rfl, fun _ => rfl, rfl, rfl, fun _ _ => rfl, rfl⟩
  · exact ⟨rfl, fun _ => rfl, rfl, rfl, fun _ _ => rfl, rfl⟩
theorem yI_tr {T : Nat → yT} {c s i : Nat} {n : Int32} {X : yX} (h : yI T c X) (hO : OKW T c X.1) (hs : s < 3) (hg : gt (yxs X s) = 1) (hi : i < tn (T (gx (yxs X s)))) (hd : gd (yxs X s) i = 0) (hn : n = tu (T (gx (yxs X s))) i) : yI T c (ytr (T (gx (yxs X s))) n s i X) := by
  subst hn
  unfold ytr
  simp only []
  by_cases hr : (if ypl (gp (yxs X s)) i = true then 1 else yob (T (gx (yxs X s))) X.1.1 i (tu (T (gx (yxs X s))) i) 1) = 0
  · rw [if_pos hr]
    have hp : ypl (gp (yxs X s)) i = false := by
      cases hq : ypl (gp (yxs X s)) i with
      | false => rfl
      | true => rw [hq, if_pos rfl] at hr; exact absurd hr (by decide)
    rw [hp, if_neg (by decide)] at hr
    refine h.st (l := (1, s, i)) hO (Or.inr (Or.inl ⟨rfl, hs, hg, hi, hd, hr⟩)) ?_
    exact yCo.u (W := X.1) (W' := X.1) (yCo.rf X.1) rfl ⟨rfl, fun _ => rfl, rfl, rfl, fun _ _ => rfl, rfl⟩
  · rw [if_neg hr]
    have h2 : yI T c (yno (yss X s (yfS (gpS (yxs X s) (ysd (gp (yxs X s)) i)) i (if ypl (gp (yxs X s)) i = true then 1 else yob (T (gx (yxs X s))) X.1.1 i (tu (T (gx (yxs X s))) i) 1) (ypa (T (gx (yxs X s))) (gm (yxs X s) 1)))) (2, s, i)) := by
      refine h.st (l := (2, s, i)) hO (Or.inr (Or.inr (Or.inl ⟨rfl, hs, hg, hi⟩))) ?_
      exact yCo.u (W := X.1) (W' := X.1) (yCo.rf X.1) rfl yCs_fS
    split
    · rename_i hc
      refine yI_en h2 (OKW_ss hO (OKS_fS (S := gpS (yxs X s) _) (hO.2.2 s hs) (by show gt (yxs X s) ≠ 0; omega))) hs ?_ (by decide) (by decide)
      show gt (yxs (yss X s _) s) ≠ 0
      rw [yss_s]
      unfold yfS
      simp only []
      rw [if_pos hc.1]
      show gt (yxs X s) ≠ 0
      omega
    · exact h2
theorem yI_fl {T : Nat → yT} {c s g0 fr : Nat} {nm : Nat → Int32} (hs : s < 3) (hn : ∀ k, nm k = tu (T g0) k) : ∀ (k i : Nat) (X : yX), yI T c X → OKW T c X.1 → gx (yxs X s) = g0 → (∀ j, i ≤ j → fr.testBit j = true → j < tn (T g0) ∧ gd (yxs X s) j = 0) → yI T c (yfl (T g0) nm s fr k i X)
  | 0, i, X, h, hO, hx, hf => h
  | k + 1, i, X, h, hO, hx, hf => by
    rw [yfl]
    by_cases h1 : gt (yxs X s) = 1
    · rw [if_pos h1]
      by_cases hb : fr.testBit i = true
      · rw [if_pos hb]
        have hi := hf i (Nat.le_refl _) hb
        have hd := ytr_d (T := T g0) (n := nm i) (i := i) h1
        have ho : OKW T c (ytr (T g0) (nm i) s i X).1 := by
          have := ytr_ok (n := nm i) (i := i) hO hs h1 (by rw [hx]; exact hi.1) hi.2
          rw [hx] at this; exact this
        have hI : yI T c (ytr (T g0) (nm i) s i X) := by
          have := yI_tr (n := nm i) h hO hs h1 (by rw [hx]; exact hi.1) hi.2 (by rw [hx]; exact hn i)
          rw [hx] at this; exact this
        exact yI_fl hs hn k (i + 1) _ hI ho (hd.2.1.trans hx) (fun j hj hjb => ⟨(hf j (by omega) hjb).1, by rw [hd.1 j (by omega)]; exact (hf j (by omega) hjb).2⟩)
      · rw [if_neg hb]
        exact yI_fl hs hn k (i + 1) X h hO hx (fun j hj hjb => hf j (by omega) hjb)
    · rw [if_neg h1]; exact h
theorem yI_fo {T : Nat → yT} {c s : Nat} {nm : Nat → Int32} {X : yX} (h : yI T c X) (hO : OKW T c X.1) (hs : s < 3) (hg : gt (yxs X s) = 1) (hn : ∀ k, nm k = tu (T (gx (yxs X s))) k) : yI T c (yfo (T (gx (yxs X s))) nm s X) := by
  have hI := yI_fl (fr := yfr (T (gx (yxs X s))) (yxs X s)) hs hn 12 0 X h hO rfl (fun j _ hj => front_bit hj)
  obtain ⟨a1, a2, a3, a4, a5⟩ := yfl_ok (fr := yfr (T (gx (yxs X s))) (yxs X s)) (nm := nm) hs 12 0 X hO rfl (fun j _ hj => front_bit hj) (Or.inl hg)
  unfold yfo
  simp only []
  split
  · rename_i hc
    exact yI_en hI a1 hs (by rw [hc.1]; decide) (by decide) (by decide)
  · exact hI
theorem yI_un {T : Nat → yT} {c s : Nat} {X : yX} (h : yI T c X) (hO : OKW T c X.1) (hs : s < 3) (hg : gt (yxs X s) ≠ 0) : yI T c (yun (T (gx (yxs X s))) s X) := by
  unfold yun
  simp only []
  cases ho : go (yxs X s) with
  | nil => exact h
  | cons i t =>
    simp only []
    have et : (go (X.1.2 s)).tail = t := by rw [show go (X.1.2 s) = i :: t from ho]; rfl
    by_cases hr : (if ypl (gq (yxs X s)) i = true then 1 else yob (T (gx (yxs X s))) X.1.1 i (gb (yxs X s) i) (-1)) = 0
    · rw [if_pos hr]
      have hp : ypl (gq (yxs X s)) i = false := by
        cases hq : ypl (gq (yxs X s)) i with
        | false => rfl
        | true => rw [hq, if_pos rfl] at hr; exact absurd hr (by decide)
      rw [hp, if_neg (by decide)] at hr
      refine h.st (l := (3, s, i)) hO (Or.inr (Or.inr (Or.inr (Or.inl ⟨rfl, hs, hg, ⟨t, ho⟩, hr⟩)))) ?_
      refine yCo.u (W := X.1) (W' := X.1) (yCo.rf X.1) rfl ⟨rfl, fun _ => rfl, rfl, ?_, fun _ _ => rfl, rfl⟩
      exact et.symm
    · rw [if_neg hr]
      refine h.st (l := (4, s, i)) hO (Or.inr (Or.inr (Or.inr (Or.inr (Or.inl ⟨rfl, hs, hg, ⟨t, ho⟩⟩))))) ?_
      refine yCo.u (W := X.1) (W' := X.1) (yCo.rf X.1) rfl ⟨rfl, fun _ => rfl, rfl, ?_, fun _ _ => rfl, rfl⟩
      exact et.symm
theorem yI_tu {T : Nat → yT} {c s : Nat} {nm : Nat → Nat → Int32} {X : yX} (h : yI T c X) (hO : OKW T c X.1) (hs : s < 3) (hn : ∀ k, nm s k = tu (T (gx (yxs X s))) k) : yI T c (ytu T nm s X) := by
  unfold ytu
  by_cases h1 : gt (yxs X s) = 1
  · rw [if_pos h1]; exact yI_fo h hO hs h1 hn
  · rw [if_neg h1]
    by_cases h2 : gt (yxs X s) = 2
    · rw [if_pos h2]
      have hu := yI_un h hO hs (by omega)
      obtain ⟨a1, a2, a3, a4, a5⟩ := yun_ok hO hs (show gt (yxs X s) ≠ 0 by omega)
      unfold yba
      simp only []
      split
      · exact yI_en hu a1 hs (by omega) (by decide) (by decide)
      · exact hu
    · rw [if_neg h2]; exact h
theorem yI_ti {T : Nat → yT} {c : Nat} {nm : Nat → Nat → Int32} {X : yX} (h : yI T c X) (hO : OKW T c X.1) (hn : ∀ s, s < 3 → ∀ k, nm s k = tu (T (gx (yxs X s))) k) : yI T c (yti T nm X) := by
  have b1 := yI_tu (nm := nm) h hO (show 0 < 3 by omega) (hn 0 (by omega))
  obtain ⟨a1, a2, -⟩ := ytu_ok (nm := nm) hO (show 0 < 3 by omega)
  have b2 := yI_tu (nm := nm) b1 a1 (show 1 < 3 by omega) (fun k => by rw [(a2 1).1]; exact hn 1 (by omega) k)
  obtain ⟨c1, c2, -⟩ := ytu_ok (nm := nm) a1 (show 1 < 3 by omega)
  exact yI_tu (nm := nm) b2 c1 (show 2 < 3 by omega) (fun k => by rw [(c2 2).1, (a2 2).1]; exact hn 2 (by omega) k)
theorem yre_k {T : Nat → yT} {c : Nat} {L : List yL} (hok : c ≤ 6 ∧ ∀ i, i < c → OKT (T i)) (hv : yva T c L) : ∀ k, k ≤ L.length → OKW T c (yre T (L.take k))
  | 0, _ => by rw [List.take_zero]; exact OKW_0 hok
  | k + 1, h => by rw [yre_S (by omega)]; exact yag_ok (yre_k hok hv k (by omega)) (hv k (by omega))
theorem yre_ok {T : Nat → yT} {c : Nat} {L : List yL} (hok : c ≤ 6 ∧ ∀ i, i < c → OKT (T i)) (hv : yva T c L) : OKW T c (yre T L) := by
  have := yre_k hok hv L.length (Nat.le_refl _)
  rw [List.take_length] at this; exact this
theorem Int32_cl {z : Int32} {n : Nat} (h : ¬ nI n < z) (hn : n < 2147483648 := by decide) : z.toNatClampNeg ≤ n := by
  rw [Int32.lt_iff_toInt_lt, nI_toInt hn] at h
  show z.toInt.toNat ≤ n
  omega
/-! the desk stays well -/
theorem OKD.I {D : yD} (h : OKD D) : yI (dT D) (dc D) (dX D) := ⟨dL D, rfl, h.2.2.1, h.2.2.2.1⟩
theorem OKD.w {D : yD} {W : yW} {L : List yL} (h : OKD D) (hO : OKW (dT D) (dc D) W) (hl : L.length ≤ 240) (hI : yI (dT D) (dc D) (W, some L)) : OKD (dwS D W L) := by
  obtain ⟨L2, e, h1, h2⟩ := hI
  have e2 : L = L2 := Option.some.inj e
  subst e2
  exact ⟨hO, hl, h1, h2, h.2.2.2.2⟩
theorem OKD.ln {D : yD} {l : yL} (h : OKD D) (hl : yle (dT D) (dc D) (dW D) l) (h2 : (dL D).length < 240) : OKD (dwS D (yag (dT D) (dW D) l) (dL D ++ [l])) := by
  have hI := yI.st (X := dX D) (W' := yag (dT D) (dW D) l) h.I h.1 hl (yCo.rf _)
  have hO := yag_ok h.1 hl
  have hn : (dL D ++ [l]).length ≤ 240 := by
    rw [List.length_append]
    show (dL D).length + 1 ≤ 240
    omega
  exact h.w hO hn hI
theorem OKD_tick {D : yD} (h : OKD D) : OKD (sTick D).2 := by
  unfold sTick
  split
  · exact h
  · obtain ⟨W', A, e, h1, h2, h3⟩ := yti_D h.1
    have hI := yI_ti (nm := dnm D) h.I h.1 (fun s _ k => rfl)
    show OKD (dwS D (yti (dT D) (dnm D) (dX D)).1 (dlg (yti (dT D) (dnm D) (dX D))))
    rw [e] at hI ⊢
    exact h.w h1 (by show (dL D ++ A).length ≤ 240; omega) hI
theorem OKD_set {D : yD} {x y : Int32} (h : OKD D) : OKD (sSet D x y).2 := by
  unfold sSet
  cases ex : zix x 6 with
  | none => rw [oz_n ex]; exact h
  | some a =>
    rw [oz_s ex]
    cases ey : zix y 10000 with
    | none => rw [oz_n ey]; exact h
    | some v =>
      rw [oz_s ey]
      obtain ⟨ha, -⟩ := zix_some ex
      obtain ⟨hv, -⟩ := zix_some ey
      split
      · exact h
      · have hl : yle (dT D) (dc D) (dW D) (6, a, v) := Or.inr (Or.inr (Or.inr (Or.inr (Or.inr (Or.inr ⟨rfl, ha, by show v ≤ 9999; omega⟩)))))
        have hlt : (dL D).length < 240 := by omega
        have hq := h.ln hl hlt
        exact hq
theorem OKD_begin {D : yD} {x y : Int32} (h : OKD D) : OKD (sBegin D x y).2 := by
  unfold sBegin
  cases ex : zix x 3 with
  | none => rw [oz_n ex]; exact h
  | some s =>
    rw [oz_s ex]
    cases ey : zix y (dc D) with
    | none => rw [oz_n ey]; exact h
    | some t =>
      rw [oz_s ey]
      obtain ⟨hs, -⟩ := zix_some ex
      obtain ⟨ht, -⟩ := zix_some ey
      split
      · exact h
      · split
        · exact h
        · have hl : yle (dT D) (dc D) (dW D) (0, s, t) := Or.inl ⟨rfl, hs, ht⟩
          have hlt : (dL D).length < 240 := by omega
          have hq := h.ln hl hlt
          exact hq
theorem OKD_breaks {D : yD} {x : Int32} (h : OKD D) : OKD (sBreaks D x).2 := by
  unfold sBreaks
  cases ex : zix x ((dL D).length + 1) with
  | none => rw [oz_n ex]; exact h
  | some n =>
    rw [oz_s ex]
    obtain ⟨hn, -⟩ := zix_some ex
    have hv := yva_take (n := n) h.2.2.1
    have hO : OKW (dT D) (dc D) (yre (dT D) ((dL D).take n)) := yre_ok h.1.1 hv
    exact h.w hO (by rw [List.length_take]; have := h.2.1; omega) ⟨_, rfl, hv, yCo.rf _⟩
theorem OKD_plan {D : yD} {x y o z : Int32} (h : OKD D) : OKD (sPlan D x y o z).2 := by
  unfold sPlan
  cases ex : zix x 3 with
  | none => rw [oz_n ex]; exact h
  | some s =>
    rw [oz_s ex]
    obtain ⟨hs, -⟩ := zix_some ex
    cases ey : zix y (yms D s) with
    | none => rw [oz_n ey]; exact h
    | some i =>
      rw [oz_s ey]
      cases eo : zix o 2 with
      | none => rw [oz_n eo]; exact h
      | some o2 =>
        rw [oz_s eo]
        cases ez : zix z 10 with
        | none => rw [oz_n ez]; exact h
        | some z2 =>
          rw [oz_s ez]
          have hS := h.1.2.2 s hs
          have hc : ∀ S, yCs S (dS D s) → yCo ((dW D).1, yu (dW D).2 s S) (yre (dT D) (dL D)) := fun S q => by
            have := yCo.u (s := s) (yCo.rf (dW D)) (show (dW D).1 = (dW D).1 from rfl) q
            rw [show ((dW D).1, yu (dW D).2 s (dS D s)) = dW D from Prod.ext rfl (funext fun r => by
              show yu (dW D).2 s ((dW D).2 s) r = (dW D).2 r
              by_cases e : r = s
              · subst e; exact yu_s _ _ _
              · exact yu_n e)] at this
            exact this.tr h.2.2.2.1
          split
          · exact h
          · split
            · exact ⟨OKW_ss (X := dX D) (S := gpS (dS D s) _) h.1 hS, h.2.1, h.2.2.1, hc (gpS (dS D s) _) ⟨rfl, fun _ => rfl, rfl, rfl, fun _ _ => rfl, rfl⟩, h.2.2.2.2⟩
            · exact ⟨OKW_ss (X := dX D) (S := gqS (dS D s) _) h.1 hS, h.2.1, h.2.2.1, hc (gqS (dS D s) _) ⟨rfl, fun _ => rfl, rfl, rfl, fun _ _ => rfl, rfl⟩, h.2.2.2.2⟩
theorem OKD.r {D : yD} {hh z : Nat} {so : Int32} (h : OKD D) (hz : z ≤ 40) (hs : so = -1 ∨ so = nI 0 ∨ so = nI 1) : OKD (drS D (yu (dR D) hh (so, z))) := by
  refine ⟨h.1, h.2.1, h.2.2.1, h.2.2.2.1, fun i hi => ?_⟩
  show (yu (dR D) hh (so, z) i).2 ≤ 40 ∧ ((yu (dR D) hh (so, z) i).1 = -1 ∨ (yu (dR D) hh (so, z) i).1 = nI 0 ∨ (yu (dR D) hh (so, z) i).1 = nI 1)
  by_cases e : i = hh
  · subst e; rw [yu_s]; exact ⟨hz, hs⟩
  · rw [yu_n e]; exact h.2.2.2.2 i hi
theorem OKD_film {D : yD} {x y z : Int32} (h : OKD D) : OKD (sFilm D x y z).2 := by
  unfold sFilm
  cases ex : zix x 4 with
  | none => rw [oz_n ex]; exact h
  | some a =>
    rw [oz_s ex]
    cases ey : zix y 6 with
    | none => rw [oz_n ey]; exact h
    | some b =>
      rw [oz_s ey]
      cases ez : zix z 21 with
      | none => rw [oz_n ez]; exact h
      | some n =>
        rw [oz_s ez]
        obtain ⟨hn, -⟩ := zix_some ez
        exact h.r (by omega) (Or.inr (Or.inr rfl))
theorem OKD_sheet {D : yD} {x y z : Int32} (h : OKD D) : OKD (sSheet D x y z).2 := by
  unfold sSheet
  cases ex : zix x 4 with
  | none => rw [oz_n ex]; exact h
  | some a =>
    rw [oz_s ex]
    split
    · exact h.r (by omega) (Or.inl rfl)
    · cases ey : zix y 2 with
      | none => rw [oz_n ey]; exact h
      | some o =>
        rw [oz_s ey]
        obtain ⟨ho, -⟩ := zix_some ey
        split
        · exact h
        · split
          · exact h
          · rename_i h1 h2
            refine h.r (Int32_cl h1) ?_
            rcases (show o = 0 ∨ o = 1 by omega) with rfl | rfl
            · exact Or.inr (Or.inl rfl)
            · exact Or.inr (Or.inr rfl)
theorem OKD.oz {x : Int32} {n : Nat} {no : Int32 × yD} {f : Nat → Int32 × yD} (h1 : OKD no.2) (h2 : ∀ k, OKD (f k).2) : OKD (oz x n no f).2 := by
  cases e : zix x n with
  | none => rw [oz_n e]; exact h1
  | some k => rw [oz_s e]; exact h2 k
theorem OKD.ite {p : Prop} [Decidable p] {a b : Int32 × yD} (h1 : OKD a.2) (h2 : OKD b.2) : OKD (if p then a else b).2 := by
  split
  · exact h1
  · exact h2
theorem OKD_feed {D : yD} {x a b c e f : Int32} (h : OKD D) : OKD (sFeed D x a b c e f).2 :=
  OKD.oz h (fun k => OKD.ite h (OKD.oz h (fun a => OKD.oz h (fun b => OKD.oz h (fun c => OKD.oz h (fun e => OKD.oz h (fun f => OKD.ite h h)))))))
/-- another text changes no replay -/
theorem yag_T {T : Nat → yT} {c : Nat} {X : yT} {W : yW} {l : yL} (hO : OKW T c W) (hl : yle T c W l) : yle (yu T c X) (c + 1) W l ∧ yag (yu T c X) W l = yag T W l := by
  obtain ⟨e, s, i⟩ := l
  have hx : s < 3 → gt (W.2 s) ≠ 0 → yu T c X (gx (W.2 s)) = T (gx (W.2 s)) := fun h1 h0 => yu_n (by have := (hO.2.2 s h1).2.1 h0; omega)
  rcases hl with ⟨rfl, h1, h2⟩ | ⟨rfl, h1, h2, h3, h4, h5⟩ | ⟨rfl, h1, h2, h3⟩ | ⟨rfl, h1, h2, h3, h5⟩ | ⟨rfl, h1, h2, h3⟩ | ⟨rfl, h1, h2, h3⟩ | ⟨rfl, h1, h2⟩
  · exact ⟨Or.inl ⟨rfl, h1, Nat.lt_succ_of_lt h2⟩, rfl⟩
  · have h2 : gt (W.2 s) = 1 := h2
    have q := hx h1 (by omega)
    refine ⟨Or.inr (Or.inl ⟨rfl, h1, h2, ?_, h4, ?_⟩), ?_⟩
    · show i < tn (yu T c X (gx (W.2 s))); rw [q]; exact h3
    · show yob (yu T c X (gx (W.2 s))) W.1 i (tu (yu T c X (gx (W.2 s))) i) 1 = 0; rw [q]; exact h5
    · show (ych (yu T c X (gx (W.2 s))) W.1 i (tu (yu T c X (gx (W.2 s))) i) 1, yu W.2 s (yDn (W.2 s) i (tu (yu T c X (gx (W.2 s))) i))) = _
      rw [q]; rfl
  · have h2 : gt (W.2 s) = 1 := h2
    have q := hx h1 (by omega)
    refine ⟨Or.inr (Or.inr (Or.inl ⟨rfl, h1, h2, ?_⟩)), ?_⟩
    · show i < tn (yu T c X (gx (W.2 s))); rw [q]; exact h3
    · show (W.1, yu W.2 s (yfS (W.2 s) i 0 (ypa (yu T c X (gx (W.2 s))) (gm (W.2 s) 1)))) = _
      rw [q]; rfl
  · have q := hx h1 h2
    refine ⟨Or.inr (Or.inr (Or.inr (Or.inl ⟨rfl, h1, h2, h3, ?_⟩))), ?_⟩
    · show yob (yu T c X (gx (W.2 s))) W.1 i (gb (W.2 s) i) (-1) = 0; rw [q]; exact h5
    · show (ych (yu T c X (gx (W.2 s))) W.1 i (gb (W.2 s) i) (-1), yu W.2 s (goS (gdS (W.2 s) (yu (gd (W.2 s)) i 2)) (go (W.2 s)).tail)) = _
      rw [q]; rfl
  · exact ⟨Or.inr (Or.inr (Or.inr (Or.inr (Or.inl ⟨rfl, h1, h2, h3⟩)))), rfl⟩
  · exact ⟨Or.inr (Or.inr (Or.inr (Or.inr (Or.inr (Or.inl ⟨rfl, h1, h2, h3⟩))))), rfl⟩
  · exact ⟨Or.inr (Or.inr (Or.inr (Or.inr (Or.inr (Or.inr ⟨rfl, h1, h2⟩))))), rfl⟩
theorem yre_T {T : Nat → yT} {c : Nat} {X : yT} {L : List yL} (hok : c ≤ 6 ∧ ∀ i, i < c → OKT (T i)) (hv : yva T c L) : ∀ k, k ≤ L.length → yre (yu T c X) (L.take k) = yre T (L.take k)
  | 0, _ => rfl
  | k + 1, h => by
    rw [yre_S (by omega), yre_S (by omega), yre_T hok hv k (by omega)]
    exact (yag_T (yre_k hok hv k (by omega)) (hv k (by omega))).2
theorem OKD_text {D : yD} (h : OKD D) (hb : ∀ i, i < dn D → db D i < 256) : OKD (sText D).2 := by
  unfold sText
  split
  · exact h
  · rename_i hc
    have hT := pTx_v hb
    cases e : pTx (dn D) (db D) with
    | error f => exact h
    | ok X =>
      rw [e] at hT
      have hv := h.2.2.1
      have hok := h.1.1
      refine ⟨OKW_T h.1 hT (by omega), h.2.1, fun k hk => ?_, ?_, h.2.2.2.2⟩
      · have hk : k < (dL D).length := hk
        show yle (yu (dT D) (dc D) X) (dc D + 1) (yre (yu (dT D) (dc D) X) ((dL D).take k)) ((dL D).getD k (0, 0, 0))
        rw [yre_T hok hv k (by omega)]
        exact (yag_T (yre_k hok hv k (by omega)) (hv k hk)).1
      · show yCo (dW D) (yre (yu (dT D) (dc D) X) (dL D))
        have := yre_T (X := X) hok hv (dL D).length (Nat.le_refl _)
        rw [List.take_length] at this
        rw [this]; exact h.2.2.2.1
