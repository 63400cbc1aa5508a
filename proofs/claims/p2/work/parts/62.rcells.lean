/-! ===== the reference: sagas and the log change ===== -/
section RG
variable {G : List yL}
/-! a saga's cells change -/
/-- a saga's own cells -/
def GS (s : Nat) : Nat → Nat → Prop := fun b k => ((b = 175 ∨ b = 176) ∧ k = s) ∨ b = 178 + s ∨ b = 182 + s ∨ b = 186 + s ∨ b = 190 + s ∨ b = 194 + s ∨ b = 198 + s ∨ b = 202 + s
theorem XSa.fi {M M' : zM} {F : Nat → Nat → Prop} {s κ : Nat} {S : yS} (h : XSa M s S κ) (f : Fi F M M') (hs : ∀ b k, GS s b k → ¬ F b k) : XSa M' s S κ := by
  have g : ∀ b k, GS s b k → zi M' b k = zi M b k := fun b k q => f.1 b k (hs b k q)
  obtain ⟨⟨h1, h2⟩, h3, h4, w, h5, h6⟩ := h
  refine ⟨⟨(g _ _ (Or.inl ⟨Or.inl rfl, rfl⟩)).trans h1, (g _ _ (Or.inl ⟨Or.inr rfl, rfl⟩)).trans h2⟩, fun k hk => ⟨(g _ _ (by unfold GS; omega)).trans (h3 k hk).1, (g _ _ (by unfold GS; omega)).trans (h3 k hk).2.1, (g _ _ (by unfold GS; omega)).trans (h3 k hk).2.2.1, (g _ _ (by unfold GS; omega)).trans (h3 k hk).2.2.2.1, (g _ _ (by unfold GS; omega)).trans (h3 k hk).2.2.2.2⟩,
    fun k hk q => (g _ _ (by unfold GS; omega)).trans (h4 k hk q), w, fun i hi => ⟨(g _ _ (by unfold GS; omega)).trans (h5 i hi).1, (h5 i hi).2⟩, h6⟩
theorem XSa.up {M : zM} {s κ κ' : Nat} {S : yS} (h : XSa M s S κ) (hk : κ ≤ κ') : XSa M s S κ' := by
  obtain ⟨h1, h3, h4, w, h5, h6⟩ := h
  exact ⟨h1, h3, h4, w, fun i hi => ⟨(h5 i hi).1, Nat.le_trans (h5 i hi).2 hk⟩, h6⟩
theorem wi_or {M : zM} {a k b j : Nat} {v : Int32} {f : Nat → Int32} (hb : b = a) (h : zi M b j = f j) : zi (zwi M a k v) b j = yu f k v j := by
  subst hb
  by_cases e : j = k
  · subst e; rw [wi_s, yu_s]
  · rw [wi_n (Or.inr e), yu_n e]; exact h
theorem XSa.wf {M : zM} {s i κ : Nat} {v : Int32} {S : yS} (h : XSa M s S κ) (hs : s < 3) : XSa (zwi M (190 + s) i v) s (gfS S (yu (gf S) i v)) κ := by
  obtain ⟨⟨h1, h2⟩, h3, h4, w, h5, h6⟩ := h
  exact ⟨⟨(wi_n (Or.inl (by omega))).trans h1, (wi_n (Or.inl (by omega))).trans h2⟩, fun k hk => ⟨(wi_n (Or.inl (by omega))).trans (h3 k hk).1, wi_or rfl ((h3 k hk).2.1), (wi_n (Or.inl (by omega))).trans (h3 k hk).2.2.1, (wi_n (Or.inl (by omega))).trans (h3 k hk).2.2.2.1, (wi_n (Or.inl (by omega))).trans (h3 k hk).2.2.2.2⟩, fun k hk q => (wi_n (Or.inl (by omega))).trans (h4 k hk q), w, fun j hj => ⟨(wi_n (Or.inl (by omega))).trans (h5 j hj).1, (h5 j hj).2⟩, h6⟩
theorem XSa.ww {M : zM} {s i κ : Nat} {v : Int32} {S : yS} (h : XSa M s S κ) (hs : s < 3) : XSa (zwi M (194 + s) i v) s (gwS S (yu (gw S) i v)) κ := by
  obtain ⟨⟨h1, h2⟩, h3, h4, w, h5, h6⟩ := h
  exact ⟨⟨(wi_n (Or.inl (by omega))).trans h1, (wi_n (Or.inl (by omega))).trans h2⟩, fun k hk => ⟨(wi_n (Or.inl (by omega))).trans (h3 k hk).1, (wi_n (Or.inl (by omega))).trans (h3 k hk).2.1, wi_or rfl ((h3 k hk).2.2.1), (wi_n (Or.inl (by omega))).trans (h3 k hk).2.2.2.1, (wi_n (Or.inl (by omega))).trans (h3 k hk).2.2.2.2⟩, fun k hk q => (wi_n (Or.inl (by omega))).trans (h4 k hk q), w, fun j hj => ⟨(wi_n (Or.inl (by omega))).trans (h5 j hj).1, (h5 j hj).2⟩, h6⟩
theorem XSa.wp {M : zM} {s i κ : Nat} {v : Int32} {S : yS} (h : XSa M s S κ) (hs : s < 3) : XSa (zwi M (198 + s) i v) s (gpS S (yu (gp S) i v)) κ := by
  obtain ⟨⟨h1, h2⟩, h3, h4, w, h5, h6⟩ := h
  exact ⟨⟨(wi_n (Or.inl (by omega))).trans h1, (wi_n (Or.inl (by omega))).trans h2⟩, fun k hk => ⟨(wi_n (Or.inl (by omega))).trans (h3 k hk).1, (wi_n (Or.inl (by omega))).trans (h3 k hk).2.1, (wi_n (Or.inl (by omega))).trans (h3 k hk).2.2.1, wi_or rfl ((h3 k hk).2.2.2.1), (wi_n (Or.inl (by omega))).trans (h3 k hk).2.2.2.2⟩, fun k hk q => (wi_n (Or.inl (by omega))).trans (h4 k hk q), w, fun j hj => ⟨(wi_n (Or.inl (by omega))).trans (h5 j hj).1, (h5 j hj).2⟩, h6⟩
theorem XSa.wq {M : zM} {s i κ : Nat} {v : Int32} {S : yS} (h : XSa M s S κ) (hs : s < 3) : XSa (zwi M (202 + s) i v) s (gqS S (yu (gq S) i v)) κ := by
  obtain ⟨⟨h1, h2⟩, h3, h4, w, h5, h6⟩ := h
  exact ⟨⟨(wi_n (Or.inl (by omega))).trans h1, (wi_n (Or.inl (by omega))).trans h2⟩, fun k hk => ⟨(wi_n (Or.inl (by omega))).trans (h3 k hk).1, (wi_n (Or.inl (by omega))).trans (h3 k hk).2.1, (wi_n (Or.inl (by omega))).trans (h3 k hk).2.2.1, (wi_n (Or.inl (by omega))).trans (h3 k hk).2.2.2.1, wi_or rfl ((h3 k hk).2.2.2.2)⟩, fun k hk q => (wi_n (Or.inl (by omega))).trans (h4 k hk q), w, fun j hj => ⟨(wi_n (Or.inl (by omega))).trans (h5 j hj).1, (h5 j hj).2⟩, h6⟩
theorem XSa.wt {M : zM} {s t κ : Nat} {S : yS} (h : XSa M s S κ) (h0 : gt S ≠ 0) (ht : t ≠ 0) : XSa (zwi M 175 s (nI t)) s (gtS S t) κ := by
  obtain ⟨⟨h1, h2⟩, h3, h4, w, h5, h6⟩ := h
  refine ⟨⟨wi_s _ _ _ _, (wi_n (Or.inl (by omega))).trans (h2.trans ?_)⟩, fun k hk => ⟨(wi_n (Or.inl (by omega))).trans (h3 k hk).1, (wi_n (Or.inl (by omega))).trans (h3 k hk).2.1, (wi_n (Or.inl (by omega))).trans (h3 k hk).2.2.1, (wi_n (Or.inl (by omega))).trans (h3 k hk).2.2.2.1, (wi_n (Or.inl (by omega))).trans (h3 k hk).2.2.2.2⟩, fun k hk q => (wi_n (Or.inl (by omega))).trans (h4 k hk q), w, fun j hj => ⟨(wi_n (Or.inl (by omega))).trans (h5 j hj).1, (h5 j hj).2⟩, h6⟩
  show txt S = txt (gtS S t)
  unfold txt
  rw [if_neg h0]
  exact (if_neg ht).symm
/-- a step is undone, or parked -/
theorem XSa.wu {M : zM} {s i v κ : Nat} {S : yS} {l : List Nat} (h : XSa M s S κ) (hs : s < 3) (hg : go S = i :: l) (hv : v ≠ 1) : XSa (zwi M (178 + s) i (nI v)) s (goS (gdS S (yu (gd S) i v)) l) κ := by
  obtain ⟨⟨h1, h2⟩, h3, h4, w, h5, h6⟩ := h
  rw [hg] at h5 h6
  refine ⟨⟨(wi_n (Or.inl (by omega))).trans h1, (wi_n (Or.inl (by omega))).trans h2⟩, fun k hk => ⟨?_, (wi_n (Or.inl (by omega))).trans (h3 k hk).2.1, (wi_n (Or.inl (by omega))).trans (h3 k hk).2.2.1, (wi_n (Or.inl (by omega))).trans (h3 k hk).2.2.2.1, (wi_n (Or.inl (by omega))).trans (h3 k hk).2.2.2.2⟩, fun k hk q => ?_, w, fun j hj => ⟨(wi_n (Or.inl (by omega))).trans (h5 j (List.mem_cons_of_mem _ hj)).1, (h5 j (List.mem_cons_of_mem _ hj)).2⟩, (List.pairwise_cons.mp h6).2⟩
  · show zi (zwi M (178 + s) i (nI v)) (178 + s) k = nI (yu (gd S) i v k)
    by_cases e : k = i
    · subst e; rw [wi_s, yu_s]
    · rw [wi_n (Or.inr e), yu_n e]; exact (h3 k hk).1
  · have q : yu (gd S) i v k = 1 := q
    have hk2 : k ≠ i := fun e => by rw [e, yu_s] at q; exact hv q
    rw [yu_n hk2] at q
    exact (wi_n (Or.inl (by omega))).trans (h4 k hk q)
/-- a step is done -/
theorem XSa.wd {M : zM} {s i κ : Nat} {n : Int32} {S : yS} (h : XSa M s S κ) (hs : s < 3) (hi : i ∉ go S) : XSa (zwi (zwi (zwi (zwi M (178 + s) i (nI 1)) 136 20 (nI (κ + 1))) (182 + s) i (nI (κ + 1))) (186 + s) i n) s (yDn S i n) (κ + 1) := by
  obtain ⟨⟨h1, h2⟩, h3, h4, w, h5, h6⟩ := h
  have o : ∀ b j, b ≠ 178 + s → b ≠ 136 → b ≠ 182 + s → b ≠ 186 + s → zi (zwi (zwi (zwi (zwi M (178 + s) i (nI 1)) 136 20 (nI (κ + 1))) (182 + s) i (nI (κ + 1))) (186 + s) i n) b j = zi M b j := fun b j a1 a2 a3 a4 => by
    rw [wi_n (Or.inl a4), wi_n (Or.inl a3), wi_n (Or.inl a2), wi_n (Or.inl a1)]
  refine ⟨⟨(o _ _ (by omega) (by omega) (by omega) (by omega)).trans h1, (o _ _ (by omega) (by omega) (by omega) (by omega)).trans h2⟩, fun k hk => ⟨?_, (o _ _ (by omega) (by omega) (by omega) (by omega)).trans (h3 k hk).2.1, (o _ _ (by omega) (by omega) (by omega) (by omega)).trans (h3 k hk).2.2.1, (o _ _ (by omega) (by omega) (by omega) (by omega)).trans (h3 k hk).2.2.2.1, (o _ _ (by omega) (by omega) (by omega) (by omega)).trans (h3 k hk).2.2.2.2⟩, fun k hk q => ?_, yu w i (κ + 1), fun j hj => ?_, ?_⟩
  · show zi _ (178 + s) k = nI (yu (gd S) i 1 k)
    rw [wi_n (Or.inl (by omega)), wi_n (Or.inl (by omega)), wi_n (Or.inl (by omega))]
    by_cases e : k = i
    · subst e; rw [wi_s, yu_s]
    · rw [wi_n (Or.inr e), yu_n e]; exact (h3 k hk).1
  · show zi _ (186 + s) k = yu (gb S) i n k
    have q : yu (gd S) i 1 k = 1 := q
    by_cases e : k = i
    · subst e; rw [wi_s, yu_s]
    · rw [yu_n e] at q
      rw [wi_n (Or.inr e), wi_n (Or.inl (by omega)), wi_n (Or.inl (by omega)), wi_n (Or.inl (by omega)), yu_n e]
      exact h4 k hk q
  · rw [wi_n (Or.inl (by omega))]
    by_cases e : j = i
    · subst e; rw [wi_s, yu_s]; exact ⟨rfl, Nat.le_refl _⟩
    · rw [wi_n (Or.inr e), wi_n (Or.inl (by omega)), wi_n (Or.inl (by omega)), yu_n e]
      have hj2 := h5 j ((List.mem_cons.mp hj).resolve_left e)
      exact ⟨hj2.1, Nat.le_succ_of_le hj2.2⟩
  · refine List.pairwise_cons.mpr ⟨fun j hj => ?_, ?_⟩
    · have e : j ≠ i := fun q => hi (by rw [← q]; exact hj)
      rw [yu_s, yu_n e]
      exact Nat.lt_succ_of_le (h5 j hj).2
    · refine List.Pairwise.imp_of_mem (fun {a b} ha hb q => ?_) h6
      have ea : a ≠ i := fun q => hi (by rw [← q]; exact ha)
      have eb : b ≠ i := fun q => hi (by rw [← q]; exact hb)
      rw [yu_n ea, yu_n eb]; exact q
/-! the log -/
def XLg (M : zM) (L : List yL) : Prop := zi M 136 24 = nI L.length ∧ ∀ k, k < L.length → zi M 205 k = nI (L.getD k (0, 0, 0)).1 ∧ zi M 206 k = nI (L.getD k (0, 0, 0)).2.1 ∧ zi M 207 k = nI (L.getD k (0, 0, 0)).2.2
def XLo (G : List yL) (M : zM) (g : Option (List yL)) : Prop := match g with
  | none => zi M 136 25 = nI 1 ∧ XLg M G
  | some L => zi M 136 25 = nI 0 ∧ XLg M L
def GL : Nat → Nat → Prop := fun b k => (b = 136 ∧ k = 24) ∨ (204 < b ∧ b < 208)
theorem XLo.fi {M M' : zM} {F : Nat → Nat → Prop} {g : Option (List yL)} (h : XLo G M g) (f : Fi F M M') (hs : ∀ b k, (GL b k ∨ (b = 136 ∧ k = 25)) → ¬ F b k) : XLo G M' g := by
  have e : ∀ b k, (GL b k ∨ (b = 136 ∧ k = 25)) → zi M' b k = zi M b k := fun b k q => f.1 b k (hs b k q)
  cases g with
  | none => exact ⟨(e _ _ (Or.inr ⟨rfl, rfl⟩)).trans h.1, (e _ _ (Or.inl (Or.inl ⟨rfl, rfl⟩))).trans h.2.1, fun k hk => ⟨(e _ _ (Or.inl (by unfold GL; omega))).trans (h.2.2 k hk).1, (e _ _ (Or.inl (by unfold GL; omega))).trans (h.2.2 k hk).2.1, (e _ _ (Or.inl (by unfold GL; omega))).trans (h.2.2 k hk).2.2⟩⟩
  | some L => exact ⟨(e _ _ (Or.inr ⟨rfl, rfl⟩)).trans h.1, (e _ _ (Or.inl (Or.inl ⟨rfl, rfl⟩))).trans h.2.1, fun k hk => ⟨(e _ _ (Or.inl (by unfold GL; omega))).trans (h.2.2 k hk).1, (e _ _ (Or.inl (by unfold GL; omega))).trans (h.2.2 k hk).2.1, (e _ _ (Or.inl (by unfold GL; omega))).trans (h.2.2 k hk).2.2⟩⟩
theorem XLg_n {M : zM} {L : List yL} {a o w : Nat} (h : XLg M L) : XLg (zwi (zwi (zwi (zwi M 205 L.length (nI a)) 206 L.length (nI o)) 207 L.length (nI w)) 136 24 (nI (L.length + 1))) (L ++ [(a, o, w)]) := by
  refine ⟨by rw [wi_s, List.length_append]; rfl, fun k hk => ?_⟩
  rw [List.length_append] at hk
  have hk : k < L.length + 1 := hk
  by_cases e : k = L.length
  · subst e
    have g : (L ++ [(a, o, w)]).getD L.length (0, 0, 0) = (a, o, w) := by
      rw [List.getD_eq_getElem?_getD, List.getElem?_append_right (Nat.le_refl _), Nat.sub_self]; rfl
    rw [g]
    refine ⟨?_, ?_, ?_⟩
    · rw [wi_n (Or.inl (by omega)), wi_n (Or.inl (by omega)), wi_n (Or.inl (by omega)), wi_s]
    · rw [wi_n (Or.inl (by omega)), wi_n (Or.inl (by omega)), wi_s]
    · rw [wi_n (Or.inl (by omega)), wi_s]
  · have g : (L ++ [(a, o, w)]).getD k (0, 0, 0) = L.getD k (0, 0, 0) := by
      rw [List.getD_eq_getElem?_getD, List.getD_eq_getElem?_getD, List.getElem?_append_left (by omega)]
    rw [g]
    refine ⟨?_, ?_, ?_⟩
    · rw [wi_n (Or.inl (by omega)), wi_n (Or.inl (by omega)), wi_n (Or.inl (by omega)), wi_n (Or.inr e)]; exact (h.2 k (by omega)).1
    · rw [wi_n (Or.inl (by omega)), wi_n (Or.inl (by omega)), wi_n (Or.inr e), wi_n (Or.inl (by omega))]; exact (h.2 k (by omega)).2.1
    · rw [wi_n (Or.inl (by omega)), wi_n (Or.inr e), wi_n (Or.inl (by omega)), wi_n (Or.inl (by omega))]; exact (h.2 k (by omega)).2.2
theorem d171_0 : decode (zB 171) 0 = .ok (.aload_n 0, 1) := by decide +kernel
theorem d171_1 : decode (zB 171) 1 = .ok (.getfield 298, 3) := by decide +kernel
theorem d171_4 : decode (zB 171) 4 = .ok (.ifCond .eq 4, 3) := by decide +kernel
theorem d171_7 : decode (zB 171) 7 = .ok (.return_, 1) := by decide +kernel
theorem d171_8 : decode (zB 171) 8 = .ok (.aload_n 0, 1) := by decide +kernel
theorem d171_9 : decode (zB 171) 9 = .ok (.getfield 67, 3) := by decide +kernel
theorem d171_12 : decode (zB 171) 12 = .ok (.aload_n 0, 1) := by decide +kernel
theorem d171_13 : decode (zB 171) 13 = .ok (.getfield 301, 3) := by decide +kernel
theorem d171_16 : decode (zB 171) 16 = .ok (.iload_n 1, 1) := by decide +kernel
theorem d171_17 : decode (zB 171) 17 = .ok (.iastore, 1) := by decide +kernel
theorem d171_18 : decode (zB 171) 18 = .ok (.aload_n 0, 1) := by decide +kernel
theorem d171_19 : decode (zB 171) 19 = .ok (.getfield 70, 3) := by decide +kernel
theorem d171_22 : decode (zB 171) 22 = .ok (.aload_n 0, 1) := by decide +kernel
theorem d171_23 : decode (zB 171) 23 = .ok (.getfield 301, 3) := by decide +kernel
theorem d171_26 : decode (zB 171) 26 = .ok (.iload_n 2, 1) := by decide +kernel
theorem d171_27 : decode (zB 171) 27 = .ok (.iastore, 1) := by decide +kernel
theorem d171_28 : decode (zB 171) 28 = .ok (.aload_n 0, 1) := by decide +kernel
theorem d171_29 : decode (zB 171) 29 = .ok (.getfield 73, 3) := by decide +kernel
theorem d171_32 : decode (zB 171) 32 = .ok (.aload_n 0, 1) := by decide +kernel
theorem d171_33 : decode (zB 171) 33 = .ok (.getfield 301, 3) := by decide +kernel
theorem d171_36 : decode (zB 171) 36 = .ok (.iload_n 3, 1) := by decide +kernel
theorem d171_37 : decode (zB 171) 37 = .ok (.iastore, 1) := by decide +kernel
theorem d171_38 : decode (zB 171) 38 = .ok (.aload_n 0, 1) := by decide +kernel
theorem d171_39 : decode (zB 171) 39 = .ok (.dup, 1) := by decide +kernel
theorem d171_40 : decode (zB 171) 40 = .ok (.getfield 301, 3) := by decide +kernel
theorem d171_43 : decode (zB 171) 43 = .ok (.iconst 1, 1) := by decide +kernel
theorem d171_44 : decode (zB 171) 44 = .ok (.iadd, 1) := by decide +kernel
theorem d171_45 : decode (zB 171) 45 = .ok (.putfield 301, 3) := by decide +kernel
theorem d171_48 : decode (zB 171) 48 = .ok (.return_, 1) := by decide +kernel
theorem c171 {d : Nat} {M : zM} {Q : Option Value → zM → Prop} {g : Option (List yL)} {a o w : Nat} (hX : SX M) (hL : XLo G M g) (hl : yln g + 1 ≤ 240) (k : ∀ M', XLo G M' (ylg g (a, o, w)) → Fi GL M M' → Q none M') : qC (d + 1) 171 [.ref 136, .int (nI a), .int (nI o), .int (nI w)] M Q := by
  refine qC_of (by decide) (Nat.le_of_ble_eq_true rfl) ?_
  cases g with
  | none =>
    refine q_aload_n d171_0 rfl ?_
    refine q_getv (c := 8) (f := 25) d171_1 ⟨rfl, by decide⟩ (xk_136 hX) hL.1 ?_
    refine n0_eq 8 d171_4 (by decide) (by decide) (fun q => absurd q (by decide)) (fun _ => ?_)
    refine q_ret d171_7 rfl ?_
    exact k _ hL (Fi.refl _ _)
  | some L =>
    have hl : L.length + 1 ≤ 240 := hl
    refine q_aload_n d171_0 rfl ?_
    refine q_getv (c := 8) (f := 25) d171_1 ⟨rfl, by decide⟩ (xk_136 hX) hL.1 ?_
    refine n0_eq 8 d171_4 (by decide) (by decide) (fun _ => ?_) (fun q => absurd q (by decide))
    refine q_aload_n d171_8 rfl ?_
    refine q_getr (c := 8) (f := 26) d171_9 ⟨rfl, rfl⟩ (xk_136 hX) (xf_acts hX) ?_
    refine q_aload_n d171_12 rfl ?_
    refine q_getv (c := 8) (f := 24) d171_13 ⟨rfl, by decide⟩ (xk_136 hX) hL.2.1 ?_
    refine q_iload_n d171_16 rfl ?_
    refine n_iast d171_17 (xk_acts hX) (by omega) (by decide) ?_
    refine q_aload_n d171_18 rfl ?_
    refine q_getr (c := 8) (f := 27) d171_19 ⟨rfl, rfl⟩ (xk_136 hX) (xf_whose hX) ?_
    refine q_aload_n d171_22 rfl ?_
    refine q_getv (c := 8) (f := 24) d171_23 ⟨rfl, by decide⟩ (xk_136 hX) (Eq.trans (by (repeat (first | rw [wi_n (Or.inl (by omega))] | rw [wi_n (Or.inr (by omega))] | rw [wi_s] | rw [wr_i] | rw [cp_n (by omega)]))) hL.2.1) ?_
    refine q_iload_n d171_26 rfl ?_
    refine n_iast d171_27 (xk_whose hX) (by omega) (by decide) ?_
    refine q_aload_n d171_28 rfl ?_
    refine q_getr (c := 8) (f := 28) d171_29 ⟨rfl, rfl⟩ (xk_136 hX) (xf_which hX) ?_
    refine q_aload_n d171_32 rfl ?_
    refine q_getv (c := 8) (f := 24) d171_33 ⟨rfl, by decide⟩ (xk_136 hX) (Eq.trans (by (repeat (first | rw [wi_n (Or.inl (by omega))] | rw [wi_n (Or.inr (by omega))] | rw [wi_s] | rw [wr_i] | rw [cp_n (by omega)]))) hL.2.1) ?_
    refine q_iload_n d171_36 rfl ?_
    refine n_iast d171_37 (xk_which hX) (by omega) (by decide) ?_
    refine q_aload_n d171_38 rfl ?_
    refine q_dup d171_39 rfl ?_
    refine q_getv (c := 8) (f := 24) d171_40 ⟨rfl, by decide⟩ (xk_136 hX) (Eq.trans (by (repeat (first | rw [wi_n (Or.inl (by omega))] | rw [wi_n (Or.inr (by omega))] | rw [wi_s] | rw [wr_i] | rw [cp_n (by omega)]))) hL.2.1) ?_
    refine q_iconstN (z := 1) d171_43 ?_
    refine n_iadd d171_44 ?_
    refine q_puti (c := 8) (f := 24) d171_45 ⟨rfl, rfl, by decide⟩ (xk_136 hX) ?_
    refine q_ret d171_48 rfl ?_
    exact k _ ⟨(wi_n (Or.inr (by omega))).trans ((wi_n (Or.inl (by omega))).trans ((wi_n (Or.inl (by omega))).trans ((wi_n (Or.inl (by omega))).trans hL.1))), XLg_n hL.2⟩ (((((Fi.refl _ _).wi (by unfold GL; omega)).wi (by unfold GL; omega)).wi (by unfold GL; omega)).wi (by unfold GL; omega))
theorem d184_0 : decode (zB 184) 0 = .ok (.aload_n 0, 1) := by decide +kernel
theorem d184_1 : decode (zB 184) 1 = .ok (.getfield 42, 3) := by decide +kernel
theorem d184_4 : decode (zB 184) 4 = .ok (.iload_n 1, 1) := by decide +kernel
theorem d184_5 : decode (zB 184) 5 = .ok (.aaload, 1) := by decide +kernel
theorem d184_6 : decode (zB 184) 6 = .ok (.iload_n 2, 1) := by decide +kernel
theorem d184_7 : decode (zB 184) 7 = .ok (.iconst 1, 1) := by decide +kernel
theorem d184_8 : decode (zB 184) 8 = .ok (.iastore, 1) := by decide +kernel
theorem d184_9 : decode (zB 184) 9 = .ok (.aload_n 0, 1) := by decide +kernel
theorem d184_10 : decode (zB 184) 10 = .ok (.dup, 1) := by decide +kernel
theorem d184_11 : decode (zB 184) 11 = .ok (.getfield 291, 3) := by decide +kernel
theorem d184_14 : decode (zB 184) 14 = .ok (.iconst 1, 1) := by decide +kernel
theorem d184_15 : decode (zB 184) 15 = .ok (.iadd, 1) := by decide +kernel
theorem d184_16 : decode (zB 184) 16 = .ok (.putfield 291, 3) := by decide +kernel
theorem d184_19 : decode (zB 184) 19 = .ok (.aload_n 0, 1) := by decide +kernel
theorem d184_20 : decode (zB 184) 20 = .ok (.getfield 45, 3) := by decide +kernel
theorem d184_23 : decode (zB 184) 23 = .ok (.iload_n 1, 1) := by decide +kernel
theorem d184_24 : decode (zB 184) 24 = .ok (.aaload, 1) := by decide +kernel
theorem d184_25 : decode (zB 184) 25 = .ok (.iload_n 2, 1) := by decide +kernel
theorem d184_26 : decode (zB 184) 26 = .ok (.aload_n 0, 1) := by decide +kernel
theorem d184_27 : decode (zB 184) 27 = .ok (.getfield 291, 3) := by decide +kernel
theorem d184_30 : decode (zB 184) 30 = .ok (.iastore, 1) := by decide +kernel
theorem d184_31 : decode (zB 184) 31 = .ok (.aload_n 0, 1) := by decide +kernel
theorem d184_32 : decode (zB 184) 32 = .ok (.getfield 48, 3) := by decide +kernel
theorem d184_35 : decode (zB 184) 35 = .ok (.iload_n 1, 1) := by decide +kernel
theorem d184_36 : decode (zB 184) 36 = .ok (.aaload, 1) := by decide +kernel
theorem d184_37 : decode (zB 184) 37 = .ok (.iload_n 2, 1) := by decide +kernel
theorem d184_38 : decode (zB 184) 38 = .ok (.iload_n 3, 1) := by decide +kernel
theorem d184_39 : decode (zB 184) 39 = .ok (.iastore, 1) := by decide +kernel
theorem d184_40 : decode (zB 184) 40 = .ok (.return_, 1) := by decide +kernel
theorem c184 {d : Nat} {M : zM} {Q : Option Value → zM → Prop} {s i κ : Nat} {n : Int32} {S : yS} (hX : SX M) (hs : s < 3) (hi : i < 12) (hsa : XSa M s S κ) (hc : zi M 136 20 = nI κ) (hκ : κ + 1 < 2147483648) (hni : i ∉ go S) (k : ∀ M', XSa M' s (yDn S i n) (κ + 1) → zi M' 136 20 = nI (κ + 1) → Fi (fun b k => (b = 136 ∧ k = 20) ∨ b = 178 + s ∨ b = 182 + s ∨ b = 186 + s) M M' → Q none M') : qC (d + 1) 184 [.ref 136, .int (nI s), .int (nI i), .int n] M Q := by
  refine qC_of (by decide) (Nat.le_of_ble_eq_true rfl) ?_
  refine q_aload_n d184_0 rfl ?_
  refine q_getr (c := 8) (f := 13) d184_1 ⟨rfl, rfl⟩ (xk_136 hX) (xf_stands hX) ?_
  refine q_iload_n d184_4 rfl ?_
  refine n_aald d184_5 (xk_stands hX) (by decide) (by omega) (by decide) (xr_stands hX (by omega)) ?_
  refine q_iload_n d184_6 rfl ?_
  refine q_iconstN (z := 1) d184_7 ?_
  refine n_iast d184_8 (xa_stands hX (by omega)) (by omega) (by decide) ?_
  refine q_aload_n d184_9 rfl ?_
  refine q_dup d184_10 rfl ?_
  refine q_getv (c := 8) (f := 20) d184_11 ⟨rfl, by decide⟩ (xk_136 hX) (Eq.trans (by (repeat (first | rw [wi_n (Or.inl (by omega))] | rw [wi_n (Or.inr (by omega))] | rw [wi_s] | rw [wr_i] | rw [cp_n (by omega)]))) hc) ?_
  refine q_iconstN (z := 1) d184_14 ?_
  refine n_iadd d184_15 ?_
  refine q_puti (c := 8) (f := 20) d184_16 ⟨rfl, rfl, by decide⟩ (xk_136 hX) ?_
  refine q_aload_n d184_19 rfl ?_
  refine q_getr (c := 8) (f := 14) d184_20 ⟨rfl, rfl⟩ (xk_136 hX) (xf_when hX) ?_
  refine q_iload_n d184_23 rfl ?_
  refine n_aald d184_24 (xk_when hX) (by decide) (by omega) (by decide) (xr_when hX (by omega)) ?_
  refine q_iload_n d184_25 rfl ?_
  refine q_aload_n d184_26 rfl ?_
  refine q_getv (c := 8) (f := 20) d184_27 ⟨rfl, by decide⟩ (xk_136 hX) (wi_s _ _ _ _) ?_
  refine n_iast d184_30 (xa_when hX (by omega)) (by omega) (by decide) ?_
  refine q_aload_n d184_31 rfl ?_
  refine q_getr (c := 8) (f := 15) d184_32 ⟨rfl, rfl⟩ (xk_136 hX) (xf_by hX) ?_
  refine q_iload_n d184_35 rfl ?_
  refine n_aald d184_36 (xk_by hX) (by decide) (by omega) (by decide) (xr_by hX (by omega)) ?_
  refine q_iload_n d184_37 rfl ?_
  refine q_iload_n d184_38 rfl ?_
  refine n_iast d184_39 (xa_by hX (by omega)) (by omega) (by decide) ?_
  refine q_ret d184_40 rfl ?_
  exact k _ (hsa.wd hs hni) ((wi_n (Or.inl (by omega))).trans ((wi_n (Or.inl (by omega))).trans (wi_s _ _ _ _))) (((((Fi.refl _ _).wi (by omega)).wi (by omega)).wi (by omega)).wi (by omega))
theorem d181_0 : decode (zB 181) 0 = .ok (.aload_n 0, 1) := by decide +kernel
theorem d181_1 : decode (zB 181) 1 = .ok (.getfield 36, 3) := by decide +kernel
theorem d181_4 : decode (zB 181) 4 = .ok (.iload_n 1, 1) := by decide +kernel
theorem d181_5 : decode (zB 181) 5 = .ok (.iload_n 2, 1) := by decide +kernel
theorem d181_6 : decode (zB 181) 6 = .ok (.iastore, 1) := by decide +kernel
theorem d181_7 : decode (zB 181) 7 = .ok (.aload_n 0, 1) := by decide +kernel
theorem d181_8 : decode (zB 181) 8 = .ok (.iconst 5, 1) := by decide +kernel
theorem d181_9 : decode (zB 181) 9 = .ok (.iload_n 1, 1) := by decide +kernel
theorem d181_10 : decode (zB 181) 10 = .ok (.iload_n 2, 1) := by decide +kernel
theorem d181_11 : decode (zB 181) 11 = .ok (.invokevirtual 307, 3) := by decide +kernel
theorem d181_14 : decode (zB 181) 14 = .ok (.return_, 1) := by decide +kernel
theorem c181 {d : Nat} {M : zM} {Q : Option Value → zM → Prop} {s t κ : Nat} {S : yS} {g : Option (List yL)} (hX : SX M) (hs : s < 3) (hsa : XSa M s S κ) (h0 : gt S ≠ 0) (ht : t ≠ 0) (hL : XLo G M g) (hl : yln g + 1 ≤ 240) (k : ∀ M', XSa M' s (gtS S t) κ → XLo G M' (ylg g (5, s, t)) → Fi (fun b k => (b = 175 ∧ k = s) ∨ GL b k) M M' → Q none M') : qC (d + 2) 181 [.ref 136, .int (nI s), .int (nI t)] M Q := by
  refine qC_of (by decide) (Nat.le_of_ble_eq_true rfl) ?_
  refine q_aload_n d181_0 rfl ?_
  refine q_getr (c := 8) (f := 11) d181_1 ⟨rfl, rfl⟩ (xk_136 hX) (xf_states hX) ?_
  refine q_iload_n d181_4 rfl ?_
  refine q_iload_n d181_5 rfl ?_
  refine n_iast d181_6 (xk_states hX) (by omega) (by decide) ?_
  have h1 := hsa.wt h0 ht
  have f0 : Fi (fun b k => (b = 175 ∧ k = s)) M (zwi M 175 s (nI t)) := (Fi.refl _ _).wi ⟨rfl, rfl⟩
  have hL1 := hL.fi f0 (fun b k q => by unfold GL at q; omega)
  refine q_aload_n d181_7 rfl ?_
  refine q_iconstN (z := 5) d181_8 ?_
  refine q_iload_n d181_9 rfl ?_
  refine q_iload_n d181_10 rfl ?_
  refine q_v3 d181_11 rfl rfl (xk_136 hX) (Nat.le_of_ble_eq_true rfl) (c171 hX hL1 hl (fun M2 hL2 f2 => ?_))
  refine q_ret d181_14 rfl ?_
  exact k _ (h1.fi f2 (fun b k q => by unfold GS at q; unfold GL; omega)) hL2 ((f0.mono (fun b k q => Or.inl q)).trans (f2.mono (fun b k q => Or.inr q)))
end RG
