/-! ===== a local that is no more asked for may be forgotten ===== -/
def zLe (l l' : List (Nat × Value)) : Prop := (zks l).Nodup ∧ (zks l').Nodup ∧ ∀ j v, zld l j = some v → zld l' j = some v
theorem zLe_st {l l' : List (Nat × Value)} (h : zLe l l') (i : Nat) (v : Value) : zLe (zst l i v) (zst l' i v) := by
  have nd : ∀ l : List (Nat × Value), (zks l).Nodup → (zks (zst l i v)).Nodup := fun l hl => by
    rw [zst_eq]
    refine List.nodup_cons.mpr ⟨fun hm => ?_, (zks_flt hl _).1⟩
    obtain ⟨q, hq, e⟩ := List.mem_map.mp hm
    have := (List.mem_filter.mp hq).2
    unfold zkeep at this
    rw [show (q.1 == i) = true from beq_iff_eq.mpr e] at this
    exact absurd this (by simp)
  refine ⟨nd l h.1, nd l' h.2.1, fun j w hw => ?_⟩
  rw [zst_eq, zld_cons] at hw ⊢
  by_cases e : i = j
  · rw [if_pos e] at hw ⊢; exact hw
  · rw [if_neg e] at hw ⊢
    rw [zld_flt h.1] at hw
    rw [zld_flt h.2.1]
    cases hl : zld l j with
    | none => rw [hl] at hw; cases hw
    | some x => rw [hl] at hw; rw [h.2.2 j x hl]; exact hw
theorem zLoop_le {R : zRT} {m : Nat} {v : Option Value} {M' : zM} : ∀ (f pc : Nat) (l l' : List (Nat × Value)) (st : List Value) (M : zM), zLe l l' → zLoop R m v M' f pc l st M → zLoop R m v M' f pc l' st M := by
  intro f
  induction f with
  | zero => intro _ _ _ _ _ _ h; exact h.elim
  | succ f ih =>
    intro pc l l' st M hs h
    obtain ⟨i, n, hd, h⟩ := h
    refine ⟨i, n, hd, ?_⟩
    have ih' : ∀ pc st M, zLoop R m v M' f pc l st M → zLoop R m v M' f pc l' st M := fun pc st M h => ih pc l l' st M hs h
    have hI : ∀ j d, zldI (zLoop R m v M' f) pc l st M j d → zldI (zLoop R m v M' f) pc l' st M j d := fun j d ⟨x, h1, h2⟩ => ⟨x, hs.2.2 j _ h1, ih' _ _ _ h2⟩
    have hA : ∀ j d, zldA (zLoop R m v M' f) pc l st M j d → zldA (zLoop R m v M' f) pc l' st M j d := fun j d ⟨x, h1, h2⟩ => ⟨x, hs.2.2 j _ h1, ih' _ _ _ h2⟩
    have hSI : ∀ j d, zstI m (zLoop R m v M' f) pc l st M j d → zstI m (zLoop R m v M' f) pc l' st M j d := fun j d ⟨h0, x, s, h1, h2⟩ => ⟨h0, x, s, h1, ih _ _ _ _ _ (zLe_st hs _ _) h2⟩
    have hSA : ∀ j d, zstA m (zLoop R m v M' f) pc l st M j d → zstA m (zLoop R m v M' f) pc l' st M j d := fun j d ⟨h0, x, s, h1, h2⟩ => ⟨h0, x, s, h1, ih _ _ _ _ _ (zLe_st hs _ _) h2⟩
    have hcs : ∀ y as rest pc, zCallS R (zLoop R m v M' f) pc l M y as rest → zCallS R (zLoop R m v M' f) pc l' M y as rest := by
      intro y as rest pc ⟨h8, w, M1, h1, h2⟩
      exact ⟨h8, w, M1, h1, ih' _ _ _ h2⟩
    have hbr : ∀ (p A B A' B' : Prop), (A → A') → (B → B') → zbr p A B → zbr p A' B' := fun p A B A' B' hA hB h => ⟨fun q => hA (h.1 q), fun q => hB (h.2 q)⟩
    cases i with
    | iload_n j => exact ⟨h.1, hI _ _ h.2⟩
    | iload j => exact ⟨h.1, hI _ _ h.2⟩
    | aload_n j => exact ⟨h.1, hA _ _ h.2⟩
    | aload j => exact ⟨h.1, hA _ _ h.2⟩
    | istore_n j => exact ⟨h.1, hSI _ _ h.2⟩
    | istore j => exact ⟨h.1, hSI _ _ h.2⟩
    | astore_n j => exact ⟨h.1, hSA _ _ h.2⟩
    | astore j => exact ⟨h.1, hSA _ _ h.2⟩
    | iinc j z => obtain ⟨e1, e2, x, h1, h2⟩ := h; exact ⟨e1, e2, x, hs.2.2 j _ h1, ih _ _ _ _ _ (zLe_st hs _ _) h2⟩
    | ldc ix =>
      obtain ⟨e, h⟩ := h
      rcases h with ⟨x, h1, h⟩ | ⟨x, h1, h⟩
      · exact ⟨e, Or.inl ⟨x, h1, ih' _ _ _ h⟩⟩
      · exact ⟨e, Or.inr ⟨x, h1, ih' _ _ _ h⟩⟩
    | ifCond c off => obtain ⟨e, x, st', tgt, e1, e2, h⟩ := h; exact ⟨e, x, st', tgt, e1, e2, hbr _ _ _ _ _ (ih' _ _ _) (ih' _ _ _) h⟩
    | if_icmp c off => obtain ⟨e, x, y, st', tgt, e1, e2, h⟩ := h; exact ⟨e, x, y, st', tgt, e1, e2, hbr _ _ _ _ _ (ih' _ _ _) (ih' _ _ _) h⟩
    | ifnull off => obtain ⟨e, r, st', tgt, e1, e2, h⟩ := h; exact ⟨e, r, st', tgt, e1, e2, hbr _ _ _ _ _ (ih' _ _ _) (ih' _ _ _) h⟩
    | ifnonnull off => obtain ⟨e, r, st', tgt, e1, e2, h⟩ := h; exact ⟨e, r, st', tgt, e1, e2, hbr _ _ _ _ _ (ih' _ _ _) (ih' _ _ _) h⟩
    | tableswitch d lo hi offs =>
      obtain ⟨x, st', e, h⟩ := h
      exact ⟨x, st', e, hbr _ _ _ _ _ (fun ⟨t, e, h⟩ => ⟨t, e, ih' _ _ _ h⟩) (fun ⟨o, t, e1, e2, h⟩ => ⟨o, t, e1, e2, ih' _ _ _ h⟩) h⟩
    | putfield ix =>
      obtain ⟨e, w, a, st', c, f', e1, e2, e3, e4, h⟩ := h
      refine ⟨e, w, a, st', c, f', e1, e2, e3, e4, ?_⟩
      rcases h with ⟨e5, x, e6, h⟩ | ⟨e5, x, e6, e7, h⟩ | ⟨e5, x, e6, h⟩
      · exact Or.inl ⟨e5, x, e6, ih' _ _ _ h⟩
      · exact Or.inr (Or.inl ⟨e5, x, e6, e7, ih' _ _ _ h⟩)
      · exact Or.inr (Or.inr ⟨e5, x, e6, ih' _ _ _ h⟩)
    | newarray t =>
      obtain ⟨e, z, st', N, e1, e2, e3, e4, h⟩ := h
      refine ⟨e, z, st', N, e1, e2, e3, e4, ?_⟩
      rcases h with ⟨e5, h⟩ | ⟨e5, h⟩
      · exact Or.inl ⟨e5, ih' _ _ _ h⟩
      · exact Or.inr ⟨e5, ih' _ _ _ h⟩
    | multianewarray ix d =>
      obtain ⟨e, z, j, st', N, J, e1, e2, e3, e4, e5, e6, h⟩ := h
      refine ⟨e, z, j, st', N, J, e1, e2, e3, e4, e5, e6, ?_⟩
      rcases h with ⟨g1, g2, g3, h⟩ | ⟨g1, g2, y, K, g3, g4, g5, g6, h⟩
      · exact Or.inl ⟨g1, g2, g3, ih' _ _ _ h⟩
      · exact Or.inr ⟨g1, g2, y, K, g3, g4, g5, g6, ih' _ _ _ h⟩
    | invokevirtual ix =>
      obtain ⟨e, kd, y, b, as, rest, e1, e2, h⟩ := h
      refine ⟨e, kd, y, b, as, rest, e1, e2, ?_⟩
      rcases h with ⟨g1, g2, g3, h⟩ | ⟨g1, h⟩
      · exact Or.inl ⟨g1, g2, g3, hcs _ _ _ _ h⟩
      · exact Or.inr ⟨g1, hcs _ _ _ _ h⟩
    | invokestatic ix =>
      obtain ⟨e, kd, y, e1, h⟩ := h
      refine ⟨e, kd, y, e1, ?_⟩
      rcases h with ⟨g1, as, rest, g2, g3, h⟩ | ⟨g1, N, dp, sp, a, a0, rest, n0, n1, g2, g3, g4, g5, g6, g7, g8, g9, ga, h⟩ | ⟨g1, a, b, rest, g2, g3, h⟩ | ⟨g1, a, b, rest, g2, g3, h⟩
      · exact Or.inl ⟨g1, as, rest, g2, g3, hcs _ _ _ _ h⟩
      · exact Or.inr (Or.inl ⟨g1, N, dp, sp, a, a0, rest, n0, n1, g2, g3, g4, g5, g6, g7, g8, g9, ga, ih' _ _ _ h⟩)
      · exact Or.inr (Or.inr (Or.inl ⟨g1, a, b, rest, g2, g3, ih' _ _ _ h⟩))
      · exact Or.inr (Or.inr (Or.inr ⟨g1, a, b, rest, g2, g3, ih' _ _ _ h⟩))
    | invokespecial ix =>
      obtain ⟨e, kd, y, b, as, rest, e1, e2, h⟩ := h
      refine ⟨e, kd, y, b, as, rest, e1, e2, ?_⟩
      rcases h with ⟨g1, g2, g3, h⟩ | ⟨g1, g2, g3, h⟩
      · exact Or.inl ⟨g1, g2, g3, ih' _ _ _ h⟩
      · exact Or.inr ⟨g1, g2, g3, hcs _ _ _ _ h⟩
    | ireturn => exact h
    | lreturn => exact h
    | areturn => exact h
    | return_ => exact h
    | _ => first
      | exact h.elim
      | (obtain ⟨e1, h⟩ := h; exact ⟨e1, ih' _ _ _ h⟩)
      | (obtain ⟨e1, e2, h⟩ := h; exact ⟨e1, e2, ih' _ _ _ h⟩)
      | (obtain ⟨e1, e2, e3, h⟩ := h; exact ⟨e1, e2, e3, ih' _ _ _ h⟩)
      | (obtain ⟨e1, e2, e3, e4, h⟩ := h; exact ⟨e1, e2, e3, e4, ih' _ _ _ h⟩)
      | (obtain ⟨e1, e2, e3, e4, e5, h⟩ := h; exact ⟨e1, e2, e3, e4, e5, ih' _ _ _ h⟩)
      | (obtain ⟨e1, e2, e3, e4, e5, e6, h⟩ := h; exact ⟨e1, e2, e3, e4, e5, e6, ih' _ _ _ h⟩)
      | (obtain ⟨e1, e2, e3, e4, e5, e6, e7, h⟩ := h; exact ⟨e1, e2, e3, e4, e5, e6, e7, ih' _ _ _ h⟩)
      | (obtain ⟨e1, e2, e3, e4, e5, e6, e7, e8, h⟩ := h; exact ⟨e1, e2, e3, e4, e5, e6, e7, e8, ih' _ _ _ h⟩)
      | (obtain ⟨e1, e2, e3, e4, e5, e6, e7, e8, e9, h⟩ := h; exact ⟨e1, e2, e3, e4, e5, e6, e7, e8, e9, ih' _ _ _ h⟩)
      | (obtain ⟨e1, e2, e3, e4, e5, e6, e7, e8, e9, ea, h⟩ := h; exact ⟨e1, e2, e3, e4, e5, e6, e7, e8, e9, ea, ih' _ _ _ h⟩)
      | (obtain ⟨e1, e2, e3, e4, e5, e6, e7, e8, e9, ea, eb, h⟩ := h; exact ⟨e1, e2, e3, e4, e5, e6, e7, e8, e9, ea, eb, ih' _ _ _ h⟩)
      | (obtain ⟨e1, e2, e3, e4, e5, e6, e7, e8, e9, ea, eb, ec, h⟩ := h; exact ⟨e1, e2, e3, e4, e5, e6, e7, e8, e9, ea, eb, ec, ih' _ _ _ h⟩)
def zdl (i : Nat) : List (Nat × Value) → List (Nat × Value)
  | [] => []
  | q :: t => if Nat.beq q.1 i then zdl i t else q :: zdl i t
theorem zdl_ok (i : Nat) : ∀ {l : List (Nat × Value)}, (zks l).Nodup → (zks (zdl i l)).Nodup ∧ (∀ j, j ∈ zks (zdl i l) → j ∈ zks l) ∧ ∀ j v, zld (zdl i l) j = some v → zld l j = some v
  | [], h => ⟨h, fun _ h => h, fun _ _ h => h⟩
  | q :: t, h => by
    obtain ⟨h1, h2⟩ := List.nodup_cons.mp (show (q.1 :: zks t).Nodup from h)
    obtain ⟨a, b, c⟩ := zdl_ok i h2
    rw [zdl]
    split
    · refine ⟨a, fun j hj => List.mem_cons.mpr (Or.inr (b j hj)), fun j v hv => ?_⟩
      rw [zld_cons]
      by_cases e : q.1 = j
      · subst e
        rw [zld_not h1] at *
        have := c _ _ hv
        rw [zld_not h1] at this; cases this
      · rw [if_neg e]; exact c j v hv
    · refine ⟨List.nodup_cons.mpr ⟨fun hm => h1 (b _ hm), a⟩, fun j hj => ?_, fun j v hv => ?_⟩
      · rcases List.mem_cons.mp (show j ∈ q.1 :: zks (zdl i t) from hj) with e | e
        · exact List.mem_cons.mpr (Or.inl e)
        · exact List.mem_cons.mpr (Or.inr (b _ e))
      · rw [zld_cons] at hv ⊢
        by_cases e : q.1 = j
        · rw [if_pos e] at hv ⊢; exact hv
        · rw [if_neg e] at hv ⊢; exact c j v hv
/-- sorted, and one forgotten -/
theorem qW_fg {R : zRT} {m : Nat} {Q : Option Value → zM → Prop} {pc : Nat} {l l' : List (Nat × Value)} {st : List Value} {M : zM} (i : Nat) (h1 : zkd l = true) (h2 : zdl i (znrm l) = l') (k : qW R m Q pc l' st M) : qW R m Q pc l st M := by
  subst h2
  obtain ⟨f, v, M', h, hq⟩ := k
  obtain ⟨a, -, c⟩ := znrm_ok (zkd_nd h1)
  obtain ⟨a2, -, c2⟩ := zdl_ok i a
  exact ⟨f, v, M', zLoop_le f pc _ _ st M ⟨a2, zkd_nd h1, fun j w hw => (c j).symm.trans (c2 j w hw)⟩ h, hq⟩
