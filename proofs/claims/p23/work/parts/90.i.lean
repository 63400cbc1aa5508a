/-! ===== a local that is no more asked for may be forgotten ===== -/
def zLe (l l' : List (Nat × Value)) : Prop := (zks l).Nodup ∧ (zks l').Nodup ∧ ∀ j v, zld l j = some v → zld l' j = some v
theorem zLe_st {l l' : List (Nat × Value)} (h : zLe l l') (i : Nat) (v : Value) : zLe (zst l i v) (zst l' i v) := by
  have nd : ∀ l : List (Nat × Value), (zks l).Nodup → (zks (zst l i v)).Nodup := fun l hl => by
    rw [zst_eq]
    refine List.nodup_cons.mpr ⟨fun hm => ?_, (zks_flt hl _).1⟩
    obtain ⟨q, hq, e⟩ := List.mem_map.mp hm
    have := (List.mem_filter.mp hq).2
    unfold zkeep at this
    rw [show (q.1 == i) = true from beq_iff_eq.mpr e] at this
    exact absurd this (by simp)
  refine ⟨nd l h.1, nd l' h.2.1, fun j w hw => ?_⟩
  rw [zst_eq, zld_cons] at hw ⊢
  by_cases e : i = j
  · rw [if_pos e] at hw ⊢; exact hw
  · rw [if_neg e] at hw ⊢
    rw [zld_flt h.1] at hw
    rw [zld_flt h.2.1]
    cases hl : zld l j with
    | none => rw [hl] at hw; cases hw
    | some x => rw [hl] at hw; rw [h.2.2 j x hl]; exact hw
theorem zLoop_le {R : zRT} {m : Nat} {v : Option Value} {M' : zM} : ∀ (f pc : Nat) (l l' : List (Nat × Value)) (st : List Value) (M : zM), zLe l l' → zLoop R m v M' f pc l st M → zLoop R m v M' f pc l' st M := by
  intro f
  induction f with
  | zero => intro _ _ _ _ _ _ h; exact h.elim
  | succ f ih =>
    intro pc l l' st M hs h
    obtain ⟨i, n, hd, h⟩ := h
    refine ⟨i, n, hd, ?_⟩
    have ih' : ∀ pc st M, zLoop R m v M' f pc l st M → zLoop R m v M' f pc l' st M := fun pc st M h => ih pc l l' st M hs h
    have hI : ∀ j d, zldI (zLoop R m v M' f) pc l st M j d → zldI (zLoop R m v M' f) pc l' st M j d := fun j d ⟨x, h1, h2⟩ => ⟨x, hs.2.2 j _ h1, ih' _ _ _ h2⟩
    have hA : ∀ j d, zldA (zLoop R m v M' f) pc l st M j d → zldA (zLoop R m v M' f) pc l' st M j d := fun j d ⟨x, h1, h2⟩ => ⟨x, hs.2.2 j _ h1, ih' _ _ _ h2⟩
    have hSI : ∀ j d, zstI m (zLoop R m v M' f) pc l st M j d → zstI m (zLoop R m v M' f) pc l' st M j d := fun j d ⟨h0, x, s, h1, h2⟩ => ⟨h0, x, s, h1, ih _ _ _ _ _ (zLe_st hs _ _) h2⟩
    have hSA : ∀ j d, zstA m (zLoop R m v M' f) pc l st M j d → zstA m (zLoop R m v M' f) pc l' st M j d := fun j d ⟨h0, x, s, h1, h2⟩ => ⟨h0, x, s, h1, ih _ _ _ _ _ (zLe_st hs _ _) h2⟩
    have hcs : ∀ y as rest pc, zCallS R (zLoop R m v M' f) pc l M y as rest → zCallS R (zLoop R m v M' f) pc l' M y as rest := by
      intro y as rest pc ⟨h8, w, M1, h1, h2⟩
      exact ⟨h8, w, M1, h1, ih' _ _ _ h2⟩
    have hbr : ∀ (p A B A' B' : Prop), (A → A') → (B → B') → zbr p A B → zbr p A' B' := fun p A B A' B' hA hB h => ⟨fun q => hA (h.1 q), fun q => hB (h.2 q)⟩
    cases i with
    | iload_n j => exact ⟨h.1, hI _ _ h.2⟩
    | iload j => exact ⟨h.1, hI _ _ h.2⟩
    | aload_n j => exact ⟨h.1, hA _ _ h.2⟩
    | aload j => exact ⟨h.1, hA _ _ h.2⟩
    | istore_n j => exact ⟨h.1, hSI _ _ h.2⟩
    | istore j => exact ⟨h.1, hSI _ _ h.2⟩
    | astore_n j => exact ⟨h.1, hSA _ _ h.2⟩
    | astore j => exact ⟨h.1, hSA _ _ h.2⟩
    | iinc j z => obtain ⟨e1, e2, x, h1, h2⟩ := h; exact ⟨e1, e2, x, hs.2.2 j _ h1, ih _ _ _ _ _ (zLe_st hs _ _) h2⟩
    | ldc ix =>
      obtain ⟨e, h⟩ := h
      rcases h with ⟨x, h1, h⟩ | ⟨x, h1, h⟩
      · exact ⟨e, Or.inl ⟨x, h1, ih' _ _ _ h⟩⟩
      · exact ⟨e, Or.inr ⟨x, h1, ih' _ _ _ h⟩⟩
    | ifCond c off => obtain ⟨e, x, st', tgt, e1, e2, h⟩ := h; exact ⟨e, x, st', tgt, e1, e2, hbr _ _ _ _ _ (ih' _ _ _) (ih' _ _ _) h⟩
    | if_icmp c off => obtain ⟨e, x, y, st', tgt, e1, e2, h⟩ := h; exact ⟨e, x, y, st', tgt, e1, e2, hbr _ _ _ _ _ (ih' _ _ _) (ih' _ _ _) h⟩
    | ifnull off => obtain ⟨e, r, st', tgt, e1, e2, h⟩ := h; exact ⟨e, r, st', tgt, e1, e2, hbr _ _ _ _ _ (ih' _ _ _) (ih' _ _ _) h⟩
    | ifnonnull off => obtain ⟨e, r, st', tgt, e1, e2, h⟩ := h; exact ⟨e, r, st', tgt, e1, e2, hbr _ _ _ _ _ (ih' _ _ _) (ih' _ _ _) h⟩
    | tableswitch d lo hi offs =>
      obtain ⟨x, st', e, h⟩ := h
      exact ⟨x, st', e, hbr _ _ _ _ _ (fun ⟨t, e, h⟩ => ⟨t, e, ih' _ _ _ h⟩) (fun ⟨o, t, e1, e2, h⟩ => ⟨o, t, e1, e2, ih' _ _ _ h⟩) h⟩
    | putfield ix =>
      obtain ⟨e, w, a, st', c, f', e1, e2, e3, e4, h⟩ := h
      refine ⟨e, w, a, st', c, f', e1, e2, e3, e4, ?_⟩
      rcases h with ⟨e5, x, e6, h⟩ | ⟨e5, x, e6, e7, h⟩ | ⟨e5, x, e6, h⟩
      · exact Or.inl ⟨e5, x, e6, ih' _ _ _ h⟩
      · exact Or.inr (Or.inl ⟨e5, x, e6, e7, ih' _ _ _ h⟩)
      · exact Or.inr (Or.inr ⟨e5, x, e6, ih' _ _ _ h⟩)
    | newarray t =>
      obtain ⟨e, z, st', N, e1, e2, e3, e4, h⟩ := h
      refine ⟨e, z, st', N, e1, e2, e3, e4, ?_⟩
      rcases h with ⟨e5, h⟩ | ⟨e5, h⟩
      · exact Or.inl ⟨e5, ih' _ _ _ h⟩
      · exact Or.inr ⟨e5, ih' _ _ _ h⟩
    | multianewarray ix d =>
      obtain ⟨e, z, j, st', N, J, e1, e2, e3, e4, e5, e6, h⟩ := h
      refine ⟨e, z, j, st', N, J, e1, e2, e3, e4, e5, e6, ?_⟩
      rcases h with ⟨g1, g2, g3, h⟩ | ⟨g1, g2, y, K, g3, g4, g5, g6, h⟩
      · exact Or.inl ⟨g1, g2, g3, ih' _ _ _ h⟩
      · exact Or.inr ⟨g1, g2, y, K, g3, g4, g5, g6, ih' _ _ _ h⟩
    | invokevirtual ix =>
      obtain ⟨e, kd, y, b, as, rest, e1, e2, h⟩ := h
      refine ⟨e, kd, y, b, as, rest, e1, e2, ?_⟩
      rcases h with ⟨g1, g2, g3, h⟩ | ⟨g1, h⟩
      · exact Or.inl ⟨g1, g2, g3, hcs _ _ _ _ h⟩
      · exact Or.inr ⟨g1, hcs _ _ _ _ h⟩
    | invokestatic ix =>
      obtain ⟨e, kd, y, e1, h⟩ := h
      refine ⟨e, kd, y, e1, ?_⟩
      rcases h with ⟨g1, as, rest, g2, g3, h⟩ | ⟨g1, N, dp, sp, a, a0, rest, n0, n1, g2, g3, g4, g5, g6, g7, g8, g9, ga, h⟩ | ⟨g1, a, b, rest, g2, g3, h⟩ | ⟨g1, a, b, rest, g2, g3, h⟩
      · exact Or.inl ⟨g1, as, rest, g2, g3, hcs _ _ _ _ h⟩
      · exact Or.inr (Or.inl ⟨g1, N, dp, sp, a, a0, rest, n0, n1, g2, g3, g4, g5, g6, g7, g8, g9, ga, ih' _ _ _ h⟩)
      · exact Or.inr (Or.inr (Or.inl ⟨g1, a, b, rest, g2, g3, ih' _ _ _ h⟩))
      · exact Or.inr (Or.inr (Or.inr ⟨g1, a, b, rest, g2, g3, ih' _ _ _ h⟩))
    | invokespecial ix =>
      obtain ⟨e, kd, y, b, as, rest, e1, e2, h⟩ := h
      refine ⟨e, kd, y, b, as, rest, e1, e2, ?_⟩
      rcases h with ⟨g1, g2, g3, h⟩ | ⟨g1, g2, g3, h⟩
      · exact Or.inl ⟨g1, g2, g3, ih' _ _ _ h⟩
      · exact Or.inr ⟨g1, g2, g3, hcs _ _ _ _ h⟩
    | ireturn => exact h
    | lreturn => exact h
    | areturn => exact h
    | return_ => exact h
    | _ => first
      | exact h.elim
      | (obtain ⟨e1, h⟩ := h; exact ⟨e1, ih' _ _ _ h⟩)
      | (obtain ⟨e1, e2, h⟩ := h; exact ⟨e1, e2, ih' _ _ _ h⟩)
      | (obtain ⟨e1, e2, e3, h⟩ := h; exact ⟨e1, e2, e3, ih' _ _ _ h⟩)
      | (obtain ⟨e1, e2, e3, e4, h⟩ := h; exact ⟨e1, e2, e3, e4, ih' _ _ _ h⟩)
      | (obtain ⟨e1, e2, e3, e4, e5, h⟩ := h; exact ⟨e1, e2, e3, e4, e5, ih' _ _ _ h⟩)
      | (obtain ⟨e1, e2, e3, e4, e5, e6, h⟩ := h; exact ⟨e1, e2, e3, e4, e5, e6, ih' _ _ _ h⟩)
      | (obtain ⟨e1, e2, e3, e4, e5, e6, e7, h⟩ := h; exact ⟨e1, e2, e3, e4, e5, e6, e7, ih' _ _ _ h⟩)
      | (obtain ⟨e1, e2, e3, e4, e5, e6, e7, e8, h⟩ := h; exact ⟨e1, e2, e3, e4, e5, e6, e7, e8, ih' _ _ _ h⟩)
      | (obtain ⟨e1, e2, e3, e4, e5, e6, e7, e8, e9, h⟩ := h; exact ⟨e1, e2, e3, e4, e5, e6, e7, e8, e9, ih' _ _ _ h⟩)
      | (obtain ⟨e1, e2, e3, e4, e5, e6, e7, e8, e9, ea, h⟩ := h; exact ⟨e1, e2, e3, e4, e5, e6, e7, e8, e9, ea, ih' _ _ _ h⟩)
      | (obtain ⟨e1, e2, e3, e4, e5, e6, e7, e8, e9, ea, eb, h⟩ := h; exact ⟨e1, e2, e3, e4, e5, e6, e7, e8, e9, ea, eb, ih' _ _ _ h⟩)
      | (obtain ⟨e1, e2, e3, e4, e5, e6, e7, e8, e9, ea, eb, ec, h⟩ := h; exact ⟨e1, e2, e3, e4, e5, e6, e7, e8, e9, ea, eb, ec, ih' _ _ _ h⟩)
def zdl (i : Nat) : List (Nat × Value) → List (Nat × Value)
  | [] => []
  | q :: t => if Nat.beq q.1 i then zdl i t else q :: zdl i t
theorem zdl_ok (i : Nat) : ∀ {l : List (Nat × Value)}, (zks l).Nodup → (zks (zdl i l)).Nodup ∧ (∀ j, j ∈ zks (zdl i l) → j ∈ zks l) ∧ ∀ j v, zld (zdl i l) j = some v → zld l j = some v
  | [], h => ⟨h, fun _ h => h, fun _ _ h => h⟩
  | q :: t, h => by
    obtain ⟨h1, h2⟩ := List.nodup_cons.mp (show (q.1 :: zks t).Nodup from h)
    obtain ⟨a, b, c⟩ := zdl_ok i h2
    rw [zdl]
    split
    · refine ⟨a, fun j hj => List.mem_cons.mpr (Or.inr (b j hj)), fun j v hv => ?_⟩
      rw [zld_cons]
      by_cases e : q.1 = j
      · subst e
        rw [zld_not h1] at *
        have := c _ _ hv
        rw [zld_not h1] at this; cases this
      · rw [if_neg e]; exact c j v hv
    · refine ⟨List.nodup_cons.mpr ⟨fun hm => h1 (b _ hm), a⟩, fun j hj => ?_, fun j v hv => ?_⟩
      · rcases List.mem_cons.mp (show j ∈ q.1 :: zks (zdl i t) from hj) with e | e
        · exact List.mem_cons.mpr (Or.inl e)
        · exact List.mem_cons.mpr (Or.inr (b _ e))
      · rw [zld_cons] at hv ⊢
        by_cases e : q.1 = j
        · rw [if_pos e] at hv ⊢; exact hv
        · rw [if_neg e] at hv ⊢; exact c j v hv
/-- sorted, and one forgotten -/
theorem qW_fg {R : zRT} {m : Nat} {Q : Option Value → zM → Prop} {pc : Nat} {l l' : List (Nat × Value)} {st : List Value} {M : zM} (i : Nat) (h1 : zkd l = true) (h2 : zdl i (znrm l) = l') (k : qW R m Q pc l' st M) : qW R m Q pc l st M := by
  subst h2
  obtain ⟨f, v, M', h, hq⟩ := k
  obtain ⟨a, -, c⟩ := znrm_ok (zkd_nd h1)
  obtain ⟨a2, -, c2⟩ := zdl_ok i a
  exact ⟨f, v, M', zLoop_le f pc _ _ st M ⟨a2, zkd_nd h1, fun j w hw => (c j).symm.trans (c2 j w hw)⟩ h, hq⟩
/-! ===== the reference: what is counted of a text (that it ends) ===== -/
/-- a new row, else as it was -/
def FC (M M' : zM) : Prop := (∀ a k, a ≠ zn M → zi M' a k = zi M a k) ∧ zr M' = zr M ∧ zl M' = zl M ∧ (∀ a, a ≠ zn M → zk M' a = zk M a) ∧ zn M' = zn M + 1 ∧ zs M' = zs M + 12
theorem d146_0 : decode (zB 146) 0 = .ok (.bipush 12, 2) := (congrArg (fun c => decode c 0) zeq146).trans (by decide +kernel)
theorem d146_2 : decode (zB 146) 2 = .ok (.newarray .int, 2) := (congrArg (fun c => decode c 2) zeq146).trans (by decide +kernel)
theorem d146_4 : decode (zB 146) 4 = .ok (.astore_n 2, 1) := (congrArg (fun c => decode c 4) zeq146).trans (by decide +kernel)
theorem d146_5 : decode (zB 146) 5 = .ok (.iconst 0, 1) := (congrArg (fun c => decode c 5) zeq146).trans (by decide +kernel)
theorem d146_6 : decode (zB 146) 6 = .ok (.istore_n 3, 1) := (congrArg (fun c => decode c 6) zeq146).trans (by decide +kernel)
theorem d146_7 : decode (zB 146) 7 = .ok (.iconst 0, 1) := (congrArg (fun c => decode c 7) zeq146).trans (by decide +kernel)
theorem d146_8 : decode (zB 146) 8 = .ok (.istore 4, 2) := (congrArg (fun c => decode c 8) zeq146).trans (by decide +kernel)
theorem d146_10 : decode (zB 146) 10 = .ok (.iload 4, 2) := (congrArg (fun c => decode c 10) zeq146).trans (by decide +kernel)
theorem d146_12 : decode (zB 146) 12 = .ok (.aload_n 0, 1) := (congrArg (fun c => decode c 12) zeq146).trans (by decide +kernel)
theorem d146_13 : decode (zB 146) 13 = .ok (.getfield 9, 3) := (congrArg (fun c => decode c 13) zeq146).trans (by decide +kernel)
theorem d146_16 : decode (zB 146) 16 = .ok (.iload_n 1, 1) := (congrArg (fun c => decode c 16) zeq146).trans (by decide +kernel)
theorem d146_17 : decode (zB 146) 17 = .ok (.iaload, 1) := (congrArg (fun c => decode c 17) zeq146).trans (by decide +kernel)
theorem d146_18 : decode (zB 146) 18 = .ok (.if_icmp .ge 68, 3) := (congrArg (fun c => decode c 18) zeq146).trans (by decide +kernel)
theorem d146_21 : decode (zB 146) 21 = .ok (.aload_n 2, 1) := (congrArg (fun c => decode c 21) zeq146).trans (by decide +kernel)
theorem d146_22 : decode (zB 146) 22 = .ok (.iload 4, 2) := (congrArg (fun c => decode c 22) zeq146).trans (by decide +kernel)
theorem d146_24 : decode (zB 146) 24 = .ok (.iconst 1, 1) := (congrArg (fun c => decode c 24) zeq146).trans (by decide +kernel)
theorem d146_25 : decode (zB 146) 25 = .ok (.iastore, 1) := (congrArg (fun c => decode c 25) zeq146).trans (by decide +kernel)
theorem d146_26 : decode (zB 146) 26 = .ok (.iconst 0, 1) := (congrArg (fun c => decode c 26) zeq146).trans (by decide +kernel)
theorem d146_27 : decode (zB 146) 27 = .ok (.istore 5, 2) := (congrArg (fun c => decode c 27) zeq146).trans (by decide +kernel)
theorem d146_29 : decode (zB 146) 29 = .ok (.iload 5, 2) := (congrArg (fun c => decode c 29) zeq146).trans (by decide +kernel)
theorem d146_31 : decode (zB 146) 31 = .ok (.iload 4, 2) := (congrArg (fun c => decode c 31) zeq146).trans (by decide +kernel)
theorem d146_33 : decode (zB 146) 33 = .ok (.if_icmp .ge 38, 3) := (congrArg (fun c => decode c 33) zeq146).trans (by decide +kernel)
theorem d146_36 : decode (zB 146) 36 = .ok (.aload_n 0, 1) := (congrArg (fun c => decode c 36) zeq146).trans (by decide +kernel)
theorem d146_37 : decode (zB 146) 37 = .ok (.iload_n 1, 1) := (congrArg (fun c => decode c 37) zeq146).trans (by decide +kernel)
theorem d146_38 : decode (zB 146) 38 = .ok (.iload 5, 2) := (congrArg (fun c => decode c 38) zeq146).trans (by decide +kernel)
theorem d146_40 : decode (zB 146) 40 = .ok (.iload 4, 2) := (congrArg (fun c => decode c 40) zeq146).trans (by decide +kernel)
theorem d146_42 : decode (zB 146) 42 = .ok (.invokevirtual 206, 3) := (congrArg (fun c => decode c 42) zeq146).trans (by decide +kernel)
theorem d146_45 : decode (zB 146) 45 = .ok (.ifCond .eq 20, 3) := (congrArg (fun c => decode c 45) zeq146).trans (by decide +kernel)
theorem d146_48 : decode (zB 146) 48 = .ok (.aload_n 2, 1) := (congrArg (fun c => decode c 48) zeq146).trans (by decide +kernel)
theorem d146_49 : decode (zB 146) 49 = .ok (.iload 4, 2) := (congrArg (fun c => decode c 49) zeq146).trans (by decide +kernel)
theorem d146_51 : decode (zB 146) 51 = .ok (.aload_n 2, 1) := (congrArg (fun c => decode c 51) zeq146).trans (by decide +kernel)
theorem d146_52 : decode (zB 146) 52 = .ok (.iload 4, 2) := (congrArg (fun c => decode c 52) zeq146).trans (by decide +kernel)
theorem d146_54 : decode (zB 146) 54 = .ok (.iaload, 1) := (congrArg (fun c => decode c 54) zeq146).trans (by decide +kernel)
theorem d146_55 : decode (zB 146) 55 = .ok (.aload_n 2, 1) := (congrArg (fun c => decode c 55) zeq146).trans (by decide +kernel)
theorem d146_56 : decode (zB 146) 56 = .ok (.iload 5, 2) := (congrArg (fun c => decode c 56) zeq146).trans (by decide +kernel)
theorem d146_58 : decode (zB 146) 58 = .ok (.iaload, 1) := (congrArg (fun c => decode c 58) zeq146).trans (by decide +kernel)
theorem d146_59 : decode (zB 146) 59 = .ok (.iconst 1, 1) := (congrArg (fun c => decode c 59) zeq146).trans (by decide +kernel)
theorem d146_60 : decode (zB 146) 60 = .ok (.iadd, 1) := (congrArg (fun c => decode c 60) zeq146).trans (by decide +kernel)
theorem d146_61 : decode (zB 146) 61 = .ok (.invokestatic 209, 3) := (congrArg (fun c => decode c 61) zeq146).trans (by decide +kernel)
theorem d146_64 : decode (zB 146) 64 = .ok (.iastore, 1) := (congrArg (fun c => decode c 64) zeq146).trans (by decide +kernel)
theorem d146_65 : decode (zB 146) 65 = .ok (.iinc 5 1, 3) := (congrArg (fun c => decode c 65) zeq146).trans (by decide +kernel)
theorem d146_68 : decode (zB 146) 68 = .ok (.goto (-39), 3) := (congrArg (fun c => decode c 68) zeq146).trans (by decide +kernel)
theorem d146_71 : decode (zB 146) 71 = .ok (.iload_n 3, 1) := (congrArg (fun c => decode c 71) zeq146).trans (by decide +kernel)
theorem d146_72 : decode (zB 146) 72 = .ok (.aload_n 2, 1) := (congrArg (fun c => decode c 72) zeq146).trans (by decide +kernel)
theorem d146_73 : decode (zB 146) 73 = .ok (.iload 4, 2) := (congrArg (fun c => decode c 73) zeq146).trans (by decide +kernel)
theorem d146_75 : decode (zB 146) 75 = .ok (.iaload, 1) := (congrArg (fun c => decode c 75) zeq146).trans (by decide +kernel)
theorem d146_76 : decode (zB 146) 76 = .ok (.invokestatic 209, 3) := (congrArg (fun c => decode c 76) zeq146).trans (by decide +kernel)
theorem d146_79 : decode (zB 146) 79 = .ok (.istore_n 3, 1) := (congrArg (fun c => decode c 79) zeq146).trans (by decide +kernel)
theorem d146_80 : decode (zB 146) 80 = .ok (.iinc 4 1, 3) := (congrArg (fun c => decode c 80) zeq146).trans (by decide +kernel)
theorem d146_83 : decode (zB 146) 83 = .ok (.goto (-73), 3) := (congrArg (fun c => decode c 83) zeq146).trans (by decide +kernel)
theorem d146_86 : decode (zB 146) 86 = .ok (.iload_n 3, 1) := (congrArg (fun c => decode c 86) zeq146).trans (by decide +kernel)
theorem d146_87 : decode (zB 146) 87 = .ok (.ireturn, 1) := (congrArg (fun c => decode c 87) zeq146).trans (by decide +kernel)
theorem l146b {d : Nat} {Q : Option Value → zM → Prop} {T : yT} {M0 : zM} {t B i : Nat} {v3 : Int32} (hX : SX M0) (hT : XT1 M0 t T) (ho : OKT T) (ht : t < 6) (hB : 327 ≤ B) (hA : zk M0 B = (20, 12)) (hi : i < tn T) (k : ∀ M', Fi (fun b _ => b = B) M0 M' → qW (zEv (d + 1)) 146 Q 71 [(0, .ref 136), (1, .int (nI t)), (2, .ref B), (3, .int v3), (4, .int (nI i)), (5, .int (nI i))] [] M') : ∀ (r j : Nat) (M1 : zM), j ≤ i → i < j + r →  Fi (fun b _ => b = B) M0 M1 → qW (zEv (d + 1)) 146 Q 29 [(0, .ref 136), (1, .int (nI t)), (2, .ref B), (3, .int v3), (4, .int (nI i)), (5, .int (nI j))] [] M1 := by
  intro r
  induction r with
  | zero => intros; omega
  | succ r ih =>
    intro j M1 h1 h2 hF
    have hn := ho.n
    have hX1 := SX_fi hX hF
    have hT1 := XT1_fi hT ht hF (fun b k b1 b2 q => by omega)
    have hA1 : zk M1 B = (20, 12) := (congrFun hF.2.2.2.1 B).trans hA
    refine q_iload d146_29 rfl ?_
    refine q_iload d146_31 rfl ?_
    refine nc_ge 71 d146_33 (by decide) (by omega) (by omega) (fun h33 => ?_) (fun h33 => ?_)
    · refine qW_srt rfl rfl ?_
      have e9 : j = i := by omega
      subst e9
      exact k _ hF
    · refine q_aload_n d146_36 rfl ?_
      refine q_iload_n d146_37 rfl ?_
      refine q_iload d146_38 rfl ?_
      refine q_iload d146_40 rfl ?_
      refine q_v3 d146_42 rfl rfl (xk_136 hX1) (Nat.le_of_ble_eq_true rfl) (c147 hX1 hT1 ho ht (by omega) (by omega) ?_)
      refine b0_eq 65 d146_45 (by decide) (fun h45 => ?_) (fun h45 => ?_)
      · refine n_iinc 1 d146_65 (by decide) rfl rfl ?_
        refine q_goto 29 d146_68 (by decide) ?_
        refine qW_srt rfl rfl ?_
        first
        | exact ih (j + 1) _ (by omega) (by omega) (hF.wi rfl)
        | exact ih (j + 1) _ (by omega) (by omega) hF
      · refine q_aload_n d146_48 rfl ?_
        refine q_iload d146_49 rfl ?_
        refine q_aload_n d146_51 rfl ?_
        refine q_iload d146_52 rfl ?_
        refine n_iald d146_54 hA1 (by omega) (by decide) rfl ?_
        refine q_aload_n d146_55 rfl ?_
        refine q_iload d146_56 rfl ?_
        refine n_iald d146_58 hA1 (by omega) (by decide) rfl ?_
        refine q_iconstN (z := 1) d146_59 ?_
        refine q_iadd d146_60 ?_
        refine q_max d146_61 rfl (Nat.le_of_ble_eq_true rfl) ?_
        refine n_iast d146_64 hA1 (by omega) (by decide) ?_
        refine n_iinc 1 d146_65 (by decide) rfl rfl ?_
        refine q_goto 29 d146_68 (by decide) ?_
        refine qW_srt rfl rfl ?_
        first
        | exact ih (j + 1) _ (by omega) (by omega) (hF.wi rfl)
        | exact ih (j + 1) _ (by omega) (by omega) hF
theorem l146 {d : Nat} {Q : Option Value → zM → Prop} {T : yT} {M0 : zM} {t B : Nat} (hX : SX M0) (hT : XT1 M0 t T) (ho : OKT T) (ht : t < 6) (hB : 327 ≤ B) (hA : zk M0 B = (20, 12)) (k : ∀ v M', Fi (fun b _ => b = B) M0 M' → Q (some (.int v)) M') : ∀ (r i : Nat) (M1 : zM) (v3 : Int32), i ≤ tn T → tn T < i + r →  Fi (fun b _ => b = B) M0 M1 → qW (zEv (d + 1)) 146 Q 10 [(0, .ref 136), (1, .int (nI t)), (2, .ref B), (3, .int v3), (4, .int (nI i))] [] M1 := by
  intro r
  induction r with
  | zero => intros; omega
  | succ r ih =>
    intro i M1 v3 h1 h2 hF
    have hn := ho.n
    have hX1 := SX_fi hX hF
    have hT1 := XT1_fi hT ht hF (fun b k b1 b2 q => by omega)
    have hA1 : zk M1 B = (20, 12) := (congrFun hF.2.2.2.1 B).trans hA
    refine q_iload d146_10 rfl ?_
    refine q_aload_n d146_12 rfl ?_
    refine q_getr (c := 8) (f := 1) d146_13 ⟨rfl, rfl⟩ (xk_136 hX1) (xf_stepMany hX1) ?_
    refine q_iload_n d146_16 rfl ?_
    refine n_iald d146_17 (xk_stepMany hX1) (by omega) (by decide) hT1.1 ?_
    refine nc_ge 86 d146_18 (by decide) (by omega) (by omega) (fun h18 => ?_) (fun h18 => ?_)
    · refine q_iload_n d146_86 rfl ?_
      refine q_iret d146_87 rfl ?_
      exact k _ _ hF
    · refine q_aload_n d146_21 rfl ?_
      refine q_iload d146_22 rfl ?_
      refine q_iconstN (z := 1) d146_24 ?_
      refine n_iast d146_25 hA1 (by omega) (by decide) ?_
      refine q_iconstN (z := 0) d146_26 ?_
      refine q_istore d146_27 (by decide) rfl ?_
      refine qW_srt rfl rfl ?_
      refine l146b hX hT ho ht hB hA (by omega) (fun M2 hF2 => ?_) (i + 1) 0 _ (by omega) (by omega) (hF.wi rfl)
      have hX2 := SX_fi hX hF2
      have hT2 := XT1_fi hT ht hF2 (fun b k b1 b2 q => by omega)
      have hA2 : zk M2 B = (20, 12) := (congrFun hF2.2.2.2.1 B).trans hA
      refine q_iload_n d146_71 rfl ?_
      refine q_aload_n d146_72 rfl ?_
      refine q_iload d146_73 rfl ?_
      refine n_iald d146_75 hA2 (by omega) (by decide) rfl ?_
      refine q_max d146_76 rfl (Nat.le_of_ble_eq_true rfl) ?_
      refine q_istore_n d146_79 (by decide) rfl ?_
      refine n_iinc 1 d146_80 (by decide) rfl rfl ?_
      refine q_goto 10 d146_83 (by decide) ?_
      refine qW_fg 5 rfl rfl ?_
      exact ih (i + 1) _ _ (by omega) (by omega) hF2
theorem SX_nw {M : zM} {t n c : Nat} (h : SX M) (h3 : 327 ≤ zn M) : SX (znw M t n c) := SX_of h (fun a ha => if_neg (show a ≠ zn M by omega)) (fun a f _ _ => rfl)
theorem c146 {d : Nat} {M : zM} {Q : Option Value → zM → Prop} {T : yT} {t : Nat} (hX : SX M) (hT : XT1 M t T) (ho : OKT T) (ht : t < 6) (h327 : 327 ≤ zn M) (k : ∀ v M', FC M M' → Q (some (.int v)) M') : qC (d + 2) 146 [.ref 136, .int (nI t)] M Q := by
  refine qC_of (by decide) (Nat.le_of_ble_eq_true rfl) ?_
  have hn := ho.n
  have hX1 : SX (znw M 20 12 12) := SX_nw hX h327
  have hT1 : XT1 (znw M 20 12 12) t T := hT
  have hA : zk (znw M 20 12 12) (zn M) = (20, 12) := if_pos rfl
  refine q_bipush (x := nI 12) d146_0 rfl ?_
  refine q_newi (N := 12) d146_2 (by decide) (by decide) (by decide) ?_
  refine q_astore_n d146_4 (by decide) rfl ?_
  refine q_iconstN (z := 0) d146_5 ?_
  refine q_istore_n d146_6 (by decide) rfl ?_
  refine q_iconstN (z := 0) d146_7 ?_
  refine q_istore d146_8 (by decide) rfl ?_
  refine qW_srt rfl rfl ?_
  exact l146 hX1 hT1 ho ht h327 hA (fun v M2 hF => k v M2 ⟨fun a j q => hF.1 a j q, hF.2.1, hF.2.2.1, fun a q => (congrFun hF.2.2.2.1 a).trans (if_neg q), hF.2.2.2.2.1, hF.2.2.2.2.2⟩) (tn T + 1) 0 _ _ (by omega) (by omega) (Fi.refl _ _)
theorem d148_0 : decode (zB 148) 0 = .ok (.iconst 0, 1) := (congrArg (fun c => decode c 0) zeq148).trans (by decide +kernel)
theorem d148_1 : decode (zB 148) 1 = .ok (.istore_n 2, 1) := (congrArg (fun c => decode c 1) zeq148).trans (by decide +kernel)
theorem d148_2 : decode (zB 148) 2 = .ok (.iconst 1, 1) := (congrArg (fun c => decode c 2) zeq148).trans (by decide +kernel)
theorem d148_3 : decode (zB 148) 3 = .ok (.istore_n 3, 1) := (congrArg (fun c => decode c 3) zeq148).trans (by decide +kernel)
theorem d148_4 : decode (zB 148) 4 = .ok (.iload_n 3, 1) := (congrArg (fun c => decode c 4) zeq148).trans (by decide +kernel)
theorem d148_5 : decode (zB 148) 5 = .ok (.iconst 1, 1) := (congrArg (fun c => decode c 5) zeq148).trans (by decide +kernel)
theorem d148_6 : decode (zB 148) 6 = .ok (.aload_n 0, 1) := (congrArg (fun c => decode c 6) zeq148).trans (by decide +kernel)
theorem d148_7 : decode (zB 148) 7 = .ok (.getfield 9, 3) := (congrArg (fun c => decode c 7) zeq148).trans (by decide +kernel)
theorem d148_10 : decode (zB 148) 10 = .ok (.iload_n 1, 1) := (congrArg (fun c => decode c 10) zeq148).trans (by decide +kernel)
theorem d148_11 : decode (zB 148) 11 = .ok (.iaload, 1) := (congrArg (fun c => decode c 11) zeq148).trans (by decide +kernel)
theorem d148_12 : decode (zB 148) 12 = .ok (.ishl, 1) := (congrArg (fun c => decode c 12) zeq148).trans (by decide +kernel)
theorem d148_13 : decode (zB 148) 13 = .ok (.if_icmp .ge 97, 3) := (congrArg (fun c => decode c 13) zeq148).trans (by decide +kernel)
theorem d148_16 : decode (zB 148) 16 = .ok (.iload_n 3, 1) := (congrArg (fun c => decode c 16) zeq148).trans (by decide +kernel)
theorem d148_17 : decode (zB 148) 17 = .ok (.invokestatic 214, 3) := (congrArg (fun c => decode c 17) zeq148).trans (by decide +kernel)
theorem d148_20 : decode (zB 148) 20 = .ok (.iload_n 2, 1) := (congrArg (fun c => decode c 20) zeq148).trans (by decide +kernel)
theorem d148_21 : decode (zB 148) 21 = .ok (.if_icmp .le 7, 3) := (congrArg (fun c => decode c 21) zeq148).trans (by decide +kernel)
theorem d148_24 : decode (zB 148) 24 = .ok (.iconst 1, 1) := (congrArg (fun c => decode c 24) zeq148).trans (by decide +kernel)
theorem d148_25 : decode (zB 148) 25 = .ok (.goto 4, 3) := (congrArg (fun c => decode c 25) zeq148).trans (by decide +kernel)
theorem d148_28 : decode (zB 148) 28 = .ok (.iconst 0, 1) := (congrArg (fun c => decode c 28) zeq148).trans (by decide +kernel)
theorem d148_29 : decode (zB 148) 29 = .ok (.istore 4, 2) := (congrArg (fun c => decode c 29) zeq148).trans (by decide +kernel)
theorem d148_31 : decode (zB 148) 31 = .ok (.iconst 0, 1) := (congrArg (fun c => decode c 31) zeq148).trans (by decide +kernel)
theorem d148_32 : decode (zB 148) 32 = .ok (.istore 5, 2) := (congrArg (fun c => decode c 32) zeq148).trans (by decide +kernel)
theorem d148_34 : decode (zB 148) 34 = .ok (.iload 5, 2) := (congrArg (fun c => decode c 34) zeq148).trans (by decide +kernel)
theorem d148_36 : decode (zB 148) 36 = .ok (.aload_n 0, 1) := (congrArg (fun c => decode c 36) zeq148).trans (by decide +kernel)
theorem d148_37 : decode (zB 148) 37 = .ok (.getfield 9, 3) := (congrArg (fun c => decode c 37) zeq148).trans (by decide +kernel)
theorem d148_40 : decode (zB 148) 40 = .ok (.iload_n 1, 1) := (congrArg (fun c => decode c 40) zeq148).trans (by decide +kernel)
theorem d148_41 : decode (zB 148) 41 = .ok (.iaload, 1) := (congrArg (fun c => decode c 41) zeq148).trans (by decide +kernel)
theorem d148_42 : decode (zB 148) 42 = .ok (.if_icmp .ge 52, 3) := (congrArg (fun c => decode c 42) zeq148).trans (by decide +kernel)
theorem d148_45 : decode (zB 148) 45 = .ok (.iload 4, 2) := (congrArg (fun c => decode c 45) zeq148).trans (by decide +kernel)
theorem d148_47 : decode (zB 148) 47 = .ok (.ifCond .eq 47, 3) := (congrArg (fun c => decode c 47) zeq148).trans (by decide +kernel)
theorem d148_50 : decode (zB 148) 50 = .ok (.iload_n 3, 1) := (congrArg (fun c => decode c 50) zeq148).trans (by decide +kernel)
theorem d148_51 : decode (zB 148) 51 = .ok (.iload 5, 2) := (congrArg (fun c => decode c 51) zeq148).trans (by decide +kernel)
theorem d148_53 : decode (zB 148) 53 = .ok (.ishr, 1) := (congrArg (fun c => decode c 53) zeq148).trans (by decide +kernel)
theorem d148_54 : decode (zB 148) 54 = .ok (.iconst 1, 1) := (congrArg (fun c => decode c 54) zeq148).trans (by decide +kernel)
theorem d148_55 : decode (zB 148) 55 = .ok (.iand, 1) := (congrArg (fun c => decode c 55) zeq148).trans (by decide +kernel)
theorem d148_56 : decode (zB 148) 56 = .ok (.iconst 1, 1) := (congrArg (fun c => decode c 56) zeq148).trans (by decide +kernel)
theorem d148_57 : decode (zB 148) 57 = .ok (.if_icmp .ne 31, 3) := (congrArg (fun c => decode c 57) zeq148).trans (by decide +kernel)
theorem d148_60 : decode (zB 148) 60 = .ok (.iload_n 3, 1) := (congrArg (fun c => decode c 60) zeq148).trans (by decide +kernel)
theorem d148_61 : decode (zB 148) 61 = .ok (.iconst 1, 1) := (congrArg (fun c => decode c 61) zeq148).trans (by decide +kernel)
theorem d148_62 : decode (zB 148) 62 = .ok (.iload 5, 2) := (congrArg (fun c => decode c 62) zeq148).trans (by decide +kernel)
theorem d148_64 : decode (zB 148) 64 = .ok (.ishl, 1) := (congrArg (fun c => decode c 64) zeq148).trans (by decide +kernel)
theorem d148_65 : decode (zB 148) 65 = .ok (.iconst (-1), 1) := (congrArg (fun c => decode c 65) zeq148).trans (by decide +kernel)
theorem d148_66 : decode (zB 148) 66 = .ok (.ixor, 1) := (congrArg (fun c => decode c 66) zeq148).trans (by decide +kernel)
theorem d148_67 : decode (zB 148) 67 = .ok (.iand, 1) := (congrArg (fun c => decode c 67) zeq148).trans (by decide +kernel)
theorem d148_68 : decode (zB 148) 68 = .ok (.aload_n 0, 1) := (congrArg (fun c => decode c 68) zeq148).trans (by decide +kernel)
theorem d148_69 : decode (zB 148) 69 = .ok (.iload_n 1, 1) := (congrArg (fun c => decode c 69) zeq148).trans (by decide +kernel)
theorem d148_70 : decode (zB 148) 70 = .ok (.iload 5, 2) := (congrArg (fun c => decode c 70) zeq148).trans (by decide +kernel)
theorem d148_72 : decode (zB 148) 72 = .ok (.invokevirtual 219, 3) := (congrArg (fun c => decode c 72) zeq148).trans (by decide +kernel)
theorem d148_75 : decode (zB 148) 75 = .ok (.iconst (-1), 1) := (congrArg (fun c => decode c 75) zeq148).trans (by decide +kernel)
theorem d148_76 : decode (zB 148) 76 = .ok (.ixor, 1) := (congrArg (fun c => decode c 76) zeq148).trans (by decide +kernel)
theorem d148_77 : decode (zB 148) 77 = .ok (.iand, 1) := (congrArg (fun c => decode c 77) zeq148).trans (by decide +kernel)
theorem d148_78 : decode (zB 148) 78 = .ok (.ifCond .ne 7, 3) := (congrArg (fun c => decode c 78) zeq148).trans (by decide +kernel)
theorem d148_81 : decode (zB 148) 81 = .ok (.iconst 1, 1) := (congrArg (fun c => decode c 81) zeq148).trans (by decide +kernel)
theorem d148_82 : decode (zB 148) 82 = .ok (.goto 4, 3) := (congrArg (fun c => decode c 82) zeq148).trans (by decide +kernel)
theorem d148_85 : decode (zB 148) 85 = .ok (.iconst 0, 1) := (congrArg (fun c => decode c 85) zeq148).trans (by decide +kernel)
theorem d148_86 : decode (zB 148) 86 = .ok (.istore 4, 2) := (congrArg (fun c => decode c 86) zeq148).trans (by decide +kernel)
theorem d148_88 : decode (zB 148) 88 = .ok (.iinc 5 1, 3) := (congrArg (fun c => decode c 88) zeq148).trans (by decide +kernel)
theorem d148_91 : decode (zB 148) 91 = .ok (.goto (-57), 3) := (congrArg (fun c => decode c 91) zeq148).trans (by decide +kernel)
theorem d148_94 : decode (zB 148) 94 = .ok (.iload 4, 2) := (congrArg (fun c => decode c 94) zeq148).trans (by decide +kernel)
theorem d148_96 : decode (zB 148) 96 = .ok (.ifCond .eq 8, 3) := (congrArg (fun c => decode c 96) zeq148).trans (by decide +kernel)
theorem d148_99 : decode (zB 148) 99 = .ok (.iload_n 3, 1) := (congrArg (fun c => decode c 99) zeq148).trans (by decide +kernel)
theorem d148_100 : decode (zB 148) 100 = .ok (.invokestatic 214, 3) := (congrArg (fun c => decode c 100) zeq148).trans (by decide +kernel)
theorem d148_103 : decode (zB 148) 103 = .ok (.istore_n 2, 1) := (congrArg (fun c => decode c 103) zeq148).trans (by decide +kernel)
theorem d148_104 : decode (zB 148) 104 = .ok (.iinc 3 1, 3) := (congrArg (fun c => decode c 104) zeq148).trans (by decide +kernel)
theorem d148_107 : decode (zB 148) 107 = .ok (.goto (-103), 3) := (congrArg (fun c => decode c 107) zeq148).trans (by decide +kernel)
theorem d148_110 : decode (zB 148) 110 = .ok (.iload_n 2, 1) := (congrArg (fun c => decode c 110) zeq148).trans (by decide +kernel)
theorem d148_111 : decode (zB 148) 111 = .ok (.ireturn, 1) := (congrArg (fun c => decode c 111) zeq148).trans (by decide +kernel)
theorem l148b {d : Nat} {M : zM} {Q : Option Value → zM → Prop} {T : yT} {t s : Nat} {v2 : Int32} (hX : SX M) (hT : XT1 M t T) (ho : OKT T) (ht : t < 6) (hs : s < 2 ^ tn T) (k : ∀ (v4 : Int32) (i : Nat), qW (zEv (d + 2)) 148 Q 94 [(0, .ref 136), (1, .int (nI t)), (2, .int v2), (3, .int (nI s)), (4, .int v4), (5, .int (nI i))] [] M) : ∀ (r i : Nat) (v4 : Int32), i ≤ tn T → tn T < i + r → qW (zEv (d + 2)) 148 Q 34 [(0, .ref 136), (1, .int (nI t)), (2, .int v2), (3, .int (nI s)), (4, .int v4), (5, .int (nI i))] [] M := by
  intro r
  induction r with
  | zero => intros; omega
  | succ r ih =>
    intro i v4 h1 h2 
    have hn := ho.n
    have hp12 : 2 ^ tn T ≤ 2 ^ 12 := Nat.pow_le_pow_right (by omega) hn
    refine q_iload d148_34 rfl ?_
    refine q_aload_n d148_36 rfl ?_
    refine q_getr (c := 8) (f := 1) d148_37 ⟨rfl, rfl⟩ (xk_136 hX) (xf_stepMany hX) ?_
    refine q_iload_n d148_40 rfl ?_
    refine n_iald d148_41 (xk_stepMany hX) (by omega) (by decide) hT.1 ?_
    refine nc_ge 94 d148_42 (by decide) (by omega) (by omega) (fun h42 => ?_) (fun h42 => ?_)
    · refine qW_srt rfl rfl ?_
      exact k _ _
    · refine q_iload d148_45 rfl ?_
      refine i0_eq 94 d148_47 (by decide) (fun h47 => ?_) (fun h47 => ?_)
      · refine qW_srt rfl rfl ?_
        exact k _ _
      · refine q_iload_n d148_50 rfl ?_
        refine q_iload d148_51 rfl ?_
        refine q_ishr d148_53 ?_
        refine q_iconstN (z := 1) d148_54 ?_
        refine q_iand d148_55 ?_
        refine q_iconstN (z := 1) d148_56 ?_
        refine ic_ne 88 d148_57 (by decide) (fun h57 => ?_) (fun h57 => ?_)
        · refine n_iinc 1 d148_88 (by decide) rfl rfl ?_
          refine q_goto 34 d148_91 (by decide) ?_
          refine qW_srt rfl rfl ?_
          exact ih (i + 1) _ (by omega) (by omega)
        · refine q_iload_n d148_60 rfl ?_
          refine q_iconstN (z := 1) d148_61 ?_
          refine q_iload d148_62 rfl ?_
          refine n_ishl1 d148_64 (by omega) ?_
          refine q_iconst (x := (-1)) d148_65 rfl ?_
          refine q_ixor d148_66 ?_
          refine n_iandn d148_67 ?_
          refine q_aload_n d148_68 rfl ?_
          refine q_iload_n d148_69 rfl ?_
          refine q_iload d148_70 rfl ?_
          refine q_v2 d148_72 rfl rfl (xk_136 hX) (Nat.le_of_ble_eq_true rfl) (c149 hX hT ho ht (by omega) ?_)
          refine q_iconst (x := (-1)) d148_75 rfl ?_
          refine q_ixor d148_76 ?_
          refine q_iand d148_77 ?_
          refine i0_ne 85 d148_78 (by decide) (fun h78 => ?_) (fun h78 => ?_)
          · refine q_iconstN (z := 0) d148_85 ?_
            refine q_istore d148_86 (by decide) rfl ?_
            refine n_iinc 1 d148_88 (by decide) rfl rfl ?_
            refine q_goto 34 d148_91 (by decide) ?_
            refine qW_srt rfl rfl ?_
            exact ih (i + 1) _ (by omega) (by omega)
          · refine q_iconstN (z := 1) d148_81 ?_
            refine q_goto 86 d148_82 (by decide) ?_
            refine q_istore d148_86 (by decide) rfl ?_
            refine n_iinc 1 d148_88 (by decide) rfl rfl ?_
            refine q_goto 34 d148_91 (by decide) ?_
            refine qW_srt rfl rfl ?_
            exact ih (i + 1) _ (by omega) (by omega)
theorem l148 {d : Nat} {M : zM} {Q : Option Value → zM → Prop} {T : yT} {t : Nat} (hX : SX M) (hT : XT1 M t T) (ho : OKT T) (ht : t < 6) (k : ∀ v, Q (some (.int v)) M) : ∀ (r s : Nat) (v2 : Int32), s ≤ 2 ^ tn T → 2 ^ tn T < s + r → qW (zEv (d + 2)) 148 Q 4 [(0, .ref 136), (1, .int (nI t)), (2, .int v2), (3, .int (nI s))] [] M := by
  intro r
  induction r with
  | zero => intros; omega
  | succ r ih =>
    intro s v2 h1 h2 
    have hn := ho.n
    have hp12 : 2 ^ tn T ≤ 2 ^ 12 := Nat.pow_le_pow_right (by omega) hn
    refine q_iload_n d148_4 rfl ?_
    refine q_iconstN (z := 1) d148_5 ?_
    refine q_aload_n d148_6 rfl ?_
    refine q_getr (c := 8) (f := 1) d148_7 ⟨rfl, rfl⟩ (xk_136 hX) (xf_stepMany hX) ?_
    refine q_iload_n d148_10 rfl ?_
    refine n_iald d148_11 (xk_stepMany hX) (by omega) (by decide) hT.1 ?_
    refine n_ishl1 d148_12 (by omega) ?_
    refine nc_ge 110 d148_13 (by decide) (by omega) (by omega) (fun h13 => ?_) (fun h13 => ?_)
    · refine q_iload_n d148_110 rfl ?_
      refine q_iret d148_111 rfl ?_
      exact k _
    · refine q_iload_n d148_16 rfl ?_
      refine q_s1 d148_17 (Or.inl rfl) rfl (Nat.le_of_ble_eq_true rfl) (c105 ?_)
      refine q_iload_n d148_20 rfl ?_
      refine ic_le 28 d148_21 (by decide) (fun h21 => ?_) (fun h21 => ?_)
      · refine q_iconstN (z := 0) d148_28 ?_
        refine q_istore d148_29 (by decide) rfl ?_
        refine q_iconstN (z := 0) d148_31 ?_
        refine q_istore d148_32 (by decide) rfl ?_
        refine qW_srt rfl rfl ?_
        refine l148b hX hT ho ht (by omega) (fun v4 i => ?_) (tn T + 1) 0 _ (by omega) (by omega)
        refine q_iload d148_94 rfl ?_
        refine i0_eq 104 d148_96 (by decide) (fun h96 => ?_) (fun h96 => ?_)
        · refine n_iinc 1 d148_104 (by decide) rfl rfl ?_
          refine q_goto 4 d148_107 (by decide) ?_
          refine qW_fg 5 rfl rfl ?_
          refine qW_fg 4 rfl rfl ?_
          exact ih (s + 1) _ (by omega) (by omega)
        · refine q_iload_n d148_99 rfl ?_
          refine q_s1 d148_100 (Or.inl rfl) rfl (Nat.le_of_ble_eq_true rfl) (c105 ?_)
          refine q_istore_n d148_103 (by decide) rfl ?_
          refine n_iinc 1 d148_104 (by decide) rfl rfl ?_
          refine q_goto 4 d148_107 (by decide) ?_
          refine qW_fg 5 rfl rfl ?_
          refine qW_fg 4 rfl rfl ?_
          exact ih (s + 1) _ (by omega) (by omega)
      · refine q_iconstN (z := 1) d148_24 ?_
        refine q_goto 29 d148_25 (by decide) ?_
        refine q_istore d148_29 (by decide) rfl ?_
        refine q_iconstN (z := 0) d148_31 ?_
        refine q_istore d148_32 (by decide) rfl ?_
        refine qW_srt rfl rfl ?_
        refine l148b hX hT ho ht (by omega) (fun v4 i => ?_) (tn T + 1) 0 _ (by omega) (by omega)
        refine q_iload d148_94 rfl ?_
        refine i0_eq 104 d148_96 (by decide) (fun h96 => ?_) (fun h96 => ?_)
        · refine n_iinc 1 d148_104 (by decide) rfl rfl ?_
          refine q_goto 4 d148_107 (by decide) ?_
          refine qW_fg 5 rfl rfl ?_
          refine qW_fg 4 rfl rfl ?_
          exact ih (s + 1) _ (by omega) (by omega)
        · refine q_iload_n d148_99 rfl ?_
          refine q_s1 d148_100 (Or.inl rfl) rfl (Nat.le_of_ble_eq_true rfl) (c105 ?_)
          refine q_istore_n d148_103 (by decide) rfl ?_
          refine n_iinc 1 d148_104 (by decide) rfl rfl ?_
          refine q_goto 4 d148_107 (by decide) ?_
          refine qW_fg 5 rfl rfl ?_
          refine qW_fg 4 rfl rfl ?_
          exact ih (s + 1) _ (by omega) (by omega)
theorem c148 {d : Nat} {M : zM} {Q : Option Value → zM → Prop} {T : yT} {t : Nat} (hX : SX M) (hT : XT1 M t T) (ho : OKT T) (ht : t < 6) (k : ∀ v, Q (some (.int v)) M) : qC (d + 3) 148 [.ref 136, .int (nI t)] M Q := by
  refine qC_of (by decide) (Nat.le_of_ble_eq_true rfl) ?_
  have hn := ho.n
  have hp12 : 2 ^ tn T ≤ 2 ^ 12 := Nat.pow_le_pow_right (by omega) hn
  refine q_iconstN (z := 0) d148_0 ?_
  refine q_istore_n d148_1 (by decide) rfl ?_
  refine q_iconstN (z := 1) d148_2 ?_
  refine q_istore_n d148_3 (by decide) rfl ?_
  refine qW_srt rfl rfl ?_
  exact l148 hX hT ho ht k (2 ^ tn T) 1 _ (Nat.one_le_two_pow) (by omega)
theorem d151_0 : decode (zB 151) 0 = .ok (.aload_n 0, 1) := (congrArg (fun c => decode c 0) zeq151).trans (by decide +kernel)
theorem d151_1 : decode (zB 151) 1 = .ok (.getfield 21, 3) := (congrArg (fun c => decode c 1) zeq151).trans (by decide +kernel)
theorem d151_4 : decode (zB 151) 4 = .ok (.iload_n 1, 1) := (congrArg (fun c => decode c 4) zeq151).trans (by decide +kernel)
theorem d151_5 : decode (zB 151) 5 = .ok (.aaload, 1) := (congrArg (fun c => decode c 5) zeq151).trans (by decide +kernel)
theorem d151_6 : decode (zB 151) 6 = .ok (.iload_n 2, 1) := (congrArg (fun c => decode c 6) zeq151).trans (by decide +kernel)
theorem d151_7 : decode (zB 151) 7 = .ok (.iaload, 1) := (congrArg (fun c => decode c 7) zeq151).trans (by decide +kernel)
theorem d151_8 : decode (zB 151) 8 = .ok (.iconst (-1), 1) := (congrArg (fun c => decode c 8) zeq151).trans (by decide +kernel)
theorem d151_9 : decode (zB 151) 9 = .ok (.if_icmp .ne 7, 3) := (congrArg (fun c => decode c 9) zeq151).trans (by decide +kernel)
theorem d151_12 : decode (zB 151) 12 = .ok (.iconst 0, 1) := (congrArg (fun c => decode c 12) zeq151).trans (by decide +kernel)
theorem d151_13 : decode (zB 151) 13 = .ok (.goto 13, 3) := (congrArg (fun c => decode c 13) zeq151).trans (by decide +kernel)
theorem d151_16 : decode (zB 151) 16 = .ok (.iconst 1, 1) := (congrArg (fun c => decode c 16) zeq151).trans (by decide +kernel)
theorem d151_17 : decode (zB 151) 17 = .ok (.aload_n 0, 1) := (congrArg (fun c => decode c 17) zeq151).trans (by decide +kernel)
theorem d151_18 : decode (zB 151) 18 = .ok (.getfield 21, 3) := (congrArg (fun c => decode c 18) zeq151).trans (by decide +kernel)
theorem d151_21 : decode (zB 151) 21 = .ok (.iload_n 1, 1) := (congrArg (fun c => decode c 21) zeq151).trans (by decide +kernel)
theorem d151_22 : decode (zB 151) 22 = .ok (.aaload, 1) := (congrArg (fun c => decode c 22) zeq151).trans (by decide +kernel)
theorem d151_23 : decode (zB 151) 23 = .ok (.iload_n 2, 1) := (congrArg (fun c => decode c 23) zeq151).trans (by decide +kernel)
theorem d151_24 : decode (zB 151) 24 = .ok (.iaload, 1) := (congrArg (fun c => decode c 24) zeq151).trans (by decide +kernel)
theorem d151_25 : decode (zB 151) 25 = .ok (.ishl, 1) := (congrArg (fun c => decode c 25) zeq151).trans (by decide +kernel)
theorem d151_26 : decode (zB 151) 26 = .ok (.aload_n 0, 1) := (congrArg (fun c => decode c 26) zeq151).trans (by decide +kernel)
theorem d151_27 : decode (zB 151) 27 = .ok (.getfield 24, 3) := (congrArg (fun c => decode c 27) zeq151).trans (by decide +kernel)
theorem d151_30 : decode (zB 151) 30 = .ok (.iload_n 1, 1) := (congrArg (fun c => decode c 30) zeq151).trans (by decide +kernel)
theorem d151_31 : decode (zB 151) 31 = .ok (.aaload, 1) := (congrArg (fun c => decode c 31) zeq151).trans (by decide +kernel)
theorem d151_32 : decode (zB 151) 32 = .ok (.iload_n 2, 1) := (congrArg (fun c => decode c 32) zeq151).trans (by decide +kernel)
theorem d151_33 : decode (zB 151) 33 = .ok (.iaload, 1) := (congrArg (fun c => decode c 33) zeq151).trans (by decide +kernel)
theorem d151_34 : decode (zB 151) 34 = .ok (.iconst (-1), 1) := (congrArg (fun c => decode c 34) zeq151).trans (by decide +kernel)
theorem d151_35 : decode (zB 151) 35 = .ok (.if_icmp .ne 7, 3) := (congrArg (fun c => decode c 35) zeq151).trans (by decide +kernel)
theorem d151_38 : decode (zB 151) 38 = .ok (.iconst 0, 1) := (congrArg (fun c => decode c 38) zeq151).trans (by decide +kernel)
theorem d151_39 : decode (zB 151) 39 = .ok (.goto 13, 3) := (congrArg (fun c => decode c 39) zeq151).trans (by decide +kernel)
theorem d151_42 : decode (zB 151) 42 = .ok (.iconst 1, 1) := (congrArg (fun c => decode c 42) zeq151).trans (by decide +kernel)
theorem d151_43 : decode (zB 151) 43 = .ok (.aload_n 0, 1) := (congrArg (fun c => decode c 43) zeq151).trans (by decide +kernel)
theorem d151_44 : decode (zB 151) 44 = .ok (.getfield 24, 3) := (congrArg (fun c => decode c 44) zeq151).trans (by decide +kernel)
theorem d151_47 : decode (zB 151) 47 = .ok (.iload_n 1, 1) := (congrArg (fun c => decode c 47) zeq151).trans (by decide +kernel)
theorem d151_48 : decode (zB 151) 48 = .ok (.aaload, 1) := (congrArg (fun c => decode c 48) zeq151).trans (by decide +kernel)
theorem d151_49 : decode (zB 151) 49 = .ok (.iload_n 2, 1) := (congrArg (fun c => decode c 49) zeq151).trans (by decide +kernel)
theorem d151_50 : decode (zB 151) 50 = .ok (.iaload, 1) := (congrArg (fun c => decode c 50) zeq151).trans (by decide +kernel)
theorem d151_51 : decode (zB 151) 51 = .ok (.ishl, 1) := (congrArg (fun c => decode c 51) zeq151).trans (by decide +kernel)
theorem d151_52 : decode (zB 151) 52 = .ok (.ior, 1) := (congrArg (fun c => decode c 52) zeq151).trans (by decide +kernel)
theorem d151_53 : decode (zB 151) 53 = .ok (.ireturn, 1) := (congrArg (fun c => decode c 53) zeq151).trans (by decide +kernel)
theorem c151 {d : Nat} {M : zM} {Q : Option Value → zM → Prop} {T : yT} {t i : Nat} (hX : SX M) (hT : XT1 M t T) (ho : OKT T) (ht : t < 6) (hi : i < tn T) (k : ∀ v, Q (some (.int v)) M) : qC (d + 1) 151 [.ref 136, .int (nI t), .int (nI i)] M Q := by
  refine qC_of (by decide) (Nat.le_of_ble_eq_true rfl) ?_
  have hn := ho.n
  refine q_aload_n d151_0 rfl ?_
  refine q_getr (c := 8) (f := 4) d151_1 ⟨rfl, rfl⟩ (xk_136 hX) (xf_firsts hX) ?_
  refine q_iload_n d151_4 rfl ?_
  refine n_aald d151_5 (xk_firsts hX) (by decide) (by omega) (by decide) (xr_firsts hX (by omega)) ?_
  refine q_iload_n d151_6 rfl ?_
  refine n_iald d151_7 (xa_firsts hX (by omega)) (by omega) (by decide) (hT.2.2 _ (by omega)).2.1 ?_
  refine q_iconst (x := (-1)) d151_8 rfl ?_
  refine ic_ne 16 d151_9 (by decide) (fun h9 => ?_) (fun h9 => ?_)
  · refine q_iconstN (z := 1) d151_16 ?_
    refine q_aload_n d151_17 rfl ?_
    refine q_getr (c := 8) (f := 4) d151_18 ⟨rfl, rfl⟩ (xk_136 hX) (xf_firsts hX) ?_
    refine q_iload_n d151_21 rfl ?_
    refine n_aald d151_22 (xk_firsts hX) (by decide) (by omega) (by decide) (xr_firsts hX (by omega)) ?_
    refine q_iload_n d151_23 rfl ?_
    refine n_iald d151_24 (xa_firsts hX (by omega)) (by omega) (by decide) (hT.2.2 _ (by omega)).2.1 ?_
    refine q_ishl d151_25 ?_
    refine q_aload_n d151_26 rfl ?_
    refine q_getr (c := 8) (f := 5) d151_27 ⟨rfl, rfl⟩ (xk_136 hX) (xf_seconds hX) ?_
    refine q_iload_n d151_30 rfl ?_
    refine n_aald d151_31 (xk_seconds hX) (by decide) (by omega) (by decide) (xr_seconds hX (by omega)) ?_
    refine q_iload_n d151_32 rfl ?_
    refine n_iald d151_33 (xa_seconds hX (by omega)) (by omega) (by decide) (hT.2.2 _ (by omega)).2.2.1 ?_
    refine q_iconst (x := (-1)) d151_34 rfl ?_
    refine ic_ne 42 d151_35 (by decide) (fun h35 => ?_) (fun h35 => ?_)
    · refine q_iconstN (z := 1) d151_42 ?_
      refine q_aload_n d151_43 rfl ?_
      refine q_getr (c := 8) (f := 5) d151_44 ⟨rfl, rfl⟩ (xk_136 hX) (xf_seconds hX) ?_
      refine q_iload_n d151_47 rfl ?_
      refine n_aald d151_48 (xk_seconds hX) (by decide) (by omega) (by decide) (xr_seconds hX (by omega)) ?_
      refine q_iload_n d151_49 rfl ?_
      refine n_iald d151_50 (xa_seconds hX (by omega)) (by omega) (by decide) (hT.2.2 _ (by omega)).2.2.1 ?_
      refine q_ishl d151_51 ?_
      refine q_ior d151_52 ?_
      refine q_iret d151_53 rfl ?_
      exact k _
    · refine q_iconstN (z := 0) d151_38 ?_
      refine q_goto 52 d151_39 (by decide) ?_
      refine q_ior d151_52 ?_
      refine q_iret d151_53 rfl ?_
      exact k _
  · refine q_iconstN (z := 0) d151_12 ?_
    refine q_goto 26 d151_13 (by decide) ?_
    refine q_aload_n d151_26 rfl ?_
    refine q_getr (c := 8) (f := 5) d151_27 ⟨rfl, rfl⟩ (xk_136 hX) (xf_seconds hX) ?_
    refine q_iload_n d151_30 rfl ?_
    refine n_aald d151_31 (xk_seconds hX) (by decide) (by omega) (by decide) (xr_seconds hX (by omega)) ?_
    refine q_iload_n d151_32 rfl ?_
    refine n_iald d151_33 (xa_seconds hX (by omega)) (by omega) (by decide) (hT.2.2 _ (by omega)).2.2.1 ?_
    refine q_iconst (x := (-1)) d151_34 rfl ?_
    refine ic_ne 42 d151_35 (by decide) (fun h35 => ?_) (fun h35 => ?_)
    · refine q_iconstN (z := 1) d151_42 ?_
      refine q_aload_n d151_43 rfl ?_
      refine q_getr (c := 8) (f := 5) d151_44 ⟨rfl, rfl⟩ (xk_136 hX) (xf_seconds hX) ?_
      refine q_iload_n d151_47 rfl ?_
      refine n_aald d151_48 (xk_seconds hX) (by decide) (by omega) (by decide) (xr_seconds hX (by omega)) ?_
      refine q_iload_n d151_49 rfl ?_
      refine n_iald d151_50 (xa_seconds hX (by omega)) (by omega) (by decide) (hT.2.2 _ (by omega)).2.2.1 ?_
      refine q_ishl d151_51 ?_
      refine q_ior d151_52 ?_
      refine q_iret d151_53 rfl ?_
      exact k _
    · refine q_iconstN (z := 0) d151_38 ?_
      refine q_goto 52 d151_39 (by decide) ?_
      refine n_ior d151_52 ?_
      refine q_iret d151_53 rfl ?_
      exact k _
theorem d150_0 : decode (zB 150) 0 = .ok (.iconst 0, 1) := (congrArg (fun c => decode c 0) zeq150).trans (by decide +kernel)
theorem d150_1 : decode (zB 150) 1 = .ok (.istore_n 2, 1) := (congrArg (fun c => decode c 1) zeq150).trans (by decide +kernel)
theorem d150_2 : decode (zB 150) 2 = .ok (.iconst 0, 1) := (congrArg (fun c => decode c 2) zeq150).trans (by decide +kernel)
theorem d150_3 : decode (zB 150) 3 = .ok (.istore_n 3, 1) := (congrArg (fun c => decode c 3) zeq150).trans (by decide +kernel)
theorem d150_4 : decode (zB 150) 4 = .ok (.iload_n 3, 1) := (congrArg (fun c => decode c 4) zeq150).trans (by decide +kernel)
theorem d150_5 : decode (zB 150) 5 = .ok (.aload_n 0, 1) := (congrArg (fun c => decode c 5) zeq150).trans (by decide +kernel)
theorem d150_6 : decode (zB 150) 6 = .ok (.getfield 9, 3) := (congrArg (fun c => decode c 6) zeq150).trans (by decide +kernel)
theorem d150_9 : decode (zB 150) 9 = .ok (.iload_n 1, 1) := (congrArg (fun c => decode c 9) zeq150).trans (by decide +kernel)
theorem d150_10 : decode (zB 150) 10 = .ok (.iaload, 1) := (congrArg (fun c => decode c 10) zeq150).trans (by decide +kernel)
theorem d150_11 : decode (zB 150) 11 = .ok (.if_icmp .ge 59, 3) := (congrArg (fun c => decode c 11) zeq150).trans (by decide +kernel)
theorem d150_14 : decode (zB 150) 14 = .ok (.iconst 0, 1) := (congrArg (fun c => decode c 14) zeq150).trans (by decide +kernel)
theorem d150_15 : decode (zB 150) 15 = .ok (.istore 4, 2) := (congrArg (fun c => decode c 15) zeq150).trans (by decide +kernel)
theorem d150_17 : decode (zB 150) 17 = .ok (.iload 4, 2) := (congrArg (fun c => decode c 17) zeq150).trans (by decide +kernel)
theorem d150_19 : decode (zB 150) 19 = .ok (.iload_n 3, 1) := (congrArg (fun c => decode c 19) zeq150).trans (by decide +kernel)
theorem d150_20 : decode (zB 150) 20 = .ok (.if_icmp .ge 44, 3) := (congrArg (fun c => decode c 20) zeq150).trans (by decide +kernel)
theorem d150_23 : decode (zB 150) 23 = .ok (.aload_n 0, 1) := (congrArg (fun c => decode c 23) zeq150).trans (by decide +kernel)
theorem d150_24 : decode (zB 150) 24 = .ok (.iload_n 1, 1) := (congrArg (fun c => decode c 24) zeq150).trans (by decide +kernel)
theorem d150_25 : decode (zB 150) 25 = .ok (.iload_n 3, 1) := (congrArg (fun c => decode c 25) zeq150).trans (by decide +kernel)
theorem d150_26 : decode (zB 150) 26 = .ok (.invokevirtual 219, 3) := (congrArg (fun c => decode c 26) zeq150).trans (by decide +kernel)
theorem d150_29 : decode (zB 150) 29 = .ok (.iload 4, 2) := (congrArg (fun c => decode c 29) zeq150).trans (by decide +kernel)
theorem d150_31 : decode (zB 150) 31 = .ok (.ishr, 1) := (congrArg (fun c => decode c 31) zeq150).trans (by decide +kernel)
theorem d150_32 : decode (zB 150) 32 = .ok (.iconst 1, 1) := (congrArg (fun c => decode c 32) zeq150).trans (by decide +kernel)
theorem d150_33 : decode (zB 150) 33 = .ok (.iand, 1) := (congrArg (fun c => decode c 33) zeq150).trans (by decide +kernel)
theorem d150_34 : decode (zB 150) 34 = .ok (.iconst 1, 1) := (congrArg (fun c => decode c 34) zeq150).trans (by decide +kernel)
theorem d150_35 : decode (zB 150) 35 = .ok (.if_icmp .ne 23, 3) := (congrArg (fun c => decode c 35) zeq150).trans (by decide +kernel)
theorem d150_38 : decode (zB 150) 38 = .ok (.aload_n 0, 1) := (congrArg (fun c => decode c 38) zeq150).trans (by decide +kernel)
theorem d150_39 : decode (zB 150) 39 = .ok (.iload_n 1, 1) := (congrArg (fun c => decode c 39) zeq150).trans (by decide +kernel)
theorem d150_40 : decode (zB 150) 40 = .ok (.iload_n 3, 1) := (congrArg (fun c => decode c 40) zeq150).trans (by decide +kernel)
theorem d150_41 : decode (zB 150) 41 = .ok (.invokevirtual 222, 3) := (congrArg (fun c => decode c 41) zeq150).trans (by decide +kernel)
theorem d150_44 : decode (zB 150) 44 = .ok (.aload_n 0, 1) := (congrArg (fun c => decode c 44) zeq150).trans (by decide +kernel)
theorem d150_45 : decode (zB 150) 45 = .ok (.iload_n 1, 1) := (congrArg (fun c => decode c 45) zeq150).trans (by decide +kernel)
theorem d150_46 : decode (zB 150) 46 = .ok (.iload 4, 2) := (congrArg (fun c => decode c 46) zeq150).trans (by decide +kernel)
theorem d150_48 : decode (zB 150) 48 = .ok (.invokevirtual 222, 3) := (congrArg (fun c => decode c 48) zeq150).trans (by decide +kernel)
theorem d150_51 : decode (zB 150) 51 = .ok (.iand, 1) := (congrArg (fun c => decode c 51) zeq150).trans (by decide +kernel)
theorem d150_52 : decode (zB 150) 52 = .ok (.ifCond .eq 6, 3) := (congrArg (fun c => decode c 52) zeq150).trans (by decide +kernel)
theorem d150_55 : decode (zB 150) 55 = .ok (.iinc 2 1, 3) := (congrArg (fun c => decode c 55) zeq150).trans (by decide +kernel)
theorem d150_58 : decode (zB 150) 58 = .ok (.iinc 4 1, 3) := (congrArg (fun c => decode c 58) zeq150).trans (by decide +kernel)
theorem d150_61 : decode (zB 150) 61 = .ok (.goto (-44), 3) := (congrArg (fun c => decode c 61) zeq150).trans (by decide +kernel)
theorem d150_64 : decode (zB 150) 64 = .ok (.iinc 3 1, 3) := (congrArg (fun c => decode c 64) zeq150).trans (by decide +kernel)
theorem d150_67 : decode (zB 150) 67 = .ok (.goto (-63), 3) := (congrArg (fun c => decode c 67) zeq150).trans (by decide +kernel)
theorem d150_70 : decode (zB 150) 70 = .ok (.iload_n 2, 1) := (congrArg (fun c => decode c 70) zeq150).trans (by decide +kernel)
theorem d150_71 : decode (zB 150) 71 = .ok (.ireturn, 1) := (congrArg (fun c => decode c 71) zeq150).trans (by decide +kernel)
theorem l150b {d : Nat} {M : zM} {Q : Option Value → zM → Prop} {T : yT} {t i : Nat} (hX : SX M) (hT : XT1 M t T) (ho : OKT T) (ht : t < 6) (hi : i < tn T) (k : ∀ (v2 : Int32), qW (zEv (d + 2)) 150 Q 64 [(0, .ref 136), (1, .int (nI t)), (2, .int v2), (3, .int (nI i)), (4, .int (nI i))] [] M) : ∀ (r j : Nat) (v2 : Int32), j ≤ i → i < j + r → qW (zEv (d + 2)) 150 Q 17 [(0, .ref 136), (1, .int (nI t)), (2, .int v2), (3, .int (nI i)), (4, .int (nI j))] [] M := by
  intro r
  induction r with
  | zero => intros; omega
  | succ r ih =>
    intro j v2 h1 h2 
    have hn := ho.n
    refine q_iload d150_17 rfl ?_
    refine q_iload_n d150_19 rfl ?_
    refine nc_ge 64 d150_20 (by decide) (by omega) (by omega) (fun h20 => ?_) (fun h20 => ?_)
    · refine qW_srt rfl rfl ?_
      have e9 : j = i := by omega
      subst e9
      exact k _
    · refine q_aload_n d150_23 rfl ?_
      refine q_iload_n d150_24 rfl ?_
      refine q_iload_n d150_25 rfl ?_
      refine q_v2 d150_26 rfl rfl (xk_136 hX) (Nat.le_of_ble_eq_true rfl) (c149 hX hT ho ht (by omega) ?_)
      refine q_iload d150_29 rfl ?_
      refine q_ishr d150_31 ?_
      refine q_iconstN (z := 1) d150_32 ?_
      refine q_iand d150_33 ?_
      refine q_iconstN (z := 1) d150_34 ?_
      refine ic_ne 58 d150_35 (by decide) (fun h35 => ?_) (fun h35 => ?_)
      · refine n_iinc 1 d150_58 (by decide) rfl rfl ?_
        refine q_goto 17 d150_61 (by decide) ?_
        refine qW_srt rfl rfl ?_
        exact ih (j + 1) _ (by omega) (by omega)
      · refine q_aload_n d150_38 rfl ?_
        refine q_iload_n d150_39 rfl ?_
        refine q_iload_n d150_40 rfl ?_
        refine q_v2 d150_41 rfl rfl (xk_136 hX) (Nat.le_of_ble_eq_true rfl) (c151 hX hT ho ht (by omega) (fun v8 => ?_))
        refine q_aload_n d150_44 rfl ?_
        refine q_iload_n d150_45 rfl ?_
        refine q_iload d150_46 rfl ?_
        refine q_v2 d150_48 rfl rfl (xk_136 hX) (Nat.le_of_ble_eq_true rfl) (c151 hX hT ho ht (by omega) (fun v9 => ?_))
        refine q_iand d150_51 ?_
        refine i0_eq 58 d150_52 (by decide) (fun h52 => ?_) (fun h52 => ?_)
        · refine n_iinc 1 d150_58 (by decide) rfl rfl ?_
          refine q_goto 17 d150_61 (by decide) ?_
          refine qW_srt rfl rfl ?_
          exact ih (j + 1) _ (by omega) (by omega)
        · refine q_iinc d150_55 (by decide) rfl rfl rfl ?_
          refine n_iinc 1 d150_58 (by decide) rfl rfl ?_
          refine q_goto 17 d150_61 (by decide) ?_
          refine qW_srt rfl rfl ?_
          exact ih (j + 1) _ (by omega) (by omega)
theorem l150 {d : Nat} {M : zM} {Q : Option Value → zM → Prop} {T : yT} {t : Nat} (hX : SX M) (hT : XT1 M t T) (ho : OKT T) (ht : t < 6) (k : ∀ v, Q (some (.int v)) M) : ∀ (r i : Nat) (v2 : Int32), i ≤ tn T → tn T < i + r → qW (zEv (d + 2)) 150 Q 4 [(0, .ref 136), (1, .int (nI t)), (2, .int v2), (3, .int (nI i))] [] M := by
  intro r
  induction r with
  | zero => intros; omega
  | succ r ih =>
    intro i v2 h1 h2 
    have hn := ho.n
    refine q_iload_n d150_4 rfl ?_
    refine q_aload_n d150_5 rfl ?_
    refine q_getr (c := 8) (f := 1) d150_6 ⟨rfl, rfl⟩ (xk_136 hX) (xf_stepMany hX) ?_
    refine q_iload_n d150_9 rfl ?_
    refine n_iald d150_10 (xk_stepMany hX) (by omega) (by decide) hT.1 ?_
    refine nc_ge 70 d150_11 (by decide) (by omega) (by omega) (fun h11 => ?_) (fun h11 => ?_)
    · refine q_iload_n d150_70 rfl ?_
      refine q_iret d150_71 rfl ?_
      exact k _
    · refine q_iconstN (z := 0) d150_14 ?_
      refine q_istore d150_15 (by decide) rfl ?_
      refine qW_srt rfl rfl ?_
      refine l150b hX hT ho ht (by omega) (fun v2 => ?_) (i + 1) 0 _ (by omega) (by omega)
      refine n_iinc 1 d150_64 (by decide) rfl rfl ?_
      refine q_goto 4 d150_67 (by decide) ?_
      refine qW_fg 4 rfl rfl ?_
      exact ih (i + 1) _ (by omega) (by omega)
theorem c150 {d : Nat} {M : zM} {Q : Option Value → zM → Prop} {T : yT} {t : Nat} (hX : SX M) (hT : XT1 M t T) (ho : OKT T) (ht : t < 6) (k : ∀ v, Q (some (.int v)) M) : qC (d + 3) 150 [.ref 136, .int (nI t)] M Q := by
  refine qC_of (by decide) (Nat.le_of_ble_eq_true rfl) ?_
  have hn := ho.n
  refine q_iconstN (z := 0) d150_0 ?_
  refine q_istore_n d150_1 (by decide) rfl ?_
  refine q_iconstN (z := 0) d150_2 ?_
  refine q_istore_n d150_3 (by decide) rfl ?_
  refine qW_srt rfl rfl ?_
  exact l150 hX hT ho ht k (tn T + 1) 0 _ (by omega) (by omega)
theorem d153_0 : decode (zB 153) 0 = .ok (.iconst 0, 1) := (congrArg (fun c => decode c 0) zeq153).trans (by decide +kernel)
theorem d153_1 : decode (zB 153) 1 = .ok (.istore_n 3, 1) := (congrArg (fun c => decode c 1) zeq153).trans (by decide +kernel)
theorem d153_2 : decode (zB 153) 2 = .ok (.iload_n 3, 1) := (congrArg (fun c => decode c 2) zeq153).trans (by decide +kernel)
theorem d153_3 : decode (zB 153) 3 = .ok (.aload_n 0, 1) := (congrArg (fun c => decode c 3) zeq153).trans (by decide +kernel)
theorem d153_4 : decode (zB 153) 4 = .ok (.getfield 9, 3) := (congrArg (fun c => decode c 4) zeq153).trans (by decide +kernel)
theorem d153_7 : decode (zB 153) 7 = .ok (.iload_n 1, 1) := (congrArg (fun c => decode c 7) zeq153).trans (by decide +kernel)
theorem d153_8 : decode (zB 153) 8 = .ok (.iaload, 1) := (congrArg (fun c => decode c 8) zeq153).trans (by decide +kernel)
theorem d153_9 : decode (zB 153) 9 = .ok (.if_icmp .ge 35, 3) := (congrArg (fun c => decode c 9) zeq153).trans (by decide +kernel)
theorem d153_12 : decode (zB 153) 12 = .ok (.iload_n 2, 1) := (congrArg (fun c => decode c 12) zeq153).trans (by decide +kernel)
theorem d153_13 : decode (zB 153) 13 = .ok (.iload_n 3, 1) := (congrArg (fun c => decode c 13) zeq153).trans (by decide +kernel)
theorem d153_14 : decode (zB 153) 14 = .ok (.ishr, 1) := (congrArg (fun c => decode c 14) zeq153).trans (by decide +kernel)
theorem d153_15 : decode (zB 153) 15 = .ok (.iconst 1, 1) := (congrArg (fun c => decode c 15) zeq153).trans (by decide +kernel)
theorem d153_16 : decode (zB 153) 16 = .ok (.iand, 1) := (congrArg (fun c => decode c 16) zeq153).trans (by decide +kernel)
theorem d153_17 : decode (zB 153) 17 = .ok (.iconst 1, 1) := (congrArg (fun c => decode c 17) zeq153).trans (by decide +kernel)
theorem d153_18 : decode (zB 153) 18 = .ok (.if_icmp .ne 20, 3) := (congrArg (fun c => decode c 18) zeq153).trans (by decide +kernel)
theorem d153_21 : decode (zB 153) 21 = .ok (.aload_n 0, 1) := (congrArg (fun c => decode c 21) zeq153).trans (by decide +kernel)
theorem d153_22 : decode (zB 153) 22 = .ok (.getfield 30, 3) := (congrArg (fun c => decode c 22) zeq153).trans (by decide +kernel)
theorem d153_25 : decode (zB 153) 25 = .ok (.iload_n 1, 1) := (congrArg (fun c => decode c 25) zeq153).trans (by decide +kernel)
theorem d153_26 : decode (zB 153) 26 = .ok (.aaload, 1) := (congrArg (fun c => decode c 26) zeq153).trans (by decide +kernel)
theorem d153_27 : decode (zB 153) 27 = .ok (.iload_n 3, 1) := (congrArg (fun c => decode c 27) zeq153).trans (by decide +kernel)
theorem d153_28 : decode (zB 153) 28 = .ok (.iaload, 1) := (congrArg (fun c => decode c 28) zeq153).trans (by decide +kernel)
theorem d153_29 : decode (zB 153) 29 = .ok (.iload_n 2, 1) := (congrArg (fun c => decode c 29) zeq153).trans (by decide +kernel)
theorem d153_30 : decode (zB 153) 30 = .ok (.iconst (-1), 1) := (congrArg (fun c => decode c 30) zeq153).trans (by decide +kernel)
theorem d153_31 : decode (zB 153) 31 = .ok (.ixor, 1) := (congrArg (fun c => decode c 31) zeq153).trans (by decide +kernel)
theorem d153_32 : decode (zB 153) 32 = .ok (.iand, 1) := (congrArg (fun c => decode c 32) zeq153).trans (by decide +kernel)
theorem d153_33 : decode (zB 153) 33 = .ok (.ifCond .eq 5, 3) := (congrArg (fun c => decode c 33) zeq153).trans (by decide +kernel)
theorem d153_36 : decode (zB 153) 36 = .ok (.iconst 0, 1) := (congrArg (fun c => decode c 36) zeq153).trans (by decide +kernel)
theorem d153_37 : decode (zB 153) 37 = .ok (.ireturn, 1) := (congrArg (fun c => decode c 37) zeq153).trans (by decide +kernel)
theorem d153_38 : decode (zB 153) 38 = .ok (.iinc 3 1, 3) := (congrArg (fun c => decode c 38) zeq153).trans (by decide +kernel)
theorem d153_41 : decode (zB 153) 41 = .ok (.goto (-39), 3) := (congrArg (fun c => decode c 41) zeq153).trans (by decide +kernel)
theorem d153_44 : decode (zB 153) 44 = .ok (.iconst 1, 1) := (congrArg (fun c => decode c 44) zeq153).trans (by decide +kernel)
theorem d153_45 : decode (zB 153) 45 = .ok (.ireturn, 1) := (congrArg (fun c => decode c 45) zeq153).trans (by decide +kernel)
theorem l153 {d : Nat} {M : zM} {Q : Option Value → zM → Prop} {T : yT} {t s : Nat} (hX : SX M) (hT : XT1 M t T) (ho : OKT T) (ht : t < 6) (hs : s < 2 ^ tn T) (k : ∀ v, Q (some (.int v)) M) : ∀ (r i : Nat), i ≤ tn T → tn T < i + r → qW (zEv (d + 0)) 153 Q 2 [(3, .int (nI i)), (0, .ref 136), (1, .int (nI t)), (2, .int (nI s))] [] M := by
  intro r
  induction r with
  | zero => intros; omega
  | succ r ih =>
    intro i  h1 h2 
    have hn := ho.n
    have hp12 : 2 ^ tn T ≤ 2 ^ 12 := Nat.pow_le_pow_right (by omega) hn
    refine q_iload_n d153_2 rfl ?_
    refine q_aload_n d153_3 rfl ?_
    refine q_getr (c := 8) (f := 1) d153_4 ⟨rfl, rfl⟩ (xk_136 hX) (xf_stepMany hX) ?_
    refine q_iload_n d153_7 rfl ?_
    refine n_iald d153_8 (xk_stepMany hX) (by omega) (by decide) hT.1 ?_
    refine nc_ge 44 d153_9 (by decide) (by omega) (by omega) (fun h9 => ?_) (fun h9 => ?_)
    · refine q_iconstN (z := 1) d153_44 ?_
      refine q_zret d153_45 rfl (by decide) ?_
      exact k _
    · refine q_iload_n d153_12 rfl ?_
      refine q_iload_n d153_13 rfl ?_
      refine q_ishr d153_14 ?_
      refine q_iconstN (z := 1) d153_15 ?_
      refine q_iand d153_16 ?_
      refine q_iconstN (z := 1) d153_17 ?_
      refine ic_ne 38 d153_18 (by decide) (fun h18 => ?_) (fun h18 => ?_)
      · refine n_iinc 1 d153_38 (by decide) rfl rfl ?_
        refine q_goto 2 d153_41 (by decide) ?_
        exact ih (i + 1) (by omega) (by omega)
      · refine q_aload_n d153_21 rfl ?_
        refine q_getr (c := 8) (f := 7) d153_22 ⟨rfl, rfl⟩ (xk_136 hX) (xf_aheads hX) ?_
        refine q_iload_n d153_25 rfl ?_
        refine n_aald d153_26 (xk_aheads hX) (by decide) (by omega) (by decide) (xr_aheads hX (by omega)) ?_
        refine q_iload_n d153_27 rfl ?_
        refine n_iald d153_28 (xa_aheads hX (by omega)) (by omega) (by decide) (hT.2.2 _ (by omega)).2.2.2.2 ?_
        refine q_iload_n d153_29 rfl ?_
        refine q_iconst (x := (-1)) d153_30 rfl ?_
        refine q_ixor d153_31 ?_
        refine q_iand d153_32 ?_
        refine i0_eq 38 d153_33 (by decide) (fun h33 => ?_) (fun h33 => ?_)
        · refine n_iinc 1 d153_38 (by decide) rfl rfl ?_
          refine q_goto 2 d153_41 (by decide) ?_
          exact ih (i + 1) (by omega) (by omega)
        · refine q_iconstN (z := 0) d153_36 ?_
          refine q_zret d153_37 rfl (by decide) ?_
          exact k _
theorem c153 {d : Nat} {M : zM} {Q : Option Value → zM → Prop} {T : yT} {t s : Nat} (hX : SX M) (hT : XT1 M t T) (ho : OKT T) (ht : t < 6) (hs : s < 2 ^ tn T) (k : ∀ v, Q (some (.int v)) M) : qC (d + 1) 153 [.ref 136, .int (nI t), .int (nI s)] M Q := by
  refine qC_of (by decide) (Nat.le_of_ble_eq_true rfl) ?_
  have hn := ho.n
  refine q_iconstN (z := 0) d153_0 ?_
  refine q_istore_n d153_1 (by decide) rfl ?_
  exact l153 hX hT ho ht hs k (tn T + 1) 0 (by omega) (by omega)
/-- what is tried and laid back writes -/
def FW9 : Nat → Nat → Prop := fun b k => (b = 136 ∧ (k = 9 ∨ k = 10 ∨ k = 20)) ∨ (173 < b ∧ b < 205) ∨ (209 < b ∧ b < 319)
theorem FB_9 {b k : Nat} (h : FB b k) : FW9 b k := by unfold FB at h; unfold FW9; omega
theorem FA_9 {b k l : Nat} (hl : l < 4) (h : FA l b k) : FW9 b k := by unfold FA at h; unfold FW9; omega
theorem FW9_Z {b k : Nat} (h : FW9 b k) : FZ b k := by unfold FW9 at h; unfold FZ; omega
theorem KB.rf (M : zM) : KB M M := ⟨⟨fun _ _ => rfl, rfl, rfl, rfl, fun _ _ => rfl, fun _ _ => rfl⟩, fun _ _ _ _ _ _ => rfl⟩
theorem OKP_x {T : yT} {P : yP} {i : Nat} {n : Int32} (hT : OKT T) (hi : i < tn T) (h : OKP P) : OKP (xdo T P i n 1) := by
  unfold xdo
  split
  · exact OKP_ch hT hi h (by assumption)
  · exact h
theorem XPu.kb {M M' : zM} {P : yP} (h : XPu M P) (hK : KB M M') : XPu M' P := ⟨fun k hk => (hK.1.1 k hk).trans (h.1 k hk), hK.1.2.1.trans h.2.1, hK.1.2.2.1.trans h.2.2⟩
theorem KB.tr {M0 M1 M2 : zM} (h : KB M0 M1) (g : KB M1 M2) : KB M0 M2 := ⟨⟨fun k hk => (g.1.1 k hk).trans (h.1.1 k hk), g.1.2.1.trans h.1.2.1, g.1.2.2.1.trans h.1.2.2.1, g.1.2.2.2.1.trans h.1.2.2.2.1, fun k hk => (g.1.2.2.2.2.1 k hk).trans (h.1.2.2.2.2.1 k hk), fun k hk => (g.1.2.2.2.2.2 k hk).trans (h.1.2.2.2.2.2 k hk)⟩, fun a s ha hs k hk => (g.2 a s ha hs k hk).trans (h.2 a s ha hs k hk)⟩
theorem d154_0 : decode (zB 154) 0 = .ok (.aload_n 0, 1) := (congrArg (fun c => decode c 0) zeq154).trans (by decide +kernel)
theorem d154_1 : decode (zB 154) 1 = .ok (.iconst 0, 1) := (congrArg (fun c => decode c 1) zeq154).trans (by decide +kernel)
theorem d154_2 : decode (zB 154) 2 = .ok (.invokevirtual 225, 3) := (congrArg (fun c => decode c 2) zeq154).trans (by decide +kernel)
theorem d154_5 : decode (zB 154) 5 = .ok (.iconst 1, 1) := (congrArg (fun c => decode c 5) zeq154).trans (by decide +kernel)
theorem d154_6 : decode (zB 154) 6 = .ok (.istore_n 3, 1) := (congrArg (fun c => decode c 6) zeq154).trans (by decide +kernel)
theorem d154_7 : decode (zB 154) 7 = .ok (.iconst 0, 1) := (congrArg (fun c => decode c 7) zeq154).trans (by decide +kernel)
theorem d154_8 : decode (zB 154) 8 = .ok (.istore 4, 2) := (congrArg (fun c => decode c 8) zeq154).trans (by decide +kernel)
theorem d154_10 : decode (zB 154) 10 = .ok (.iload 4, 2) := (congrArg (fun c => decode c 10) zeq154).trans (by decide +kernel)
theorem d154_12 : decode (zB 154) 12 = .ok (.aload_n 0, 1) := (congrArg (fun c => decode c 12) zeq154).trans (by decide +kernel)
theorem d154_13 : decode (zB 154) 13 = .ok (.getfield 9, 3) := (congrArg (fun c => decode c 13) zeq154).trans (by decide +kernel)
theorem d154_16 : decode (zB 154) 16 = .ok (.iload_n 1, 1) := (congrArg (fun c => decode c 16) zeq154).trans (by decide +kernel)
theorem d154_17 : decode (zB 154) 17 = .ok (.iaload, 1) := (congrArg (fun c => decode c 17) zeq154).trans (by decide +kernel)
theorem d154_18 : decode (zB 154) 18 = .ok (.if_icmp .ge 48, 3) := (congrArg (fun c => decode c 18) zeq154).trans (by decide +kernel)
theorem d154_21 : decode (zB 154) 21 = .ok (.iload_n 3, 1) := (congrArg (fun c => decode c 21) zeq154).trans (by decide +kernel)
theorem d154_22 : decode (zB 154) 22 = .ok (.ifCond .eq 44, 3) := (congrArg (fun c => decode c 22) zeq154).trans (by decide +kernel)
theorem d154_25 : decode (zB 154) 25 = .ok (.iload_n 2, 1) := (congrArg (fun c => decode c 25) zeq154).trans (by decide +kernel)
theorem d154_26 : decode (zB 154) 26 = .ok (.iload 4, 2) := (congrArg (fun c => decode c 26) zeq154).trans (by decide +kernel)
theorem d154_28 : decode (zB 154) 28 = .ok (.ishr, 1) := (congrArg (fun c => decode c 28) zeq154).trans (by decide +kernel)
theorem d154_29 : decode (zB 154) 29 = .ok (.iconst 1, 1) := (congrArg (fun c => decode c 29) zeq154).trans (by decide +kernel)
theorem d154_30 : decode (zB 154) 30 = .ok (.iand, 1) := (congrArg (fun c => decode c 30) zeq154).trans (by decide +kernel)
theorem d154_31 : decode (zB 154) 31 = .ok (.iconst 1, 1) := (congrArg (fun c => decode c 31) zeq154).trans (by decide +kernel)
theorem d154_32 : decode (zB 154) 32 = .ok (.if_icmp .ne 28, 3) := (congrArg (fun c => decode c 32) zeq154).trans (by decide +kernel)
theorem d154_35 : decode (zB 154) 35 = .ok (.aload_n 0, 1) := (congrArg (fun c => decode c 35) zeq154).trans (by decide +kernel)
theorem d154_36 : decode (zB 154) 36 = .ok (.iload_n 1, 1) := (congrArg (fun c => decode c 36) zeq154).trans (by decide +kernel)
theorem d154_37 : decode (zB 154) 37 = .ok (.iload 4, 2) := (congrArg (fun c => decode c 37) zeq154).trans (by decide +kernel)
theorem d154_39 : decode (zB 154) 39 = .ok (.aload_n 0, 1) := (congrArg (fun c => decode c 39) zeq154).trans (by decide +kernel)
theorem d154_40 : decode (zB 154) 40 = .ok (.getfield 27, 3) := (congrArg (fun c => decode c 40) zeq154).trans (by decide +kernel)
theorem d154_43 : decode (zB 154) 43 = .ok (.iload_n 1, 1) := (congrArg (fun c => decode c 43) zeq154).trans (by decide +kernel)
theorem d154_44 : decode (zB 154) 44 = .ok (.aaload, 1) := (congrArg (fun c => decode c 44) zeq154).trans (by decide +kernel)
theorem d154_45 : decode (zB 154) 45 = .ok (.iload 4, 2) := (congrArg (fun c => decode c 45) zeq154).trans (by decide +kernel)
theorem d154_47 : decode (zB 154) 47 = .ok (.iaload, 1) := (congrArg (fun c => decode c 47) zeq154).trans (by decide +kernel)
theorem d154_48 : decode (zB 154) 48 = .ok (.invokevirtual 229, 3) := (congrArg (fun c => decode c 48) zeq154).trans (by decide +kernel)
theorem d154_51 : decode (zB 154) 51 = .ok (.ifCond .ne 7, 3) := (congrArg (fun c => decode c 51) zeq154).trans (by decide +kernel)
theorem d154_54 : decode (zB 154) 54 = .ok (.iconst 1, 1) := (congrArg (fun c => decode c 54) zeq154).trans (by decide +kernel)
theorem d154_55 : decode (zB 154) 55 = .ok (.goto 4, 3) := (congrArg (fun c => decode c 55) zeq154).trans (by decide +kernel)
theorem d154_58 : decode (zB 154) 58 = .ok (.iconst 0, 1) := (congrArg (fun c => decode c 58) zeq154).trans (by decide +kernel)
theorem d154_59 : decode (zB 154) 59 = .ok (.istore_n 3, 1) := (congrArg (fun c => decode c 59) zeq154).trans (by decide +kernel)
theorem d154_60 : decode (zB 154) 60 = .ok (.iinc 4 1, 3) := (congrArg (fun c => decode c 60) zeq154).trans (by decide +kernel)
theorem d154_63 : decode (zB 154) 63 = .ok (.goto (-53), 3) := (congrArg (fun c => decode c 63) zeq154).trans (by decide +kernel)
theorem d154_66 : decode (zB 154) 66 = .ok (.iconst 0, 1) := (congrArg (fun c => decode c 66) zeq154).trans (by decide +kernel)
theorem d154_67 : decode (zB 154) 67 = .ok (.istore 4, 2) := (congrArg (fun c => decode c 67) zeq154).trans (by decide +kernel)
theorem d154_69 : decode (zB 154) 69 = .ok (.iload_n 3, 1) := (congrArg (fun c => decode c 69) zeq154).trans (by decide +kernel)
theorem d154_70 : decode (zB 154) 70 = .ok (.ifCond .eq 93, 3) := (congrArg (fun c => decode c 70) zeq154).trans (by decide +kernel)
theorem d154_73 : decode (zB 154) 73 = .ok (.aload_n 0, 1) := (congrArg (fun c => decode c 73) zeq154).trans (by decide +kernel)
theorem d154_74 : decode (zB 154) 74 = .ok (.iconst 1, 1) := (congrArg (fun c => decode c 74) zeq154).trans (by decide +kernel)
theorem d154_75 : decode (zB 154) 75 = .ok (.invokevirtual 225, 3) := (congrArg (fun c => decode c 75) zeq154).trans (by decide +kernel)
theorem d154_78 : decode (zB 154) 78 = .ok (.iconst 0, 1) := (congrArg (fun c => decode c 78) zeq154).trans (by decide +kernel)
theorem d154_79 : decode (zB 154) 79 = .ok (.istore 5, 2) := (congrArg (fun c => decode c 79) zeq154).trans (by decide +kernel)
theorem d154_81 : decode (zB 154) 81 = .ok (.iload 5, 2) := (congrArg (fun c => decode c 81) zeq154).trans (by decide +kernel)
theorem d154_83 : decode (zB 154) 83 = .ok (.aload_n 0, 1) := (congrArg (fun c => decode c 83) zeq154).trans (by decide +kernel)
theorem d154_84 : decode (zB 154) 84 = .ok (.getfield 9, 3) := (congrArg (fun c => decode c 84) zeq154).trans (by decide +kernel)
theorem d154_87 : decode (zB 154) 87 = .ok (.iload_n 1, 1) := (congrArg (fun c => decode c 87) zeq154).trans (by decide +kernel)
theorem d154_88 : decode (zB 154) 88 = .ok (.iaload, 1) := (congrArg (fun c => decode c 88) zeq154).trans (by decide +kernel)
theorem d154_89 : decode (zB 154) 89 = .ok (.if_icmp .ge 74, 3) := (congrArg (fun c => decode c 89) zeq154).trans (by decide +kernel)
theorem d154_92 : decode (zB 154) 92 = .ok (.iload 4, 2) := (congrArg (fun c => decode c 92) zeq154).trans (by decide +kernel)
theorem d154_94 : decode (zB 154) 94 = .ok (.ifCond .ne 69, 3) := (congrArg (fun c => decode c 94) zeq154).trans (by decide +kernel)
theorem d154_97 : decode (zB 154) 97 = .ok (.iload_n 2, 1) := (congrArg (fun c => decode c 97) zeq154).trans (by decide +kernel)
theorem d154_98 : decode (zB 154) 98 = .ok (.iload 5, 2) := (congrArg (fun c => decode c 98) zeq154).trans (by decide +kernel)
theorem d154_100 : decode (zB 154) 100 = .ok (.ishr, 1) := (congrArg (fun c => decode c 100) zeq154).trans (by decide +kernel)
theorem d154_101 : decode (zB 154) 101 = .ok (.iconst 1, 1) := (congrArg (fun c => decode c 101) zeq154).trans (by decide +kernel)
theorem d154_102 : decode (zB 154) 102 = .ok (.iand, 1) := (congrArg (fun c => decode c 102) zeq154).trans (by decide +kernel)
theorem d154_103 : decode (zB 154) 103 = .ok (.iconst 1, 1) := (congrArg (fun c => decode c 103) zeq154).trans (by decide +kernel)
theorem d154_104 : decode (zB 154) 104 = .ok (.if_icmp .eq 53, 3) := (congrArg (fun c => decode c 104) zeq154).trans (by decide +kernel)
theorem d154_107 : decode (zB 154) 107 = .ok (.aload_n 0, 1) := (congrArg (fun c => decode c 107) zeq154).trans (by decide +kernel)
theorem d154_108 : decode (zB 154) 108 = .ok (.getfield 30, 3) := (congrArg (fun c => decode c 108) zeq154).trans (by decide +kernel)
theorem d154_111 : decode (zB 154) 111 = .ok (.iload_n 1, 1) := (congrArg (fun c => decode c 111) zeq154).trans (by decide +kernel)
theorem d154_112 : decode (zB 154) 112 = .ok (.aaload, 1) := (congrArg (fun c => decode c 112) zeq154).trans (by decide +kernel)
theorem d154_113 : decode (zB 154) 113 = .ok (.iload 5, 2) := (congrArg (fun c => decode c 113) zeq154).trans (by decide +kernel)
theorem d154_115 : decode (zB 154) 115 = .ok (.iaload, 1) := (congrArg (fun c => decode c 115) zeq154).trans (by decide +kernel)
theorem d154_116 : decode (zB 154) 116 = .ok (.iload_n 2, 1) := (congrArg (fun c => decode c 116) zeq154).trans (by decide +kernel)
theorem d154_117 : decode (zB 154) 117 = .ok (.iconst (-1), 1) := (congrArg (fun c => decode c 117) zeq154).trans (by decide +kernel)
theorem d154_118 : decode (zB 154) 118 = .ok (.ixor, 1) := (congrArg (fun c => decode c 118) zeq154).trans (by decide +kernel)
theorem d154_119 : decode (zB 154) 119 = .ok (.iand, 1) := (congrArg (fun c => decode c 119) zeq154).trans (by decide +kernel)
theorem d154_120 : decode (zB 154) 120 = .ok (.ifCond .eq 6, 3) := (congrArg (fun c => decode c 120) zeq154).trans (by decide +kernel)
theorem d154_123 : decode (zB 154) 123 = .ok (.goto 34, 3) := (congrArg (fun c => decode c 123) zeq154).trans (by decide +kernel)
theorem d154_126 : decode (zB 154) 126 = .ok (.aload_n 0, 1) := (congrArg (fun c => decode c 126) zeq154).trans (by decide +kernel)
theorem d154_127 : decode (zB 154) 127 = .ok (.iload_n 1, 1) := (congrArg (fun c => decode c 127) zeq154).trans (by decide +kernel)
theorem d154_128 : decode (zB 154) 128 = .ok (.iload 5, 2) := (congrArg (fun c => decode c 128) zeq154).trans (by decide +kernel)
theorem d154_130 : decode (zB 154) 130 = .ok (.aload_n 0, 1) := (congrArg (fun c => decode c 130) zeq154).trans (by decide +kernel)
theorem d154_131 : decode (zB 154) 131 = .ok (.getfield 27, 3) := (congrArg (fun c => decode c 131) zeq154).trans (by decide +kernel)
theorem d154_134 : decode (zB 154) 134 = .ok (.iload_n 1, 1) := (congrArg (fun c => decode c 134) zeq154).trans (by decide +kernel)
theorem d154_135 : decode (zB 154) 135 = .ok (.aaload, 1) := (congrArg (fun c => decode c 135) zeq154).trans (by decide +kernel)
theorem d154_136 : decode (zB 154) 136 = .ok (.iload 5, 2) := (congrArg (fun c => decode c 136) zeq154).trans (by decide +kernel)
theorem d154_138 : decode (zB 154) 138 = .ok (.iaload, 1) := (congrArg (fun c => decode c 138) zeq154).trans (by decide +kernel)
theorem d154_139 : decode (zB 154) 139 = .ok (.invokevirtual 229, 3) := (congrArg (fun c => decode c 139) zeq154).trans (by decide +kernel)
theorem d154_142 : decode (zB 154) 142 = .ok (.ifCond .eq 7, 3) := (congrArg (fun c => decode c 142) zeq154).trans (by decide +kernel)
theorem d154_145 : decode (zB 154) 145 = .ok (.iconst 1, 1) := (congrArg (fun c => decode c 145) zeq154).trans (by decide +kernel)
theorem d154_146 : decode (zB 154) 146 = .ok (.goto 4, 3) := (congrArg (fun c => decode c 146) zeq154).trans (by decide +kernel)
theorem d154_149 : decode (zB 154) 149 = .ok (.iconst 0, 1) := (congrArg (fun c => decode c 149) zeq154).trans (by decide +kernel)
theorem d154_150 : decode (zB 154) 150 = .ok (.istore 4, 2) := (congrArg (fun c => decode c 150) zeq154).trans (by decide +kernel)
theorem d154_152 : decode (zB 154) 152 = .ok (.aload_n 0, 1) := (congrArg (fun c => decode c 152) zeq154).trans (by decide +kernel)
theorem d154_153 : decode (zB 154) 153 = .ok (.iconst 1, 1) := (congrArg (fun c => decode c 153) zeq154).trans (by decide +kernel)
theorem d154_154 : decode (zB 154) 154 = .ok (.invokevirtual 233, 3) := (congrArg (fun c => decode c 154) zeq154).trans (by decide +kernel)
theorem d154_157 : decode (zB 154) 157 = .ok (.iinc 5 1, 3) := (congrArg (fun c => decode c 157) zeq154).trans (by decide +kernel)
theorem d154_160 : decode (zB 154) 160 = .ok (.goto (-79), 3) := (congrArg (fun c => decode c 160) zeq154).trans (by decide +kernel)
theorem d154_163 : decode (zB 154) 163 = .ok (.aload_n 0, 1) := (congrArg (fun c => decode c 163) zeq154).trans (by decide +kernel)
theorem d154_164 : decode (zB 154) 164 = .ok (.iconst 0, 1) := (congrArg (fun c => decode c 164) zeq154).trans (by decide +kernel)
theorem d154_165 : decode (zB 154) 165 = .ok (.invokevirtual 233, 3) := (congrArg (fun c => decode c 165) zeq154).trans (by decide +kernel)
theorem d154_168 : decode (zB 154) 168 = .ok (.iload 4, 2) := (congrArg (fun c => decode c 168) zeq154).trans (by decide +kernel)
theorem d154_170 : decode (zB 154) 170 = .ok (.ireturn, 1) := (congrArg (fun c => decode c 170) zeq154).trans (by decide +kernel)
theorem l154a {d : Nat} {Q : Option Value → zM → Prop} {T : yT} {M0 : zM} {t s : Nat} (hX0 : SX M0) (hT0 : XT1 M0 t T) (ho : OKT T) (ht : t < 6) (hs : s < 2 ^ tn T) (k : ∀ (v3 : Int32) (i : Nat) M' P', (v3 = 0 ∨ v3 = 1) → XPu M' P' → OKP P' → KA M0 M' 0 → Fi FW9 M0 M' → qW (zEv (d + 3)) 154 Q 66 [(0, .ref 136), (1, .int (nI t)), (2, .int (nI s)), (3, .int v3), (4, .int (nI i))] [] M') : ∀ (r i : Nat) (M1 : zM) (P : yP) (v3 : Int32), i ≤ tn T → tn T < i + r →  (v3 = 0 ∨ v3 = 1) → XPu M1 P → OKP P → KA M0 M1 0 → Fi FW9 M0 M1 → qW (zEv (d + 3)) 154 Q 10 [(0, .ref 136), (1, .int (nI t)), (2, .int (nI s)), (3, .int v3), (4, .int (nI i))] [] M1 := by
  intro r
  induction r with
  | zero => intros; omega
  | succ r ih =>
    intro i M1 P v3 h1 h2 hv hP hO hK hF
    have hn := ho.n
    have hX := SX_fi hX0 hF
    have hT := XT1_fi hT0 ht hF (fun b k b1 b2 q => by unfold FW9 at q; omega)
    refine q_iload d154_10 rfl ?_
    refine q_aload_n d154_12 rfl ?_
    refine q_getr (c := 8) (f := 1) d154_13 ⟨rfl, rfl⟩ (xk_136 hX) (xf_stepMany hX) ?_
    refine q_iload_n d154_16 rfl ?_
    refine n_iald d154_17 (xk_stepMany hX) (by omega) (by decide) hT.1 ?_
    refine nc_ge 66 d154_18 (by decide) (by omega) (by omega) (fun h18 => ?_) (fun h18 => ?_)
    · refine qW_srt rfl rfl ?_
      exact k _ _ _ _ hv hP hO hK hF
    · refine q_iload_n d154_21 rfl ?_
      refine i0_eq 66 d154_22 (by decide) (fun h22 => ?_) (fun h22 => ?_)
      · refine qW_srt rfl rfl ?_
        exact k _ _ _ _ hv hP hO hK hF
      · refine q_iload_n d154_25 rfl ?_
        refine q_iload d154_26 rfl ?_
        refine q_ishr d154_28 ?_
        refine q_iconstN (z := 1) d154_29 ?_
        refine q_iand d154_30 ?_
        refine q_iconstN (z := 1) d154_31 ?_
        refine ic_ne 60 d154_32 (by decide) (fun h32 => ?_) (fun h32 => ?_)
        · refine n_iinc 1 d154_60 (by decide) rfl rfl ?_
          refine q_goto 10 d154_63 (by decide) ?_
          refine qW_srt rfl rfl ?_
          first
          | exact ih (i + 1) _ _ _ (by omega) (by omega) hv hP hO hK hF
          | exact ih (i + 1) _ _ _ (by omega) (by omega) (by first | exact Or.inl rfl | exact Or.inr rfl) hP2 (OKP_x ho (by omega) hO) hK2 hF2
        · refine q_aload_n d154_35 rfl ?_
          refine q_iload_n d154_36 rfl ?_
          refine q_iload d154_37 rfl ?_
          refine q_aload_n d154_39 rfl ?_
          refine q_getr (c := 8) (f := 6) d154_40 ⟨rfl, rfl⟩ (xk_136 hX) (xf_numbers hX) ?_
          refine q_iload_n d154_43 rfl ?_
          refine n_aald d154_44 (xk_numbers hX) (by decide) (by omega) (by decide) (xr_numbers hX (by omega)) ?_
          refine q_iload d154_45 rfl ?_
          refine n_iald d154_47 (xa_numbers hX (by omega)) (by omega) (by decide) (hT.2.2 _ (by omega)).2.2.2.1 ?_
          refine q_v3 d154_48 rfl rfl (xk_136 hX) (Nat.le_of_ble_eq_true rfl) (c157 hX hP hT ho hO ht (by omega) (fun M2 hP2 f2 => ?_))
          have hF2 : Fi FW9 M0 M2 := hF.trans (f2.mono (fun b k q => by unfold GP at q; unfold FW9; omega))
          have hK2 := hK.fi f2 (fun b k q1 q2 => by unfold FA at q1; unfold GP at q2; omega)
          have hX2 := SX_fi hX f2
          refine i0_ne 58 d154_51 (by decide) (fun h51 => ?_) (fun h51 => ?_)
          · refine q_iconstN (z := 0) d154_58 ?_
            refine q_istore_n d154_59 (by decide) rfl ?_
            refine n_iinc 1 d154_60 (by decide) rfl rfl ?_
            refine q_goto 10 d154_63 (by decide) ?_
            refine qW_srt rfl rfl ?_
            first
            | exact ih (i + 1) _ _ _ (by omega) (by omega) hv hP hO hK hF
            | exact ih (i + 1) _ _ _ (by omega) (by omega) (by first | exact Or.inl rfl | exact Or.inr rfl) hP2 (OKP_x ho (by omega) hO) hK2 hF2
          · refine q_iconstN (z := 1) d154_54 ?_
            refine q_goto 59 d154_55 (by decide) ?_
            refine q_istore_n d154_59 (by decide) rfl ?_
            refine n_iinc 1 d154_60 (by decide) rfl rfl ?_
            refine q_goto 10 d154_63 (by decide) ?_
            refine qW_srt rfl rfl ?_
            first
            | exact ih (i + 1) _ _ _ (by omega) (by omega) hv hP hO hK hF
            | exact ih (i + 1) _ _ _ (by omega) (by omega) (by first | exact Or.inl rfl | exact Or.inr rfl) hP2 (OKP_x ho (by omega) hO) hK2 hF2
theorem l154b {d : Nat} {Q : Option Value → zM → Prop} {T : yT} {M0 Mk : zM} {P : yP} {t s : Nat} {v3 : Int32} (hX0 : SX M0) (hT0 : XT1 M0 t T) (ho : OKT T) (ht : t < 6) (hs : s < 2 ^ tn T) (hP1 : XPu Mk P) (hO : OKP P) (k : ∀ v M', (v = 0 ∨ v = 1) → KB M0 M' → Fi FW9 M0 M' → Q (some (.int v)) M') : ∀ (r i : Nat) (M1 : zM) (v4 : Int32), i ≤ tn T → tn T < i + r →  (v4 = 0 ∨ v4 = 1) → XPu M1 P → KA M0 M1 0 → KA Mk M1 1 → Fi FW9 M0 M1 → qW (zEv (d + 3)) 154 Q 81 [(0, .ref 136), (1, .int (nI t)), (2, .int (nI s)), (3, .int v3), (4, .int v4), (5, .int (nI i))] [] M1 := by
  intro r
  induction r with
  | zero => intros; omega
  | succ r ih =>
    intro i M1 v4 h1 h2 hv hP hK hK1 hF
    have hn := ho.n
    have hX := SX_fi hX0 hF
    have hT := XT1_fi hT0 ht hF (fun b k b1 b2 q => by unfold FW9 at q; omega)
    refine q_iload d154_81 rfl ?_
    refine q_aload_n d154_83 rfl ?_
    refine q_getr (c := 8) (f := 1) d154_84 ⟨rfl, rfl⟩ (xk_136 hX) (xf_stepMany hX) ?_
    refine q_iload_n d154_87 rfl ?_
    refine n_iald d154_88 (xk_stepMany hX) (by omega) (by decide) hT.1 ?_
    refine nc_ge 163 d154_89 (by decide) (by omega) (by omega) (fun h89 => ?_) (fun h89 => ?_)
    · refine q_aload_n d154_163 rfl ?_
      refine q_iconstN (z := 0) d154_164 ?_
      refine q_v1 d154_165 rfl rfl (xk_136 hX) (Nat.le_of_ble_eq_true rfl) (c162 (l := 0) hX (by decide) hK (fun M3 hB3 f3 => ?_))
      refine q_iload d154_168 rfl ?_
      refine q_zret d154_170 rfl hv ?_
      exact k _ _ hv hB3 (hF.trans (f3.mono (fun b k q => FB_9 q)))
    · refine q_iload d154_92 rfl ?_
      refine i0_ne 163 d154_94 (by decide) (fun h94 => ?_) (fun h94 => ?_)
      · refine q_aload_n d154_163 rfl ?_
        refine q_iconstN (z := 0) d154_164 ?_
        refine q_v1 d154_165 rfl rfl (xk_136 hX) (Nat.le_of_ble_eq_true rfl) (c162 (l := 0) hX (by decide) hK (fun M3 hB3 f3 => ?_))
        refine q_iload d154_168 rfl ?_
        refine q_zret d154_170 rfl hv ?_
        exact k _ _ hv hB3 (hF.trans (f3.mono (fun b k q => FB_9 q)))
      · refine q_iload_n d154_97 rfl ?_
        refine q_iload d154_98 rfl ?_
        refine q_ishr d154_100 ?_
        refine q_iconstN (z := 1) d154_101 ?_
        refine q_iand d154_102 ?_
        refine q_iconstN (z := 1) d154_103 ?_
        refine ic_eq 157 d154_104 (by decide) (fun h104 => ?_) (fun h104 => ?_)
        · refine n_iinc 1 d154_157 (by decide) rfl rfl ?_
          refine q_goto 81 d154_160 (by decide) ?_
          refine qW_srt rfl rfl ?_
          first
          | exact ih (i + 1) _ _ (by omega) (by omega) hv hP hK hK1 hF
          | exact ih (i + 1) _ _ (by omega) (by omega) (by first | exact Or.inl rfl | exact Or.inr rfl) hP3 hK3 hK13 hF3
        · refine q_aload_n d154_107 rfl ?_
          refine q_getr (c := 8) (f := 7) d154_108 ⟨rfl, rfl⟩ (xk_136 hX) (xf_aheads hX) ?_
          refine q_iload_n d154_111 rfl ?_
          refine n_aald d154_112 (xk_aheads hX) (by decide) (by omega) (by decide) (xr_aheads hX (by omega)) ?_
          refine q_iload d154_113 rfl ?_
          refine n_iald d154_115 (xa_aheads hX (by omega)) (by omega) (by decide) (hT.2.2 _ (by omega)).2.2.2.2 ?_
          refine q_iload_n d154_116 rfl ?_
          refine q_iconst (x := (-1)) d154_117 rfl ?_
          refine q_ixor d154_118 ?_
          refine q_iand d154_119 ?_
          refine i0_eq 126 d154_120 (by decide) (fun h120 => ?_) (fun h120 => ?_)
          · refine q_aload_n d154_126 rfl ?_
            refine q_iload_n d154_127 rfl ?_
            refine q_iload d154_128 rfl ?_
            refine q_aload_n d154_130 rfl ?_
            refine q_getr (c := 8) (f := 6) d154_131 ⟨rfl, rfl⟩ (xk_136 hX) (xf_numbers hX) ?_
            refine q_iload_n d154_134 rfl ?_
            refine n_aald d154_135 (xk_numbers hX) (by decide) (by omega) (by decide) (xr_numbers hX (by omega)) ?_
            refine q_iload d154_136 rfl ?_
            refine n_iald d154_138 (xa_numbers hX (by omega)) (by omega) (by decide) (hT.2.2 _ (by omega)).2.2.2.1 ?_
            refine q_v3 d154_139 rfl rfl (xk_136 hX) (Nat.le_of_ble_eq_true rfl) (c157 hX hP hT ho hO ht (by omega) (fun M2 hP2 f2 => ?_))
            have hF2 : Fi FW9 M0 M2 := hF.trans (f2.mono (fun b k q => by unfold GP at q; unfold FW9; omega))
            have hK2 := hK.fi f2 (fun b k q1 q2 => by unfold FA at q1; unfold GP at q2; omega)
            have hX2 := SX_fi hX f2
            have hK12 := hK1.fi f2 (fun b k q1 q2 => by unfold FA at q1; unfold GP at q2; omega)
            refine i0_eq 149 d154_142 (by decide) (fun h142 => ?_) (fun h142 => ?_)
            · refine q_iconstN (z := 0) d154_149 ?_
              refine q_istore d154_150 (by decide) rfl ?_
              refine q_aload_n d154_152 rfl ?_
              refine q_iconstN (z := 1) d154_153 ?_
              refine q_v1 d154_154 rfl rfl (xk_136 hX2) (Nat.le_of_ble_eq_true rfl) (c162 (l := 1) hX2 (by decide) hK12 (fun M3 hB3 f3 => ?_))
              have hF3 : Fi FW9 M0 M3 := hF2.trans (f3.mono (fun b k q => FB_9 q))
              have hK3 := hK2.fi f3 (fun b k q1 q2 => by unfold FA at q1; unfold FB at q2; omega)
              have hK13 := hK12.fi f3 (fun b k q1 q2 => by unfold FA at q1; unfold FB at q2; omega)
              have hP3 := hP1.kb hB3
              refine n_iinc 1 d154_157 (by decide) rfl rfl ?_
              refine q_goto 81 d154_160 (by decide) ?_
              refine qW_srt rfl rfl ?_
              first
              | exact ih (i + 1) _ _ (by omega) (by omega) hv hP hK hK1 hF
              | exact ih (i + 1) _ _ (by omega) (by omega) (by first | exact Or.inl rfl | exact Or.inr rfl) hP3 hK3 hK13 hF3
            · refine q_iconstN (z := 1) d154_145 ?_
              refine q_goto 150 d154_146 (by decide) ?_
              refine q_istore d154_150 (by decide) rfl ?_
              refine q_aload_n d154_152 rfl ?_
              refine q_iconstN (z := 1) d154_153 ?_
              refine q_v1 d154_154 rfl rfl (xk_136 hX2) (Nat.le_of_ble_eq_true rfl) (c162 (l := 1) hX2 (by decide) hK12 (fun M3 hB3 f3 => ?_))
              have hF3 : Fi FW9 M0 M3 := hF2.trans (f3.mono (fun b k q => FB_9 q))
              have hK3 := hK2.fi f3 (fun b k q1 q2 => by unfold FA at q1; unfold FB at q2; omega)
              have hK13 := hK12.fi f3 (fun b k q1 q2 => by unfold FA at q1; unfold FB at q2; omega)
              have hP3 := hP1.kb hB3
              refine n_iinc 1 d154_157 (by decide) rfl rfl ?_
              refine q_goto 81 d154_160 (by decide) ?_
              refine qW_srt rfl rfl ?_
              first
              | exact ih (i + 1) _ _ (by omega) (by omega) hv hP hK hK1 hF
              | exact ih (i + 1) _ _ (by omega) (by omega) (by first | exact Or.inl rfl | exact Or.inr rfl) hP3 hK3 hK13 hF3
          · refine q_goto 157 d154_123 (by decide) ?_
            refine n_iinc 1 d154_157 (by decide) rfl rfl ?_
            refine q_goto 81 d154_160 (by decide) ?_
            refine qW_srt rfl rfl ?_
            first
            | exact ih (i + 1) _ _ (by omega) (by omega) hv hP hK hK1 hF
            | exact ih (i + 1) _ _ (by omega) (by omega) (by first | exact Or.inl rfl | exact Or.inr rfl) hP3 hK3 hK13 hF3
theorem c154 {d : Nat} {M : zM} {Q : Option Value → zM → Prop} {T : yT} {P : yP} {t s : Nat} (hX : SX M) (hT : XT1 M t T) (ho : OKT T) (ht : t < 6) (hs : s < 2 ^ tn T) (hP : XPu M P) (hO : OKP P) (k : ∀ v M', (v = 0 ∨ v = 1) → KB M M' → Fi FW9 M M' → Q (some (.int v)) M') : qC (d + 4) 154 [.ref 136, .int (nI t), .int (nI s)] M Q := by
  refine qC_of (by decide) (Nat.le_of_ble_eq_true rfl) ?_
  have hn := ho.n
  refine q_aload_n d154_0 rfl ?_
  refine q_iconstN (z := 0) d154_1 ?_
  refine q_v1 d154_2 rfl rfl (xk_136 hX) (Nat.le_of_ble_eq_true rfl) (c155 (l := 0) hX (by decide) (fun M1 hK1 f1 => ?_))
  refine q_iconstN (z := 1) d154_5 ?_
  refine q_istore_n d154_6 (by decide) rfl ?_
  refine q_iconstN (z := 0) d154_7 ?_
  refine q_istore d154_8 (by decide) rfl ?_
  refine qW_srt rfl rfl ?_
  refine l154a hX hT ho ht hs (fun v3 i M2 P2 hv3 hP2 hO2 hKA hF2 => ?_) (tn T + 1) 0 _ _ _ (by omega) (by omega) (Or.inr rfl) (XPu_fi hP f1 (fun b k q1 q2 => by unfold GP at q1; unfold FA at q2; omega)) hO hK1 (f1.mono (fun b k q => FA_9 (by decide) q))
  have hX2 := SX_fi hX hF2
  have hT2 := XT1_fi hT ht hF2 (fun b k b1 b2 q => by unfold FW9 at q; omega)
  refine q_iconstN (z := 0) d154_66 ?_
  refine q_istore d154_67 (by decide) rfl ?_
  refine q_iload_n d154_69 rfl ?_
  refine i0_eq 163 d154_70 (by decide) (fun h70 => ?_) (fun h70 => ?_)
  · refine q_aload_n d154_163 rfl ?_
    refine q_iconstN (z := 0) d154_164 ?_
    refine q_v1 d154_165 rfl rfl (xk_136 hX2) (Nat.le_of_ble_eq_true rfl) (c162 (l := 0) hX2 (by decide) hKA (fun M3 hB3 f3 => ?_))
    refine q_iload d154_168 rfl ?_
    refine q_zret d154_170 rfl (by decide) ?_
    exact k _ _ (Or.inl rfl) hB3 (hF2.trans (f3.mono (fun b k q => FB_9 q)))
  · refine q_aload_n d154_73 rfl ?_
    refine q_iconstN (z := 1) d154_74 ?_
    refine q_v1 d154_75 rfl rfl (xk_136 hX2) (Nat.le_of_ble_eq_true rfl) (c155 (l := 1) hX2 (by decide) (fun M3 hK3 f3 => ?_))
    refine q_iconstN (z := 0) d154_78 ?_
    refine q_istore d154_79 (by decide) rfl ?_
    refine qW_srt rfl rfl ?_
    exact l154b (Mk := M2) hX hT ho ht hs hP2 hO2 k (tn T + 1) 0 _ _ (by omega) (by omega) (Or.inl rfl) (XPu_fi hP2 f3 (fun b k q1 q2 => by unfold GP at q1; unfold FA at q2; omega)) (hKA.fi f3 (fun b k q1 q2 => by unfold FA at q1 q2; omega)) hK3 (hF2.trans (f3.mono (fun b k q => FA_9 (by decide) q)))
/-! ===== the reference: shape, orders ===== -/
theorem d152_0 : decode (zB 152) 0 = .ok (.iconst 0, 1) := (congrArg (fun c => decode c 0) zeq152).trans (by decide +kernel)
theorem d152_1 : decode (zB 152) 1 = .ok (.istore_n 2, 1) := (congrArg (fun c => decode c 1) zeq152).trans (by decide +kernel)
theorem d152_2 : decode (zB 152) 2 = .ok (.iconst 0, 1) := (congrArg (fun c => decode c 2) zeq152).trans (by decide +kernel)
theorem d152_3 : decode (zB 152) 3 = .ok (.istore_n 3, 1) := (congrArg (fun c => decode c 3) zeq152).trans (by decide +kernel)
theorem d152_4 : decode (zB 152) 4 = .ok (.iload_n 3, 1) := (congrArg (fun c => decode c 4) zeq152).trans (by decide +kernel)
theorem d152_5 : decode (zB 152) 5 = .ok (.iconst 1, 1) := (congrArg (fun c => decode c 5) zeq152).trans (by decide +kernel)
theorem d152_6 : decode (zB 152) 6 = .ok (.aload_n 0, 1) := (congrArg (fun c => decode c 6) zeq152).trans (by decide +kernel)
theorem d152_7 : decode (zB 152) 7 = .ok (.getfield 9, 3) := (congrArg (fun c => decode c 7) zeq152).trans (by decide +kernel)
theorem d152_10 : decode (zB 152) 10 = .ok (.iload_n 1, 1) := (congrArg (fun c => decode c 10) zeq152).trans (by decide +kernel)
theorem d152_11 : decode (zB 152) 11 = .ok (.iaload, 1) := (congrArg (fun c => decode c 11) zeq152).trans (by decide +kernel)
theorem d152_12 : decode (zB 152) 12 = .ok (.ishl, 1) := (congrArg (fun c => decode c 12) zeq152).trans (by decide +kernel)
theorem d152_13 : decode (zB 152) 13 = .ok (.if_icmp .ge 30, 3) := (congrArg (fun c => decode c 13) zeq152).trans (by decide +kernel)
theorem d152_16 : decode (zB 152) 16 = .ok (.aload_n 0, 1) := (congrArg (fun c => decode c 16) zeq152).trans (by decide +kernel)
theorem d152_17 : decode (zB 152) 17 = .ok (.iload_n 1, 1) := (congrArg (fun c => decode c 17) zeq152).trans (by decide +kernel)
theorem d152_18 : decode (zB 152) 18 = .ok (.iload_n 3, 1) := (congrArg (fun c => decode c 18) zeq152).trans (by decide +kernel)
theorem d152_19 : decode (zB 152) 19 = .ok (.invokevirtual 236, 3) := (congrArg (fun c => decode c 19) zeq152).trans (by decide +kernel)
theorem d152_22 : decode (zB 152) 22 = .ok (.ifCond .eq 15, 3) := (congrArg (fun c => decode c 22) zeq152).trans (by decide +kernel)
theorem d152_25 : decode (zB 152) 25 = .ok (.aload_n 0, 1) := (congrArg (fun c => decode c 25) zeq152).trans (by decide +kernel)
theorem d152_26 : decode (zB 152) 26 = .ok (.iload_n 1, 1) := (congrArg (fun c => decode c 26) zeq152).trans (by decide +kernel)
theorem d152_27 : decode (zB 152) 27 = .ok (.iload_n 3, 1) := (congrArg (fun c => decode c 27) zeq152).trans (by decide +kernel)
theorem d152_28 : decode (zB 152) 28 = .ok (.invokevirtual 240, 3) := (congrArg (fun c => decode c 28) zeq152).trans (by decide +kernel)
theorem d152_31 : decode (zB 152) 31 = .ok (.ifCond .eq 6, 3) := (congrArg (fun c => decode c 31) zeq152).trans (by decide +kernel)
theorem d152_34 : decode (zB 152) 34 = .ok (.iinc 2 1, 3) := (congrArg (fun c => decode c 34) zeq152).trans (by decide +kernel)
theorem d152_37 : decode (zB 152) 37 = .ok (.iinc 3 1, 3) := (congrArg (fun c => decode c 37) zeq152).trans (by decide +kernel)
theorem d152_40 : decode (zB 152) 40 = .ok (.goto (-36), 3) := (congrArg (fun c => decode c 40) zeq152).trans (by decide +kernel)
theorem d152_43 : decode (zB 152) 43 = .ok (.iload_n 2, 1) := (congrArg (fun c => decode c 43) zeq152).trans (by decide +kernel)
theorem d152_44 : decode (zB 152) 44 = .ok (.ireturn, 1) := (congrArg (fun c => decode c 44) zeq152).trans (by decide +kernel)
theorem l152 {d : Nat} {Q : Option Value → zM → Prop} {T : yT} {P : yP} {M0 : zM} {t : Nat} (hX0 : SX M0) (hT0 : XT1 M0 t T) (ho : OKT T) (ht : t < 6) (hP : XPu M0 P) (hO : OKP P) (k : ∀ v M', KB M0 M' → Fi FW9 M0 M' → Q (some (.int v)) M') : ∀ (r s : Nat) (M1 : zM) (v2 : Int32), s ≤ 2 ^ tn T → 2 ^ tn T < s + r →  KB M0 M1 → Fi FW9 M0 M1 → qW (zEv (d + 4)) 152 Q 4 [(0, .ref 136), (1, .int (nI t)), (2, .int v2), (3, .int (nI s))] [] M1 := by
  intro r
  induction r with
  | zero => intros; omega
  | succ r ih =>
    intro s M1 v2 h1 h2 hK hF
    have hn := ho.n
    have hp12 : 2 ^ tn T ≤ 2 ^ 12 := Nat.pow_le_pow_right (by omega) hn
    have hX := SX_fi hX0 hF
    have hT := XT1_fi hT0 ht hF (fun b k b1 b2 q => by unfold FW9 at q; omega)
    refine q_iload_n d152_4 rfl ?_
    refine q_iconstN (z := 1) d152_5 ?_
    refine q_aload_n d152_6 rfl ?_
    refine q_getr (c := 8) (f := 1) d152_7 ⟨rfl, rfl⟩ (xk_136 hX) (xf_stepMany hX) ?_
    refine q_iload_n d152_10 rfl ?_
    refine n_iald d152_11 (xk_stepMany hX) (by omega) (by decide) hT.1 ?_
    refine n_ishl1 d152_12 (by omega) ?_
    refine nc_ge 43 d152_13 (by decide) (by omega) (by omega) (fun h13 => ?_) (fun h13 => ?_)
    · refine q_iload_n d152_43 rfl ?_
      refine q_iret d152_44 rfl ?_
      exact k _ _ hK hF
    · refine q_aload_n d152_16 rfl ?_
      refine q_iload_n d152_17 rfl ?_
      refine q_iload_n d152_18 rfl ?_
      refine q_v2 d152_19 rfl rfl (xk_136 hX) (Nat.le_of_ble_eq_true rfl) (c153 hX hT ho ht (by omega) (fun v8 => ?_))
      refine i0_eq 37 d152_22 (by decide) (fun h22 => ?_) (fun h22 => ?_)
      · refine n_iinc 1 d152_37 (by decide) rfl rfl ?_
        refine q_goto 4 d152_40 (by decide) ?_
        refine qW_srt rfl rfl ?_
        first
        | exact ih (s + 1) _ _ (by omega) (by omega) hK hF
        | exact ih (s + 1) _ _ (by omega) (by omega) (hK.tr hK2) (hF.trans f2)
      · refine q_aload_n d152_25 rfl ?_
        refine q_iload_n d152_26 rfl ?_
        refine q_iload_n d152_27 rfl ?_
        refine q_v2 d152_28 rfl rfl (xk_136 hX) (Nat.le_of_ble_eq_true rfl) (c154 hX hT ho ht (by omega) (hP.kb hK) hO (fun v9 M2 hv9 hK2 f2 => ?_))
        refine i0_eq 37 d152_31 (by decide) (fun h31 => ?_) (fun h31 => ?_)
        · refine n_iinc 1 d152_37 (by decide) rfl rfl ?_
          refine q_goto 4 d152_40 (by decide) ?_
          refine qW_srt rfl rfl ?_
          first
          | exact ih (s + 1) _ _ (by omega) (by omega) hK hF
          | exact ih (s + 1) _ _ (by omega) (by omega) (hK.tr hK2) (hF.trans f2)
        · refine q_iinc d152_34 (by decide) rfl rfl rfl ?_
          refine n_iinc 1 d152_37 (by decide) rfl rfl ?_
          refine q_goto 4 d152_40 (by decide) ?_
          refine qW_srt rfl rfl ?_
          first
          | exact ih (s + 1) _ _ (by omega) (by omega) hK hF
          | exact ih (s + 1) _ _ (by omega) (by omega) (hK.tr hK2) (hF.trans f2)
theorem c152 {d : Nat} {M : zM} {Q : Option Value → zM → Prop} {T : yT} {P : yP} {t : Nat} (hX : SX M) (hT : XT1 M t T) (ho : OKT T) (ht : t < 6) (hP : XPu M P) (hO : OKP P) (k : ∀ v M', KB M M' → Fi FW9 M M' → Q (some (.int v)) M') : qC (d + 5) 152 [.ref 136, .int (nI t)] M Q := by
  refine qC_of (by decide) (Nat.le_of_ble_eq_true rfl) ?_
  have hn := ho.n
  refine q_iconstN (z := 0) d152_0 ?_
  refine q_istore_n d152_1 (by decide) rfl ?_
  refine q_iconstN (z := 0) d152_2 ?_
  refine q_istore_n d152_3 (by decide) rfl ?_
  refine qW_srt rfl rfl ?_
  exact l152 hX hT ho ht hP hO k (2 ^ tn T + 1) 0 _ _ (Nat.zero_le _) (by omega) (KB.rf _) (Fi.refl _ _)
/-- cells below 327 are the same -/
def FG2 (M M' : zM) : Prop := (∀ a k, a < 136 → zi M' a k = zi M a k) ∧ zr M' = zr M ∧ (∀ a, a ≠ 209 → zl M' a = zl M a) ∧ (∀ a, a < 327 → zk M' a = zk M a) ∧ zn M ≤ zn M' ∧ zn M' ≤ zn M + 1 ∧ zs M' ≤ zs M + 12
theorem FG2.fy {M M' : zM} (f : Fi FY M M') : FG2 M M' := ⟨fun a k q => f.1 a k (by unfold FY; omega), f.2.1, fun a _ => congrFun f.2.2.1 a, fun a _ => congrFun f.2.2.2.1 a, by rw [f.2.2.2.2.1]; omega, by rw [f.2.2.2.2.1]; omega, by rw [f.2.2.2.2.2]; omega⟩
theorem FG2.fc {M M' : zM} (f : FC M M') (h : 327 ≤ zn M) : FG2 M M' := ⟨fun a k q => f.1 a k (by omega), f.2.1, fun a _ => congrFun f.2.2.1 a, fun a q => f.2.2.2.1 a (by omega), by rw [f.2.2.2.2.1]; omega, by rw [f.2.2.2.2.1]; omega, by rw [f.2.2.2.2.2]; omega⟩
theorem RX.ag {M M' : zM} {D : yD} {κ : Nat} (h : RX M D κ) (h1 : ∀ a k, a < 327 → zi M' a k = zi M a k) (h2 : zr M' = zr M) (h3 : ∀ a, a < 327 → zk M' a = zk M a) : RX M' D κ := by
  have g : RX (M'.1, M.2) D κ := h.items (M' := (M'.1, M.2)) ⟨fun a k q => h1 a k (by omega), rfl, rfl, rfl, rfl, rfl⟩
  have hX : SX M' := SX_of h.1.1 h3 (fun a f _ _ => by rw [h2])
  obtain ⟨⟨a1, a2, a3, a4, a5, a6, a7, a8⟩, b2, b3, b4, b5⟩ := g
  exact ⟨⟨hX, a2, a3, a4, a5, a6, a7, a8⟩, b2, b3, b4, b5⟩
theorem RX.fc {M M' : zM} {D : yD} {κ : Nat} (h : RX M D κ) (f : FC M M') (h3 : 327 ≤ zn M) : RX M' D κ := h.ag (fun a k q => f.1 a k (by omega)) f.2.1 (fun a q => f.2.2.2.1 a (by omega))
theorem RX.kb9 {M M' : zM} {D : yD} {κ : Nat} (h : RX M D κ) (hK : KB M M') (f : Fi FW9 M M') : RX M' D κ :=
  h.back (f.mono (fun b k q => FW9_Z q)) hK ((f.1 _ _ (by unfold FW9; omega)).trans h.2.1) (h.1.2.2.2.2.2.2.1.fi f (fun b k q => by unfold GL at q; unfold FW9; omega))
theorem d144_0 : decode (zB 144) 0 = .ok (.aload_n 0, 1) := (congrArg (fun c => decode c 0) zeq144).trans (by decide +kernel)
theorem d144_1 : decode (zB 144) 1 = .ok (.iload_n 1, 1) := (congrArg (fun c => decode c 1) zeq144).trans (by decide +kernel)
theorem d144_2 : decode (zB 144) 2 = .ok (.invokevirtual 243, 3) := (congrArg (fun c => decode c 2) zeq144).trans (by decide +kernel)
theorem d144_5 : decode (zB 144) 5 = .ok (.ifCond .eq 12, 3) := (congrArg (fun c => decode c 5) zeq144).trans (by decide +kernel)
theorem d144_8 : decode (zB 144) 8 = .ok (.iload_n 2, 1) := (congrArg (fun c => decode c 8) zeq144).trans (by decide +kernel)
theorem d144_9 : decode (zB 144) 9 = .ok (.iconst 0, 1) := (congrArg (fun c => decode c 9) zeq144).trans (by decide +kernel)
theorem d144_10 : decode (zB 144) 10 = .ok (.iconst 5, 1) := (congrArg (fun c => decode c 10) zeq144).trans (by decide +kernel)
theorem d144_11 : decode (zB 144) 11 = .ok (.invokestatic 112, 3) := (congrArg (fun c => decode c 11) zeq144).trans (by decide +kernel)
theorem d144_14 : decode (zB 144) 14 = .ok (.ifCond .ne 6, 3) := (congrArg (fun c => decode c 14) zeq144).trans (by decide +kernel)
theorem d144_17 : decode (zB 144) 17 = .ok (.bipush (-2), 2) := (congrArg (fun c => decode c 17) zeq144).trans (by decide +kernel)
theorem d144_19 : decode (zB 144) 19 = .ok (.ireturn, 1) := (congrArg (fun c => decode c 19) zeq144).trans (by decide +kernel)
theorem d144_20 : decode (zB 144) 20 = .ok (.iload_n 2, 1) := (congrArg (fun c => decode c 20) zeq144).trans (by decide +kernel)
theorem d144_21 : decode (zB 144) 21 = .ok (.tableswitch 67 0 4 #[35, 42, 48, 54, 60], 35) := (congrArg (fun c => decode c 21) zeq144).trans (by decide +kernel)
theorem d144_56 : decode (zB 144) 56 = .ok (.aload_n 0, 1) := (congrArg (fun c => decode c 56) zeq144).trans (by decide +kernel)
theorem d144_57 : decode (zB 144) 57 = .ok (.getfield 9, 3) := (congrArg (fun c => decode c 57) zeq144).trans (by decide +kernel)
theorem d144_60 : decode (zB 144) 60 = .ok (.iload_n 1, 1) := (congrArg (fun c => decode c 60) zeq144).trans (by decide +kernel)
theorem d144_61 : decode (zB 144) 61 = .ok (.iaload, 1) := (congrArg (fun c => decode c 61) zeq144).trans (by decide +kernel)
theorem d144_62 : decode (zB 144) 62 = .ok (.ireturn, 1) := (congrArg (fun c => decode c 62) zeq144).trans (by decide +kernel)
theorem d144_63 : decode (zB 144) 63 = .ok (.aload_n 0, 1) := (congrArg (fun c => decode c 63) zeq144).trans (by decide +kernel)
theorem d144_64 : decode (zB 144) 64 = .ok (.iload_n 1, 1) := (congrArg (fun c => decode c 64) zeq144).trans (by decide +kernel)
theorem d144_65 : decode (zB 144) 65 = .ok (.invokevirtual 246, 3) := (congrArg (fun c => decode c 65) zeq144).trans (by decide +kernel)
theorem d144_68 : decode (zB 144) 68 = .ok (.ireturn, 1) := (congrArg (fun c => decode c 68) zeq144).trans (by decide +kernel)
theorem d144_69 : decode (zB 144) 69 = .ok (.aload_n 0, 1) := (congrArg (fun c => decode c 69) zeq144).trans (by decide +kernel)
theorem d144_70 : decode (zB 144) 70 = .ok (.iload_n 1, 1) := (congrArg (fun c => decode c 70) zeq144).trans (by decide +kernel)
theorem d144_71 : decode (zB 144) 71 = .ok (.invokevirtual 249, 3) := (congrArg (fun c => decode c 71) zeq144).trans (by decide +kernel)
theorem d144_74 : decode (zB 144) 74 = .ok (.ireturn, 1) := (congrArg (fun c => decode c 74) zeq144).trans (by decide +kernel)
theorem d144_75 : decode (zB 144) 75 = .ok (.aload_n 0, 1) := (congrArg (fun c => decode c 75) zeq144).trans (by decide +kernel)
theorem d144_76 : decode (zB 144) 76 = .ok (.iload_n 1, 1) := (congrArg (fun c => decode c 76) zeq144).trans (by decide +kernel)
theorem d144_77 : decode (zB 144) 77 = .ok (.invokevirtual 252, 3) := (congrArg (fun c => decode c 77) zeq144).trans (by decide +kernel)
theorem d144_80 : decode (zB 144) 80 = .ok (.ireturn, 1) := (congrArg (fun c => decode c 80) zeq144).trans (by decide +kernel)
theorem d144_81 : decode (zB 144) 81 = .ok (.aload_n 0, 1) := (congrArg (fun c => decode c 81) zeq144).trans (by decide +kernel)
theorem d144_82 : decode (zB 144) 82 = .ok (.getfield 13, 3) := (congrArg (fun c => decode c 82) zeq144).trans (by decide +kernel)
theorem d144_85 : decode (zB 144) 85 = .ok (.iload_n 1, 1) := (congrArg (fun c => decode c 85) zeq144).trans (by decide +kernel)
theorem d144_86 : decode (zB 144) 86 = .ok (.iaload, 1) := (congrArg (fun c => decode c 86) zeq144).trans (by decide +kernel)
theorem d144_87 : decode (zB 144) 87 = .ok (.ireturn, 1) := (congrArg (fun c => decode c 87) zeq144).trans (by decide +kernel)
theorem d144_88 : decode (zB 144) 88 = .ok (.aload_n 0, 1) := (congrArg (fun c => decode c 88) zeq144).trans (by decide +kernel)
theorem d144_89 : decode (zB 144) 89 = .ok (.iload_n 1, 1) := (congrArg (fun c => decode c 89) zeq144).trans (by decide +kernel)
theorem d144_90 : decode (zB 144) 90 = .ok (.invokevirtual 255, 3) := (congrArg (fun c => decode c 90) zeq144).trans (by decide +kernel)
theorem d144_93 : decode (zB 144) 93 = .ok (.ireturn, 1) := (congrArg (fun c => decode c 93) zeq144).trans (by decide +kernel)
theorem x144 {d : Nat} {M : zM} {Q : Option Value → zM → Prop} {D : yD} {κ : Nat} {x y : Int32} (hR : RX M D κ) (h327 : 327 ≤ zn M) (k : ∀ v M', RX M' D κ → FG2 M M' → Q (some (.int v)) M') : qC (d + 6) 144 [.ref 136, .int x, .int y] M Q := by
  refine qC_of (by decide) (Nat.le_of_ble_eq_true rfl) ?_
  have hC := hR.1
  have hX := hC.1
  have hO : OKW (dT D) (dc D) (dW D) := hC.2.2.1
  have hc6 := hO.1.1
  have hL : XLo [] M (some (dL D)) := hC.2.2.2.2.2.2.1
  have hSa : ∀ s, s < 3 → XSa M s (dS D s) κ := hC.2.2.2.2.1
  have hTk := hC.k
  have hck := hC.2.2.2.2.2.1
  rcases zix_c x (n := dc D) (by omega) with ⟨t, ht, rfl, et⟩ | ⟨et, nt⟩
  · have _u := et
    have ho := hO.1.2 _ ht
    have hn := ho.n
    rcases zix_c y (n := 6) (by omega) with ⟨w, hw, rfl, ew⟩ | ⟨ew, nw⟩
    · have _u := ew
      rcases (show w = 0 ∨ w = 1 ∨ w = 2 ∨ w = 3 ∨ w = 4 ∨ w = 5 by omega) with rfl | rfl | rfl | rfl | rfl | rfl
      · refine q_aload_n d144_0 rfl ?_
        refine q_iload_n d144_1 rfl ?_
        refine q_v1 d144_2 rfl rfl (xk_136 hX) (Nat.le_of_ble_eq_true rfl) (c145t hR (by omega) ?_)
        refine n0_eq 17 d144_5 (by decide) (by decide) (fun q => absurd q (by decide)) (fun _ => ?_)
        refine q_iload_n d144_8 rfl ?_
        refine q_iconstN (z := 0) d144_9 ?_
        refine q_iconstN (z := 5) d144_10 ?_
        refine q_s3 d144_11 (Or.inl rfl) rfl (Nat.le_of_ble_eq_true rfl) (c131t ⟨by omega, by omega⟩ (by omega) ?_)
        refine n0_ne 20 d144_14 (by decide) (by decide) (fun _ => ?_) (fun q => absurd q (by decide))
        refine q_iload_n d144_20 rfl ?_
        refine n_tsI (35) 56 d144_21 (by decide) (by decide) rfl (by decide) ?_
        refine q_aload_n d144_56 rfl ?_
        refine q_getr (c := 8) (f := 1) d144_57 ⟨rfl, rfl⟩ (xk_136 hX) (xf_stepMany hX) ?_
        refine q_iload_n d144_60 rfl ?_
        refine n_iald d144_61 (xk_stepMany hX) (by omega) (by decide) (hTk.1 _ ht).1 ?_
        refine q_iret d144_62 rfl ?_
        exact k _ _ hR (FG2.fy (Fi.refl _ _))
      · refine q_aload_n d144_0 rfl ?_
        refine q_iload_n d144_1 rfl ?_
        refine q_v1 d144_2 rfl rfl (xk_136 hX) (Nat.le_of_ble_eq_true rfl) (c145t hR (by omega) ?_)
        refine n0_eq 17 d144_5 (by decide) (by decide) (fun q => absurd q (by decide)) (fun _ => ?_)
        refine q_iload_n d144_8 rfl ?_
        refine q_iconstN (z := 0) d144_9 ?_
        refine q_iconstN (z := 5) d144_10 ?_
        refine q_s3 d144_11 (Or.inl rfl) rfl (Nat.le_of_ble_eq_true rfl) (c131t ⟨by omega, by omega⟩ (by omega) ?_)
        refine n0_ne 20 d144_14 (by decide) (by decide) (fun _ => ?_) (fun q => absurd q (by decide))
        refine q_iload_n d144_20 rfl ?_
        refine n_tsI (42) 63 d144_21 (by decide) (by decide) rfl (by decide) ?_
        refine q_aload_n d144_63 rfl ?_
        refine q_iload_n d144_64 rfl ?_
        refine q_v1 d144_65 rfl rfl (xk_136 hX) (Nat.le_of_ble_eq_true rfl) (c146 hX (hTk.1 _ ht) ho (by omega) h327 (fun v9 M2 f2 => ?_))
        refine q_iret d144_68 rfl ?_
        exact k _ _ (hR.fc f2 h327) (FG2.fc f2 h327)
      · refine q_aload_n d144_0 rfl ?_
        refine q_iload_n d144_1 rfl ?_
        refine q_v1 d144_2 rfl rfl (xk_136 hX) (Nat.le_of_ble_eq_true rfl) (c145t hR (by omega) ?_)
        refine n0_eq 17 d144_5 (by decide) (by decide) (fun q => absurd q (by decide)) (fun _ => ?_)
        refine q_iload_n d144_8 rfl ?_
        refine q_iconstN (z := 0) d144_9 ?_
        refine q_iconstN (z := 5) d144_10 ?_
        refine q_s3 d144_11 (Or.inl rfl) rfl (Nat.le_of_ble_eq_true rfl) (c131t ⟨by omega, by omega⟩ (by omega) ?_)
        refine n0_ne 20 d144_14 (by decide) (by decide) (fun _ => ?_) (fun q => absurd q (by decide))
        refine q_iload_n d144_20 rfl ?_
        refine n_tsI (48) 69 d144_21 (by decide) (by decide) rfl (by decide) ?_
        refine q_aload_n d144_69 rfl ?_
        refine q_iload_n d144_70 rfl ?_
        refine q_v1 d144_71 rfl rfl (xk_136 hX) (Nat.le_of_ble_eq_true rfl) (c148 hX (hTk.1 _ ht) ho (by omega) (fun v9 => ?_))
        refine q_iret d144_74 rfl ?_
        exact k _ _ hR (FG2.fy (Fi.refl _ _))
      · refine q_aload_n d144_0 rfl ?_
        refine q_iload_n d144_1 rfl ?_
        refine q_v1 d144_2 rfl rfl (xk_136 hX) (Nat.le_of_ble_eq_true rfl) (c145t hR (by omega) ?_)
        refine n0_eq 17 d144_5 (by decide) (by decide) (fun q => absurd q (by decide)) (fun _ => ?_)
        refine q_iload_n d144_8 rfl ?_
        refine q_iconstN (z := 0) d144_9 ?_
        refine q_iconstN (z := 5) d144_10 ?_
        refine q_s3 d144_11 (Or.inl rfl) rfl (Nat.le_of_ble_eq_true rfl) (c131t ⟨by omega, by omega⟩ (by omega) ?_)
        refine n0_ne 20 d144_14 (by decide) (by decide) (fun _ => ?_) (fun q => absurd q (by decide))
        refine q_iload_n d144_20 rfl ?_
        refine n_tsI (54) 75 d144_21 (by decide) (by decide) rfl (by decide) ?_
        refine q_aload_n d144_75 rfl ?_
        refine q_iload_n d144_76 rfl ?_
        refine q_v1 d144_77 rfl rfl (xk_136 hX) (Nat.le_of_ble_eq_true rfl) (c150 hX (hTk.1 _ ht) ho (by omega) (fun v9 => ?_))
        refine q_iret d144_80 rfl ?_
        exact k _ _ hR (FG2.fy (Fi.refl _ _))
      · refine q_aload_n d144_0 rfl ?_
        refine q_iload_n d144_1 rfl ?_
        refine q_v1 d144_2 rfl rfl (xk_136 hX) (Nat.le_of_ble_eq_true rfl) (c145t hR (by omega) ?_)
        refine n0_eq 17 d144_5 (by decide) (by decide) (fun q => absurd q (by decide)) (fun _ => ?_)
        refine q_iload_n d144_8 rfl ?_
        refine q_iconstN (z := 0) d144_9 ?_
        refine q_iconstN (z := 5) d144_10 ?_
        refine q_s3 d144_11 (Or.inl rfl) rfl (Nat.le_of_ble_eq_true rfl) (c131t ⟨by omega, by omega⟩ (by omega) ?_)
        refine n0_ne 20 d144_14 (by decide) (by decide) (fun _ => ?_) (fun q => absurd q (by decide))
        refine q_iload_n d144_20 rfl ?_
        refine n_tsI (60) 81 d144_21 (by decide) (by decide) rfl (by decide) ?_
        refine q_aload_n d144_81 rfl ?_
        refine q_getr (c := 8) (f := 2) d144_82 ⟨rfl, rfl⟩ (xk_136 hX) (xf_pivots hX) ?_
        refine q_iload_n d144_85 rfl ?_
        refine n_iald d144_86 (xk_pivots hX) (by omega) (by decide) (hTk.1 _ ht).2.1 ?_
        refine q_iret d144_87 rfl ?_
        exact k _ _ hR (FG2.fy (Fi.refl _ _))
      · refine q_aload_n d144_0 rfl ?_
        refine q_iload_n d144_1 rfl ?_
        refine q_v1 d144_2 rfl rfl (xk_136 hX) (Nat.le_of_ble_eq_true rfl) (c145t hR (by omega) ?_)
        refine n0_eq 17 d144_5 (by decide) (by decide) (fun q => absurd q (by decide)) (fun _ => ?_)
        refine q_iload_n d144_8 rfl ?_
        refine q_iconstN (z := 0) d144_9 ?_
        refine q_iconstN (z := 5) d144_10 ?_
        refine q_s3 d144_11 (Or.inl rfl) rfl (Nat.le_of_ble_eq_true rfl) (c131t ⟨by omega, by omega⟩ (by omega) ?_)
        refine n0_ne 20 d144_14 (by decide) (by decide) (fun _ => ?_) (fun q => absurd q (by decide))
        refine q_iload_n d144_20 rfl ?_
        refine n_tsO 88 d144_21 (by omega) (Or.inr (by omega)) (by decide) ?_
        refine q_aload_n d144_88 rfl ?_
        refine q_iload_n d144_89 rfl ?_
        refine q_v1 d144_90 rfl rfl (xk_136 hX) (Nat.le_of_ble_eq_true rfl) (c152 hX (hTk.1 _ ht) ho (by omega) hC.2.2.2.1 hO.2.1 (fun v9 M2 hK2 f2 => ?_))
        refine q_iret d144_93 rfl ?_
        exact k _ _ (hR.kb9 hK2 f2) (FG2.fy (f2.mono (fun b k q => FZ_Y (FW9_Z q))))
    · have _u := ew
      refine q_aload_n d144_0 rfl ?_
      refine q_iload_n d144_1 rfl ?_
      refine q_v1 d144_2 rfl rfl (xk_136 hX) (Nat.le_of_ble_eq_true rfl) (c145t hR (by omega) ?_)
      refine n0_eq 17 d144_5 (by decide) (by decide) (fun q => absurd q (by decide)) (fun _ => ?_)
      refine q_iload_n d144_8 rfl ?_
      refine q_iconstN (z := 0) d144_9 ?_
      refine q_iconstN (z := 5) d144_10 ?_
      refine q_s3 d144_11 (Or.inl rfl) rfl (Nat.le_of_ble_eq_true rfl) (c131f (by decide) (by have := zix_none ew; omega) (by decide) ?_)
      refine n0_ne 20 d144_14 (by decide) (by decide) (fun q => absurd q (by decide)) (fun _ => ?_)
      refine q_bipush (x := (-2)) d144_17 rfl ?_
      refine q_iret d144_19 rfl ?_
      exact k _ _ hR (FG2.fy (Fi.refl _ _))
  · have _u := et
    refine q_aload_n d144_0 rfl ?_
    refine q_iload_n d144_1 rfl ?_
    refine q_v1 d144_2 rfl rfl (xk_136 hX) (Nat.le_of_ble_eq_true rfl) (c145f hR et ?_)
    refine n0_eq 17 d144_5 (by decide) (by decide) (fun _ => ?_) (fun q => absurd q (by decide))
    refine q_bipush (x := (-2)) d144_17 rfl ?_
    refine q_iret d144_19 rfl ?_
    exact k _ _ hR (FG2.fy (Fi.refl _ _))
theorem d164_0 : decode (zB 164) 0 = .ok (.iconst 0, 1) := (congrArg (fun c => decode c 0) zeq164).trans (by decide +kernel)
theorem d164_1 : decode (zB 164) 1 = .ok (.istore 4, 2) := (congrArg (fun c => decode c 1) zeq164).trans (by decide +kernel)
theorem d164_3 : decode (zB 164) 3 = .ok (.iload 4, 2) := (congrArg (fun c => decode c 3) zeq164).trans (by decide +kernel)
theorem d164_5 : decode (zB 164) 5 = .ok (.aload_n 0, 1) := (congrArg (fun c => decode c 5) zeq164).trans (by decide +kernel)
theorem d164_6 : decode (zB 164) 6 = .ok (.getfield 9, 3) := (congrArg (fun c => decode c 6) zeq164).trans (by decide +kernel)
theorem d164_9 : decode (zB 164) 9 = .ok (.iload_n 1, 1) := (congrArg (fun c => decode c 9) zeq164).trans (by decide +kernel)
theorem d164_10 : decode (zB 164) 10 = .ok (.iaload, 1) := (congrArg (fun c => decode c 10) zeq164).trans (by decide +kernel)
theorem d164_11 : decode (zB 164) 11 = .ok (.if_icmp .ge 32, 3) := (congrArg (fun c => decode c 11) zeq164).trans (by decide +kernel)
theorem d164_14 : decode (zB 164) 14 = .ok (.iload_n 2, 1) := (congrArg (fun c => decode c 14) zeq164).trans (by decide +kernel)
theorem d164_15 : decode (zB 164) 15 = .ok (.iload 4, 2) := (congrArg (fun c => decode c 15) zeq164).trans (by decide +kernel)
theorem d164_17 : decode (zB 164) 17 = .ok (.ishr, 1) := (congrArg (fun c => decode c 17) zeq164).trans (by decide +kernel)
theorem d164_18 : decode (zB 164) 18 = .ok (.iconst 1, 1) := (congrArg (fun c => decode c 18) zeq164).trans (by decide +kernel)
theorem d164_19 : decode (zB 164) 19 = .ok (.iand, 1) := (congrArg (fun c => decode c 19) zeq164).trans (by decide +kernel)
theorem d164_20 : decode (zB 164) 20 = .ok (.iconst 1, 1) := (congrArg (fun c => decode c 20) zeq164).trans (by decide +kernel)
theorem d164_21 : decode (zB 164) 21 = .ok (.if_icmp .ne 16, 3) := (congrArg (fun c => decode c 21) zeq164).trans (by decide +kernel)
theorem d164_24 : decode (zB 164) 24 = .ok (.aload_n 0, 1) := (congrArg (fun c => decode c 24) zeq164).trans (by decide +kernel)
theorem d164_25 : decode (zB 164) 25 = .ok (.iload_n 1, 1) := (congrArg (fun c => decode c 25) zeq164).trans (by decide +kernel)
theorem d164_26 : decode (zB 164) 26 = .ok (.iload_n 3, 1) := (congrArg (fun c => decode c 26) zeq164).trans (by decide +kernel)
theorem d164_27 : decode (zB 164) 27 = .ok (.iload 4, 2) := (congrArg (fun c => decode c 27) zeq164).trans (by decide +kernel)
theorem d164_29 : decode (zB 164) 29 = .ok (.invokevirtual 206, 3) := (congrArg (fun c => decode c 29) zeq164).trans (by decide +kernel)
theorem d164_32 : decode (zB 164) 32 = .ok (.ifCond .eq 5, 3) := (congrArg (fun c => decode c 32) zeq164).trans (by decide +kernel)
theorem d164_35 : decode (zB 164) 35 = .ok (.lconst 0, 1) := (congrArg (fun c => decode c 35) zeq164).trans (by decide +kernel)
theorem d164_36 : decode (zB 164) 36 = .ok (.lreturn, 1) := (congrArg (fun c => decode c 36) zeq164).trans (by decide +kernel)
theorem d164_37 : decode (zB 164) 37 = .ok (.iinc 4 1, 3) := (congrArg (fun c => decode c 37) zeq164).trans (by decide +kernel)
theorem d164_40 : decode (zB 164) 40 = .ok (.goto (-37), 3) := (congrArg (fun c => decode c 40) zeq164).trans (by decide +kernel)
theorem d164_43 : decode (zB 164) 43 = .ok (.aload_n 0, 1) := (congrArg (fun c => decode c 43) zeq164).trans (by decide +kernel)
theorem d164_44 : decode (zB 164) 44 = .ok (.getfield 79, 3) := (congrArg (fun c => decode c 44) zeq164).trans (by decide +kernel)
theorem d164_47 : decode (zB 164) 47 = .ok (.iload_n 2, 1) := (congrArg (fun c => decode c 47) zeq164).trans (by decide +kernel)
theorem d164_48 : decode (zB 164) 48 = .ok (.iconst 1, 1) := (congrArg (fun c => decode c 48) zeq164).trans (by decide +kernel)
theorem d164_49 : decode (zB 164) 49 = .ok (.iload_n 3, 1) := (congrArg (fun c => decode c 49) zeq164).trans (by decide +kernel)
theorem d164_50 : decode (zB 164) 50 = .ok (.ishl, 1) := (congrArg (fun c => decode c 50) zeq164).trans (by decide +kernel)
theorem d164_51 : decode (zB 164) 51 = .ok (.iconst (-1), 1) := (congrArg (fun c => decode c 51) zeq164).trans (by decide +kernel)
theorem d164_52 : decode (zB 164) 52 = .ok (.ixor, 1) := (congrArg (fun c => decode c 52) zeq164).trans (by decide +kernel)
theorem d164_53 : decode (zB 164) 53 = .ok (.iand, 1) := (congrArg (fun c => decode c 53) zeq164).trans (by decide +kernel)
theorem d164_54 : decode (zB 164) 54 = .ok (.laload, 1) := (congrArg (fun c => decode c 54) zeq164).trans (by decide +kernel)
theorem d164_55 : decode (zB 164) 55 = .ok (.lreturn, 1) := (congrArg (fun c => decode c 55) zeq164).trans (by decide +kernel)
theorem l164 {d : Nat} {M : zM} {Q : Option Value → zM → Prop} {T : yT} {t s i0 : Nat} (hX : SX M) (hT : XT1 M t T) (ho : OKT T) (ht : t < 6) (hi : i0 < tn T) (hs : s < 2 ^ tn T) (k : ∀ v, Q (some (.long v)) M) : ∀ (r i : Nat), i ≤ tn T → tn T < i + r → qW (zEv (d + 1)) 164 Q 3 [(4, .int (nI i)), (0, .ref 136), (1, .int (nI t)), (2, .int (nI s)), (3, .int (nI i0))] [] M := by
  intro r
  induction r with
  | zero => intros; omega
  | succ r ih =>
    intro i  h1 h2 
    have hn := ho.n
    have hp12 : 2 ^ tn T ≤ 2 ^ 12 := Nat.pow_le_pow_right (by omega) hn
    refine q_iload d164_3 rfl ?_
    refine q_aload_n d164_5 rfl ?_
    refine q_getr (c := 8) (f := 1) d164_6 ⟨rfl, rfl⟩ (xk_136 hX) (xf_stepMany hX) ?_
    refine q_iload_n d164_9 rfl ?_
    refine n_iald d164_10 (xk_stepMany hX) (by omega) (by decide) hT.1 ?_
    refine nc_ge 43 d164_11 (by decide) (by omega) (by omega) (fun h11 => ?_) (fun h11 => ?_)
    · refine q_aload_n d164_43 rfl ?_
      refine q_getr (c := 8) (f := 39) d164_44 ⟨rfl, rfl⟩ (xk_136 hX) (xf_ways hX) ?_
      refine q_iload_n d164_47 rfl ?_
      refine q_iconstN (z := 1) d164_48 ?_
      refine q_iload_n d164_49 rfl ?_
      refine n_ishl1 d164_50 (by omega) ?_
      refine q_iconst (x := (-1)) d164_51 rfl ?_
      refine q_ixor d164_52 ?_
      refine n_iandn d164_53 ?_
      refine n_lald d164_54 (xk_ways hX) (Nat.lt_of_lt_of_le (zdf_lt hs) hp12) (by decide) rfl ?_
      refine q_lret d164_55 rfl ?_
      exact k _
    · refine q_iload_n d164_14 rfl ?_
      refine q_iload d164_15 rfl ?_
      refine q_ishr d164_17 ?_
      refine q_iconstN (z := 1) d164_18 ?_
      refine q_iand d164_19 ?_
      refine q_iconstN (z := 1) d164_20 ?_
      refine ic_ne 37 d164_21 (by decide) (fun h21 => ?_) (fun h21 => ?_)
      · refine n_iinc 1 d164_37 (by decide) rfl rfl ?_
        refine q_goto 3 d164_40 (by decide) ?_
        exact ih (i + 1) (by omega) (by omega)
      · refine q_aload_n d164_24 rfl ?_
        refine q_iload_n d164_25 rfl ?_
        refine q_iload_n d164_26 rfl ?_
        refine q_iload d164_27 rfl ?_
        refine q_v3 d164_29 rfl rfl (xk_136 hX) (Nat.le_of_ble_eq_true rfl) (c147 hX hT ho ht (by omega) (by omega) ?_)
        refine b0_eq 37 d164_32 (by decide) (fun h32 => ?_) (fun h32 => ?_)
        · refine n_iinc 1 d164_37 (by decide) rfl rfl ?_
          refine q_goto 3 d164_40 (by decide) ?_
          exact ih (i + 1) (by omega) (by omega)
        · refine q_lconst (x := 0) d164_35 rfl ?_
          refine q_lret d164_36 rfl ?_
          exact k _
theorem c164 {d : Nat} {M : zM} {Q : Option Value → zM → Prop} {T : yT} {t s i0 : Nat} (hX : SX M) (hT : XT1 M t T) (ho : OKT T) (ht : t < 6) (hi : i0 < tn T) (hs : s < 2 ^ tn T) (k : ∀ v, Q (some (.long v)) M) : qC (d + 2) 164 [.ref 136, .int (nI t), .int (nI s), .int (nI i0)] M Q := by
  refine qC_of (by decide) (Nat.le_of_ble_eq_true rfl) ?_
  have hn := ho.n
  refine q_iconstN (z := 0) d164_0 ?_
  refine q_istore d164_1 (by decide) rfl ?_
  exact l164 hX hT ho ht hi hs k (tn T + 1) 0 (by omega) (by omega)
theorem SX_fl {M M' : zM} {b : Nat} (h : SX M) (f : Fl b M M') : SX M' := SX_of h (fun a _ => congrFun (show zk M' = zk M from congrArg (fun q => q.1) f.2.2.1) a) (fun a g _ _ => congrFun (congrFun f.2.1 a) g)
theorem XT1_fl {M M' : zM} {b t : Nat} {T : yT} (h : XT1 M t T) (f : Fl b M M') : XT1 M' t T := by
  unfold XT1 zi; rw [f.1]; exact h
theorem d163_0 : decode (zB 163) 0 = .ok (.aload_n 0, 1) := (congrArg (fun c => decode c 0) zeq163).trans (by decide +kernel)
theorem d163_1 : decode (zB 163) 1 = .ok (.iload_n 1, 1) := (congrArg (fun c => decode c 1) zeq163).trans (by decide +kernel)
theorem d163_2 : decode (zB 163) 2 = .ok (.invokevirtual 243, 3) := (congrArg (fun c => decode c 2) zeq163).trans (by decide +kernel)
theorem d163_5 : decode (zB 163) 5 = .ok (.ifCond .ne 7, 3) := (congrArg (fun c => decode c 5) zeq163).trans (by decide +kernel)
theorem d163_8 : decode (zB 163) 8 = .ok (.ldc2_w 258, 3) := (congrArg (fun c => decode c 8) zeq163).trans (by decide +kernel)
theorem d163_11 : decode (zB 163) 11 = .ok (.lreturn, 1) := (congrArg (fun c => decode c 11) zeq163).trans (by decide +kernel)
theorem d163_12 : decode (zB 163) 12 = .ok (.iconst 1, 1) := (congrArg (fun c => decode c 12) zeq163).trans (by decide +kernel)
theorem d163_13 : decode (zB 163) 13 = .ok (.aload_n 0, 1) := (congrArg (fun c => decode c 13) zeq163).trans (by decide +kernel)
theorem d163_14 : decode (zB 163) 14 = .ok (.getfield 9, 3) := (congrArg (fun c => decode c 14) zeq163).trans (by decide +kernel)
theorem d163_17 : decode (zB 163) 17 = .ok (.iload_n 1, 1) := (congrArg (fun c => decode c 17) zeq163).trans (by decide +kernel)
theorem d163_18 : decode (zB 163) 18 = .ok (.iaload, 1) := (congrArg (fun c => decode c 18) zeq163).trans (by decide +kernel)
theorem d163_19 : decode (zB 163) 19 = .ok (.ishl, 1) := (congrArg (fun c => decode c 19) zeq163).trans (by decide +kernel)
theorem d163_20 : decode (zB 163) 20 = .ok (.istore_n 2, 1) := (congrArg (fun c => decode c 20) zeq163).trans (by decide +kernel)
theorem d163_21 : decode (zB 163) 21 = .ok (.iconst 0, 1) := (congrArg (fun c => decode c 21) zeq163).trans (by decide +kernel)
theorem d163_22 : decode (zB 163) 22 = .ok (.istore_n 3, 1) := (congrArg (fun c => decode c 22) zeq163).trans (by decide +kernel)
theorem d163_23 : decode (zB 163) 23 = .ok (.iload_n 3, 1) := (congrArg (fun c => decode c 23) zeq163).trans (by decide +kernel)
theorem d163_24 : decode (zB 163) 24 = .ok (.iload_n 2, 1) := (congrArg (fun c => decode c 24) zeq163).trans (by decide +kernel)
theorem d163_25 : decode (zB 163) 25 = .ok (.if_icmp .ge 87, 3) := (congrArg (fun c => decode c 25) zeq163).trans (by decide +kernel)
theorem d163_28 : decode (zB 163) 28 = .ok (.aload_n 0, 1) := (congrArg (fun c => decode c 28) zeq163).trans (by decide +kernel)
theorem d163_29 : decode (zB 163) 29 = .ok (.getfield 79, 3) := (congrArg (fun c => decode c 29) zeq163).trans (by decide +kernel)
theorem d163_32 : decode (zB 163) 32 = .ok (.iload_n 3, 1) := (congrArg (fun c => decode c 32) zeq163).trans (by decide +kernel)
theorem d163_33 : decode (zB 163) 33 = .ok (.iload_n 3, 1) := (congrArg (fun c => decode c 33) zeq163).trans (by decide +kernel)
theorem d163_34 : decode (zB 163) 34 = .ok (.ifCond .ne 7, 3) := (congrArg (fun c => decode c 34) zeq163).trans (by decide +kernel)
theorem d163_37 : decode (zB 163) 37 = .ok (.lconst 1, 1) := (congrArg (fun c => decode c 37) zeq163).trans (by decide +kernel)
theorem d163_38 : decode (zB 163) 38 = .ok (.goto 4, 3) := (congrArg (fun c => decode c 38) zeq163).trans (by decide +kernel)
theorem d163_41 : decode (zB 163) 41 = .ok (.lconst 0, 1) := (congrArg (fun c => decode c 41) zeq163).trans (by decide +kernel)
theorem d163_42 : decode (zB 163) 42 = .ok (.lastore, 1) := (congrArg (fun c => decode c 42) zeq163).trans (by decide +kernel)
theorem d163_43 : decode (zB 163) 43 = .ok (.iconst 0, 1) := (congrArg (fun c => decode c 43) zeq163).trans (by decide +kernel)
theorem d163_44 : decode (zB 163) 44 = .ok (.istore 4, 2) := (congrArg (fun c => decode c 44) zeq163).trans (by decide +kernel)
theorem d163_46 : decode (zB 163) 46 = .ok (.iload 4, 2) := (congrArg (fun c => decode c 46) zeq163).trans (by decide +kernel)
theorem d163_48 : decode (zB 163) 48 = .ok (.aload_n 0, 1) := (congrArg (fun c => decode c 48) zeq163).trans (by decide +kernel)
theorem d163_49 : decode (zB 163) 49 = .ok (.getfield 9, 3) := (congrArg (fun c => decode c 49) zeq163).trans (by decide +kernel)
theorem d163_52 : decode (zB 163) 52 = .ok (.iload_n 1, 1) := (congrArg (fun c => decode c 52) zeq163).trans (by decide +kernel)
theorem d163_53 : decode (zB 163) 53 = .ok (.iaload, 1) := (congrArg (fun c => decode c 53) zeq163).trans (by decide +kernel)
theorem d163_54 : decode (zB 163) 54 = .ok (.if_icmp .ge 52, 3) := (congrArg (fun c => decode c 54) zeq163).trans (by decide +kernel)
theorem d163_57 : decode (zB 163) 57 = .ok (.iload_n 3, 1) := (congrArg (fun c => decode c 57) zeq163).trans (by decide +kernel)
theorem d163_58 : decode (zB 163) 58 = .ok (.iload 4, 2) := (congrArg (fun c => decode c 58) zeq163).trans (by decide +kernel)
theorem d163_60 : decode (zB 163) 60 = .ok (.ishr, 1) := (congrArg (fun c => decode c 60) zeq163).trans (by decide +kernel)
theorem d163_61 : decode (zB 163) 61 = .ok (.iconst 1, 1) := (congrArg (fun c => decode c 61) zeq163).trans (by decide +kernel)
theorem d163_62 : decode (zB 163) 62 = .ok (.iand, 1) := (congrArg (fun c => decode c 62) zeq163).trans (by decide +kernel)
theorem d163_63 : decode (zB 163) 63 = .ok (.iconst 1, 1) := (congrArg (fun c => decode c 63) zeq163).trans (by decide +kernel)
theorem d163_64 : decode (zB 163) 64 = .ok (.if_icmp .ne 36, 3) := (congrArg (fun c => decode c 64) zeq163).trans (by decide +kernel)
theorem d163_67 : decode (zB 163) 67 = .ok (.aload_n 0, 1) := (congrArg (fun c => decode c 67) zeq163).trans (by decide +kernel)
theorem d163_68 : decode (zB 163) 68 = .ok (.getfield 30, 3) := (congrArg (fun c => decode c 68) zeq163).trans (by decide +kernel)
theorem d163_71 : decode (zB 163) 71 = .ok (.iload_n 1, 1) := (congrArg (fun c => decode c 71) zeq163).trans (by decide +kernel)
theorem d163_72 : decode (zB 163) 72 = .ok (.aaload, 1) := (congrArg (fun c => decode c 72) zeq163).trans (by decide +kernel)
theorem d163_73 : decode (zB 163) 73 = .ok (.iload 4, 2) := (congrArg (fun c => decode c 73) zeq163).trans (by decide +kernel)
theorem d163_75 : decode (zB 163) 75 = .ok (.iaload, 1) := (congrArg (fun c => decode c 75) zeq163).trans (by decide +kernel)
theorem d163_76 : decode (zB 163) 76 = .ok (.iload_n 3, 1) := (congrArg (fun c => decode c 76) zeq163).trans (by decide +kernel)
theorem d163_77 : decode (zB 163) 77 = .ok (.iconst (-1), 1) := (congrArg (fun c => decode c 77) zeq163).trans (by decide +kernel)
theorem d163_78 : decode (zB 163) 78 = .ok (.ixor, 1) := (congrArg (fun c => decode c 78) zeq163).trans (by decide +kernel)
theorem d163_79 : decode (zB 163) 79 = .ok (.iand, 1) := (congrArg (fun c => decode c 79) zeq163).trans (by decide +kernel)
theorem d163_80 : decode (zB 163) 80 = .ok (.ifCond .ne 20, 3) := (congrArg (fun c => decode c 80) zeq163).trans (by decide +kernel)
theorem d163_83 : decode (zB 163) 83 = .ok (.aload_n 0, 1) := (congrArg (fun c => decode c 83) zeq163).trans (by decide +kernel)
theorem d163_84 : decode (zB 163) 84 = .ok (.getfield 79, 3) := (congrArg (fun c => decode c 84) zeq163).trans (by decide +kernel)
theorem d163_87 : decode (zB 163) 87 = .ok (.iload_n 3, 1) := (congrArg (fun c => decode c 87) zeq163).trans (by decide +kernel)
theorem d163_88 : decode (zB 163) 88 = .ok (.dup2, 1) := (congrArg (fun c => decode c 88) zeq163).trans (by decide +kernel)
theorem d163_89 : decode (zB 163) 89 = .ok (.laload, 1) := (congrArg (fun c => decode c 89) zeq163).trans (by decide +kernel)
theorem d163_90 : decode (zB 163) 90 = .ok (.aload_n 0, 1) := (congrArg (fun c => decode c 90) zeq163).trans (by decide +kernel)
theorem d163_91 : decode (zB 163) 91 = .ok (.iload_n 1, 1) := (congrArg (fun c => decode c 91) zeq163).trans (by decide +kernel)
theorem d163_92 : decode (zB 163) 92 = .ok (.iload_n 3, 1) := (congrArg (fun c => decode c 92) zeq163).trans (by decide +kernel)
theorem d163_93 : decode (zB 163) 93 = .ok (.iload 4, 2) := (congrArg (fun c => decode c 93) zeq163).trans (by decide +kernel)
theorem d163_95 : decode (zB 163) 95 = .ok (.invokevirtual 260, 3) := (congrArg (fun c => decode c 95) zeq163).trans (by decide +kernel)
theorem d163_98 : decode (zB 163) 98 = .ok (.ladd, 1) := (congrArg (fun c => decode c 98) zeq163).trans (by decide +kernel)
theorem d163_99 : decode (zB 163) 99 = .ok (.lastore, 1) := (congrArg (fun c => decode c 99) zeq163).trans (by decide +kernel)
theorem d163_100 : decode (zB 163) 100 = .ok (.iinc 4 1, 3) := (congrArg (fun c => decode c 100) zeq163).trans (by decide +kernel)
theorem d163_103 : decode (zB 163) 103 = .ok (.goto (-57), 3) := (congrArg (fun c => decode c 103) zeq163).trans (by decide +kernel)
theorem d163_106 : decode (zB 163) 106 = .ok (.iinc 3 1, 3) := (congrArg (fun c => decode c 106) zeq163).trans (by decide +kernel)
theorem d163_109 : decode (zB 163) 109 = .ok (.goto (-86), 3) := (congrArg (fun c => decode c 109) zeq163).trans (by decide +kernel)
theorem d163_112 : decode (zB 163) 112 = .ok (.aload_n 0, 1) := (congrArg (fun c => decode c 112) zeq163).trans (by decide +kernel)
theorem d163_113 : decode (zB 163) 113 = .ok (.getfield 79, 3) := (congrArg (fun c => decode c 113) zeq163).trans (by decide +kernel)
theorem d163_116 : decode (zB 163) 116 = .ok (.iload_n 2, 1) := (congrArg (fun c => decode c 116) zeq163).trans (by decide +kernel)
theorem d163_117 : decode (zB 163) 117 = .ok (.iconst 1, 1) := (congrArg (fun c => decode c 117) zeq163).trans (by decide +kernel)
theorem d163_118 : decode (zB 163) 118 = .ok (.isub, 1) := (congrArg (fun c => decode c 118) zeq163).trans (by decide +kernel)
theorem d163_119 : decode (zB 163) 119 = .ok (.laload, 1) := (congrArg (fun c => decode c 119) zeq163).trans (by decide +kernel)
theorem d163_120 : decode (zB 163) 120 = .ok (.lreturn, 1) := (congrArg (fun c => decode c 120) zeq163).trans (by decide +kernel)
theorem l163b {d : Nat} {Q : Option Value → zM → Prop} {T : yT} {M0 : zM} {t s : Nat} (hX0 : SX M0) (hT0 : XT1 M0 t T) (ho : OKT T) (ht : t < 6) (hs : s < 2 ^ tn T) (k : ∀ i M', Fl 209 M0 M' → qW (zEv (d + 2)) 163 Q 106 [(0, .ref 136), (1, .int (nI t)), (2, .int (nI (2 ^ tn T))), (3, .int (nI s)), (4, .int (nI i))] [] M') : ∀ (r i : Nat) (M1 : zM), i ≤ tn T → tn T < i + r →  Fl 209 M0 M1 → qW (zEv (d + 2)) 163 Q 46 [(0, .ref 136), (1, .int (nI t)), (2, .int (nI (2 ^ tn T))), (3, .int (nI s)), (4, .int (nI i))] [] M1 := by
  intro r
  induction r with
  | zero => intros; omega
  | succ r ih =>
    intro i M1 h1 h2 hF
    have hn := ho.n
    have hp12 : 2 ^ tn T ≤ 2 ^ 12 := Nat.pow_le_pow_right (by omega) hn
    have hX := SX_fl hX0 hF
    have hT := XT1_fl hT0 hF
    refine q_iload d163_46 rfl ?_
    refine q_aload_n d163_48 rfl ?_
    refine q_getr (c := 8) (f := 1) d163_49 ⟨rfl, rfl⟩ (xk_136 hX) (xf_stepMany hX) ?_
    refine q_iload_n d163_52 rfl ?_
    refine n_iald d163_53 (xk_stepMany hX) (by omega) (by decide) hT.1 ?_
    refine nc_ge 106 d163_54 (by decide) (by omega) (by omega) (fun h54 => ?_) (fun h54 => ?_)
    · refine qW_srt rfl rfl ?_
      exact k _ _ hF
    · refine q_iload_n d163_57 rfl ?_
      refine q_iload d163_58 rfl ?_
      refine q_ishr d163_60 ?_
      refine q_iconstN (z := 1) d163_61 ?_
      refine q_iand d163_62 ?_
      refine q_iconstN (z := 1) d163_63 ?_
      refine ic_ne 100 d163_64 (by decide) (fun h64 => ?_) (fun h64 => ?_)
      · refine n_iinc 1 d163_100 (by decide) rfl rfl ?_
        refine q_goto 46 d163_103 (by decide) ?_
        refine qW_srt rfl rfl ?_
        first
        | exact ih (i + 1) _ (by omega) (by omega) hF
        | exact ih (i + 1) _ (by omega) (by omega) hF.wl
      · refine q_aload_n d163_67 rfl ?_
        refine q_getr (c := 8) (f := 7) d163_68 ⟨rfl, rfl⟩ (xk_136 hX) (xf_aheads hX) ?_
        refine q_iload_n d163_71 rfl ?_
        refine n_aald d163_72 (xk_aheads hX) (by decide) (by omega) (by decide) (xr_aheads hX (by omega)) ?_
        refine q_iload d163_73 rfl ?_
        refine n_iald d163_75 (xa_aheads hX (by omega)) (by omega) (by decide) (hT.2.2 _ (by omega)).2.2.2.2 ?_
        refine q_iload_n d163_76 rfl ?_
        refine q_iconst (x := (-1)) d163_77 rfl ?_
        refine q_ixor d163_78 ?_
        refine q_iand d163_79 ?_
        refine i0_ne 100 d163_80 (by decide) (fun h80 => ?_) (fun h80 => ?_)
        · refine n_iinc 1 d163_100 (by decide) rfl rfl ?_
          refine q_goto 46 d163_103 (by decide) ?_
          refine qW_srt rfl rfl ?_
          first
          | exact ih (i + 1) _ (by omega) (by omega) hF
          | exact ih (i + 1) _ (by omega) (by omega) hF.wl
        · refine q_aload_n d163_83 rfl ?_
          refine q_getr (c := 8) (f := 39) d163_84 ⟨rfl, rfl⟩ (xk_136 hX) (xf_ways hX) ?_
          refine q_iload_n d163_87 rfl ?_
          refine q_dup2 d163_88 rfl rfl ?_
          refine n_lald d163_89 (xk_ways hX) (by omega) (by decide) rfl ?_
          refine q_aload_n d163_90 rfl ?_
          refine q_iload_n d163_91 rfl ?_
          refine q_iload_n d163_92 rfl ?_
          refine q_iload d163_93 rfl ?_
          refine q_v3 d163_95 rfl rfl (xk_136 hX) (Nat.le_of_ble_eq_true rfl) (c164 hX hT ho ht (by omega) hs (fun v9 => ?_))
          refine q_ladd d163_98 ?_
          refine n_last d163_99 (xk_ways hX) (by omega) (by decide) ?_
          refine n_iinc 1 d163_100 (by decide) rfl rfl ?_
          refine q_goto 46 d163_103 (by decide) ?_
          refine qW_srt rfl rfl ?_
          first
          | exact ih (i + 1) _ (by omega) (by omega) hF
          | exact ih (i + 1) _ (by omega) (by omega) hF.wl
theorem l163 {d : Nat} {Q : Option Value → zM → Prop} {T : yT} {M0 : zM} {t : Nat} (hX0 : SX M0) (hT0 : XT1 M0 t T) (ho : OKT T) (ht : t < 6) (k : ∀ v M', Fl 209 M0 M' → Q (some (.long v)) M') : ∀ (r s : Nat) (M1 : zM), s ≤ 2 ^ tn T → 2 ^ tn T < s + r →  Fl 209 M0 M1 → qW (zEv (d + 2)) 163 Q 23 [(0, .ref 136), (1, .int (nI t)), (2, .int (nI (2 ^ tn T))), (3, .int (nI s))] [] M1 := by
  intro r
  induction r with
  | zero => intros; omega
  | succ r ih =>
    intro s M1 h1 h2 hF
    have hn := ho.n
    have hp12 : 2 ^ tn T ≤ 2 ^ 12 := Nat.pow_le_pow_right (by omega) hn
    have hX := SX_fl hX0 hF
    have hT := XT1_fl hT0 hF
    refine q_iload_n d163_23 rfl ?_
    refine q_iload_n d163_24 rfl ?_
    refine nc_ge 112 d163_25 (by decide) (by omega) (by omega) (fun h25 => ?_) (fun h25 => ?_)
    · refine q_aload_n d163_112 rfl ?_
      refine q_getr (c := 8) (f := 39) d163_113 ⟨rfl, rfl⟩ (xk_136 hX) (xf_ways hX) ?_
      refine q_iload_n d163_116 rfl ?_
      refine q_iconstN (z := 1) d163_117 ?_
      refine n_isub d163_118 (Nat.one_le_two_pow) ?_
      refine n_lald d163_119 (xk_ways hX) (by omega) (by decide) rfl ?_
      refine q_lret d163_120 rfl ?_
      exact k _ _ hF
    · refine q_aload_n d163_28 rfl ?_
      refine q_getr (c := 8) (f := 39) d163_29 ⟨rfl, rfl⟩ (xk_136 hX) (xf_ways hX) ?_
      refine q_iload_n d163_32 rfl ?_
      refine q_iload_n d163_33 rfl ?_
      refine n0_ne 41 d163_34 (by decide) (by omega) (fun h34 => ?_) (fun h34 => ?_)
      · refine q_lconst (x := 0) d163_41 rfl ?_
        refine n_last d163_42 (xk_ways hX) (by omega) (by decide) ?_
        refine q_iconstN (z := 0) d163_43 ?_
        refine q_istore d163_44 (by decide) rfl ?_
        refine qW_srt rfl rfl ?_
        refine l163b hX0 hT0 ho ht (by omega) (fun i M2 hF2 => ?_) (tn T + 1) 0 _ (by omega) (by omega) hF.wl
        have hX2 := SX_fl hX0 hF2
        have hT2 := XT1_fl hT0 hF2
        refine n_iinc 1 d163_106 (by decide) rfl rfl ?_
        refine q_goto 23 d163_109 (by decide) ?_
        refine qW_fg 4 rfl rfl ?_
        exact ih (s + 1) _ (by omega) (by omega) hF2
      · refine q_lconst (x := 1) d163_37 rfl ?_
        refine q_goto 42 d163_38 (by decide) ?_
        refine n_last d163_42 (xk_ways hX) (by omega) (by decide) ?_
        refine q_iconstN (z := 0) d163_43 ?_
        refine q_istore d163_44 (by decide) rfl ?_
        refine qW_srt rfl rfl ?_
        refine l163b hX0 hT0 ho ht (by omega) (fun i M2 hF2 => ?_) (tn T + 1) 0 _ (by omega) (by omega) hF.wl
        have hX2 := SX_fl hX0 hF2
        have hT2 := XT1_fl hT0 hF2
        refine n_iinc 1 d163_106 (by decide) rfl rfl ?_
        refine q_goto 23 d163_109 (by decide) ?_
        refine qW_fg 4 rfl rfl ?_
        exact ih (s + 1) _ (by omega) (by omega) hF2
theorem x163 {d : Nat} {M : zM} {Q : Option Value → zM → Prop} {D : yD} {κ : Nat} {x : Int32} (hR : RX M D κ) (k : ∀ v M', RX M' D κ → FG2 M M' → Q (some (.long v)) M') : qC (d + 3) 163 [.ref 136, .int x] M Q := by
  refine qC_of (by decide) (Nat.le_of_ble_eq_true rfl) ?_
  have hC := hR.1
  have hX := hC.1
  have hO : OKW (dT D) (dc D) (dW D) := hC.2.2.1
  have hc6 := hO.1.1
  have hL : XLo [] M (some (dL D)) := hC.2.2.2.2.2.2.1
  have hSa : ∀ s, s < 3 → XSa M s (dS D s) κ := hC.2.2.2.2.1
  have hTk := hC.k
  have hck := hC.2.2.2.2.2.1
  rcases zix_c x (n := dc D) (by omega) with ⟨t, ht, rfl, et⟩ | ⟨et, nt⟩
  · have _u := et
    have ho := hO.1.2 _ ht
    have hn := ho.n
    have hp12 : 2 ^ tn (dT D t) ≤ 2 ^ 12 := Nat.pow_le_pow_right (by omega) hn
    refine q_aload_n d163_0 rfl ?_
    refine q_iload_n d163_1 rfl ?_
    refine q_v1 d163_2 rfl rfl (xk_136 hX) (Nat.le_of_ble_eq_true rfl) (c145t hR (by omega) ?_)
    refine n0_ne 12 d163_5 (by decide) (by decide) (fun _ => ?_) (fun q => absurd q (by decide))
    refine q_iconstN (z := 1) d163_12 ?_
    refine q_aload_n d163_13 rfl ?_
    refine q_getr (c := 8) (f := 1) d163_14 ⟨rfl, rfl⟩ (xk_136 hX) (xf_stepMany hX) ?_
    refine q_iload_n d163_17 rfl ?_
    refine n_iald d163_18 (xk_stepMany hX) (by omega) (by decide) (hTk.1 _ ht).1 ?_
    refine n_ishl1 d163_19 (by omega) ?_
    refine q_istore_n d163_20 (by decide) rfl ?_
    refine q_iconstN (z := 0) d163_21 ?_
    refine q_istore_n d163_22 (by decide) rfl ?_
    refine qW_srt rfl rfl ?_
    exact l163 hX (hTk.1 _ ht) ho (by omega) (fun v M2 f => k v M2 (hR.ag (fun a j _ => congrFun (congrFun f.1 a) j) f.2.1 (fun a _ => congrFun (show zk M2 = zk M from congrArg (fun q => q.1) f.2.2.1) a)) ⟨fun a j _ => congrFun (congrFun f.1 a) j, f.2.1, fun a q => funext (fun j => f.2.2.2 a q j), fun a _ => congrFun (show zk M2 = zk M from congrArg (fun q => q.1) f.2.2.1) a, Nat.le_of_eq (show zn M = zn M2 from (congrArg (fun q => q.2.1) f.2.2.1).symm), by rw [show zn M2 = zn M from congrArg (fun q => q.2.1) f.2.2.1]; omega, by rw [show zs M2 = zs M from congrArg (fun q => q.2.2) f.2.2.1]; omega⟩) (2 ^ tn (dT D t) + 1) 0 _ (Nat.zero_le _) (by omega) (Fl.refl _ _)
  · have _u := et
    refine q_aload_n d163_0 rfl ?_
    refine q_iload_n d163_1 rfl ?_
    refine q_v1 d163_2 rfl rfl (xk_136 hX) (Nat.le_of_ble_eq_true rfl) (c145f hR et ?_)
    refine n0_ne 12 d163_5 (by decide) (by decide) (fun q => absurd q (by decide)) (fun _ => ?_)
    refine q_ldc2_w d163_8 rfl ?_
    refine q_lret d163_11 rfl ?_
    exact k _ _ hR (FG2.fy (Fi.refl _ _))
/-! ===== what the calls keep ===== -/
def yCs (S S' : yS) : Prop := gt S = gt S' ∧ (gt S ≠ 0 → gx S = gx S') ∧ gd S = gd S' ∧ go S = go S' ∧ (∀ k, gd S k = 1 → gb S k = gb S' k) ∧ gf S = gf S'
theorem yCs.rf (S : yS) : yCs S S := ⟨rfl, fun _ => rfl, rfl, rfl, fun _ _ => rfl, rfl⟩
theorem yCs.tr {S S' S'' : yS} (h : yCs S S') (g : yCs S' S'') : yCs S S'' := ⟨h.1.trans g.1, fun q => (h.2.1 q).trans (g.2.1 (by rw [← h.1]; exact q)), h.2.2.1.trans g.2.2.1, h.2.2.2.1.trans g.2.2.2.1, fun k q => (h.2.2.2.2.1 k q).trans (g.2.2.2.2.1 k (by rw [← h.2.2.1]; exact q)), h.2.2.2.2.2.trans g.2.2.2.2.2⟩
theorem yCo.rf (W : yW) : yCo W W := ⟨rfl, fun s _ => yCs.rf _⟩
theorem yCo.tr {W W' W'' : yW} (h : yCo W W') (g : yCo W' W'') : yCo W W'' := ⟨h.1.trans g.1, fun s hs => yCs.tr (h.2 s hs) (g.2 s hs)⟩
theorem yCo.u {W W' : yW} {P P' : yP} {s : Nat} {S S' : yS} (h : yCo W W') (e : P = P') (hS : yCs S S') : yCo (P, yu W.2 s S) (P', yu W'.2 s S') := by
  refine ⟨e, fun r hr => ?_⟩
  show yCs (yu W.2 s S r) (yu W'.2 s S' r)
  by_cases q : r = s
  · subst q; rw [yu_s, yu_s]; exact hS
  · rw [yu_n q, yu_n q]; exact h.2 r hr
theorem yCs.m {S S' : yS} (h : yCs S S') (v : Nat) : gm S v = gm S' v := by unfold gm; rw [h.2.2.1]
theorem yag_co {T : Nat → yT} {c : Nat} {W R : yW} {l : yL} (h : yCo W R) (hO : OKW T c W) (hl : yle T c W l) : yle T c R l ∧ yCo (yag T W l) (yag T R l) := by
  obtain ⟨e, s, i⟩ := l
  obtain ⟨h0, hS⟩ := h
  rcases hl with ⟨rfl, h1, h2⟩ | ⟨rfl, h1, h2, h3, h4, h5⟩ | ⟨rfl, h1, h2, h3⟩ | ⟨rfl, h1, h2, ⟨t, h3⟩, h5⟩ | ⟨rfl, h1, h2, ⟨t, h3⟩⟩ | ⟨rfl, h1, h2, h3⟩ | ⟨rfl, h1, h2⟩
  · exact ⟨Or.inl ⟨rfl, h1, h2⟩, yCo.u ⟨h0, hS⟩ h0 (yCs.rf _)⟩
  · have h1 : s < 3 := h1
    have hs : yCs (W.2 s) (R.2 s) := hS s h1
    have h2 : gt (W.2 s) = 1 := h2
    have ex : gx (W.2 s) = gx (R.2 s) := hs.2.1 (by omega)
    have h3 : i < tn (T (gx (W.2 s))) := h3
    have h4 : gd (W.2 s) i = 0 := h4
    have h5 : yob (T (gx (W.2 s))) W.1 i (tu (T (gx (W.2 s))) i) 1 = 0 := h5
    refine ⟨Or.inr (Or.inl ⟨rfl, h1, hs.1.symm.trans h2, ?_, ?_, ?_⟩), ?_⟩
    · show i < tn (T (gx (R.2 s))); rw [← ex]; exact h3
    · show gd (R.2 s) i = 0; rw [← hs.2.2.1]; exact h4
    · show yob (T (gx (R.2 s))) R.1 i (tu (T (gx (R.2 s))) i) 1 = 0; rw [← ex, ← h0]; exact h5
    · show yCo (ych (T (gx (W.2 s))) W.1 i (tu (T (gx (W.2 s))) i) 1, yu W.2 s (yDn (W.2 s) i (tu (T (gx (W.2 s))) i))) (ych (T (gx (R.2 s))) R.1 i (tu (T (gx (R.2 s))) i) 1, yu R.2 s (yDn (R.2 s) i (tu (T (gx (R.2 s))) i)))
      rw [← ex, ← h0]
      refine yCo.u ⟨h0, hS⟩ rfl ⟨hs.1, hs.2.1, ?_, ?_, fun k q => ?_, hs.2.2.2.2.2⟩
      · show yu (gd (W.2 s)) i 1 = yu (gd (R.2 s)) i 1; rw [hs.2.2.1]
      · show i :: go (W.2 s) = i :: go (R.2 s); rw [hs.2.2.2.1]
      · have q : yu (gd (W.2 s)) i 1 k = 1 := q
        show yu (gb (W.2 s)) i _ k = yu (gb (R.2 s)) i _ k
        by_cases e : k = i
        · subst e; rw [yu_s, yu_s]
        · rw [yu_n e] at q; rw [yu_n e, yu_n e]; exact hs.2.2.2.2.1 k q
  · have h1 : s < 3 := h1
    have hs : yCs (W.2 s) (R.2 s) := hS s h1
    have h2 : gt (W.2 s) = 1 := h2
    have ex : gx (W.2 s) = gx (R.2 s) := hs.2.1 (by omega)
    have h3 : i < tn (T (gx (W.2 s))) := h3
    refine ⟨Or.inr (Or.inr (Or.inl ⟨rfl, h1, hs.1.symm.trans h2, ?_⟩)), ?_⟩
    · show i < tn (T (gx (R.2 s))); rw [← ex]; exact h3
    · show yCo (W.1, yu W.2 s (yfS (W.2 s) i 0 (ypa (T (gx (W.2 s))) (gm (W.2 s) 1)))) (R.1, yu R.2 s (yfS (R.2 s) i 0 (ypa (T (gx (R.2 s))) (gm (R.2 s) 1))))
      rw [← ex, ← hs.m 1]
      refine yCo.u ⟨h0, hS⟩ h0 ?_
      unfold yfS
      simp only []
      split
      · exact ⟨hs.1, hs.2.1, hs.2.2.1, hs.2.2.2.1, hs.2.2.2.2.1, by show yu (gf (W.2 s)) i (gf (W.2 s) i + 1) = yu (gf (R.2 s)) i (gf (R.2 s) i + 1); rw [hs.2.2.2.2.2]⟩
      · exact ⟨rfl, fun _ => ex, hs.2.2.1, hs.2.2.2.1, hs.2.2.2.2.1, by show yu (gf (W.2 s)) i (gf (W.2 s) i + 1) = yu (gf (R.2 s)) i (gf (R.2 s) i + 1); rw [hs.2.2.2.2.2]⟩
  · have h1 : s < 3 := h1
    have hs : yCs (W.2 s) (R.2 s) := hS s h1
    have h2 : gt (W.2 s) ≠ 0 := h2
    have ex : gx (W.2 s) = gx (R.2 s) := hs.2.1 h2
    have h3 : go (W.2 s) = i :: t := h3
    have h5 : yob (T (gx (W.2 s))) W.1 i (gb (W.2 s) i) (-1) = 0 := h5
    have hgd : gd (W.2 s) i = 1 := ((hO.2.2 s h1).2.2.2.1 i).mp (by rw [h3]; exact List.mem_cons_self)
    have eb := hs.2.2.2.2.1 i hgd
    refine ⟨Or.inr (Or.inr (Or.inr (Or.inl ⟨rfl, h1, by rw [← hs.1]; exact h2, ⟨t, hs.2.2.2.1.symm.trans h3⟩, ?_⟩))), ?_⟩
    · show yob (T (gx (R.2 s))) R.1 i (gb (R.2 s) i) (-1) = 0; rw [← ex, ← h0, ← eb]; exact h5
    · show yCo (ych (T (gx (W.2 s))) W.1 i (gb (W.2 s) i) (-1), yu W.2 s (goS (gdS (W.2 s) (yu (gd (W.2 s)) i 2)) (go (W.2 s)).tail)) (ych (T (gx (R.2 s))) R.1 i (gb (R.2 s) i) (-1), yu R.2 s (goS (gdS (R.2 s) (yu (gd (R.2 s)) i 2)) (go (R.2 s)).tail))
      rw [← ex, ← h0, ← eb]
      refine yCo.u ⟨h0, hS⟩ rfl ⟨hs.1, hs.2.1, ?_, ?_, fun k q => ?_, hs.2.2.2.2.2⟩
      · show yu (gd (W.2 s)) i 2 = yu (gd (R.2 s)) i 2; rw [hs.2.2.1]
      · show (go (W.2 s)).tail = (go (R.2 s)).tail; rw [hs.2.2.2.1]
      · have q : yu (gd (W.2 s)) i 2 k = 1 := q
        show gb (W.2 s) k = gb (R.2 s) k
        by_cases e : k = i
        · subst e; exact eb
        · rw [yu_n e] at q; exact hs.2.2.2.2.1 k q
  · have h1 : s < 3 := h1
    have hs : yCs (W.2 s) (R.2 s) := hS s h1
    have h2 : gt (W.2 s) ≠ 0 := h2
    have h3 : go (W.2 s) = i :: t := h3
    have hgd : gd (W.2 s) i = 1 := ((hO.2.2 s h1).2.2.2.1 i).mp (by rw [h3]; exact List.mem_cons_self)
    have eb := hs.2.2.2.2.1 i hgd
    refine ⟨Or.inr (Or.inr (Or.inr (Or.inr (Or.inl ⟨rfl, h1, by rw [← hs.1]; exact h2, ⟨t, hs.2.2.2.1.symm.trans h3⟩⟩)))), ?_⟩
    show yCo (W.1, yu W.2 s (gwS (goS (gdS (W.2 s) (yu (gd (W.2 s)) i 3)) (go (W.2 s)).tail) (yu (gw (W.2 s)) i 0))) (R.1, yu R.2 s (gwS (goS (gdS (R.2 s) (yu (gd (R.2 s)) i 3)) (go (R.2 s)).tail) (yu (gw (R.2 s)) i 0)))
    refine yCo.u ⟨h0, hS⟩ h0 ⟨hs.1, hs.2.1, ?_, ?_, fun k q => ?_, hs.2.2.2.2.2⟩
    · show yu (gd (W.2 s)) i 3 = yu (gd (R.2 s)) i 3; rw [hs.2.2.1]
    · show (go (W.2 s)).tail = (go (R.2 s)).tail; rw [hs.2.2.2.1]
    · have q : yu (gd (W.2 s)) i 3 k = 1 := q
      show gb (W.2 s) k = gb (R.2 s) k
      by_cases e : k = i
      · subst e; exact eb
      · rw [yu_n e] at q; exact hs.2.2.2.2.1 k q
  · have h1 : s < 3 := h1
    have hs : yCs (W.2 s) (R.2 s) := hS s h1
    have h2 : gt (W.2 s) ≠ 0 := h2
    refine ⟨Or.inr (Or.inr (Or.inr (Or.inr (Or.inr (Or.inl ⟨rfl, h1, by rw [← hs.1]; exact h2, h3⟩))))), ?_⟩
    exact yCo.u ⟨h0, hS⟩ h0 ⟨rfl, fun _ => hs.2.1 h2, hs.2.2.1, hs.2.2.2.1, hs.2.2.2.2.1, hs.2.2.2.2.2⟩
  · refine ⟨Or.inr (Or.inr (Or.inr (Or.inr (Or.inr (Or.inr ⟨rfl, h1, h2⟩))))), ?_⟩
    show yCo ((yu W.1.1 s (nI i), W.1.2), W.2) ((yu R.1.1 s (nI i), R.1.2), R.2)
    rw [← h0]
    exact ⟨rfl, hS⟩
/-- a log that tells the world -/
def yI (T : Nat → yT) (c : Nat) (X : yX) : Prop := ∃ L, X.2 = some L ∧ yva T c L ∧ yCo X.1 (yre T L)
theorem yre_a {T : Nat → yT} {L : List yL} {l : yL} : yre T (L ++ [l]) = yag T (yre T L) l := by
  unfold yre
  rw [List.foldl_append]
  rfl
theorem yva_a {T : Nat → yT} {c : Nat} {L : List yL} {l : yL} (h : yva T c L) (hl : yle T c (yre T L) l) : yva T c (L ++ [l]) := by
  intro k hk
  rw [List.length_append] at hk
  have hk : k < L.length + 1 := hk
  by_cases e : k = L.length
  · subst e
    rw [List.take_left' rfl, List.getD_eq_getElem?_getD, List.getElem?_append_right (Nat.le_refl _), Nat.sub_self]
    exact hl
  · have hk2 : k < L.length := by omega
    rw [List.take_append_of_le_length (by omega), List.getD_eq_getElem?_getD, List.getElem?_append_left hk2, ← List.getD_eq_getElem?_getD]
    exact h k hk2
theorem yI.st {T : Nat → yT} {c : Nat} {X : yX} {W' : yW} {l : yL} (h : yI T c X) (hO : OKW T c X.1) (hl : yle T c X.1 l) (hw : yCo W' (yag T X.1 l)) : yI T c (W', ylg X.2 l) := by
  obtain ⟨L, e, h1, h2⟩ := h
  obtain ⟨h3, h4⟩ := yag_co h2 hO hl
  refine ⟨L ++ [l], by rw [e]; rfl, yva_a h1 h3, ?_⟩
  rw [yre_a]
  exact hw.tr h4
theorem yI_en {T : Nat → yT} {c s v : Nat} {X : yX} (h : yI T c X) (hO : OKW T c X.1) (hs : s < 3) (hg : gt (yxs X s) ≠ 0) (h3 : 3 ≤ v) (h5 : v ≤ 5) : yI T c (yen X s v) :=
  h.st hO (Or.inr (Or.inr (Or.inr (Or.inr (Or.inr (Or.inl ⟨rfl, hs, hg, h3, h5⟩)))))) (yCo.rf _)
theorem yCs_fS {S : yS} {p : Nat → Int32} {i : Nat} {r r' : Int32} {b : Bool} : yCs (yfS (gpS S p) i r b) (yfS S i r' b) := by
  cases b
  · exact ⟨rfl, fun _ => rfl, rfl, rfl, fun _ _ => rfl, rfl⟩
  · exact ⟨rfl, fun _ => rfl, rfl, rfl, fun _ _ => rfl, rfl⟩
theorem yI_tr {T : Nat → yT} {c s i : Nat} {n : Int32} {X : yX} (h : yI T c X) (hO : OKW T c X.1) (hs : s < 3) (hg : gt (yxs X s) = 1) (hi : i < tn (T (gx (yxs X s)))) (hd : gd (yxs X s) i = 0) (hn : n = tu (T (gx (yxs X s))) i) : yI T c (ytr (T (gx (yxs X s))) n s i X) := by
  subst hn
  unfold ytr
  simp only []
  by_cases hr : (if ypl (gp (yxs X s)) i = true then 1 else yob (T (gx (yxs X s))) X.1.1 i (tu (T (gx (yxs X s))) i) 1) = 0
  · rw [if_pos hr]
    have hp : ypl (gp (yxs X s)) i = false := by
      cases hq : ypl (gp (yxs X s)) i with
      | false => rfl
      | true => rw [hq, if_pos rfl] at hr; exact absurd hr (by decide)
    rw [hp, if_neg (by decide)] at hr
    refine h.st (l := (1, s, i)) hO (Or.inr (Or.inl ⟨rfl, hs, hg, hi, hd, hr⟩)) ?_
    exact yCo.u (W := X.1) (W' := X.1) (yCo.rf X.1) rfl ⟨rfl, fun _ => rfl, rfl, rfl, fun _ _ => rfl, rfl⟩
  · rw [if_neg hr]
    have h2 : yI T c (yno (yss X s (yfS (gpS (yxs X s) (ysd (gp (yxs X s)) i)) i (if ypl (gp (yxs X s)) i = true then 1 else yob (T (gx (yxs X s))) X.1.1 i (tu (T (gx (yxs X s))) i) 1) (ypa (T (gx (yxs X s))) (gm (yxs X s) 1)))) (2, s, i)) := by
      refine h.st (l := (2, s, i)) hO (Or.inr (Or.inr (Or.inl ⟨rfl, hs, hg, hi⟩))) ?_
      exact yCo.u (W := X.1) (W' := X.1) (yCo.rf X.1) rfl yCs_fS
    split
    · rename_i hc
      refine yI_en h2 (OKW_ss hO (OKS_fS (S := gpS (yxs X s) _) (hO.2.2 s hs) (by show gt (yxs X s) ≠ 0; omega))) hs ?_ (by decide) (by decide)
      show gt (yxs (yss X s _) s) ≠ 0
      rw [yss_s]
      unfold yfS
      simp only []
      rw [if_pos hc.1]
      show gt (yxs X s) ≠ 0
      omega
    · exact h2
theorem yI_fl {T : Nat → yT} {c s g0 fr : Nat} {nm : Nat → Int32} (hs : s < 3) (hn : ∀ k, nm k = tu (T g0) k) : ∀ (k i : Nat) (X : yX), yI T c X → OKW T c X.1 → gx (yxs X s) = g0 → (∀ j, i ≤ j → fr.testBit j = true → j < tn (T g0) ∧ gd (yxs X s) j = 0) → yI T c (yfl (T g0) nm s fr k i X)
  | 0, i, X, h, hO, hx, hf => h
  | k + 1, i, X, h, hO, hx, hf => by
    rw [yfl]
    by_cases h1 : gt (yxs X s) = 1
    · rw [if_pos h1]
      by_cases hb : fr.testBit i = true
      · rw [if_pos hb]
        have hi := hf i (Nat.le_refl _) hb
        have hd := ytr_d (T := T g0) (n := nm i) (i := i) h1
        have ho : OKW T c (ytr (T g0) (nm i) s i X).1 := by
          have := ytr_ok (n := nm i) (i := i) hO hs h1 (by rw [hx]; exact hi.1) hi.2
          rw [hx] at this; exact this
        have hI : yI T c (ytr (T g0) (nm i) s i X) := by
          have := yI_tr (n := nm i) h hO hs h1 (by rw [hx]; exact hi.1) hi.2 (by rw [hx]; exact hn i)
          rw [hx] at this; exact this
        exact yI_fl hs hn k (i + 1) _ hI ho (hd.2.1.trans hx) (fun j hj hjb => ⟨(hf j (by omega) hjb).1, by rw [hd.1 j (by omega)]; exact (hf j (by omega) hjb).2⟩)
      · rw [if_neg hb]
        exact yI_fl hs hn k (i + 1) X h hO hx (fun j hj hjb => hf j (by omega) hjb)
    · rw [if_neg h1]; exact h
theorem yI_fo {T : Nat → yT} {c s : Nat} {nm : Nat → Int32} {X : yX} (h : yI T c X) (hO : OKW T c X.1) (hs : s < 3) (hg : gt (yxs X s) = 1) (hn : ∀ k, nm k = tu (T (gx (yxs X s))) k) : yI T c (yfo (T (gx (yxs X s))) nm s X) := by
  have hI := yI_fl (fr := yfr (T (gx (yxs X s))) (yxs X s)) hs hn 12 0 X h hO rfl (fun j _ hj => front_bit hj)
  obtain ⟨a1, a2, a3, a4, a5⟩ := yfl_ok (fr := yfr (T (gx (yxs X s))) (yxs X s)) (nm := nm) hs 12 0 X hO rfl (fun j _ hj => front_bit hj) (Or.inl hg)
  unfold yfo
  simp only []
  split
  · rename_i hc
    exact yI_en hI a1 hs (by rw [hc.1]; decide) (by decide) (by decide)
  · exact hI
theorem yI_un {T : Nat → yT} {c s : Nat} {X : yX} (h : yI T c X) (hO : OKW T c X.1) (hs : s < 3) (hg : gt (yxs X s) ≠ 0) : yI T c (yun (T (gx (yxs X s))) s X) := by
  unfold yun
  simp only []
  cases ho : go (yxs X s) with
  | nil => exact h
  | cons i t =>
    simp only []
    have et : (go (X.1.2 s)).tail = t := by rw [show go (X.1.2 s) = i :: t from ho]; rfl
    by_cases hr : (if ypl (gq (yxs X s)) i = true then 1 else yob (T (gx (yxs X s))) X.1.1 i (gb (yxs X s) i) (-1)) = 0
    · rw [if_pos hr]
      have hp : ypl (gq (yxs X s)) i = false := by
        cases hq : ypl (gq (yxs X s)) i with
        | false => rfl
        | true => rw [hq, if_pos rfl] at hr; exact absurd hr (by decide)
      rw [hp, if_neg (by decide)] at hr
      refine h.st (l := (3, s, i)) hO (Or.inr (Or.inr (Or.inr (Or.inl ⟨rfl, hs, hg, ⟨t, ho⟩, hr⟩)))) ?_
      refine yCo.u (W := X.1) (W' := X.1) (yCo.rf X.1) rfl ⟨rfl, fun _ => rfl, rfl, ?_, fun _ _ => rfl, rfl⟩
      exact et.symm
    · rw [if_neg hr]
      refine h.st (l := (4, s, i)) hO (Or.inr (Or.inr (Or.inr (Or.inr (Or.inl ⟨rfl, hs, hg, ⟨t, ho⟩⟩))))) ?_
      refine yCo.u (W := X.1) (W' := X.1) (yCo.rf X.1) rfl ⟨rfl, fun _ => rfl, rfl, ?_, fun _ _ => rfl, rfl⟩
      exact et.symm
theorem yI_tu {T : Nat → yT} {c s : Nat} {nm : Nat → Nat → Int32} {X : yX} (h : yI T c X) (hO : OKW T c X.1) (hs : s < 3) (hn : ∀ k, nm s k = tu (T (gx (yxs X s))) k) : yI T c (ytu T nm s X) := by
  unfold ytu
  by_cases h1 : gt (yxs X s) = 1
  · rw [if_pos h1]; exact yI_fo h hO hs h1 hn
  · rw [if_neg h1]
    by_cases h2 : gt (yxs X s) = 2
    · rw [if_pos h2]
      have hu := yI_un h hO hs (by omega)
      obtain ⟨a1, a2, a3, a4, a5⟩ := yun_ok hO hs (show gt (yxs X s) ≠ 0 by omega)
      unfold yba
      simp only []
      split
      · exact yI_en hu a1 hs (by omega) (by decide) (by decide)
      · exact hu
    · rw [if_neg h2]; exact h
theorem yI_ti {T : Nat → yT} {c : Nat} {nm : Nat → Nat → Int32} {X : yX} (h : yI T c X) (hO : OKW T c X.1) (hn : ∀ s, s < 3 → ∀ k, nm s k = tu (T (gx (yxs X s))) k) : yI T c (yti T nm X) := by
  have b1 := yI_tu (nm := nm) h hO (show 0 < 3 by omega) (hn 0 (by omega))
  obtain ⟨a1, a2, -⟩ := ytu_ok (nm := nm) hO (show 0 < 3 by omega)
  have b2 := yI_tu (nm := nm) b1 a1 (show 1 < 3 by omega) (fun k => by rw [(a2 1).1]; exact hn 1 (by omega) k)
  obtain ⟨c1, c2, -⟩ := ytu_ok (nm := nm) a1 (show 1 < 3 by omega)
  exact yI_tu (nm := nm) b2 c1 (show 2 < 3 by omega) (fun k => by rw [(c2 2).1, (a2 2).1]; exact hn 2 (by omega) k)
theorem yre_k {T : Nat → yT} {c : Nat} {L : List yL} (hok : c ≤ 6 ∧ ∀ i, i < c → OKT (T i)) (hv : yva T c L) : ∀ k, k ≤ L.length → OKW T c (yre T (L.take k))
  | 0, _ => by rw [List.take_zero]; exact OKW_0 hok
  | k + 1, h => by rw [yre_S (by omega)]; exact yag_ok (yre_k hok hv k (by omega)) (hv k (by omega))
theorem yre_ok {T : Nat → yT} {c : Nat} {L : List yL} (hok : c ≤ 6 ∧ ∀ i, i < c → OKT (T i)) (hv : yva T c L) : OKW T c (yre T L) := by
  have := yre_k hok hv L.length (Nat.le_refl _)
  rw [List.take_length] at this; exact this
theorem Int32_cl {z : Int32} {n : Nat} (h : ¬ nI n < z) (hn : n < 2147483648 := by decide) : z.toNatClampNeg ≤ n := by
  rw [Int32.lt_iff_toInt_lt, nI_toInt hn] at h
  show z.toInt.toNat ≤ n
  omega
/-! the desk stays well -/
theorem OKD.I {D : yD} (h : OKD D) : yI (dT D) (dc D) (dX D) := ⟨dL D, rfl, h.2.2.1, h.2.2.2.1⟩
theorem OKD.w {D : yD} {W : yW} {L : List yL} (h : OKD D) (hO : OKW (dT D) (dc D) W) (hl : L.length ≤ 240) (hI : yI (dT D) (dc D) (W, some L)) : OKD (dwS D W L) := by
  obtain ⟨L2, e, h1, h2⟩ := hI
  have e2 : L = L2 := Option.some.inj e
  subst e2
  exact ⟨hO, hl, h1, h2, h.2.2.2.2⟩
theorem OKD.ln {D : yD} {l : yL} (h : OKD D) (hl : yle (dT D) (dc D) (dW D) l) (h2 : (dL D).length < 240) : OKD (dwS D (yag (dT D) (dW D) l) (dL D ++ [l])) := by
  have hI := yI.st (X := dX D) (W' := yag (dT D) (dW D) l) h.I h.1 hl (yCo.rf _)
  have hO := yag_ok h.1 hl
  have hn : (dL D ++ [l]).length ≤ 240 := by
    rw [List.length_append]
    show (dL D).length + 1 ≤ 240
    omega
  exact h.w hO hn hI
theorem OKD_tick {D : yD} (h : OKD D) : OKD (sTick D).2 := by
  unfold sTick
  split
  · exact h
  · obtain ⟨W', A, e, h1, h2, h3⟩ := yti_D h.1
    have hI := yI_ti (nm := dnm D) h.I h.1 (fun s _ k => rfl)
    show OKD (dwS D (yti (dT D) (dnm D) (dX D)).1 (dlg (yti (dT D) (dnm D) (dX D))))
    rw [e] at hI ⊢
    exact h.w h1 (by show (dL D ++ A).length ≤ 240; omega) hI
theorem OKD_set {D : yD} {x y : Int32} (h : OKD D) : OKD (sSet D x y).2 := by
  unfold sSet
  cases ex : zix x 6 with
  | none => rw [oz_n ex]; exact h
  | some a =>
    rw [oz_s ex]
    cases ey : zix y 10000 with
    | none => rw [oz_n ey]; exact h
    | some v =>
      rw [oz_s ey]
      obtain ⟨ha, -⟩ := zix_some ex
      obtain ⟨hv, -⟩ := zix_some ey
      split
      · exact h
      · have hl : yle (dT D) (dc D) (dW D) (6, a, v) := Or.inr (Or.inr (Or.inr (Or.inr (Or.inr (Or.inr ⟨rfl, ha, by show v ≤ 9999; omega⟩)))))
        have hlt : (dL D).length < 240 := by omega
        have hq := h.ln hl hlt
        exact hq
theorem OKD_begin {D : yD} {x y : Int32} (h : OKD D) : OKD (sBegin D x y).2 := by
  unfold sBegin
  cases ex : zix x 3 with
  | none => rw [oz_n ex]; exact h
  | some s =>
    rw [oz_s ex]
    cases ey : zix y (dc D) with
    | none => rw [oz_n ey]; exact h
    | some t =>
      rw [oz_s ey]
      obtain ⟨hs, -⟩ := zix_some ex
      obtain ⟨ht, -⟩ := zix_some ey
      split
      · exact h
      · split
        · exact h
        · have hl : yle (dT D) (dc D) (dW D) (0, s, t) := Or.inl ⟨rfl, hs, ht⟩
          have hlt : (dL D).length < 240 := by omega
          have hq := h.ln hl hlt
          exact hq
theorem OKD_breaks {D : yD} {x : Int32} (h : OKD D) : OKD (sBreaks D x).2 := by
  unfold sBreaks
  cases ex : zix x ((dL D).length + 1) with
  | none => rw [oz_n ex]; exact h
  | some n =>
    rw [oz_s ex]
    obtain ⟨hn, -⟩ := zix_some ex
    have hv := yva_take (n := n) h.2.2.1
    have hO : OKW (dT D) (dc D) (yre (dT D) ((dL D).take n)) := yre_ok h.1.1 hv
    exact h.w hO (by rw [List.length_take]; have := h.2.1; omega) ⟨_, rfl, hv, yCo.rf _⟩
theorem OKD_plan {D : yD} {x y o z : Int32} (h : OKD D) : OKD (sPlan D x y o z).2 := by
  unfold sPlan
  cases ex : zix x 3 with
  | none => rw [oz_n ex]; exact h
  | some s =>
    rw [oz_s ex]
    obtain ⟨hs, -⟩ := zix_some ex
    cases ey : zix y (yms D s) with
    | none => rw [oz_n ey]; exact h
    | some i =>
      rw [oz_s ey]
      cases eo : zix o 2 with
      | none => rw [oz_n eo]; exact h
      | some o2 =>
        rw [oz_s eo]
        cases ez : zix z 10 with
        | none => rw [oz_n ez]; exact h
        | some z2 =>
          rw [oz_s ez]
          have hS := h.1.2.2 s hs
          have hc : ∀ S, yCs S (dS D s) → yCo ((dW D).1, yu (dW D).2 s S) (yre (dT D) (dL D)) := fun S q => by
            have := yCo.u (s := s) (yCo.rf (dW D)) (show (dW D).1 = (dW D).1 from rfl) q
            rw [show ((dW D).1, yu (dW D).2 s (dS D s)) = dW D from Prod.ext rfl (funext fun r => by
              show yu (dW D).2 s ((dW D).2 s) r = (dW D).2 r
              by_cases e : r = s
              · subst e; exact yu_s _ _ _
              · exact yu_n e)] at this
            exact this.tr h.2.2.2.1
          split
          · exact h
          · split
            · exact ⟨OKW_ss (X := dX D) (S := gpS (dS D s) _) h.1 hS, h.2.1, h.2.2.1, hc (gpS (dS D s) _) ⟨rfl, fun _ => rfl, rfl, rfl, fun _ _ => rfl, rfl⟩, h.2.2.2.2⟩
            · exact ⟨OKW_ss (X := dX D) (S := gqS (dS D s) _) h.1 hS, h.2.1, h.2.2.1, hc (gqS (dS D s) _) ⟨rfl, fun _ => rfl, rfl, rfl, fun _ _ => rfl, rfl⟩, h.2.2.2.2⟩
theorem OKD.r {D : yD} {hh z : Nat} {so : Int32} (h : OKD D) (hz : z ≤ 40) (hs : so = -1 ∨ so = nI 0 ∨ so = nI 1) : OKD (drS D (yu (dR D) hh (so, z))) := by
  refine ⟨h.1, h.2.1, h.2.2.1, h.2.2.2.1, fun i hi => ?_⟩
  show (yu (dR D) hh (so, z) i).2 ≤ 40 ∧ ((yu (dR D) hh (so, z) i).1 = -1 ∨ (yu (dR D) hh (so, z) i).1 = nI 0 ∨ (yu (dR D) hh (so, z) i).1 = nI 1)
  by_cases e : i = hh
  · subst e; rw [yu_s]; exact ⟨hz, hs⟩
  · rw [yu_n e]; exact h.2.2.2.2 i hi
theorem OKD_film {D : yD} {x y z : Int32} (h : OKD D) : OKD (sFilm D x y z).2 := by
  unfold sFilm
  cases ex : zix x 4 with
  | none => rw [oz_n ex]; exact h
  | some a =>
    rw [oz_s ex]
    cases ey : zix y 6 with
    | none => rw [oz_n ey]; exact h
    | some b =>
      rw [oz_s ey]
      cases ez : zix z 21 with
      | none => rw [oz_n ez]; exact h
      | some n =>
        rw [oz_s ez]
        obtain ⟨hn, -⟩ := zix_some ez
        exact h.r (by omega) (Or.inr (Or.inr rfl))
theorem OKD_sheet {D : yD} {x y z : Int32} (h : OKD D) : OKD (sSheet D x y z).2 := by
  unfold sSheet
  cases ex : zix x 4 with
  | none => rw [oz_n ex]; exact h
  | some a =>
    rw [oz_s ex]
    split
    · exact h.r (by omega) (Or.inl rfl)
    · cases ey : zix y 2 with
      | none => rw [oz_n ey]; exact h
      | some o =>
        rw [oz_s ey]
        obtain ⟨ho, -⟩ := zix_some ey
        split
        · exact h
        · split
          · exact h
          · rename_i h1 h2
            refine h.r (Int32_cl h1) ?_
            rcases (show o = 0 ∨ o = 1 by omega) with rfl | rfl
            · exact Or.inr (Or.inl rfl)
            · exact Or.inr (Or.inr rfl)
theorem OKD.oz {x : Int32} {n : Nat} {no : Int32 × yD} {f : Nat → Int32 × yD} (h1 : OKD no.2) (h2 : ∀ k, OKD (f k).2) : OKD (oz x n no f).2 := by
  cases e : zix x n with
  | none => rw [oz_n e]; exact h1
  | some k => rw [oz_s e]; exact h2 k
theorem OKD.ite {p : Prop} [Decidable p] {a b : Int32 × yD} (h1 : OKD a.2) (h2 : OKD b.2) : OKD (if p then a else b).2 := by
  split
  · exact h1
  · exact h2
theorem OKD_feed {D : yD} {x a b c e f : Int32} (h : OKD D) : OKD (sFeed D x a b c e f).2 :=
  OKD.oz h (fun k => OKD.ite h (OKD.oz h (fun a => OKD.oz h (fun b => OKD.oz h (fun c => OKD.oz h (fun e => OKD.oz h (fun f => OKD.ite h h)))))))
/-- another text changes no replay -/
theorem yag_T {T : Nat → yT} {c : Nat} {X : yT} {W : yW} {l : yL} (hO : OKW T c W) (hl : yle T c W l) : yle (yu T c X) (c + 1) W l ∧ yag (yu T c X) W l = yag T W l := by
  obtain ⟨e, s, i⟩ := l
  have hx : s < 3 → gt (W.2 s) ≠ 0 → yu T c X (gx (W.2 s)) = T (gx (W.2 s)) := fun h1 h0 => yu_n (by have := (hO.2.2 s h1).2.1 h0; omega)
  rcases hl with ⟨rfl, h1, h2⟩ | ⟨rfl, h1, h2, h3, h4, h5⟩ | ⟨rfl, h1, h2, h3⟩ | ⟨rfl, h1, h2, h3, h5⟩ | ⟨rfl, h1, h2, h3⟩ | ⟨rfl, h1, h2, h3⟩ | ⟨rfl, h1, h2⟩
  · exact ⟨Or.inl ⟨rfl, h1, Nat.lt_succ_of_lt h2⟩, rfl⟩
  · have h2 : gt (W.2 s) = 1 := h2
    have q := hx h1 (by omega)
    refine ⟨Or.inr (Or.inl ⟨rfl, h1, h2, ?_, h4, ?_⟩), ?_⟩
    · show i < tn (yu T c X (gx (W.2 s))); rw [q]; exact h3
    · show yob (yu T c X (gx (W.2 s))) W.1 i (tu (yu T c X (gx (W.2 s))) i) 1 = 0; rw [q]; exact h5
    · show (ych (yu T c X (gx (W.2 s))) W.1 i (tu (yu T c X (gx (W.2 s))) i) 1, yu W.2 s (yDn (W.2 s) i (tu (yu T c X (gx (W.2 s))) i))) = _
      rw [q]; rfl
  · have h2 : gt (W.2 s) = 1 := h2
    have q := hx h1 (by omega)
    refine ⟨Or.inr (Or.inr (Or.inl ⟨rfl, h1, h2, ?_⟩)), ?_⟩
    · show i < tn (yu T c X (gx (W.2 s))); rw [q]; exact h3
    · show (W.1, yu W.2 s (yfS (W.2 s) i 0 (ypa (yu T c X (gx (W.2 s))) (gm (W.2 s) 1)))) = _
      rw [q]; rfl
  · have q := hx h1 h2
    refine ⟨Or.inr (Or.inr (Or.inr (Or.inl ⟨rfl, h1, h2, h3, ?_⟩))), ?_⟩
    · show yob (yu T c X (gx (W.2 s))) W.1 i (gb (W.2 s) i) (-1) = 0; rw [q]; exact h5
    · show (ych (yu T c X (gx (W.2 s))) W.1 i (gb (W.2 s) i) (-1), yu W.2 s (goS (gdS (W.2 s) (yu (gd (W.2 s)) i 2)) (go (W.2 s)).tail)) = _
      rw [q]; rfl
  · exact ⟨Or.inr (Or.inr (Or.inr (Or.inr (Or.inl ⟨rfl, h1, h2, h3⟩)))), rfl⟩
  · exact ⟨Or.inr (Or.inr (Or.inr (Or.inr (Or.inr (Or.inl ⟨rfl, h1, h2, h3⟩))))), rfl⟩
  · exact ⟨Or.inr (Or.inr (Or.inr (Or.inr (Or.inr (Or.inr ⟨rfl, h1, h2⟩))))), rfl⟩
theorem yre_T {T : Nat → yT} {c : Nat} {X : yT} {L : List yL} (hok : c ≤ 6 ∧ ∀ i, i < c → OKT (T i)) (hv : yva T c L) : ∀ k, k ≤ L.length → yre (yu T c X) (L.take k) = yre T (L.take k)
  | 0, _ => rfl
  | k + 1, h => by
    rw [yre_S (by omega), yre_S (by omega), yre_T hok hv k (by omega)]
    exact (yag_T (yre_k hok hv k (by omega)) (hv k (by omega))).2
theorem OKD_text {D : yD} (h : OKD D) (hb : ∀ i, i < dn D → db D i < 256) : OKD (sText D).2 := by
  unfold sText
  split
  · exact h
  · rename_i hc
    have hT := pTx_v hb
    cases e : pTx (dn D) (db D) with
    | error f => exact h
    | ok X =>
      rw [e] at hT
      have hv := h.2.2.1
      have hok := h.1.1
      refine ⟨OKW_T h.1 hT (by omega), h.2.1, fun k hk => ?_, ?_, h.2.2.2.2⟩
      · have hk : k < (dL D).length := hk
        show yle (yu (dT D) (dc D) X) (dc D + 1) (yre (yu (dT D) (dc D) X) ((dL D).take k)) ((dL D).getD k (0, 0, 0))
        rw [yre_T hok hv k (by omega)]
        exact (yag_T (yre_k hok hv k (by omega)) (hv k hk)).1
      · show yCo (dW D) (yre (yu (dT D) (dc D) X) (dL D))
        have := yre_T (X := X) hok hv (dL D).length (Nat.le_refl _)
        rw [List.take_length] at this
        rw [this]; exact h.2.2.2.1
