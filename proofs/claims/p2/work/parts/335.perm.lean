/-! ===== the order of the locals' list does not matter ===== -/
def zks (l : List (Nat × Value)) : List Nat := l.map (fun q => q.1)
theorem zld_cons (q : Nat × Value) (l : List (Nat × Value)) (j : Nat) : zld (q :: l) j = if q.1 = j then some q.2 else zld l j := by
  unfold zld
  rw [List.find?_cons]
  by_cases h : q.1 = j
  · rw [if_pos h, show (q.1 == j) = true from beq_iff_eq.mpr h]; rfl
  · rw [if_neg h, show (q.1 == j) = false from beq_eq_false_iff_ne.mpr h]
theorem zld_not {l : List (Nat × Value)} {j : Nat} (h : j ∉ zks l) : zld l j = none := by
  induction l with
  | nil => rfl
  | cons q l ih =>
    have h1 : j ≠ q.1 ∧ j ∉ zks l := by
      have : j ∉ q.1 :: zks l := h
      rw [List.mem_cons] at this
      exact ⟨fun e => this (Or.inl e), fun e => this (Or.inr e)⟩
    rw [zld_cons, if_neg (fun e => h1.1 e.symm)]; exact ih h1.2
def zkeep (i : Nat) (q : Nat × Value) : Bool := !(q.1 == i) && !(q.1 + 1 == i && q.2.category == 2)
theorem zld_flt {l : List (Nat × Value)} (hn : (zks l).Nodup) (i j : Nat) : zld (l.filter (zkeep i)) j = match zld l j with
    | none => none
    | some w => if zkeep i (j, w) then some w else none := by
  induction l with
  | nil => rfl
  | cons q l ih =>
    obtain ⟨h1, h2⟩ := List.nodup_cons.mp (show (q.1 :: zks l).Nodup from hn)
    rw [List.filter_cons, zld_cons q l]
    by_cases e : q.1 = j
    · subst e
      rw [if_pos rfl]
      have h3 : zld l q.1 = none := zld_not h1
      by_cases hk : zkeep i q = true
      · rw [if_pos hk, zld_cons, if_pos rfl]
        show some q.2 = if zkeep i (q.1, q.2) then some q.2 else none
        rw [show zkeep i (q.1, q.2) = true from hk]; rfl
      · rw [if_neg hk, ih h2, h3]
        show none = if zkeep i (q.1, q.2) then some q.2 else none
        rw [show zkeep i (q.1, q.2) = false from by simpa using hk]; rfl
    · rw [if_neg e]
      by_cases hk : zkeep i q = true
      · rw [if_pos hk, zld_cons, if_neg e]; exact ih h2
      · rw [if_neg hk]; exact ih h2
theorem zks_flt {l : List (Nat × Value)} (hn : (zks l).Nodup) (p : Nat × Value → Bool) : (zks (l.filter p)).Nodup ∧ ∀ j, j ∈ zks (l.filter p) → j ∈ zks l := by
  induction l with
  | nil => exact ⟨List.nodup_nil, fun _ h => h⟩
  | cons q l ih =>
    obtain ⟨h1, h2⟩ := List.nodup_cons.mp (show (q.1 :: zks l).Nodup from hn)
    obtain ⟨a, b⟩ := ih h2
    rw [List.filter_cons]
    split
    · exact ⟨List.nodup_cons.mpr ⟨fun h => h1 (b _ h), a⟩, fun j h => by
        rcases List.mem_cons.mp (show j ∈ q.1 :: zks (l.filter p) from h) with e | e
        · exact List.mem_cons.mpr (Or.inl e)
        · exact List.mem_cons.mpr (Or.inr (b _ e))⟩
    · exact ⟨a, fun j h => List.mem_cons.mpr (Or.inr (b _ h))⟩
theorem zst_eq (l : List (Nat × Value)) (i : Nat) (v : Value) : zst l i v = (i, v) :: l.filter (zkeep i) := rfl
/-- two lists of locals that say the same -/
def zSm (l l' : List (Nat × Value)) : Prop := (zks l).Nodup ∧ (zks l').Nodup ∧ ∀ j, zld l j = zld l' j
theorem zSm_st {l l' : List (Nat × Value)} (h : zSm l l') (i : Nat) (v : Value) : zSm (zst l i v) (zst l' i v) := by
  have nd : ∀ l : List (Nat × Value), (zks l).Nodup → (zks (zst l i v)).Nodup := fun l hl => by
    rw [zst_eq]
    refine List.nodup_cons.mpr ⟨fun hm => ?_, (zks_flt hl _).1⟩
    obtain ⟨q, hq, e⟩ := List.mem_map.mp hm
    have := (List.mem_filter.mp hq).2
    unfold zkeep at this
    rw [show (q.1 == i) = true from beq_iff_eq.mpr e] at this
    exact absurd this (by simp)
  refine ⟨nd l h.1, nd l' h.2.1, fun j => ?_⟩
  rw [zst_eq, zst_eq, zld_cons, zld_cons, zld_flt h.1, zld_flt h.2.1, h.2.2 j]
theorem zLoop_sm {R : zRT} {m : Nat} {v : Option Value} {M' : zM} : ∀ (f pc : Nat) (l l' : List (Nat × Value)) (st : List Value) (M : zM), zSm l l' → zLoop R m v M' f pc l st M → zLoop R m v M' f pc l' st M := by
  intro f
  induction f with
  | zero => intro _ _ _ _ _ _ h; exact h.elim
  | succ f ih =>
    intro pc l l' st M hs h
    obtain ⟨i, n, hd, h⟩ := h
    refine ⟨i, n, hd, ?_⟩
    have ih' : ∀ pc st M, zLoop R m v M' f pc l st M → zLoop R m v M' f pc l' st M := fun pc st M h => ih pc l l' st M hs h
    have hI : ∀ j d, zldI (zLoop R m v M' f) pc l st M j d → zldI (zLoop R m v M' f) pc l' st M j d := fun j d ⟨x, h1, h2⟩ => ⟨x, (hs.2.2 j).symm.trans h1, ih' _ _ _ h2⟩
    have hA : ∀ j d, zldA (zLoop R m v M' f) pc l st M j d → zldA (zLoop R m v M' f) pc l' st M j d := fun j d ⟨x, h1, h2⟩ => ⟨x, (hs.2.2 j).symm.trans h1, ih' _ _ _ h2⟩
    have hSI : ∀ j d, zstI m (zLoop R m v M' f) pc l st M j d → zstI m (zLoop R m v M' f) pc l' st M j d := fun j d ⟨h0, x, s, h1, h2⟩ => ⟨h0, x, s, h1, ih _ _ _ _ _ (zSm_st hs _ _) h2⟩
    have hSA : ∀ j d, zstA m (zLoop R m v M' f) pc l st M j d → zstA m (zLoop R m v M' f) pc l' st M j d := fun j d ⟨h0, x, s, h1, h2⟩ => ⟨h0, x, s, h1, ih _ _ _ _ _ (zSm_st hs _ _) h2⟩
    have hcs : ∀ y as rest pc, zCallS R (zLoop R m v M' f) pc l M y as rest → zCallS R (zLoop R m v M' f) pc l' M y as rest := by
      intro y as rest pc ⟨h8, w, M1, h1, h2⟩
      exact ⟨h8, w, M1, h1, ih' _ _ _ h2⟩
    have hbr : ∀ (p A B A' B' : Prop), (A → A') → (B → B') → zbr p A B → zbr p A' B' := fun p A B A' B' hA hB h => ⟨fun q => hA (h.1 q), fun q => hB (h.2 q)⟩
    cases i with
    | iload_n j => exact ⟨h.1, hI _ _ h.2⟩
    | iload j => exact ⟨h.1, hI _ _ h.2⟩
    | aload_n j => exact ⟨h.1, hA _ _ h.2⟩
    | aload j => exact ⟨h.1, hA _ _ h.2⟩
    | istore_n j => exact ⟨h.1, hSI _ _ h.2⟩
    | istore j => exact ⟨h.1, hSI _ _ h.2⟩
    | astore_n j => exact ⟨h.1, hSA _ _ h.2⟩
    | astore j => exact ⟨h.1, hSA _ _ h.2⟩
    | iinc j z => obtain ⟨e1, e2, x, h1, h2⟩ := h; exact ⟨e1, e2, x, (hs.2.2 j).symm.trans h1, ih _ _ _ _ _ (zSm_st hs _ _) h2⟩
    | ldc ix =>
      obtain ⟨e, h⟩ := h
      rcases h with ⟨x, h1, h⟩ | ⟨x, h1, h⟩
      · exact ⟨e, Or.inl ⟨x, h1, ih' _ _ _ h⟩⟩
      · exact ⟨e, Or.inr ⟨x, h1, ih' _ _ _ h⟩⟩
    | ifCond c off => obtain ⟨e, x, st', tgt, e1, e2, h⟩ := h; exact ⟨e, x, st', tgt, e1, e2, hbr _ _ _ _ _ (ih' _ _ _) (ih' _ _ _) h⟩
    | if_icmp c off => obtain ⟨e, x, y, st', tgt, e1, e2, h⟩ := h; exact ⟨e, x, y, st', tgt, e1, e2, hbr _ _ _ _ _ (ih' _ _ _) (ih' _ _ _) h⟩
    | ifnull off => obtain ⟨e, r, st', tgt, e1, e2, h⟩ := h; exact ⟨e, r, st', tgt, e1, e2, hbr _ _ _ _ _ (ih' _ _ _) (ih' _ _ _) h⟩
    | ifnonnull off => obtain ⟨e, r, st', tgt, e1, e2, h⟩ := h; exact ⟨e, r, st', tgt, e1, e2, hbr _ _ _ _ _ (ih' _ _ _) (ih' _ _ _) h⟩
    | tableswitch d lo hi offs =>
      obtain ⟨x, st', e, h⟩ := h
      exact ⟨x, st', e, hbr _ _ _ _ _ (fun ⟨t, e, h⟩ => ⟨t, e, ih' _ _ _ h⟩) (fun ⟨o, t, e1, e2, h⟩ => ⟨o, t, e1, e2, ih' _ _ _ h⟩) h⟩
    | putfield ix =>
      obtain ⟨e, w, a, st', c, f', e1, e2, e3, e4, h⟩ := h
      refine ⟨e, w, a, st', c, f', e1, e2, e3, e4, ?_⟩
      rcases h with ⟨e5, x, e6, h⟩ | ⟨e5, x, e6, e7, h⟩ | ⟨e5, x, e6, h⟩
      · exact Or.inl ⟨e5, x, e6, ih' _ _ _ h⟩
      · exact Or.inr (Or.inl ⟨e5, x, e6, e7, ih' _ _ _ h⟩)
      · exact Or.inr (Or.inr ⟨e5, x, e6, ih' _ _ _ h⟩)
    | newarray t =>
      obtain ⟨e, z, st', N, e1, e2, e3, e4, h⟩ := h
      refine ⟨e, z, st', N, e1, e2, e3, e4, ?_⟩
      rcases h with ⟨e5, h⟩ | ⟨e5, h⟩
      · exact Or.inl ⟨e5, ih' _ _ _ h⟩
      · exact Or.inr ⟨e5, ih' _ _ _ h⟩
    | multianewarray ix d =>
      obtain ⟨e, z, j, st', N, J, e1, e2, e3, e4, e5, e6, h⟩ := h
      refine ⟨e, z, j, st', N, J, e1, e2, e3, e4, e5, e6, ?_⟩
      rcases h with ⟨g1, g2, g3, h⟩ | ⟨g1, g2, y, K, g3, g4, g5, g6, h⟩
      · exact Or.inl ⟨g1, g2, g3, ih' _ _ _ h⟩
      · exact Or.inr ⟨g1, g2, y, K, g3, g4, g5, g6, ih' _ _ _ h⟩
    | invokevirtual ix =>
      obtain ⟨e, kd, y, b, as, rest, e1, e2, h⟩ := h
      refine ⟨e, kd, y, b, as, rest, e1, e2, ?_⟩
      rcases h with ⟨g1, g2, g3, h⟩ | ⟨g1, h⟩
      · exact Or.inl ⟨g1, g2, g3, hcs _ _ _ _ h⟩
      · exact Or.inr ⟨g1, hcs _ _ _ _ h⟩
    | invokestatic ix =>
      obtain ⟨e, kd, y, e1, h⟩ := h
      refine ⟨e, kd, y, e1, ?_⟩
      rcases h with ⟨g1, as, rest, g2, g3, h⟩ | ⟨g1, N, dp, sp, a, a0, rest, n0, n1, g2, g3, g4, g5, g6, g7, g8, g9, ga, h⟩ | ⟨g1, a, b, rest, g2, g3, h⟩ | ⟨g1, a, b, rest, g2, g3, h⟩
      · exact Or.inl ⟨g1, as, rest, g2, g3, hcs _ _ _ _ h⟩
      · exact Or.inr (Or.inl ⟨g1, N, dp, sp, a, a0, rest, n0, n1, g2, g3, g4, g5, g6, g7, g8, g9, ga, ih' _ _ _ h⟩)
      · exact Or.inr (Or.inr (Or.inl ⟨g1, a, b, rest, g2, g3, ih' _ _ _ h⟩))
      · exact Or.inr (Or.inr (Or.inr ⟨g1, a, b, rest, g2, g3, ih' _ _ _ h⟩))
    | invokespecial ix =>
      obtain ⟨e, kd, y, b, as, rest, e1, e2, h⟩ := h
      refine ⟨e, kd, y, b, as, rest, e1, e2, ?_⟩
      rcases h with ⟨g1, g2, g3, h⟩ | ⟨g1, g2, g3, h⟩
      · exact Or.inl ⟨g1, g2, g3, ih' _ _ _ h⟩
      · exact Or.inr ⟨g1, g2, g3, hcs _ _ _ _ h⟩
    | ireturn => exact h
    | lreturn => exact h
    | areturn => exact h
    | return_ => exact h
    | _ => first
      | exact h.elim
      | (obtain ⟨e1, h⟩ := h; exact ⟨e1, ih' _ _ _ h⟩)
      | (obtain ⟨e1, e2, h⟩ := h; exact ⟨e1, e2, ih' _ _ _ h⟩)
      | (obtain ⟨e1, e2, e3, h⟩ := h; exact ⟨e1, e2, e3, ih' _ _ _ h⟩)
      | (obtain ⟨e1, e2, e3, e4, h⟩ := h; exact ⟨e1, e2, e3, e4, ih' _ _ _ h⟩)
      | (obtain ⟨e1, e2, e3, e4, e5, h⟩ := h; exact ⟨e1, e2, e3, e4, e5, ih' _ _ _ h⟩)
      | (obtain ⟨e1, e2, e3, e4, e5, e6, h⟩ := h; exact ⟨e1, e2, e3, e4, e5, e6, ih' _ _ _ h⟩)
      | (obtain ⟨e1, e2, e3, e4, e5, e6, e7, h⟩ := h; exact ⟨e1, e2, e3, e4, e5, e6, e7, ih' _ _ _ h⟩)
      | (obtain ⟨e1, e2, e3, e4, e5, e6, e7, e8, h⟩ := h; exact ⟨e1, e2, e3, e4, e5, e6, e7, e8, ih' _ _ _ h⟩)
      | (obtain ⟨e1, e2, e3, e4, e5, e6, e7, e8, e9, h⟩ := h; exact ⟨e1, e2, e3, e4, e5, e6, e7, e8, e9, ih' _ _ _ h⟩)
      | (obtain ⟨e1, e2, e3, e4, e5, e6, e7, e8, e9, ea, h⟩ := h; exact ⟨e1, e2, e3, e4, e5, e6, e7, e8, e9, ea, ih' _ _ _ h⟩)
      | (obtain ⟨e1, e2, e3, e4, e5, e6, e7, e8, e9, ea, eb, h⟩ := h; exact ⟨e1, e2, e3, e4, e5, e6, e7, e8, e9, ea, eb, ih' _ _ _ h⟩)
      | (obtain ⟨e1, e2, e3, e4, e5, e6, e7, e8, e9, ea, eb, ec, h⟩ := h; exact ⟨e1, e2, e3, e4, e5, e6, e7, e8, e9, ea, eb, ec, ih' _ _ _ h⟩)
/-- sorted by their places -/
def zins (q : Nat × Value) : List (Nat × Value) → List (Nat × Value)
  | [] => [q]
  | r :: t => if Nat.ble q.1 r.1 then q :: r :: t else r :: zins q t
def znrm (l : List (Nat × Value)) : List (Nat × Value) := l.foldr zins []
def zkd (l : List (Nat × Value)) : Bool := match l with
  | [] => true
  | q :: t => !((zks t).contains q.1) && zkd t
theorem zkd_nd : ∀ {l : List (Nat × Value)}, zkd l = true → (zks l).Nodup
  | [], _ => List.nodup_nil
  | q :: t, h => by
    unfold zkd at h
    simp only [Bool.and_eq_true, Bool.not_eq_true', List.contains_eq_mem, decide_eq_false_iff_not] at h
    exact List.nodup_cons.mpr ⟨h.1, zkd_nd h.2⟩
theorem zins_ks (q : Nat × Value) : ∀ (l : List (Nat × Value)) (j : Nat), j ∈ zks (zins q l) ↔ j = q.1 ∨ j ∈ zks l
  | [], j => by show j ∈ [q.1] ↔ j = q.1 ∨ j ∈ []; simp
  | r :: t, j => by
    rw [zins]
    split
    · show j ∈ q.1 :: r.1 :: zks t ↔ j = q.1 ∨ j ∈ r.1 :: zks t; rw [List.mem_cons]
    · show j ∈ r.1 :: zks (zins q t) ↔ j = q.1 ∨ j ∈ r.1 :: zks t
      rw [List.mem_cons, zins_ks q t j, List.mem_cons]
      constructor
      · rintro (e | e | e)
        · exact Or.inr (Or.inl e)
        · exact Or.inl e
        · exact Or.inr (Or.inr e)
      · rintro (e | e | e)
        · exact Or.inr (Or.inl e)
        · exact Or.inl e
        · exact Or.inr (Or.inr e)
theorem zins_ok {q : Nat × Value} : ∀ {l : List (Nat × Value)}, q.1 ∉ zks l → (zks l).Nodup → (zks (zins q l)).Nodup ∧ ∀ j, zld (zins q l) j = if q.1 = j then some q.2 else zld l j
  | [], _, _ => ⟨List.nodup_cons.mpr ⟨List.not_mem_nil, List.nodup_nil⟩, fun j => zld_cons _ _ _⟩
  | r :: t, hq, hn => by
    have hq2 : q.1 ≠ r.1 ∧ q.1 ∉ zks t := by
      have : q.1 ∉ r.1 :: zks t := hq
      rw [List.mem_cons] at this
      exact ⟨fun e => this (Or.inl e), fun e => this (Or.inr e)⟩
    obtain ⟨h1, h2⟩ := List.nodup_cons.mp (show (r.1 :: zks t).Nodup from hn)
    rw [zins]
    split
    · exact ⟨List.nodup_cons.mpr ⟨hq, hn⟩, fun j => zld_cons _ _ _⟩
    · obtain ⟨a, b⟩ := zins_ok hq2.2 h2
      refine ⟨List.nodup_cons.mpr ⟨fun hm => ?_, a⟩, fun j => ?_⟩
      · rcases (zins_ks q t r.1).mp hm with e | e
        · exact hq2.1 e.symm
        · exact h1 e
      · rw [zld_cons, b j, zld_cons]
        by_cases e : r.1 = j
        · rw [if_pos e, if_pos e, if_neg (fun e2 => hq2.1 (e2.trans e.symm))]
        · rw [if_neg e, if_neg e]
theorem znrm_ok : ∀ {l : List (Nat × Value)}, (zks l).Nodup → (zks (znrm l)).Nodup ∧ (∀ j, j ∈ zks (znrm l) ↔ j ∈ zks l) ∧ ∀ j, zld (znrm l) j = zld l j
  | [], h => ⟨h, fun _ => Iff.rfl, fun _ => rfl⟩
  | q :: t, h => by
    obtain ⟨h1, h2⟩ := List.nodup_cons.mp (show (q.1 :: zks t).Nodup from h)
    obtain ⟨a, b, c⟩ := znrm_ok h2
    obtain ⟨e, f⟩ := zins_ok (q := q) (l := znrm t) (fun hm => h1 ((b _).mp hm)) a
    exact ⟨e, fun j => by
      show j ∈ zks (zins q (znrm t)) ↔ j ∈ q.1 :: zks t
      rw [zins_ks, List.mem_cons, b j], fun j => by
      show zld (zins q (znrm t)) j = _
      rw [f j, zld_cons, c j]⟩
theorem qW_srt {R : zRT} {m : Nat} {Q : Option Value → zM → Prop} {pc : Nat} {l l' : List (Nat × Value)} {st : List Value} {M : zM} (h1 : zkd l = true) (h2 : znrm l = l') (k : qW R m Q pc l' st M) : qW R m Q pc l st M := by
  subst h2
  obtain ⟨f, v, M', h, hq⟩ := k
  obtain ⟨a, -, c⟩ := znrm_ok (zkd_nd h1)
  exact ⟨f, v, M', zLoop_sm f pc _ _ st M ⟨a, zkd_nd h1, c⟩ h, hq⟩
