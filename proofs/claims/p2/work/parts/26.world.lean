/-! ===== contracts: worlds ===== -/
/-- a world with what stands around it -/
def CW (M : zM) (lo w u j : Nat) (T : Nat → yT) (c : Nat) (nm : Nat → Nat → Int32) (X : yX) : Prop := SC M ∧ Wd lo w u j ∧ RTx M T c ∧ OKW T c X.1 ∧ RW M u j T nm X
def FW (lo : Nat) : Nat → Nat → Prop := Fb lo (lo + 32)
theorem Wd.sg {lo w u j s : Nat} (h : Wd lo w u j) (hs : s < 3) : zSa (u + 3 + 8 * s) := by unfold zSa; rcases h with h | h <;> omega
theorem Wd.d {lo w u j : Nat} (h : Wd lo w u j) : 62 ≤ lo ∧ lo ≤ j ∧ j + 4 ≤ lo + 32 ∧ lo ≤ u ∧ u + 27 ≤ lo + 32 ∧ (j + 4 ≤ u) ∧ lo + 32 ≤ 126 := by rcases h with h | h <;> omega
theorem SC.wo {M : zM} (h : SC M) {lo w u j : Nat} (hw : Wd lo w u j) : SWo M w u j := by
  obtain ⟨_, _, _, _, _, h1, h2, _⟩ := h
  rcases hw with ⟨-, rfl, rfl, rfl⟩ | ⟨-, rfl, rfl, rfl⟩
  · exact h1
  · exact h2
theorem SC.pu {M : zM} (h : SC M) {lo w u j : Nat} (hw : Wd lo w u j) : SPu M u := by
  obtain ⟨_, _, _, _, _, _, _, h1, h2, _⟩ := h
  rcases hw with ⟨-, rfl, rfl, rfl⟩ | ⟨-, rfl, rfl, rfl⟩
  · exact h1
  · exact h2
theorem RW_sg {M M' : zM} {lo w u j s : Nat} {T : Nat → yT} {nm : Nat → Nat → Int32} {X : yX} {S : yS} (hw : Wd lo w u j) (h : RW M u j T nm X) (hs : s < 3) (hR : RS M' (u + 3 + 8 * s) T (nm s) S) (f : Fr (FS (u + 3 + 8 * s)) M M') : RW M' u j T nm (yss X s S) := by
  have d := hw.d
  refine ⟨RPu_fr h.1 f (fun b k h1 h2 q => by have := q.1; omega), fun r hr => ?_, RJ_fr h.2.2 f (fun b k h1 h2 q => by have := q.1; rcases hw with e | e <;> omega)⟩
  show RS M' (u + 3 + 8 * r) T (nm r) (yu X.1.2 s S r)
  by_cases e : r = s
  · subst e; rw [yu_s]; exact hR
  · rw [yu_n e]; exact RS_fr (h.2.1 r hr) f (fun b k h1 h2 q => by have := q.1; have := q.2; omega)
theorem RW_pu {M M' : zM} {lo w u j : Nat} {T : Nat → yT} {nm : Nat → Nat → Int32} {X : yX} {P : yP} (hw : Wd lo w u j) (h : RW M u j T nm X) (hR : RPu M' u P) (f : Fr (FU u) M M') : RW M' u j T nm (ysp X P) := by
  have d := hw.d
  exact ⟨hR, fun r hr => RS_fr (h.2.1 r hr) f (fun b k h1 h2 q => by have := q.2; omega), RJ_fr h.2.2 f (fun b k h1 h2 q => by have := q.1; rcases hw with e | e <;> omega)⟩
theorem RW_lg {M M' : zM} {lo w u j : Nat} {T : Nat → yT} {nm : Nat → Nat → Int32} {X : yX} {x : yL} (hw : Wd lo w u j) (h : RW M u j T nm X) (hR : RJ M' j (ylg X.2 x)) (f : Fr (Fb j (j + 4)) M M') : RW M' u j T nm (yno X x) := by
  have d := hw.d
  exact ⟨RPu_fr h.1 f (fun b k h1 h2 q => by have := q.2; omega), fun r hr => RS_fr (h.2.1 r hr) f (fun b k h1 h2 q => by have := q.2; omega), hR⟩
theorem CW.up {M M' : zM} {lo w u j : Nat} {T : Nat → yT} {c : Nat} {nm : Nat → Nat → Int32} {X X' : yX} (h : CW M lo w u j T c nm X) (hR : RW M' u j T nm X') (hO : OKW T c X'.1) (f : Fi (FW lo) M M') : CW M' lo w u j T c nm X' :=
  ⟨f.sc h.1 (fun a k ha q => by have := q.1; have := h.2.1.d; omega), h.2.1, RTx_fr h.2.2.1 h.2.2.2.1.1.1 f.fr (fun b k h1 h2 q => by have := q.1; have := h.2.1.d; omega), hO, hR⟩
theorem RS_gp {M M' : zM} {a : Nat} {T : Nat → yT} {nm p : Nat → Int32} {S : yS} (h : RS M a T nm S) (hp : ∀ j, j < 12 → zi M' (a + 4) j = p j) (f : Fi (fun b _ => b = a + 4) M M') : RS M' a T nm (gpS S p) := by
  have g : ∀ b k, b ≠ a + 4 → zi M' b k = zi M b k := fun b k n => f.1 b k n
  obtain ⟨⟨h1, h2, h3⟩, ⟨h4, h5, h6⟩, ⟨h7, h8⟩, h9, ha, hb⟩ := h
  exact ⟨⟨(g _ _ (by omega)).trans h1, (g _ _ (by omega)).trans h2, (f.r _ _).trans h3⟩, ⟨(g _ _ (by omega)).trans h4, (g _ _ (by omega)).trans h5, (g _ _ (by omega)).trans h6⟩,
    ⟨(g _ _ (by omega)).trans h7, fun k hk => (g _ _ (by omega)).trans (h8 k hk)⟩, fun k hk => (g _ _ (by omega)).trans (h9 k hk), fun k hk he => (g _ _ (by omega)).trans (ha k hk he),
    fun k hk => ⟨hp k hk, (g _ _ (by omega)).trans (hb k hk).2.1, (g _ _ (by omega)).trans (hb k hk).2.2.1, (g _ _ (by omega)).trans (hb k hk).2.2.2⟩⟩
theorem RS_gq {M M' : zM} {a : Nat} {T : Nat → yT} {nm p : Nat → Int32} {S : yS} (h : RS M a T nm S) (hp : ∀ j, j < 12 → zi M' (a + 5) j = p j) (f : Fi (fun b _ => b = a + 5) M M') : RS M' a T nm (gqS S p) := by
  have g : ∀ b k, b ≠ a + 5 → zi M' b k = zi M b k := fun b k n => f.1 b k n
  obtain ⟨⟨h1, h2, h3⟩, ⟨h4, h5, h6⟩, ⟨h7, h8⟩, h9, ha, hb⟩ := h
  exact ⟨⟨(g _ _ (by omega)).trans h1, (g _ _ (by omega)).trans h2, (f.r _ _).trans h3⟩, ⟨(g _ _ (by omega)).trans h4, (g _ _ (by omega)).trans h5, (g _ _ (by omega)).trans h6⟩,
    ⟨(g _ _ (by omega)).trans h7, fun k hk => (g _ _ (by omega)).trans (h8 k hk)⟩, fun k hk => (g _ _ (by omega)).trans (h9 k hk), fun k hk he => (g _ _ (by omega)).trans (ha k hk he),
    fun k hk => ⟨(g _ _ (by omega)).trans (hb k hk).1, hp k hk, (g _ _ (by omega)).trans (hb k hk).2.2.1, (g _ _ (by omega)).trans (hb k hk).2.2.2⟩⟩
theorem RS_gt {M : zM} {a v : Nat} {T : Nat → yT} {nm : Nat → Int32} {S : yS} (h : RS M a T nm S) (hg : gt S ≠ 0) (hv : v ≠ 0) : RS (zwi M a 0 (nI v)) a T nm (gtS S v) := by
  have g : ∀ b k, b ≠ a ∨ k ≠ 0 → zi (zwi M a 0 (nI v)) b k = zi M b k := fun b k n => wi_n n
  obtain ⟨⟨h1, h2, h3⟩, ⟨h4, h5, h6⟩, ⟨h7, h8⟩, h9, ha, hb⟩ := h
  have e1 : txt (gtS S v) = txt S := by show (if v = 0 then (-1 : Int32) else nI (gx S)) = if gt S = 0 then -1 else nI (gx S); rw [if_neg hg, if_neg hv]
  have e2 : prg (gtS S v) = prg S := by show (if v = 0 then none else some (20 + 7 * gx S)) = if gt S = 0 then none else some (20 + 7 * gx S); rw [if_neg hg, if_neg hv]
  have e3 : gz T (gtS S v) = gz T S := by show (if v = 0 then 0 else tn (T (gx S))) = if gt S = 0 then 0 else tn (T (gx S)); rw [if_neg hg, if_neg hv]
  refine ⟨⟨wi_s _ _ _ _, ?_, ?_⟩, ⟨(g _ _ (by omega)).trans h4, (g _ _ (by omega)).trans h5, (g _ _ (by omega)).trans h6⟩,
    ⟨(g _ _ (by omega)).trans h7, fun k hk => (g _ _ (by omega)).trans (h8 k hk)⟩, fun k hk => (g _ _ (by omega)).trans (h9 k (by rw [e3] at hk; exact hk)), fun k hk he => (g _ _ (by omega)).trans (ha k hk he),
    fun k hk => ⟨(g _ _ (by omega)).trans (hb k hk).1, (g _ _ (by omega)).trans (hb k hk).2.1, (g _ _ (by omega)).trans (hb k hk).2.2.1, (g _ _ (by omega)).trans (hb k hk).2.2.2⟩⟩
  · rw [e1, g _ _ (by omega)]; exact h2
  · rw [e2]; exact h3
theorem getD_app {l : List yL} {x : yL} {k : Nat} : (l ++ [x]).getD k (0, 0, 0) = if k = l.length then x else l.getD k (0, 0, 0) := by
  by_cases e : k = l.length
  · subst e; rw [if_pos rfl]; simp [List.getD]
  · rw [if_neg e]
    simp only [List.getD]
    by_cases h : k < l.length
    · rw [List.getElem?_append_left h]
    · rw [List.getElem?_eq_none (by rw [List.length_append]; show l.length + 1 ≤ k; omega), List.getElem?_eq_none (by omega)]
theorem c74t {d b i : Nat} {M : zM} {Q : Option Value → zM → Prop} {p : Nat → Int32} (hk : zk M b = (20, 12)) (hi : i < 12) (hp : ∀ j, j < 12 → zi M b j = p j) (h : ypl p i = true) (k : ∀ M', (∀ j, j < 12 → zi M' b j = ysd p i j) → Fi (fun a _ => a = b) M M' → Q (some (.int (nI 1))) M') : qC (d + 1) 74 [.ref b, .int (nI i)] M Q :=
  c74 hk hi hp (by rw [h]; exact k)
theorem c74f {d b i : Nat} {M : zM} {Q : Option Value → zM → Prop} {p : Nat → Int32} (hk : zk M b = (20, 12)) (hi : i < 12) (hp : ∀ j, j < 12 → zi M b j = p j) (h : ypl p i = false) (k : ∀ M', (∀ j, j < 12 → zi M' b j = ysd p i j) → Fi (fun a _ => a = b) M M' → Q (some (.int (nI 0))) M') : qC (d + 1) 74 [.ref b, .int (nI i)] M Q :=
  c74 hk hi hp (by rw [h]; exact k)
theorem d65_0 : decode (zB 65) 0 = .ok (.aload_n 0, 1) := by decide +kernel
theorem d65_1 : decode (zB 65) 1 = .ok (.getfield 25, 3) := by decide +kernel
theorem d65_4 : decode (zB 65) 4 = .ok (.ifCond .lt 55, 3) := by decide +kernel
theorem d65_7 : decode (zB 65) 7 = .ok (.aload_n 0, 1) := by decide +kernel
theorem d65_8 : decode (zB 65) 8 = .ok (.getfield 25, 3) := by decide +kernel
theorem d65_11 : decode (zB 65) 11 = .ok (.aload_n 0, 1) := by decide +kernel
theorem d65_12 : decode (zB 65) 12 = .ok (.getfield 13, 3) := by decide +kernel
theorem d65_15 : decode (zB 65) 15 = .ok (.arraylength, 1) := by decide +kernel
theorem d65_16 : decode (zB 65) 16 = .ok (.if_icmp .ge 43, 3) := by decide +kernel
theorem d65_19 : decode (zB 65) 19 = .ok (.aload_n 0, 1) := by decide +kernel
theorem d65_20 : decode (zB 65) 20 = .ok (.getfield 13, 3) := by decide +kernel
theorem d65_23 : decode (zB 65) 23 = .ok (.aload_n 0, 1) := by decide +kernel
theorem d65_24 : decode (zB 65) 24 = .ok (.getfield 25, 3) := by decide +kernel
theorem d65_27 : decode (zB 65) 27 = .ok (.iload_n 1, 1) := by decide +kernel
theorem d65_28 : decode (zB 65) 28 = .ok (.iastore, 1) := by decide +kernel
theorem d65_29 : decode (zB 65) 29 = .ok (.aload_n 0, 1) := by decide +kernel
theorem d65_30 : decode (zB 65) 30 = .ok (.getfield 19, 3) := by decide +kernel
theorem d65_33 : decode (zB 65) 33 = .ok (.aload_n 0, 1) := by decide +kernel
theorem d65_34 : decode (zB 65) 34 = .ok (.getfield 25, 3) := by decide +kernel
theorem d65_37 : decode (zB 65) 37 = .ok (.iload_n 2, 1) := by decide +kernel
theorem d65_38 : decode (zB 65) 38 = .ok (.iastore, 1) := by decide +kernel
theorem d65_39 : decode (zB 65) 39 = .ok (.aload_n 0, 1) := by decide +kernel
theorem d65_40 : decode (zB 65) 40 = .ok (.getfield 22, 3) := by decide +kernel
theorem d65_43 : decode (zB 65) 43 = .ok (.aload_n 0, 1) := by decide +kernel
theorem d65_44 : decode (zB 65) 44 = .ok (.getfield 25, 3) := by decide +kernel
theorem d65_47 : decode (zB 65) 47 = .ok (.iload_n 3, 1) := by decide +kernel
theorem d65_48 : decode (zB 65) 48 = .ok (.iastore, 1) := by decide +kernel
theorem d65_49 : decode (zB 65) 49 = .ok (.aload_n 0, 1) := by decide +kernel
theorem d65_50 : decode (zB 65) 50 = .ok (.dup, 1) := by decide +kernel
theorem d65_51 : decode (zB 65) 51 = .ok (.getfield 25, 3) := by decide +kernel
theorem d65_54 : decode (zB 65) 54 = .ok (.iconst 1, 1) := by decide +kernel
theorem d65_55 : decode (zB 65) 55 = .ok (.iadd, 1) := by decide +kernel
theorem d65_56 : decode (zB 65) 56 = .ok (.putfield 25, 3) := by decide +kernel
theorem d65_59 : decode (zB 65) 59 = .ok (.return_, 1) := by decide +kernel
theorem c65 {d : Nat} {M : zM} {Q : Option Value → zM → Prop} {j e o v : Nat} {g : Option (List yL)} (hS : SC M) (hJ : RJ M j g) (hl : yln g + 1 ≤ 240) (k : ∀ M', RJ M' j (ylg g (e, o, v)) → Fi (Fb j (j + 4)) M M' → Q none M') : qC (d + 1) 65 [.ref j, .int (nI e), .int (nI o), .int (nI v)] M Q := by
  refine qC_of (by decide) (Nat.le_of_ble_eq_true rfl) ?_
  cases g with
  | none =>
    have hs := hS.2.2.2.2.1
    have hj : j = 95 := hJ
    subst hj
    refine q_aload_n d65_0 rfl ?_
    refine q_getv (c := 0) (f := 3) d65_1 ⟨rfl, by decide⟩ hs.1 rfl ?_
    refine i0_lt 59 d65_4 (by decide) (fun h4 => ?_) (fun h4 => ?_)
    · refine q_ret d65_59 rfl ?_
      exact k _ rfl (Fi.refl _ _)
    · refine q_aload_n d65_7 rfl ?_
      refine q_getv (c := 0) (f := 3) d65_8 ⟨rfl, by decide⟩ hs.1 rfl ?_
      refine q_aload_n d65_11 rfl ?_
      refine q_getr (c := 0) (f := 0) d65_12 ⟨rfl, rfl⟩ hs.1 (hs.2 0 (by decide)).1 ?_
      refine n_alen d65_15 (Or.inl (hs.2 0 (by decide)).2) ?_
      refine ic_ge 59 d65_16 (by decide) (fun h16 => ?_) (fun h16 => (False.elim (h16 (show nI 0 ≤ zi M 95 3 from Int32.not_lt.mp h4))))
      refine q_ret d65_59 rfl ?_
      exact k _ rfl (Fi.refl _ _)
  | some L =>
    have hs := hS.2.2.2.1
    obtain ⟨hj, hJ⟩ := hJ
    subst hj
    have hl : L.length + 1 ≤ 240 := hl
    refine q_aload_n d65_0 rfl ?_
    refine q_getv (c := 0) (f := 3) d65_1 ⟨rfl, by decide⟩ hs.1 hJ.1 ?_
    refine n0_lt 59 d65_4 (by decide) (by omega) (fun q => absurd q (Nat.not_lt_zero _)) (fun _ => ?_)
    refine q_aload_n d65_7 rfl ?_
    refine q_getv (c := 0) (f := 3) d65_8 ⟨rfl, by decide⟩ hs.1 hJ.1 ?_
    refine q_aload_n d65_11 rfl ?_
    refine q_getr (c := 0) (f := 0) d65_12 ⟨rfl, rfl⟩ hs.1 (hs.2 0 (by decide)).1 ?_
    refine n_alen d65_15 (Or.inl (hs.2 0 (by decide)).2) ?_
    refine nc_ge 59 d65_16 (by decide) (by omega) (by omega) (fun h16 => (False.elim (by omega))) (fun h16 => ?_)
    refine q_aload_n d65_19 rfl ?_
    refine q_getr (c := 0) (f := 0) d65_20 ⟨rfl, rfl⟩ hs.1 (hs.2 0 (by decide)).1 ?_
    refine q_aload_n d65_23 rfl ?_
    refine q_getv (c := 0) (f := 3) d65_24 ⟨rfl, by decide⟩ hs.1 hJ.1 ?_
    refine q_iload_n d65_27 rfl ?_
    refine n_iast d65_28 (hs.2 0 (by decide)).2 (by omega) (by decide) ?_
    refine q_aload_n d65_29 rfl ?_
    refine q_getr (c := 0) (f := 1) d65_30 ⟨rfl, rfl⟩ hs.1 (hs.2 1 (by decide)).1 ?_
    refine q_aload_n d65_33 rfl ?_
    refine q_getv (c := 0) (f := 3) d65_34 ⟨rfl, by decide⟩ hs.1 (Eq.trans (by (repeat (first | rw [wi_n (Or.inl (by omega))] | rw [wi_n (Or.inr (by omega))] | rw [wi_s] | rw [wr_i] | rw [cp_n (by omega)]))) hJ.1) ?_
    refine q_iload_n d65_37 rfl ?_
    refine n_iast d65_38 (hs.2 1 (by decide)).2 (by omega) (by decide) ?_
    refine q_aload_n d65_39 rfl ?_
    refine q_getr (c := 0) (f := 2) d65_40 ⟨rfl, rfl⟩ hs.1 (hs.2 2 (by decide)).1 ?_
    refine q_aload_n d65_43 rfl ?_
    refine q_getv (c := 0) (f := 3) d65_44 ⟨rfl, by decide⟩ hs.1 (Eq.trans (by (repeat (first | rw [wi_n (Or.inl (by omega))] | rw [wi_n (Or.inr (by omega))] | rw [wi_s] | rw [wr_i] | rw [cp_n (by omega)]))) hJ.1) ?_
    refine q_iload_n d65_47 rfl ?_
    refine n_iast d65_48 (hs.2 2 (by decide)).2 (by omega) (by decide) ?_
    refine q_aload_n d65_49 rfl ?_
    refine q_dup d65_50 rfl ?_
    refine q_getv (c := 0) (f := 3) d65_51 ⟨rfl, by decide⟩ hs.1 (Eq.trans (by (repeat (first | rw [wi_n (Or.inl (by omega))] | rw [wi_n (Or.inr (by omega))] | rw [wi_s] | rw [wr_i] | rw [cp_n (by omega)]))) hJ.1) ?_
    refine q_iconstN (z := 1) d65_54 ?_
    refine n_iadd d65_55 ?_
    refine q_puti (c := 0) (f := 3) d65_56 ⟨rfl, rfl, by decide⟩ hs.1 ?_
    refine q_ret d65_59 rfl ?_
    refine k _ ⟨rfl, ?_, fun i hi => ?_⟩ (((((Fi.refl _ _).wi ⟨by omega, by omega⟩).wi ⟨by omega, by omega⟩).wi ⟨by omega, by omega⟩).wi ⟨by omega, by omega⟩)
    · rw [List.length_append]; exact wi_s _ _ _ _
    · rw [List.length_append] at hi
      have hi : i < L.length + 1 := hi
      rw [getD_app]
      by_cases q : i = L.length
      · subst q; rw [if_pos rfl]
        refine ⟨?_, ?_, ?_⟩
        · (repeat (first | rw [wi_n (Or.inl (by omega))] | rw [wi_n (Or.inr (by omega))] | rw [wi_s] | rw [wr_i] | rw [cp_n (by omega)] | rw [cp_0 (by omega)]))
        · (repeat (first | rw [wi_n (Or.inl (by omega))] | rw [wi_n (Or.inr (by omega))] | rw [wi_s] | rw [wr_i] | rw [cp_n (by omega)] | rw [cp_0 (by omega)]))
        · (repeat (first | rw [wi_n (Or.inl (by omega))] | rw [wi_n (Or.inr (by omega))] | rw [wi_s] | rw [wr_i] | rw [cp_n (by omega)] | rw [cp_0 (by omega)]))
      · rw [if_neg q]
        obtain ⟨a1, a2, a3⟩ := hJ.2 i (by omega)
        refine ⟨?_, ?_, ?_⟩
        · (repeat (first | rw [wi_n (Or.inl (by omega))] | rw [wi_n (Or.inr (by omega))] | rw [wi_s] | rw [wr_i] | rw [cp_n (by omega)] | rw [cp_0 (by omega)])); exact a1
        · (repeat (first | rw [wi_n (Or.inl (by omega))] | rw [wi_n (Or.inr (by omega))] | rw [wi_s] | rw [wr_i] | rw [cp_n (by omega)] | rw [cp_0 (by omega)])); exact a2
        · (repeat (first | rw [wi_n (Or.inl (by omega))] | rw [wi_n (Or.inr (by omega))] | rw [wi_s] | rw [wr_i] | rw [cp_n (by omega)] | rw [cp_0 (by omega)])); exact a3
theorem d79_0 : decode (zB 79) 0 = .ok (.aload_n 2, 1) := by decide +kernel
theorem d79_1 : decode (zB 79) 1 = .ok (.iload_n 3, 1) := by decide +kernel
theorem d79_2 : decode (zB 79) 2 = .ok (.putfield 65, 3) := by decide +kernel
theorem d79_5 : decode (zB 79) 5 = .ok (.aload_n 0, 1) := by decide +kernel
theorem d79_6 : decode (zB 79) 6 = .ok (.getfield 28, 3) := by decide +kernel
theorem d79_9 : decode (zB 79) 9 = .ok (.iconst 5, 1) := by decide +kernel
theorem d79_10 : decode (zB 79) 10 = .ok (.iload_n 1, 1) := by decide +kernel
theorem d79_11 : decode (zB 79) 11 = .ok (.iload_n 3, 1) := by decide +kernel
theorem d79_12 : decode (zB 79) 12 = .ok (.invokevirtual 129, 3) := by decide +kernel
theorem d79_15 : decode (zB 79) 15 = .ok (.return_, 1) := by decide +kernel
theorem c79 {d : Nat} {M : zM} {Q : Option Value → zM → Prop} {lo w u j c : Nat} {T : Nat → yT} {nm : Nat → Nat → Int32} {X : yX} {s : Nat} {v : Nat} (hC : CW M lo w u j T c nm X) (hs3 : s < 3) (hg : gt (yxs X s) ≠ 0) (hv : v ≠ 0) (h5 : v ≤ 5) (hl : yln X.2 + 1 ≤ 240) (k : ∀ M', CW M' lo w u j T c nm (yen X s v) → Fi (FW lo) M M' → Q none M') : qC (d + 2) 79 [.ref w, .int (nI s), .ref (u + 3 + 8 * s), .int (nI v)] M Q := by
  have hC0 := hC
  obtain ⟨hS, hw, hT, hO, hR⟩ := hC
  have hwo := hS.wo hw
  have hsa := hw.sg hs3
  have hs := hS.sg hsa
  have hd := hw.d
  have hjk : zk M j = (0, 0) := by
    obtain ⟨_, _, _, h1, h2, _⟩ := hS
    rcases hw with ⟨-, -, -, rfl⟩ | ⟨-, -, -, rfl⟩
    · exact h1.1
    · exact h2.1
  refine qC_of (by decide) (Nat.le_of_ble_eq_true rfl) ?_
  refine q_aload_n d79_0 rfl ?_
  refine q_iload_n d79_1 rfl ?_
  refine q_puti (c := 5) (f := 0) d79_2 ⟨rfl, rfl, by decide⟩ hs.1 ?_
  refine q_aload_n d79_5 rfl ?_
  refine q_getr (c := 6) (f := 1) d79_6 ⟨rfl, rfl⟩ hwo.1 hwo.2.2.1 ?_
  refine q_iconstN (z := 5) d79_9 ?_
  refine q_iload_n d79_10 rfl ?_
  refine q_iload_n d79_11 rfl ?_
  have hJ1 : RJ (zwi M (u + 3 + 8 * s) 0 (nI v)) j X.2 := RJ_fr hR.2.2 ((Fi.refl (FS (u + 3 + 8 * s)) M).wi FS_0).fr (fun b q h1 h2 e => by have := e.1; rcases hw with h | h <;> omega)
  refine q_v3 d79_12 rfl rfl hjk (Nat.le_of_ble_eq_true rfl) (c65 (SC_wi hS (by omega)) hJ1 hl (fun M2 hJ2 f2 => ?_))
  refine q_ret d79_15 rfl ?_
  have f1 : Fi (FS (u + 3 + 8 * s)) M (zwi M (u + 3 + 8 * s) 0 (nI v)) := (Fi.refl _ _).wi FS_0
  have hR1 := RW_sg hw hR hs3 (RS_gt (hR.2.1 s hs3) hg hv) f1.fr
  exact k _ (hC0.up (RW_lg hw hR1 hJ2 f2.fr) (yen_ok hO hs3 hg hv h5) ((f1.mono (Fb_m (by omega) (by omega))).trans (f2.mono (Fb_m (by omega) (by omega))))) ((f1.mono (Fb_m (by omega) (by omega))).trans (f2.mono (Fb_m (by omega) (by omega))))
