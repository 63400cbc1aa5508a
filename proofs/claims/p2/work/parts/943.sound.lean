/-! ===== each instruction: cells, calls, ends ===== -/
section SY
variable {xs : Nat → Int32} {P : Option Value → zM → Prop} {B : zM} {u : syU} {d m pc : Nat} {bx : syB} {K : List syQ} {l : syL} {st : List syV} {rest : List syF} {M : syM} {c' : syC}
theorem sykq_ok {p : Nat × Nat} {t n : Nat} (h : sykq p t n = true) : p = (t, n) := by
  unfold sykq at h
  rw [Bool.and_eq_true] at h
  have h1 := Nat.eq_of_beq_eq_true h.1
  have h2 := Nat.eq_of_beq_eq_true h.2
  cases p; subst h1; subst h2; rfl
theorem syzk {a t n : Nat} (hu : syUok xs u B) (h : syGK u M.2.2.1 a = (t, n)) (ht : t ≠ 9999) : zk (syA B xs M) a = (t, n) := by
  rw [← h]
  exact syGK_ok hu.2.2.1 _ _ (by rw [h]; exact ht)
theorem syzk1 {a : Nat} (hu : syUok xs u B) (ht : (syGK u M.2.2.1 a).1 ≠ 9999) : zk (syA B xs M) a = ((syGK u M.2.2.1 a).1, (syGK u M.2.2.1 a).2) := syGK_ok hu.2.2.1 _ _ ht
theorem syvI_inl {v : syV} {k : syI → syR} {c : syC} (h : syvI v k = .inl c) : ∃ w, v = syvi w ∧ k w = .inl c := by
  rcases v with z | j | r | q
  · exact ⟨.inl z, rfl, h⟩
  · exact ⟨.inr j, rfl, h⟩
  · exact (syno_inl h).elim
  · exact (syno_inl h).elim
theorem syvi_ok (w : syI) : syv xs (syvi w) = .int (syi xs w) := by cases w <;> rfl
theorem sykind {r : List Nat} {t : Nat} (ht : t = 0 ∨ t = 2 ∨ t = 1) (h : t ≠ 1) : t = 0 ∨ t = 2 := by omega
theorem sy_getf_ok {r : List Nat} {ix : Nat} (hd : decode (zB m) pc = .ok (.getfield ix, 3)) (hf : zFld (zO m) ix = some (r.getD 0 0, r.getD 1 0)) (ht : zF (r.getD 0 0) (r.getD 1 0) = r.getD 2 0) (hc9 : r.getD 0 0 ≠ 9999) (hu : syUok xs u B) (hb : syBok xs bx) (h : sy_getf u r (d, bx, (m, pc, K, l, st), rest, M) = .inl c') (hG : syG xs P B c') (hK : syKok m (pc + 3) K) (hr : syRok rest) :
    syT xs P B d m pc l st rest M := by
  rcases st with _ | ⟨o, st⟩
  · exact (syno_inl h).elim
  · obtain ⟨a, rfl, h1⟩ := syref_inl h
    obtain ⟨h2, h3⟩ := syok_inl h1
    have hk := syzk (M := M) (B := B) (xs := xs) hu (sykq_ok h2) hc9
    cases hb : Nat.beq (r.getD 2 0) 1 with
    | true =>
      rw [hb] at h3
      have hb := Nat.eq_of_beq_eq_true hb
      cases hg : syGR u M.2.1 a (r.getD 1 0) with
      | none => rw [hg] at h3; exact (syno_inl h3).elim
      | some w =>
        rw [hg] at h3
        exact q_getr hd ⟨hf, by rw [ht, hb]⟩ hk (syGR_ok hu.2.1 _ _ _ _ hg) (sy_go (n := 0) h3 hG hK hr)
    | false =>
      rw [hb] at h3
      cases hg : syGI u M.1 a (r.getD 1 0) with
      | none => rw [hg] at h3; exact (syno_inl h3).elim
      | some w =>
        rw [hg] at h3
        have e := syGI_ok hu.1 _ _ _ _ hg
        have g := sy_go (n := 0) h3 hG hK hr
        refine q_geti hd ⟨hf, fun q => by rw [ht] at q; rw [q] at hb; cases hb⟩ hk ?_
        show qW _ _ _ _ _ (.int (syFI B xs M.1 a (r.getD 1 0)) :: _) _
        rw [e, ← syvi_ok]
        exact g
theorem sy_putf_ok {r : List Nat} {ix : Nat} (hd : decode (zB m) pc = .ok (.putfield ix, 3)) (hf : zFld (zO m) ix = some (r.getD 0 0, r.getD 1 0)) (ht : zF (r.getD 0 0) (r.getD 1 0) = r.getD 2 0) (hfin : ((zCl.getD (r.getD 0 0) ("", zT0, 0)).2.1 (r.getD 1 0)).2.2.2 = true → (zNm m).name = "<init>" ∧ zO m = r.getD 0 0) (hc9 : r.getD 0 0 ≠ 9999) (hu : syUok xs u B) (hb : syBok xs bx) (h : sy_putf u r (d, bx, (m, pc, K, l, st), rest, M) = .inl c') (hG : syG xs P B c') (hK : syKok m (pc + 3) K) (hr : syRok rest) :
    syT xs P B d m pc l st rest M := by
  rcases st with _ | ⟨v, _ | ⟨o, st⟩⟩
  · exact (syno_inl h).elim
  · exact (syno_inl h).elim
  · obtain ⟨a, rfl, h1⟩ := syref_inl h
    obtain ⟨h2, h3⟩ := syok_inl h1
    have hk := syzk (M := M) (B := B) (xs := xs) hu (sykq_ok h2) hc9
    cases hb : Nat.beq (r.getD 2 0) 1 with
    | true =>
      rw [hb] at h3
      have hb := Nat.eq_of_beq_eq_true hb
      rcases v with z | j | q | w
      · exact (syno_inl h3).elim
      · exact (syno_inl h3).elim
      · exact q_putr hd ⟨hf, by rw [ht, hb], hfin⟩ hk (sy_go (n := 0) h3 hG hK hr)
      · exact (syno_inl h3).elim
    | false =>
      rw [hb] at h3
      obtain ⟨h4, h5⟩ := syok_inl h3
      obtain ⟨w, rfl, h6⟩ := syvI_inl h5
      have g := sy_go (n := 0) h6 hG hK hr
      show qW _ _ _ _ _ (syv xs (syvi w) :: .ref a :: sys xs st) _
      rw [Bool.or_eq_true, Bool.and_eq_true] at h4
      rcases h4 with h4 | ⟨h4, h7⟩
      · rw [syvi_ok]
        exact q_puti hd ⟨hf, by rw [ht]; exact Nat.eq_of_beq_eq_true h4, hfin⟩ hk g
      · have hx := sybit_ok (xs := xs) h7
        rw [syvi_ok] at hx ⊢
        exact q_putz hd ⟨hf, by rw [ht]; exact Nat.eq_of_beq_eq_true h4, hfin⟩ hk (hx.imp (fun e => Value.int.inj e) (fun e => Value.int.inj e)) g
theorem sy_alen_ok (hd : decode (zB m) pc = .ok (.arraylength, 1)) (hu : syUok xs u B) (hb : syBok xs bx) (h : sy_alen u (d, bx, (m, pc, K, l, st), rest, M) = .inl c') (hG : syG xs P B c') (hK : syKok m (pc + 1) K) (hr : syRok rest) : syT xs P B d m pc l st rest M := by
  rcases st with _ | ⟨o, st⟩
  · exact (syno_inl h).elim
  · obtain ⟨a, rfl, h1⟩ := syref_inl h
    obtain ⟨h2, h3⟩ := syok_inl h1
    rw [Bool.or_eq_true, Bool.or_eq_true, Bool.and_eq_true, Nat.blt_eq] at h2
    have h9 : (syGK u M.2.2.1 a).1 ≠ 9999 := by
      rcases h2 with (h2 | h2) | ⟨_, h2⟩ <;> rw [Nat.eq_of_beq_eq_true h2] <;> decide
    have hk := syzk1 (M := M) (B := B) (xs := xs) hu h9
    refine q_alen (N := (syGK u M.2.2.1 a).2) hd ?_ ?_
    · rw [hk]
      rcases h2 with (h2 | h2) | ⟨h4, h2⟩
      · exact Or.inl (by rw [Nat.eq_of_beq_eq_true h2])
      · exact Or.inr (Or.inl (by rw [Nat.eq_of_beq_eq_true h2]))
      · exact Or.inr (Or.inr ⟨h4, by rw [Nat.eq_of_beq_eq_true h2]⟩)
    · have g := sy_go (n := 0) h3 hG hK hr
      exact g
theorem syidx_ok {z : Int} {N : Nat} (h : syidx z N = true) : 0 ≤ z ∧ z < N := by
  unfold syidx at h; rw [Bool.and_eq_true, syle_iff, sylt_iff] at h; exact h
theorem sy_vp {x : Int32} {z : Int} {N : Nat} (hx : x.toInt = z) (h : 0 ≤ z ∧ z < N) : vp_in x N ∧ x.toNatClampNeg = z.toNat := by
  have e : x.toNatClampNeg = z.toNat := by subst hx; rfl
  refine ⟨?_, e⟩
  rintro (q | q)
  · have := Int32.lt_iff_toInt_lt.mp q
    have e0 : (0 : Int32).toInt = 0 := rfl
    omega
  · omega
theorem sysame_ok {a lo : Nat} {v : syI} (hu : syUok xs u B) : ∀ n, sysame u M.1 a lo v n = true → ∀ k, k < n → syFI B xs M.1 a (lo + k) = syi xs v := by
  intro n
  induction n with
  | zero => intro _ k h; omega
  | succ n ih =>
    intro h k hk
    have h : cond (match syGI u M.1 a (lo + n) with
      | some w => syeqI w v
      | none => false) (sysame u M.1 a lo v n) false = true := h
    cases hg : syGI u M.1 a (lo + n) with
    | none => rw [hg] at h; cases h
    | some w =>
      rw [hg] at h
      cases he : syeqI w v with
      | false => have h : cond (syeqI w v) (sysame u M.1 a lo v n) false = true := h; rw [he] at h; cases h
      | true =>
        have h : cond (syeqI w v) (sysame u M.1 a lo v n) false = true := h
        rw [he] at h
        rcases Nat.lt_or_eq_of_le (Nat.le_of_lt_succ hk) with h2 | h2
        · exact ih h k h2
        · subst h2
          rw [syGI_ok hu.1 _ _ _ _ hg]
          rcases w with x | i <;> rcases v with y | j
          · rw [syeq_iff.mp (show syeq x y = true from he)]
          · cases he
          · cases he
          · cases he
theorem sy_iald_ok (hd : decode (zB m) pc = .ok (.iaload, 1)) (hu : syUok xs u B) (hb : syBok xs bx) (h : sy_iald u (d, bx, (m, pc, K, l, st), rest, M) = .inl c') (hG : syG xs P B c') (hK : syKok m (pc + 1) K) (hr : syRok rest) : syT xs P B d m pc l st rest M := by
  rcases st with _ | ⟨ix, _ | ⟨o, st⟩⟩
  · exact (syno_inl h).elim
  · exact (syno_inl h).elim
  · obtain ⟨a, rfl, h1⟩ := syref_inl h
    obtain ⟨h2, h3⟩ := syok_inl h1
    obtain ⟨h4, h5⟩ := syok_inl h3
    obtain ⟨h6, h7⟩ := syok_inl h5
    obtain ⟨x, hx, r1, r2⟩ := syrg_ok hb h4
    rw [Bool.and_eq_true, Bool.and_eq_true, Nat.blt_eq] at h6
    have i1 := syidx_ok h6.1.1
    have i2 := syidx_ok h6.1.2
    rw [Bool.or_eq_true, Bool.and_eq_true, Nat.blt_eq] at h2
    have h9 : (syGK u M.2.2.1 a).1 ≠ 9999 := by
      rcases h2 with h2 | ⟨_, h2⟩ <;> rw [Nat.eq_of_beq_eq_true h2] <;> decide
    have hk := syzk1 (M := M) (B := B) (xs := xs) hu h9
    obtain ⟨v1, v2⟩ := sy_vp (x := x) (z := x.toInt) (N := (syGK u M.2.2.1 a).2) rfl (by omega)
    have hkk : zk (syA B xs M) a = (20, (syGK u M.2.2.1 a).2) ∨ (a < 3 ∧ zk (syA B xs M) a = (30, (syGK u M.2.2.1 a).2)) := by
      rw [hk]
      rcases h2 with h2 | ⟨h4, h2⟩
      · exact Or.inl (by rw [Nat.eq_of_beq_eq_true h2])
      · exact Or.inr ⟨h4, by rw [Nat.eq_of_beq_eq_true h2]⟩
    show qW _ _ _ _ _ (syv xs ix :: .ref a :: sys xs st) _
    cases hg : syGI u M.1 a (syrg bx ix).1.toNat with
    | none => rw [hg] at h7; exact (syno_inl h7).elim
    | some v =>
      rw [hg] at h7
      have h7 : cond (sysame u M.1 a (syrg bx ix).1.toNat v ((syrg bx ix).2 - (syrg bx ix).1 + 1).toNat) (.inl (d, bx, (m, pc + 1, K, l, syvi v :: st), rest, M)) (syint bx ix fun z => match syGI u M.1 a z.toNat with
                | none => syno
                | some w => .inl (d, bx, (m, pc + 1, K, l, syvi w :: st), rest, M)) = .inl c' := h7
      cases hs : sysame u M.1 a (syrg bx ix).1.toNat v ((syrg bx ix).2 - (syrg bx ix).1 + 1).toNat with
      | true =>
        rw [hs] at h7
        have e := sysame_ok (M := M) hu _ hs (x.toInt.toNat - (syrg bx ix).1.toNat) (by omega)
        rw [show (syrg bx ix).1.toNat + (x.toInt.toNat - (syrg bx ix).1.toNat) = x.toInt.toNat by omega] at e
        rw [hx]
        refine q_iald (x := syi xs v) hd hkk v1 (by rw [v2]; exact e) ?_
        rw [← syvi_ok]
        exact sy_go (n := 0) h7 hG hK hr
      | false =>
        rw [hs] at h7
        obtain ⟨z, g1, g2, g3⟩ := syint_inl hb h7
        have e : x = Int32.ofInt z := by rw [hx] at g2; cases g2; rfl
        have e2 : x.toInt = z := by rw [e]; exact syZ_to g1
        cases hg2 : syGI u M.1 a z.toNat with
        | none => rw [hg2] at g3; exact (syno_inl g3).elim
        | some w =>
          rw [hg2] at g3
          rw [hx]
          refine q_iald (x := syi xs w) hd hkk v1 (by rw [v2, e2]; exact syGI_ok hu.1 _ _ _ _ hg2) ?_
          rw [← syvi_ok]
          exact sy_go (n := 0) g3 hG hK hr
theorem sy_aald_ok (hd : decode (zB m) pc = .ok (.aaload, 1)) (hu : syUok xs u B) (hb : syBok xs bx) (h : sy_aald u (d, bx, (m, pc, K, l, st), rest, M) = .inl c') (hG : syG xs P B c') (hK : syKok m (pc + 1) K) (hr : syRok rest) : syT xs P B d m pc l st rest M := by
  rcases st with _ | ⟨ix, _ | ⟨o, st⟩⟩
  · exact (syno_inl h).elim
  · exact (syno_inl h).elim
  · obtain ⟨a, rfl, h1⟩ := syref_inl h
    obtain ⟨h2, h3⟩ := syok_inl h1
    obtain ⟨z, g1, g2, g3⟩ := syint_inl hb h3
    obtain ⟨h4, h5⟩ := syok_inl g3
    rw [Bool.and_eq_true, Nat.ble_eq, Nat.blt_eq] at h2
    have hk := syzk1 (M := M) (B := B) (xs := xs) hu (a := a) (by omega)
    obtain ⟨v1, v2⟩ := sy_vp (x := Int32.ofInt z) (N := (syGK u M.2.2.1 a).2) (syZ_to g1) (syidx_ok h4)
    show qW _ _ _ _ _ (syv xs ix :: .ref a :: sys xs st) _
    rw [g2]
    cases hg : syGR u M.2.1 a z.toNat with
    | none => rw [hg] at h5; exact (syno_inl h5).elim
    | some w =>
      rw [hg] at h5
      exact q_aald hd hk h2 v1 (by rw [v2]; exact syGR_ok hu.2.1 _ _ _ _ hg) (sy_go (n := 0) h5 hG hK hr)
theorem sy_iast_ok (hd : decode (zB m) pc = .ok (.iastore, 1)) (hu : syUok xs u B) (hb : syBok xs bx) (h : sy_iast u (d, bx, (m, pc, K, l, st), rest, M) = .inl c') (hG : syG xs P B c') (hK : syKok m (pc + 1) K) (hr : syRok rest) : syT xs P B d m pc l st rest M := by
  rcases st with _ | ⟨v, _ | ⟨ix, _ | ⟨o, st⟩⟩⟩
  · exact (syno_inl h).elim
  · exact (syno_inl h).elim
  · exact (syno_inl h).elim
  · obtain ⟨a, rfl, h1⟩ := syref_inl h
    obtain ⟨h2, h3⟩ := syok_inl h1
    obtain ⟨z, g1, g2, g3⟩ := syint_inl hb h3
    obtain ⟨h4, h5⟩ := syok_inl g3
    obtain ⟨w, rfl, h6⟩ := syvI_inl h5
    have h2 := Nat.eq_of_beq_eq_true h2
    have hk := syzk1 (M := M) (B := B) (xs := xs) hu (a := a) (by omega)
    rw [h2] at hk
    obtain ⟨v1, v2⟩ := sy_vp (x := Int32.ofInt z) (N := (syGK u M.2.2.1 a).2) (syZ_to g1) (syidx_ok h4)
    show qW _ _ _ _ _ (syv xs (syvi w) :: syv xs ix :: .ref a :: sys xs st) _
    rw [g2, syvi_ok]
    have g := sy_go (n := 0) h6 hG hK hr
    refine q_iast hd hk v1 ?_
    rw [v2]
    exact g
theorem sy_aast_ok (hd : decode (zB m) pc = .ok (.aastore, 1)) (hu : syUok xs u B) (hb : syBok xs bx) (h : sy_aast u (d, bx, (m, pc, K, l, st), rest, M) = .inl c') (hG : syG xs P B c') (hK : syKok m (pc + 1) K) (hr : syRok rest) : syT xs P B d m pc l st rest M := by
  rcases st with _ | ⟨v, _ | ⟨ix, _ | ⟨o, st⟩⟩⟩
  · exact (syno_inl h).elim
  · exact (syno_inl h).elim
  · exact (syno_inl h).elim
  · obtain ⟨a, rfl, h1⟩ := syref_inl h
    obtain ⟨b, rfl, h1⟩ := syref_inl h1
    obtain ⟨h2, h3⟩ := syok_inl h1
    obtain ⟨z, g1, g2, g3⟩ := syint_inl hb h3
    obtain ⟨h4, h5⟩ := syok_inl g3
    rw [Bool.or_eq_true, Bool.or_eq_true, Bool.and_eq_true, Bool.and_eq_true, Bool.and_eq_true] at h2
    have h9 : (syGK u M.2.2.1 a).1 ≠ 9999 := by
      rcases h2 with (⟨h2, _⟩ | ⟨h2, _⟩) | ⟨h2, _⟩ <;> rw [Nat.eq_of_beq_eq_true h2] <;> decide
    have hk := syzk1 (M := M) (B := B) (xs := xs) hu h9
    obtain ⟨v1, v2⟩ := sy_vp (x := Int32.ofInt z) (N := (syGK u M.2.2.1 a).2) (syZ_to g1) (syidx_ok h4)
    have g := sy_go (n := 0) h5 hG hK hr
    show qW _ _ _ _ _ (.ref b :: syv xs ix :: .ref a :: sys xs st) _
    rw [g2]
    have kk : ((syGK u M.2.2.1 a).1 = 22 ∧ zk (syA B xs M) b = (1, 0)) ∨ ((syGK u M.2.2.1 a).1 = 23 ∧ zk (syA B xs M) b = (5, 0)) ∨ ((syGK u M.2.2.1 a).1 = 24 ∧ zk (syA B xs M) b = (4, 0)) := by
      rcases h2 with (⟨h2, h8⟩ | ⟨h2, h8⟩) | ⟨h2, h8⟩
      · exact Or.inl ⟨Nat.eq_of_beq_eq_true h2, syzk hu (sykq_ok h8) (by decide)⟩
      · exact Or.inr (Or.inl ⟨Nat.eq_of_beq_eq_true h2, syzk hu (sykq_ok h8) (by decide)⟩)
      · exact Or.inr (Or.inr ⟨Nat.eq_of_beq_eq_true h2, syzk hu (sykq_ok h8) (by decide)⟩)
    refine q_of hd ?_
    obtain ⟨f, v', M', e1, e2⟩ := g
    refine ⟨f, v', M', ⟨rfl, b, _, a, _, (syGK u M.2.2.1 a).1, _, rfl, hk, kk, v1, ?_⟩, e2⟩
    rw [v2]
    exact e1
theorem sy_new_ok {r : List Nat} {ix : Nat} (hd : decode (zB m) pc = .ok (.new ix, 3)) (h1 : zCls (zO m) ix = some (r.getD 0 0)) (h2 : r.getD 0 0 < 9) (h3 : zN (r.getD 0 0) = r.getD 1 0) (hb : syBok xs bx) (h : sy_new r (d, bx, (m, pc, K, l, st), rest, M) = .inl c') (hG : syG xs P B c') (hK : syKok m (pc + 3) K) (hr : syRok rest) : syT xs P B d m pc l st rest M := by
  obtain ⟨f, v', M', e1, e2⟩ := sy_go (n := 0) h hG hK hr
  refine q_of hd ⟨f, v', M', ⟨rfl, _, h1, h2, ?_⟩, e2⟩
  rw [h3]
  exact e1
theorem sylen_ok {z : Int} {b : Nat} (hb : b < 2147483648) (h : sylen z b = true) : ¬ Int32.ofInt z < 0 ∧ (Int32.ofInt z).toNatClampNeg = z.toNat ∧ z.toNat ≤ b := by
  unfold sylen at h
  rw [Bool.and_eq_true, syle_iff, syle_iff] at h
  have e : (Int32.ofInt z).toInt = z := syZ_to (syZ_iff.mpr (by omega))
  refine ⟨fun q => ?_, ?_, by omega⟩
  · have := Int32.lt_iff_toInt_lt.mp q
    have e0 : (0 : Int32).toInt = 0 := rfl
    omega
  · show (Int32.ofInt z).toInt.toNat = _
    rw [e]
theorem sy_newa_ok {r : List Nat} {t : ArrayType} (hd : decode (zB m) pc = .ok (.newarray t, 2)) (ht : (t = .int ∧ r.getD 1 0 = 20) ∨ (t = .long ∧ r.getD 1 0 = 21)) (hb : syBok xs bx) (h : sy_newa 2 r (d, bx, (m, pc, K, l, st), rest, M) = .inl c') (hG : syG xs P B c') (hK : syKok m (pc + 2) K) (hr : syRok rest) : syT xs P B d m pc l st rest M := by
  rcases st with _ | ⟨x, st⟩
  · exact (syno_inl h).elim
  · obtain ⟨z, g1, g2, g3⟩ := syint_inl hb h
    obtain ⟨h4, h5⟩ := syok_inl g3
    obtain ⟨l1, l2, l3⟩ := sylen_ok (by decide) h4
    obtain ⟨f, v', M', e1, e2⟩ := sy_go (n := 0) h5 hG hK hr
    show qW _ _ _ _ _ (syv xs x :: sys xs st) _
    rw [g2]
    refine q_of hd ⟨f, v', M', ⟨rfl, _, _, z.toNat, rfl, l1, l2, l3, ?_⟩, e2⟩
    rcases ht with ⟨t1, t2⟩ | ⟨t1, t2⟩
    · exact Or.inl ⟨t1, by rw [t2] at e1; exact e1⟩
    · exact Or.inr ⟨t1, by rw [t2] at e1; exact e1⟩
theorem sy_anewa_ok {r : List Nat} {ix : Nat} (hd : decode (zB m) pc = .ok (.anewarray ix, 3)) (h1 : zCls (zO m) ix = some (r.getD 0 0)) (ht : (r.getD 0 0 = 1 ∧ r.getD 1 0 = 22) ∨ (r.getD 0 0 = 5 ∧ r.getD 1 0 = 23) ∨ (r.getD 0 0 = 4 ∧ r.getD 1 0 = 24)) (hb : syBok xs bx) (h : sy_newa 3 r (d, bx, (m, pc, K, l, st), rest, M) = .inl c') (hG : syG xs P B c') (hK : syKok m (pc + 3) K) (hr : syRok rest) : syT xs P B d m pc l st rest M := by
  rcases st with _ | ⟨x, st⟩
  · exact (syno_inl h).elim
  · obtain ⟨z, g1, g2, g3⟩ := syint_inl hb h
    obtain ⟨h4, h5⟩ := syok_inl g3
    obtain ⟨l1, l2, l3⟩ := sylen_ok (by decide) h4
    obtain ⟨f, v', M', e1, e2⟩ := sy_go (n := 0) h5 hG hK hr
    show qW _ _ _ _ _ (syv xs x :: sys xs st) _
    rw [g2]
    exact q_of hd ⟨f, v', M', ⟨rfl, _, _, z.toNat, _, _, rfl, l1, l2, l3, h1, ht, e1⟩, e2⟩
theorem sy_multi_ok {dm ix : Nat} (hd : decode (zB m) pc = .ok (.multianewarray ix dm, 4)) (ht : (dm = 2 ∧ zCls (zO m) ix = some 25) ∨ (dm = 3 ∧ zCls (zO m) ix = some 26)) (hb : syBok xs bx) (h : sy_multi dm (d, bx, (m, pc, K, l, st), rest, M) = .inl c') (hG : syG xs P B c') (hK : syKok m (pc + 4) K) (hr : syRok rest) : syT xs P B d m pc l st rest M := by
  rcases st with _ | ⟨x, _ | ⟨y, st⟩⟩
  · exact (syno_inl h).elim
  · exact (syno_inl h).elim
  · rcases ht with ⟨t1, t2⟩ | ⟨t1, t2⟩
    · subst t1
      obtain ⟨z, g1, g2, g3⟩ := syint_inl hb h
      obtain ⟨w, k1, k2, k3⟩ := syint_inl hb g3
      obtain ⟨h4, h5⟩ := syok_inl k3
      rw [Bool.and_eq_true] at h4
      obtain ⟨l1, l2, l3⟩ := sylen_ok (by decide) h4.1
      obtain ⟨m1, m2, m3⟩ := sylen_ok (by decide) h4.2
      obtain ⟨f, v', M', e1, e2⟩ := sy_go (n := 0) h5 hG hK hr
      show qW _ _ _ _ _ (syv xs x :: syv xs y :: sys xs st) _
      rw [g2, k2]
      exact q_of hd ⟨f, v', M', ⟨rfl, _, _, _, w.toNat, z.toNat, m1, l1, m2, l2, m3, l3, Or.inl ⟨rfl, t2, rfl, e1⟩⟩, e2⟩
    · subst t1
      rcases st with _ | ⟨q, st⟩
      · exact (syno_inl h).elim
      · obtain ⟨z, g1, g2, g3⟩ := syint_inl hb h
        obtain ⟨w, k1, k2, k3⟩ := syint_inl hb g3
        obtain ⟨o, j1, j2, j3⟩ := syint_inl hb k3
        obtain ⟨h4, h5⟩ := syok_inl j3
        rw [Bool.and_eq_true, Bool.and_eq_true] at h4
        obtain ⟨l1, l2, l3⟩ := sylen_ok (by decide) h4.1.1
        obtain ⟨m1, m2, m3⟩ := sylen_ok (by decide) h4.1.2
        obtain ⟨n1, n2, n3⟩ := sylen_ok (by decide) h4.2
        obtain ⟨f, v', M', e1, e2⟩ := sy_go (n := 0) h5 hG hK hr
        show qW _ _ _ _ _ (syv xs x :: syv xs y :: syv xs q :: sys xs st) _
        rw [g2, k2, j2]
        exact q_of hd ⟨f, v', M', ⟨rfl, _, _, _, o.toNat, z.toNat, n1, l1, n2, l2, n3, l3, Or.inr ⟨rfl, t2, _, w.toNat, m1, m2, m3, rfl, e1⟩⟩, e2⟩
/-- a call's two halves -/
theorem sycall_ok {y ml : Nat} {as tl st' : List syV} (hy : y < 216) (hml : zML y = ml) (hu : syUok xs u B) (hb : syBok xs bx) (h : sycall u y ml as tl (d, bx, (m, pc, K, l, st'), rest, M) = .inl c') (hG : syG xs P B c') (hK : syKok m (pc + 3) K) (hr : syRok rest) :
    ∃ w M1, zEv d y (sys xs as) (syA B xs M) w M1 ∧ zct (sys xs tl) ≤ 8 ∧ qW (zEv d) m (sykont xs P d rest) (pc + 3) (syl xs l) (w.toList ++ sys xs tl) M1 := by
  cases d with
  | zero => exact (syno_inl h).elim
  | succ d =>
    obtain ⟨h1, h2⟩ := syok_inl h
    rw [Bool.and_eq_true, Nat.ble_eq, Nat.ble_eq] at h1
    have h2 : (.inl (d, bx, (y, 0, u.2.2.2 y 0, syarg 0 as, []), (m, pc + 3, K, l, tl) :: rest, M) : syR) = .inl c' := h2
    have g := sy_go (n := 0) h2 hG (hu.2.2.2 _ _) (fun f hf => by
      rcases List.mem_cons.mp hf with rfl | hf
      · exact hK
      · exact hr f hf)
    obtain ⟨f, v, M1, g1, g2⟩ := g
    refine ⟨v, M1, Or.inr (Or.inr ⟨hy, by rw [syct_ok, hml]; exact h1.2, f, ?_⟩), by rw [syct_ok]; exact h1.1, g2⟩
    rw [syarg_ok]
    exact g1
theorem sy_virt_ok {r : List Nat} {ix : Nat} (hd : decode (zB m) pc = .ok (.invokevirtual ix, 3)) (h1 : zCall (zO m) ix = some (0, r.getD 1 0)) (h2 : zA (r.getD 1 0) = r.getD 2 0) (h3 : zO (r.getD 1 0) = r.getD 3 0) (h4 : zML (r.getD 1 0) = r.getD 4 0) (h5 : r.getD 1 0 < 216) (h9 : r.getD 3 0 ≠ 9999) (hu : syUok xs u B) (hb : syBok xs bx) (h : sy_virt u r (d, bx, (m, pc, K, l, st), rest, M) = .inl c') (hG : syG xs P B c') (hK : syKok m (pc + 3) K) (hr : syRok rest) : syT xs P B d m pc l st rest M := by
  dsimp only [sy_virt] at h
  cases ht : sytake (r.getD 2 0) [] st with
  | none => rw [ht] at h; exact (syno_inl h).elim
  | some p =>
    rw [ht] at h
    rcases p with ⟨as, _ | ⟨o, tl⟩⟩
    · exact (syno_inl h).elim
    · obtain ⟨a, rfl, h6⟩ := syref_inl h
      obtain ⟨h7, h8⟩ := syok_inl h6
      obtain ⟨t1, t2⟩ := sytake_s (xs := xs) ht
      obtain ⟨w, M1, c1, c2, c3⟩ := sycall_ok h5 h4 hu hb h8 hG hK hr
      unfold syT
      rw [t1]
      exact q_virt hd h1 (by rw [h2]; exact t2) (by rw [h3]; exact syzk hu (sykq_ok h7) h9) c1 c2 c3
theorem sy_spec_ok {r : List Nat} {ix : Nat} (hd : decode (zB m) pc = .ok (.invokespecial ix, 3)) (h1 : (r.getD 0 0 = 6 ∧ zCall (zO m) ix = some (6, 0)) ∨ (r.getD 0 0 ≠ 6 ∧ (zCall (zO m) ix = some (2, r.getD 1 0) ∨ zCall (zO m) ix = some (5, r.getD 1 0)) ∧ zA (r.getD 1 0) = r.getD 2 0 ∧ zRk (r.getD 1 0) = 0 ∧ zML (r.getD 1 0) = r.getD 4 0 ∧ r.getD 1 0 < 216)) (hu : syUok xs u B) (hb : syBok xs bx) (h : sy_spec u r (d, bx, (m, pc, K, l, st), rest, M) = .inl c') (hG : syG xs P B c') (hK : syKok m (pc + 3) K) (hr : syRok rest) : syT xs P B d m pc l st rest M := by
  dsimp only [sy_spec] at h
  rcases h1 with ⟨e, h1⟩ | ⟨e, h1, h2, h3, h4, h5⟩
  · rw [e] at h
    rcases st with _ | ⟨o, tl⟩
    · exact (syno_inl h).elim
    · obtain ⟨a, rfl, h6⟩ := syref_inl h
      obtain ⟨h7, h8⟩ := syok_inl h6
      obtain ⟨f, v', M', e1, e2⟩ := sy_go (n := 0) h8 hG hK hr
      exact q_of hd ⟨f, v', M', ⟨rfl, 6, 0, a, [], sys xs tl, h1, rfl, Or.inl ⟨rfl, rfl, by rw [syct_ok]; exact Nat.ble_eq.mp h7, e1⟩⟩, e2⟩
  · rw [show Nat.beq (r.getD 0 0) 6 = false by
      cases hb : Nat.beq (r.getD 0 0) 6 with
      | true => exact absurd (Nat.eq_of_beq_eq_true hb) e
      | false => rfl] at h
    have h : (match sytake (r.getD 2 0) [] st with
      | some (as, o :: tl) => syref o fun _ => sycall u (r.getD 1 0) (r.getD 4 0) (o :: as) tl (d, bx, (m, pc, K, l, st), rest, M)
      | _ => syno) = .inl c' := h
    cases ht : sytake (r.getD 2 0) [] st with
    | none => rw [ht] at h; exact (syno_inl h).elim
    | some p =>
      rw [ht] at h
      rcases p with ⟨as, _ | ⟨o, tl⟩⟩
      · exact (syno_inl h).elim
      · obtain ⟨a, rfl, h6⟩ := syref_inl h
        obtain ⟨t1, t2⟩ := sytake_s (xs := xs) ht
        obtain ⟨w, M1, c1, c2, c3⟩ := sycall_ok h5 h4 hu hb h6 hG hK hr
        unfold syT
        rw [t1]
        exact q_spec hd h1 (by rw [h2]; exact t2) h3 c1 c2 c3
theorem sy_mm_ok {b : Bool} {ix y : Nat} (hd : decode (zB m) pc = .ok (.invokestatic ix, 3)) (hc : zCall (zO m) ix = some (cond b 10 11, y)) (hb : syBok xs bx) (h : sy_mm b (d, bx, (m, pc, K, l, st), rest, M) = .inl c') (hG : syG xs P B c') (hK : syKok m (pc + 3) K) (hr : syRok rest) : syT xs P B d m pc l st rest M := by
  rcases st with _ | ⟨q, _ | ⟨p, st⟩⟩
  · exact (syno_inl h).elim
  · exact (syno_inl h).elim
  · obtain ⟨h7, h8⟩ := syok_inl h
    have h7 : zct (sys xs st) ≤ 8 := by rw [syct_ok]; exact Nat.ble_eq.mp h7
    obtain ⟨i, j, h1, h2, h3⟩ := syif_ok hb h8
    show qW _ _ _ _ _ (syv xs q :: syv xs p :: sys xs st) _
    cases b with
    | true =>
      have h1 : syv xs p = .int i := h1
      have h2 : syv xs q = .int j := h2
      rw [h1, h2]
      refine q_max hd hc h7 ?_
      rcases h3 with ⟨g, h4⟩ | ⟨g, h4⟩
      · rw [if_pos (show i < j from g), ← h2]; exact sy_go (n := 0) h4 hG hK hr
      · rw [if_neg (show ¬ i < j from g), ← h1]; exact sy_go (n := 0) h4 hG hK hr
    | false =>
      have h1 : syv xs q = .int i := h1
      have h2 : syv xs p = .int j := h2
      rw [h1, h2]
      refine q_min hd hc h7 ?_
      rcases h3 with ⟨g, h4⟩ | ⟨g, h4⟩
      · rw [if_pos (show i < j from g), ← h1]; exact sy_go (n := 0) h4 hG hK hr
      · rw [if_neg (show ¬ i < j from g), ← h2]; exact sy_go (n := 0) h4 hG hK hr
theorem sy_nn {z : Int} (g : syZ z = true) (h : 0 ≤ z) : ¬ Int32.ofInt z < 0 ∧ (Int32.ofInt z).toNatClampNeg = z.toNat := by
  have e := syZ_to g
  refine ⟨fun q => ?_, ?_⟩
  · have := Int32.lt_iff_toInt_lt.mp q
    have e0 : (0 : Int32).toInt = 0 := rfl
    omega
  · show (Int32.ofInt z).toInt.toNat = _
    rw [e]
theorem sy_copy_ok {ix y : Nat} (hd : decode (zB m) pc = .ok (.invokestatic ix, 3)) (hc : zCall (zO m) ix = some (7, y)) (hu : syUok xs u B) (hb : syBok xs bx) (h : sy_copy u (d, bx, (m, pc, K, l, st), rest, M) = .inl c') (hG : syG xs P B c') (hK : syKok m (pc + 3) K) (hr : syRok rest) : syT xs P B d m pc l st rest M := by
  rcases st with _ | ⟨n, _ | ⟨dp, _ | ⟨o, _ | ⟨sp, _ | ⟨o0, st⟩⟩⟩⟩⟩
  · exact (syno_inl h).elim
  · exact (syno_inl h).elim
  · exact (syno_inl h).elim
  · exact (syno_inl h).elim
  · exact (syno_inl h).elim
  · obtain ⟨a, rfl, h⟩ := syref_inl h
    obtain ⟨a0, rfl, h⟩ := syref_inl h
    obtain ⟨z1, g1, f1, h⟩ := syint_inl hb h
    obtain ⟨z2, g2, f2, h⟩ := syint_inl hb h
    obtain ⟨z3, g3, f3, h⟩ := syint_inl hb h
    obtain ⟨h7, h8⟩ := syok_inl h
    simp only [Bool.and_eq_true, syle_iff, Nat.ble_eq] at h7
    obtain ⟨⟨⟨⟨⟨⟨⟨k1, k2⟩, n1⟩, n2⟩, n3⟩, e1⟩, e2⟩, e3⟩ := h7
    have k1 := Nat.eq_of_beq_eq_true k1
    have k2 := Nat.eq_of_beq_eq_true k2
    have ka := syzk1 (M := M) (B := B) (xs := xs) hu (a := a) (by omega)
    have kb := syzk1 (M := M) (B := B) (xs := xs) hu (a := a0) (by omega)
    rw [k1] at ka
    rw [k2] at kb
    obtain ⟨p1, q1⟩ := sy_nn g1 n1
    obtain ⟨p2, q2⟩ := sy_nn g2 n2
    obtain ⟨p3, q3⟩ := sy_nn g3 n3
    show qW _ _ _ _ _ (syv xs n :: syv xs dp :: .ref a :: syv xs sp :: .ref a0 :: sys xs st) _
    rw [f1, f2, f3]
    refine q_copy hd hc kb ka p3 p2 p1 (by rw [q3, q1]; exact e1) (by rw [q2, q1]; exact e2) (by rw [syct_ok]; exact e3) ?_
    rw [q1, q2, q3]
    exact sy_go (n := 0) h8 hG hK hr
theorem sy_stat_ok {r : List Nat} {ix : Nat} (hd : decode (zB m) pc = .ok (.invokestatic ix, 3)) (h1 : ((r.getD 0 0 = 7 ∨ r.getD 0 0 = 10 ∨ r.getD 0 0 = 11) ∧ zCall (zO m) ix = some (r.getD 0 0, 0)) ∨ ((r.getD 0 0 ≠ 7 ∧ r.getD 0 0 ≠ 10 ∧ r.getD 0 0 ≠ 11) ∧ (zCall (zO m) ix = some (1, r.getD 1 0) ∨ zCall (zO m) ix = some (4, r.getD 1 0)) ∧ zA (r.getD 1 0) = r.getD 2 0 ∧ zML (r.getD 1 0) = r.getD 4 0 ∧ r.getD 1 0 < 216)) (hu : syUok xs u B) (hb : syBok xs bx) (h : sy_stat u r (d, bx, (m, pc, K, l, st), rest, M) = .inl c') (hG : syG xs P B c') (hK : syKok m (pc + 3) K) (hr : syRok rest) : syT xs P B d m pc l st rest M := by
  unfold sy_stat at h
  rcases h1 with ⟨e | e | e, h1⟩ | ⟨⟨n1, n2, n3⟩, h1, h2, h4, h5⟩
  · rw [e] at h h1
    exact sy_copy_ok hd h1 hu hb h hG hK hr
  · rw [e] at h h1
    exact sy_mm_ok (b := true) hd h1 hb h hG hK hr
  · rw [e] at h h1
    exact sy_mm_ok (b := false) hd h1 hb h hG hK hr
  · have nb : ∀ k, r.getD 0 0 ≠ k → Nat.beq (r.getD 0 0) k = false := fun k e => by
      cases hb : Nat.beq (r.getD 0 0) k with
      | true => exact absurd (Nat.eq_of_beq_eq_true hb) e
      | false => rfl
    rw [nb 7 n1, nb 10 n2, nb 11 n3] at h
    have h : (match sytake (r.getD 2 0) [] st with
        | some (as, tl) => sycall u (r.getD 1 0) (r.getD 4 0) as tl (d, bx, (m, pc, K, l, st), rest, M)
        | none => syno) = .inl c' := h
    cases ht : sytake (r.getD 2 0) [] st with
    | none => rw [ht] at h; exact (syno_inl h).elim
    | some p =>
      rw [ht] at h
      rcases p with ⟨as, tl⟩
      obtain ⟨t1, t2⟩ := sytake_s (xs := xs) ht
      obtain ⟨w, M1, c1, c2, c3⟩ := sycall_ok h5 h4 hu hb h hG hK hr
      unfold syT
      rw [t1]
      exact q_static hd h1 (by rw [h2]; exact t2) c1 c2 c3
theorem syret_ok {v : List syV} {w : Option Value} {st' : List syV} (hw : sys xs v = w.toList) (hb : syBok xs bx) (h : syret v (d, bx, (m, pc, K, l, st'), rest, M) = .inl c') (hG : syG xs P B c') (hr : syRok rest) : sykont xs P d rest w (syA B xs M) := by
  rcases rest with _ | ⟨f, rest⟩
  · exact (syno_inl h).elim
  · rcases f with ⟨m2, pc2, K2, l2, st2⟩
    have g := sy_go (n := 0) (d := d + 1) (m := m2) (l' := l2) (rest := rest) h hG (hr _ List.mem_cons_self) (fun f hf => hr f (List.mem_cons_of_mem _ hf))
    unfold syT at g
    rw [show sys xs (v ++ st2) = sys xs v ++ sys xs st2 from List.map_append, hw] at g
    exact g
end SY
