/-! ===== each instruction ===== -/
section SY
variable {xs : Nat → Int32} {P : Option Value → zM → Prop} {B : zM} {u : syU} {d m pc : Nat} {bx : syB} {K : List syQ} {l : syL} {st : List syV} {rest : List syF} {M : syM} {c' : syC}
/-- what an instruction's row has to show -/
def syT (xs : Nat → Int32) (P : Option Value → zM → Prop) (B : zM) (d m pc : Nat) (l : syL) (st : List syV) (rest : List syF) (M : syM) : Prop := qW (zEv d) m (sykont xs P d rest) pc (syl xs l) (sys xs st) (syA B xs M)
theorem sy_go {n pc' : Nat} {K' : List syQ} {l' : syL} {st' : List syV} {M' : syM} {bx' : syB} {c : syC} (h : (.inl (d, bx', (m, pc', K', l', st'), rest, M') : syR) = .inl c) (hG : syG xs P B c) (hK : syKok m pc' K') (hr : syRok rest) (hb : syBok xs bx' := by assumption) : syT xs P B d m pc' l' st' rest M' := by
  cases h
  exact hG hb hK hr
theorem sypush_ok {n : Nat} {v : syV} (hb : syBok xs bx) (h : sypush n v (d, bx, (m, pc, K, l, st), rest, M) = .inl c') (hG : syG xs P B c') (hK : syKok m (pc + n) K) (hr : syRok rest) : qW (zEv d) m (sykont xs P d rest) (pc + n) (syl xs l) (syv xs v :: sys xs st) (syA B xs M) := sy_go (n := 0) h hG hK hr
theorem sy_ild_ok {i n : Nat} (hb : syBok xs bx) (h : sy_ild i n (d, bx, (m, pc, K, l, st), rest, M) = .inl c') (hG : syG xs P B c') (hK : syKok m (pc + n) K) (hr : syRok rest) : ∃ x, zld (syl xs l) i = some (.int x) ∧ qW (zEv d) m (sykont xs P d rest) (pc + n) (syl xs l) (.int x :: sys xs st) (syA B xs M) := by
  dsimp only [sy_ild] at h
  cases hl : syld l i with
  | none => rw [hl] at h; exact (syno_inl h).elim
  | some v =>
    rw [hl] at h
    obtain ⟨h1, h2⟩ := syok_inl h
    obtain ⟨x, hx⟩ := syisI_ok (xs := xs) h1
    have g := sy_go (n := 0) h2 hG hK hr
    refine ⟨x, by rw [syld_ok, hl]; exact congrArg some hx, ?_⟩
    rw [← hx]; exact g
theorem sy_ald_ok {i n : Nat} (hb : syBok xs bx) (h : sy_ald i n (d, bx, (m, pc, K, l, st), rest, M) = .inl c') (hG : syG xs P B c') (hK : syKok m (pc + n) K) (hr : syRok rest) : ∃ r, zld (syl xs l) i = some (va_rf r) ∧ qW (zEv d) m (sykont xs P d rest) (pc + n) (syl xs l) (va_rf r :: sys xs st) (syA B xs M) := by
  dsimp only [sy_ald] at h
  cases hl : syld l i with
  | none => rw [hl] at h; exact (syno_inl h).elim
  | some v =>
    rw [hl] at h
    obtain ⟨h1, h2⟩ := syok_inl h
    obtain ⟨r, hx⟩ := syisR_ok h1
    subst hx
    exact ⟨r, by rw [syld_ok, hl]; rfl, sy_go (n := 0) h2 hG hK hr⟩
theorem sy_ist_ok {i n : Nat} (hb : syBok xs bx) (h : sy_ist i n (d, bx, (m, pc, K, l, st), rest, M) = .inl c') (hG : syG xs P B c') (hK : syKok m (pc + n) K) (hr : syRok rest) : ∃ x st', sys xs st = .int x :: st' ∧ qW (zEv d) m (sykont xs P d rest) (pc + n) (zst (syl xs l) i (.int x)) st' (syA B xs M) := by
  cases st with
  | nil => exact (syno_inl h).elim
  | cons v st =>
    obtain ⟨h1, h2⟩ := syok_inl h
    obtain ⟨x, hx⟩ := syisI_ok (xs := xs) h1
    refine ⟨x, sys xs st, by rw [← hx]; rfl, ?_⟩
    rw [← hx, syst_ok]; exact sy_go (n := 0) h2 hG hK hr
theorem sy_ast_ok {i n : Nat} (hb : syBok xs bx) (h : sy_ast i n (d, bx, (m, pc, K, l, st), rest, M) = .inl c') (hG : syG xs P B c') (hK : syKok m (pc + n) K) (hr : syRok rest) : ∃ r st', sys xs st = va_rf r :: st' ∧ qW (zEv d) m (sykont xs P d rest) (pc + n) (zst (syl xs l) i (va_rf r)) st' (syA B xs M) := by
  cases st with
  | nil => exact (syno_inl h).elim
  | cons v st =>
    obtain ⟨h1, h2⟩ := syok_inl h
    obtain ⟨r, hx⟩ := syisR_ok h1
    subst hx
    refine ⟨r, sys xs st, rfl, ?_⟩
    rw [show va_rf r = syv xs (.inr (.inr (.inl r))) from rfl, syst_ok]; exact sy_go (n := 0) h2 hG hK hr
theorem sy_iinc_ok {i : Nat} {z : Int} (hb : syBok xs bx) (h : sy_iinc i z (d, bx, (m, pc, K, l, st), rest, M) = .inl c') (hG : syG xs P B c') (hK : syKok m (pc + 3) K) (hr : syRok rest) : ∃ x, zld (syl xs l) i = some (.int x) ∧ qW (zEv d) m (sykont xs P d rest) (pc + 3) (zst (syl xs l) i (.int (x + Int32.ofInt z))) (sys xs st) (syA B xs M) := by
  dsimp only [sy_iinc] at h
  cases hl : syld l i with
  | none => rw [hl] at h; exact (syno_inl h).elim
  | some v =>
    rw [hl] at h
    obtain ⟨x, h1, h2, h3⟩ := syint_inl hb h
    refine ⟨Int32.ofInt x, by rw [syld_ok, hl]; exact congrArg some h2, ?_⟩
    rw [← Int32.ofInt_add, show Value.int (Int32.ofInt (x + z)) = syv xs (.inl (x + z)) from rfl, syst_ok]
    exact sy_go (n := 0) h3 hG hK hr
theorem sy_b2_ok {f : Int → Int → Int} {g : Int32 → Int32 → Int32} (hf : ∀ x y, Int32.ofInt (f x y) = g (Int32.ofInt x) (Int32.ofInt y)) (hb : syBok xs bx) (h : sy_b2 f (d, bx, (m, pc, K, l, st), rest, M) = .inl c') (hG : syG xs P B c') (hK : syKok m (pc + 1) K) (hr : syRok rest) :
    ∃ x y st', sys xs st = .int y :: .int x :: st' ∧ qW (zEv d) m (sykont xs P d rest) (pc + 1) (syl xs l) (.int (g x y) :: st') (syA B xs M) := by
  rcases st with _ | ⟨y, _ | ⟨x, st⟩⟩
  · exact (syno_inl h).elim
  · exact (syno_inl h).elim
  · obtain ⟨x', h1, h2, h3⟩ := syint_inl hb h
    obtain ⟨y', h4, h5, h6⟩ := syint_inl hb h3
    refine ⟨_, _, sys xs st, by show syv xs y :: syv xs x :: sys xs st = _; rw [h2, h5], ?_⟩
    rw [← hf]
    exact sy_go (n := 0) h6 hG hK hr
theorem sy_add_ok (hb : syBok xs bx) (h : sy_add (d, bx, (m, pc, K, l, st), rest, M) = .inl c') (hG : syG xs P B c') (hK : syKok m (pc + 1) K) (hr : syRok rest) :
    ∃ x y st', sys xs st = .int y :: .int x :: st' ∧ qW (zEv d) m (sykont xs P d rest) (pc + 1) (syl xs l) (.int (x + y) :: st') (syA B xs M) := by
  by_cases h0 : ∃ y st', st = y :: .inl 0 :: st'
  · obtain ⟨y, st', rfl⟩ := h0
    obtain ⟨h1, h2⟩ := syok_inl (b := syisI y) h
    obtain ⟨x, hx⟩ := syisI_ok (xs := xs) h1
    refine ⟨0, x, sys xs st', by rw [← hx]; rfl, ?_⟩
    rw [Int32.zero_add, ← hx]
    exact sy_go (n := 0) h2 hG hK hr
  · have e : sy_add (d, bx, (m, pc, K, l, st), rest, M) = sy_b2 (fun x y => x + y) (d, bx, (m, pc, K, l, st), rest, M) := by
      unfold sy_add
      split
      · rename_i heq; cases heq; exact absurd ⟨_, _, rfl⟩ h0
      · rfl
    rw [e] at h
    exact sy_b2_ok (fun x y => Int32.ofInt_add x y) hb h hG hK hr
theorem sy_and_ok (hb : syBok xs bx) (h : sy_and (d, bx, (m, pc, K, l, st), rest, M) = .inl c') (hG : syG xs P B c') (hK : syKok m (pc + 1) K) (hr : syRok rest) :
    ∃ x y st', sys xs st = .int y :: .int x :: st' ∧ qW (zEv d) m (sykont xs P d rest) (pc + 1) (syl xs l) (.int (x &&& y) :: st') (syA B xs M) := by
  by_cases h0 : ∃ st', st = .inl 31 :: .inr (.inl 0) :: st'
  · obtain ⟨st', rfl⟩ := h0
    refine ⟨xs 0, 31, sys xs st', rfl, ?_⟩
    exact sy_go (n := 0) h hG hK hr
  · have e : sy_and (d, bx, (m, pc, K, l, st), rest, M) = sy_b2 (fun x y => (Int32.ofInt x &&& Int32.ofInt y).toInt) (d, bx, (m, pc, K, l, st), rest, M) := by
      unfold sy_and
      split
      · rename_i heq; cases heq; exact absurd ⟨_, rfl⟩ h0
      · rfl
    rw [e] at h
    exact sy_b2_ok (g := fun x y => x &&& y) (fun x y => Int32.ofInt_toInt _) hb h hG hK hr
theorem sy_dr_ok {f : Int32 → Int32 → Int32} (hb : syBok xs bx) (h : sy_dr f (d, bx, (m, pc, K, l, st), rest, M) = .inl c') (hG : syG xs P B c') (hK : syKok m (pc + 1) K) (hr : syRok rest) :
    ∃ x y st', sys xs st = .int y :: .int x :: st' ∧ ¬ y = 0 ∧ qW (zEv d) m (sykont xs P d rest) (pc + 1) (syl xs l) (.int (f x y) :: st') (syA B xs M) := by
  rcases st with _ | ⟨y, _ | ⟨x, st⟩⟩
  · exact (syno_inl h).elim
  · exact (syno_inl h).elim
  · obtain ⟨x', h1, h2, h3⟩ := syint_inl hb h
    obtain ⟨y', h4, h5, h6⟩ := syint_inl hb h3
    obtain ⟨h7, h8⟩ := syok_inl h6
    refine ⟨_, _, sys xs st, by show syv xs y :: syv xs x :: sys xs st = _; rw [h2, h5], by simpa using h7, ?_⟩
    have g := sy_go (n := 0) h8 hG hK hr
    have e : syv xs (.inl (f (Int32.ofInt x') (Int32.ofInt y')).toInt) = .int (f (Int32.ofInt x') (Int32.ofInt y')) := congrArg Value.int (Int32.ofInt_toInt _)
    rw [← e]; exact g
theorem sy_neg_ok (hb : syBok xs bx) (h : sy_neg (d, bx, (m, pc, K, l, st), rest, M) = .inl c') (hG : syG xs P B c') (hK : syKok m (pc + 1) K) (hr : syRok rest) :
    ∃ x st', sys xs st = .int x :: st' ∧ qW (zEv d) m (sykont xs P d rest) (pc + 1) (syl xs l) (.int (-x) :: st') (syA B xs M) := by
  rcases st with _ | ⟨x, st⟩
  · exact (syno_inl h).elim
  · obtain ⟨x', h1, h2, h3⟩ := syint_inl hb h
    refine ⟨_, sys xs st, by show syv xs x :: sys xs st = _; rw [h2], ?_⟩
    rw [← Int32.ofInt_neg]
    exact sy_go (n := 0) h3 hG hK hr
theorem sy_lcmp_ok (hb : syBok xs bx) (h : sy_lcmp (d, bx, (m, pc, K, l, st), rest, M) = .inl c') (hG : syG xs P B c') (hK : syKok m (pc + 1) K) (hr : syRok rest) :
    ∃ x y st', sys xs st = .long y :: .long x :: st' ∧ qW (zEv d) m (sykont xs P d rest) (pc + 1) (syl xs l) (.int (lg_cmp x y) :: st') (syA B xs M) := by
  unfold sy_lcmp at h
  split at h
  · rename_i heq; cases heq
    rename_i x y
    refine ⟨_, _, _, rfl, ?_⟩
    have g := sy_go (n := 0) h hG hK hr
    have e : ∀ w : Int32, syv xs (.inl w.toInt) = .int w := fun w => congrArg Value.int (Int32.ofInt_toInt _)
    rw [← e]; exact g
  · exact (syno_inl h).elim
theorem sy_dup_ok (hb : syBok xs bx) (h : sy_dup (d, bx, (m, pc, K, l, st), rest, M) = .inl c') (hG : syG xs P B c') (hK : syKok m (pc + 1) K) (hr : syRok rest) :
    ∃ x st', sys xs st = x :: st' ∧ x.category = 1 ∧ qW (zEv d) m (sykont xs P d rest) (pc + 1) (syl xs l) (x :: x :: st') (syA B xs M) := by
  rcases st with _ | ⟨x, st⟩
  · exact (syno_inl h).elim
  · obtain ⟨h1, h2⟩ := syok_inl h
    exact ⟨_, _, rfl, by rw [sycat_ok]; exact Nat.eq_of_beq_eq_true h1, sy_go (n := 0) h2 hG hK hr⟩
theorem sy_dup2_ok (hb : syBok xs bx) (h : sy_dup2 (d, bx, (m, pc, K, l, st), rest, M) = .inl c') (hG : syG xs P B c') (hK : syKok m (pc + 1) K) (hr : syRok rest) :
    ∃ x y st', sys xs st = x :: y :: st' ∧ x.category = 1 ∧ y.category = 1 ∧ qW (zEv d) m (sykont xs P d rest) (pc + 1) (syl xs l) (x :: y :: x :: y :: st') (syA B xs M) := by
  rcases st with _ | ⟨x, _ | ⟨y, st⟩⟩
  · exact (syno_inl h).elim
  · exact (syno_inl h).elim
  · obtain ⟨h1, h2⟩ := syok_inl h
    rw [Bool.and_eq_true] at h1
    exact ⟨_, _, _, rfl, by rw [sycat_ok]; exact Nat.eq_of_beq_eq_true h1.1, by rw [sycat_ok]; exact Nat.eq_of_beq_eq_true h1.2, sy_go (n := 0) h2 hG hK hr⟩
theorem sy_pop_ok (hb : syBok xs bx) (h : sy_pop (d, bx, (m, pc, K, l, st), rest, M) = .inl c') (hG : syG xs P B c') (hK : syKok m (pc + 1) K) (hr : syRok rest) :
    ∃ x st', sys xs st = x :: st' ∧ x.category = 1 ∧ qW (zEv d) m (sykont xs P d rest) (pc + 1) (syl xs l) st' (syA B xs M) := by
  rcases st with _ | ⟨x, st⟩
  · exact (syno_inl h).elim
  · obtain ⟨h1, h2⟩ := syok_inl h
    exact ⟨_, _, rfl, by rw [sycat_ok]; exact Nat.eq_of_beq_eq_true h1, sy_go (n := 0) h2 hG hK hr⟩
theorem sy_goto_ok {r : List Nat} (hu : syUok xs u B) (hb : syBok xs bx) (h : sy_goto u r (d, bx, (m, pc, K, l, st), rest, M) = .inl c') (hG : syG xs P B c') (hr : syRok rest) : qW (zEv d) m (sykont xs P d rest) (r.getD 0 0) (syl xs l) (sys xs st) (syA B xs M) := sy_go (n := 0) h hG (hu.2.2.2 _ _) hr
theorem sy_if_ok {c : ClassFile.Cond} {r : List Nat} (hu : syUok xs u B) (hb : syBok xs bx) (h : sy_if u c r (d, bx, (m, pc, K, l, st), rest, M) = .inl c') (hG : syG xs P B c') (hK : syKok m (pc + 3) K) (hr : syRok rest) :
    ∃ x st', sys xs st = .int x :: st' ∧ ((zcc c x 0 ∧ qW (zEv d) m (sykont xs P d rest) (r.getD 0 0) (syl xs l) st' (syA B xs M)) ∨ (¬ zcc c x 0 ∧ qW (zEv d) m (sykont xs P d rest) (pc + 3) (syl xs l) st' (syA B xs M))) := by
  rcases st with _ | ⟨x, st⟩
  · exact (syno_inl h).elim
  · obtain ⟨a, b, h1, h2, h3⟩ := syif_ok hb h
    have h2 : Value.int (Int32.ofInt 0) = .int b := h2
    have e : b = 0 := by cases h2; rfl
    subst e
    refine ⟨a, sys xs st, by show syv xs x :: sys xs st = _; rw [h1], ?_⟩
    rcases h3 with ⟨g, h4⟩ | ⟨g, h4⟩
    · exact Or.inl ⟨g, sy_go (n := 0) h4 hG (hu.2.2.2 _ _) hr⟩
    · exact Or.inr ⟨g, sy_go (n := 0) h4 hG hK hr⟩
theorem sy_icmp_ok {c : ClassFile.Cond} {r : List Nat} (hu : syUok xs u B) (hb : syBok xs bx) (h : sy_icmp u c r (d, bx, (m, pc, K, l, st), rest, M) = .inl c') (hG : syG xs P B c') (hK : syKok m (pc + 3) K) (hr : syRok rest) :
    ∃ x y st', sys xs st = .int y :: .int x :: st' ∧ ((zcc c x y ∧ qW (zEv d) m (sykont xs P d rest) (r.getD 0 0) (syl xs l) st' (syA B xs M)) ∨ (¬ zcc c x y ∧ qW (zEv d) m (sykont xs P d rest) (pc + 3) (syl xs l) st' (syA B xs M))) := by
  rcases st with _ | ⟨y, _ | ⟨x, st⟩⟩
  · exact (syno_inl h).elim
  · exact (syno_inl h).elim
  · obtain ⟨a, b, h1, h2, h3⟩ := syif_ok hb h
    refine ⟨a, b, sys xs st, by show syv xs y :: syv xs x :: sys xs st = _; rw [h1, h2], ?_⟩
    rcases h3 with ⟨g, h4⟩ | ⟨g, h4⟩
    · exact Or.inl ⟨g, sy_go (n := 0) h4 hG (hu.2.2.2 _ _) hr⟩
    · exact Or.inr ⟨g, sy_go (n := 0) h4 hG hK hr⟩
theorem sy_null_ok {b : Bool} {r : List Nat} (hu : syUok xs u B) (hb : syBok xs bx) (h : sy_null u b r (d, bx, (m, pc, K, l, st), rest, M) = .inl c') (hG : syG xs P B c') (hK : syKok m (pc + 3) K) (hr : syRok rest) :
    ∃ q st', sys xs st = va_rf q :: st' ∧ ((Bool.xor q.isNone b = true ∧ qW (zEv d) m (sykont xs P d rest) (r.getD 0 0) (syl xs l) st' (syA B xs M)) ∨ (Bool.xor q.isNone b = false ∧ qW (zEv d) m (sykont xs P d rest) (pc + 3) (syl xs l) st' (syA B xs M))) := by
  rcases st with _ | ⟨x, st⟩
  · exact (syno_inl h).elim
  · rcases x with z | j | q | w
    · exact (syno_inl h).elim
    · exact (syno_inl h).elim
    · refine ⟨q, sys xs st, rfl, ?_⟩
      have h : (cond (Bool.xor q.isNone b) (.inl (d, bx, (m, r.getD 0 0, u.2.2.2 m (r.getD 0 0), l, st), rest, M)) (.inl (d, bx, (m, pc + 3, K, l, st), rest, M)) : syR) = .inl c' := h
      cases hx : Bool.xor q.isNone b with
      | true => rw [hx] at h; exact Or.inl ⟨rfl, sy_go (n := 0) h hG (hu.2.2.2 _ _) hr⟩
      | false => rw [hx] at h; exact Or.inr ⟨rfl, sy_go (n := 0) h hG hK hr⟩
    · exact (syno_inl h).elim
theorem sy_ts_ok {lo hi : Int} {r : List Nat} (hl : -2147483648 ≤ lo ∧ hi < 2147483648) (hu : syUok xs u B) (hb : syBok xs bx) (h : sy_ts u lo hi r (d, bx, (m, pc, K, l, st), rest, M) = .inl c') (hG : syG xs P B c') (hr : syRok rest) :
    ∃ x st', sys xs st = .int x :: st' ∧ (((x.toInt < lo ∨ hi < x.toInt) ∧ qW (zEv d) m (sykont xs P d rest) (r.getD 0 0) (syl xs l) st' (syA B xs M)) ∨ (¬ (x.toInt < lo ∨ hi < x.toInt) ∧ qW (zEv d) m (sykont xs P d rest) (r.getD ((x.toInt - lo).toNat + 1) 0) (syl xs l) st' (syA B xs M))) := by
  rcases st with _ | ⟨x, st⟩
  · exact (syno_inl h).elim
  · obtain ⟨h1, h2⟩ := syok_inl h
    obtain ⟨a, ha, hr1, hr2⟩ := syrg_ok hb h1
    refine ⟨a, sys xs st, by show syv xs x :: sys xs st = _; rw [ha], ?_⟩
    cases hc : (sylt (syrg bx x).2 lo || sylt hi (syrg bx x).1) with
    | true =>
      rw [hc] at h2
      rw [Bool.or_eq_true, sylt_iff, sylt_iff] at hc
      exact Or.inl ⟨by omega, sy_go (n := 0) h2 hG (hu.2.2.2 _ _) hr⟩
    | false =>
      rw [hc] at h2
      have h2 : cond (syle lo (syrg bx x).1 && syle (syrg bx x).2 hi) (syint bx x fun z => .inl (d, bx, (m, r.getD ((z - lo).toNat + 1) 0, u.2.2.2 m (r.getD ((z - lo).toNat + 1) 0), l, st), rest, M)) _ = .inl c' := h2
      cases hd : (syle lo (syrg bx x).1 && syle (syrg bx x).2 hi) with
      | true =>
        rw [hd] at h2
        rw [Bool.and_eq_true, syle_iff, syle_iff] at hd
        obtain ⟨z, g1, g2, g3⟩ := syint_inl hb h2
        have e : a = Int32.ofInt z := by rw [ha] at g2; cases g2; rfl
        have e2 : a.toInt = z := by rw [e]; exact syZ_to g1
        rw [e2]
        exact Or.inr ⟨by omega, sy_go (n := 0) g3 hG (hu.2.2.2 _ _) hr⟩
      | false =>
        rw [hd] at h2
        rcases x with z | j | q | w
        · exact (syno_inl h2).elim
        · cases h2
        · exact (syno_inl h2).elim
        · exact (syno_inl h2).elim
end SY
