/-! ===== a step, a run ===== -/
theorem syd {p : Prop} [Decidable p] (h : decide p = true) : p := of_decide_eq_true h
theorem syand {a b : Bool} (h : (a && b) = true) : a = true ∧ b = true := by rw [Bool.and_eq_true] at h; exact h
theorem syor {a b : Bool} (h : (a || b) = true) : a = true ∨ b = true := by rw [Bool.or_eq_true] at h; exact h
section SY
variable {xs : Nat → Int32} {P : Option Value → zM → Prop} {B : zM} {u : syU} {d m pc n : Nat} {bx : syB} {K : List syQ} {l : syL} {st : List syV} {rest : List syF} {M : syM} {c' : syC} {r : List Nat}
theorem syF_lt {o i : Nat} {c f : Nat} (h : zFld o i = some (c, f)) : c ≠ 9999 := by
  intro e
  subst e
  unfold zFld at h
  cases hf : (zGs o).find? (fun q => q.1 == (o, i)) with
  | none => rw [hf] at h; cases h
  | some q =>
    rw [hf] at h
    have h := Option.some.inj h
    have hm := List.mem_of_find?_eq_some hf
    have key : ∀ o, o < 16 → ∀ q ∈ zGs o, q.2.1 ≠ 9999 := by decide +kernel
    have h1 : q.2.1 = 9999 := congrArg Prod.fst h
    by_cases ho : o < 16
    · exact key o ho q hm h1
    · have : zGs o = [] := by
        unfold zGs
        split <;> first | rfl | omega
      rw [this] at hm
      cases hm
set_option maxHeartbeats 4000000 in
theorem syop_ok {i : Instr} (hd : decode (zB m) pc = .ok (i, n)) (hc : sychk m pc i n r = true) (hO : zO m ≠ 9999) (hu : syUok xs u B) (hb : syBok xs bx) (h : syop u i r (d, bx, (m, pc, K, l, st), rest, M) = .inl c') (hG : syG xs P B c') (hK : syKok m (pc + n) K) (hr : syRok rest) : syT xs P B d m pc l st rest M := by
  cases i with
  | aconst_null => have hc : n = 1 := syd hc; subst hc; exact q_null hd (sypush_ok hb h hG hK hr)
  | iconst z => have hc : n = 1 := syd hc; subst hc; exact q_iconst hd rfl (sypush_ok hb h hG hK hr)
  | bipush z => obtain ⟨e, c1⟩ := syand hc; clear hc; have e := syd e; have hc := syd c1; clear c1; subst e; exact q_bipush hd hc (sypush_ok hb h hG hK hr)
  | sipush z => obtain ⟨e, c1⟩ := syand hc; clear hc; have e := syd e; have hc := syd c1; clear c1; subst e; exact q_sipush hd hc (sypush_ok hb h hG hK hr)
  | ldc2_w ix => obtain ⟨e, c1⟩ := syand hc; clear hc; have e := syd e; have hc := syd c1; clear c1; subst e; exact q_ldc2_w hd hc (sypush_ok hb h hG hK hr)
  | iload_n j => have hc : n = 1 := syd hc; subst hc; obtain ⟨x, h1, h2⟩ := sy_ild_ok hb h hG hK hr; exact q_iload_n hd h1 h2
  | iload j => have hc : n = 2 := syd hc; subst hc; obtain ⟨x, h1, h2⟩ := sy_ild_ok hb h hG hK hr; exact q_iload hd h1 h2
  | aload_n j => have hc : n = 1 := syd hc; subst hc; obtain ⟨x, h1, f, v, M', h2, h3⟩ := sy_ald_ok hb h hG hK hr; exact q_of hd ⟨f, v, M', ⟨rfl, x, h1, h2⟩, h3⟩
  | aload j => have hc : n = 2 := syd hc; subst hc; obtain ⟨x, h1, f, v, M', h2, h3⟩ := sy_ald_ok hb h hG hK hr; exact q_of hd ⟨f, v, M', ⟨rfl, x, h1, h2⟩, h3⟩
  | istore_n j => obtain ⟨e, c1⟩ := syand hc; clear hc; have e := syd e; have hc := syd c1; clear c1; subst e; obtain ⟨x, st', h1, h2⟩ := sy_ist_ok hb h hG hK hr; unfold syT; rw [h1]; exact q_istore_n hd hc rfl h2
  | istore j => obtain ⟨e, c1⟩ := syand hc; clear hc; have e := syd e; have hc := syd c1; clear c1; subst e; obtain ⟨x, st', h1, h2⟩ := sy_ist_ok hb h hG hK hr; unfold syT; rw [h1]; exact q_istore hd hc rfl h2
  | astore_n j => obtain ⟨e, c1⟩ := syand hc; clear hc; have e := syd e; have hc := syd c1; clear c1; subst e; obtain ⟨x, st', h1, f, v, M', h2, h3⟩ := sy_ast_ok hb h hG hK hr; exact q_of hd ⟨f, v, M', ⟨rfl, hc, x, st', h1, h2⟩, h3⟩
  | astore j => obtain ⟨e, c1⟩ := syand hc; clear hc; have e := syd e; have hc := syd c1; clear c1; subst e; obtain ⟨x, st', h1, f, v, M', h2, h3⟩ := sy_ast_ok hb h hG hK hr; exact q_of hd ⟨f, v, M', ⟨rfl, hc, x, st', h1, h2⟩, h3⟩
  | iinc j z => obtain ⟨e, c1⟩ := syand hc; clear hc; have e := syd e; have hc := syd c1; clear c1; subst e; obtain ⟨x, h1, h2⟩ := sy_iinc_ok hb h hG hK hr; exact q_iinc hd hc h1 rfl rfl h2
  | iadd => have hc : n = 1 := syd hc; subst hc; obtain ⟨x, y, st', h1, h2⟩ := sy_add_ok hb h hG hK hr; unfold syT; rw [h1]; exact q_iadd hd h2
  | isub => have hc : n = 1 := syd hc; subst hc; have h : sy_b2 (fun x y => x - y) (d, bx, (m, pc, K, l, st), rest, M) = .inl c' := h; obtain ⟨x, y, st', h1, h2⟩ := sy_b2_ok (g := fun x y => x - y) (fun x y => Int32.ofInt_sub x y) hb h hG hK hr; unfold syT; rw [h1]; exact q_isub hd h2
  | imul => have hc : n = 1 := syd hc; subst hc; have h : sy_b2 (fun x y => x * y) (d, bx, (m, pc, K, l, st), rest, M) = .inl c' := h; obtain ⟨x, y, st', h1, h2⟩ := sy_b2_ok (g := fun x y => x * y) (fun x y => Int32.ofInt_mul x y) hb h hG hK hr; unfold syT; rw [h1]; exact q_imul hd h2
  | iand => have hc : n = 1 := syd hc; subst hc; obtain ⟨x, y, st', h1, h2⟩ := sy_and_ok hb h hG hK hr; unfold syT; rw [h1]; exact q_iand hd h2
  | ior => have hc : n = 1 := syd hc; subst hc; have h : sy_b2 (fun x y => (Int32.ofInt x ||| Int32.ofInt y).toInt) (d, bx, (m, pc, K, l, st), rest, M) = .inl c' := h; obtain ⟨x, y, st', h1, h2⟩ := sy_b2_ok (g := fun x y => x ||| y) (fun x y => Int32.ofInt_toInt _) hb h hG hK hr; unfold syT; rw [h1]; exact q_ior hd h2
  | ishl => have hc : n = 1 := syd hc; subst hc; have h : sy_b2 (fun x y => (Int32.ofInt x <<< (Int32.ofInt y &&& 31)).toInt) (d, bx, (m, pc, K, l, st), rest, M) = .inl c' := h; obtain ⟨x, y, st', h1, h2⟩ := sy_b2_ok (g := fun x y => x <<< (y &&& 31)) (fun x y => Int32.ofInt_toInt _) hb h hG hK hr; unfold syT; rw [h1]; exact q_ishl hd h2
  | ishr => have hc : n = 1 := syd hc; subst hc; have h : sy_b2 (fun x y => (Int32.ofInt x >>> (Int32.ofInt y &&& 31)).toInt) (d, bx, (m, pc, K, l, st), rest, M) = .inl c' := h; obtain ⟨x, y, st', h1, h2⟩ := sy_b2_ok (g := fun x y => x >>> (y &&& 31)) (fun x y => Int32.ofInt_toInt _) hb h hG hK hr; unfold syT; rw [h1]; exact q_ishr hd h2
  | idiv => have hc : n = 1 := syd hc; subst hc; have h : sy_dr (fun x y => x / y) (d, bx, (m, pc, K, l, st), rest, M) = .inl c' := h; obtain ⟨x, y, st', h1, h0, h2⟩ := sy_dr_ok hb h hG hK hr; unfold syT; rw [h1]; exact q_idiv hd h0 h2
  | irem => have hc : n = 1 := syd hc; subst hc; have h : sy_dr (fun x y => x - x / y * y) (d, bx, (m, pc, K, l, st), rest, M) = .inl c' := h; obtain ⟨x, y, st', h1, h0, h2⟩ := sy_dr_ok hb h hG hK hr; unfold syT; rw [h1]; exact q_irem hd h0 h2
  | ineg => have hc : n = 1 := syd hc; subst hc; obtain ⟨x, st', h1, h2⟩ := sy_neg_ok hb h hG hK hr; unfold syT; rw [h1]; exact q_ineg hd h2
  | lcmp => have hc : n = 1 := syd hc; subst hc; obtain ⟨x, y, st', h1, h2⟩ := sy_lcmp_ok hb h hG hK hr; unfold syT; rw [h1]; exact q_lcmp hd h2
  | dup => have hc : n = 1 := syd hc; subst hc; obtain ⟨x, st', h1, h0, h2⟩ := sy_dup_ok hb h hG hK hr; unfold syT; rw [h1]; exact q_dup hd h0 h2
  | dup2 => have hc : n = 1 := syd hc; subst hc; obtain ⟨x, y, st', h1, h0, h00, h2⟩ := sy_dup2_ok hb h hG hK hr; unfold syT; rw [h1]; exact q_dup2 hd h0 h00 h2
  | pop => have hc : n = 1 := syd hc; subst hc; obtain ⟨x, st', h1, h0, h2⟩ := sy_pop_ok hb h hG hK hr; unfold syT; rw [h1]; exact q_pop hd h0 h2
  | goto o => obtain ⟨e, c1⟩ := syand hc; clear hc; have e := syd e; have hc := syd c1; clear c1; subst e; exact q_goto _ hd hc (sy_goto_ok (pc := pc) (K := K) hu hb h hG hr)
  | ifCond c o =>
    obtain ⟨e, c1⟩ := syand hc; clear hc; have e := syd e; have hc := syd c1; clear c1; subst e
    obtain ⟨x, st', h1, h2⟩ := sy_if_ok hu hb h hG hK hr
    unfold syT; rw [h1]
    rcases h2 with ⟨g, h2⟩ | ⟨g, h2⟩
    · exact q_if _ hd hc (fun _ => h2) (fun e => absurd g e)
    · exact q_if _ hd hc (fun e => absurd e g) (fun _ => h2)
  | if_icmp c o =>
    obtain ⟨e, c1⟩ := syand hc; clear hc; have e := syd e; have hc := syd c1; clear c1; subst e
    obtain ⟨x, y, st', h1, h2⟩ := sy_icmp_ok hu hb h hG hK hr
    unfold syT; rw [h1]
    rcases h2 with ⟨g, h2⟩ | ⟨g, h2⟩
    · exact q_icmp _ hd hc (fun _ => h2) (fun e => absurd g e)
    · exact q_icmp _ hd hc (fun e => absurd e g) (fun _ => h2)
  | ifnull o =>
    obtain ⟨e, c1⟩ := syand hc; clear hc; have e := syd e; have hc := syd c1; clear c1; subst e
    obtain ⟨q, st', h1, h2⟩ := sy_null_ok (b := false) hu hb h hG hK hr
    unfold syT; rw [h1]
    cases q with
    | none =>
      rcases h2 with ⟨g, h2⟩ | ⟨g, h2⟩
      · exact q_ifnull _ hd hc (fun _ => h2) (fun e => absurd rfl e)
      · cases g
    | some a =>
      rcases h2 with ⟨g, h2⟩ | ⟨g, h2⟩
      · cases g
      · exact q_ifnull _ hd hc (fun e => absurd e (Option.some_ne_none _)) (fun _ => h2)
  | ifnonnull o =>
    obtain ⟨e, c1⟩ := syand hc; clear hc; have e := syd e; have hc := syd c1; clear c1; subst e
    obtain ⟨q, st', h1, h2⟩ := sy_null_ok (b := true) hu hb h hG hK hr
    unfold syT; rw [h1]
    cases q with
    | none =>
      rcases h2 with ⟨g, h2⟩ | ⟨g, h2⟩
      · cases g
      · exact q_ifnonnull _ hd hc (fun e => absurd rfl e) (fun _ => h2)
    | some a =>
      rcases h2 with ⟨g, h2⟩ | ⟨g, h2⟩
      · exact q_ifnonnull _ hd hc (fun _ => h2) (fun e => absurd e (Option.some_ne_none _))
      · cases g
  | tableswitch dd lo hi offs =>
    obtain ⟨hq0, kc5⟩ := syand hc; clear hc; obtain ⟨hq1, kc4⟩ := syand hq0; clear hq0; obtain ⟨hq2, kc3⟩ := syand hq1; clear hq1; obtain ⟨kc1, kc2⟩ := syand hq2; clear hq2; have c1 := syd kc1; clear kc1; have c2 := syd kc2; clear kc2; have c3 := syd kc3; clear kc3; have c4 := syd kc4; clear kc4; have c5 := syd kc5; clear kc5
    obtain ⟨x, st', h1, h2⟩ := sy_ts_ok ⟨c3, c4⟩ hu hb h hG hr
    unfold syT; rw [h1]
    rcases h2 with ⟨g, h2⟩ | ⟨g, h2⟩
    · exact q_tsO _ hd g c1 h2
    · exact q_tsI _ _ hd g (c5 _ (by omega)) (by omega) h2
  | getfield ix =>
    obtain ⟨hq0, kc2⟩ := syand hc; clear hc; obtain ⟨e, kc1⟩ := syand hq0; clear hq0; have e := syd e; have c1 := syd kc1; clear kc1; have c2 := syd kc2; clear kc2; subst e
    exact sy_getf_ok hd c1 c2 (syF_lt c1) hu hb h hG hK hr
  | putfield ix =>
    obtain ⟨hq0, kc3⟩ := syand hc; clear hc; obtain ⟨hq1, kc2⟩ := syand hq0; clear hq0; obtain ⟨e, kc1⟩ := syand hq1; clear hq1; have e := syd e; have c1 := syd kc1; clear kc1; have c2 := syd kc2; clear kc2; have c3 := syd kc3; clear kc3; subst e
    exact sy_putf_ok hd c1 c2 c3 (syF_lt c1) hu hb h hG hK hr
  | arraylength => have hc : n = 1 := syd hc; subst hc; exact sy_alen_ok hd hu hb h hG hK hr
  | iaload => have hc : n = 1 := syd hc; subst hc; exact sy_iald_ok hd hu hb h hG hK hr
  | aaload => have hc : n = 1 := syd hc; subst hc; exact sy_aald_ok hd hu hb h hG hK hr
  | iastore => have hc : n = 1 := syd hc; subst hc; exact sy_iast_ok hd hu hb h hG hK hr
  | aastore => have hc : n = 1 := syd hc; subst hc; exact sy_aast_ok hd hu hb h hG hK hr
  | new ix => obtain ⟨q0, k3⟩ := syand hc; obtain ⟨q1, k2⟩ := syand q0; obtain ⟨e, k1⟩ := syand q1; have e := syd e; have c1 := syd k1; have c2 := syd k2; have c3 := syd k3; clear hc q0 q1; subst e; exact sy_new_ok hd c1 c2 c3 hb h hG hK hr
  | newarray t => obtain ⟨e, k1⟩ := syand hc; have e := syd e; have c1 := (syor k1).imp syd syd; clear hc; subst e; exact sy_newa_ok hd c1 hb h hG hK hr
  | anewarray ix => obtain ⟨q0, k2⟩ := syand hc; obtain ⟨e, k1⟩ := syand q0; have e := syd e; have c1 := syd k1; have c2 := syd k2; clear hc q0; subst e; exact sy_anewa_ok hd c1 c2 hb h hG hK hr
  | multianewarray ix dm => obtain ⟨e, k1⟩ := syand hc; have e := syd e; have c1 := (syor k1).imp syd syd; clear hc; subst e; exact sy_multi_ok hd c1 hb h hG hK hr
  | invokevirtual ix =>
    obtain ⟨hq0, kc5⟩ := syand hc; clear hc; obtain ⟨hq1, kc4⟩ := syand hq0; clear hq0; obtain ⟨hq2, kc3⟩ := syand hq1; clear hq1; obtain ⟨hq3, kc2⟩ := syand hq2; clear hq2; obtain ⟨e, kc1⟩ := syand hq3; clear hq3; have e := syd e; have c1 := syd kc1; clear kc1; have c2 := syd kc2; clear kc2; have c3 := syd kc3; clear kc3; have c4 := syd kc4; clear kc4; have c5 := syd kc5; clear kc5; subst e
    exact sy_virt_ok hd c1 c2 c3 c4 c5 (by
      have key : ∀ y, y < 216 → zO y ≠ 9999 := by decide +kernel
      rw [← c3]; exact key _ c5) hu hb h hG hK hr
  | invokespecial ix =>
    obtain ⟨e, kc1⟩ := syand hc; clear hc; have e := syd e; have c1 := syor kc1; clear kc1; subst e
    refine sy_spec_ok hd ?_ hu hb h hG hK hr
    simp only [Bool.and_eq_true, decide_eq_true_eq] at c1
    rcases c1 with c1 | ⟨⟨⟨⟨⟨c1, c2⟩, c3⟩, c4⟩, c5⟩, c6⟩
    · exact Or.inl c1
    · exact Or.inr ⟨c1, c2, c3, c4, c5, c6⟩
  | invokestatic ix =>
    obtain ⟨e, kc1⟩ := syand hc; clear hc; have e := syd e; have c1 := syor kc1; clear kc1; subst e
    refine sy_stat_ok hd ?_ hu hb h hG hK hr
    simp only [Bool.and_eq_true, decide_eq_true_eq] at c1
    rcases c1 with c1 | ⟨⟨⟨⟨c1, c2⟩, c3⟩, c4⟩, c5⟩
    · exact Or.inl c1
    · exact Or.inr ⟨c1, c2, c3, c4, c5⟩
  | ireturn =>
    obtain ⟨e, c0⟩ := syand hc; clear hc; have e := syd e; have c1 := syd c0; clear c0; subst e
    rcases st with _ | ⟨v, _ | ⟨w, st⟩⟩
    · exact (syno_inl h).elim
    · obtain ⟨h1, h2⟩ := syok_inl h
      rw [Bool.and_eq_true, Bool.or_eq_true, Bool.and_eq_true] at h1
      obtain ⟨x, hx⟩ := syisI_ok (xs := xs) h1.1
      have g := syret_ok (w := some (.int x)) (by show [syv xs v] = [.int x]; rw [hx]) hb h2 hG hr
      show qW _ _ _ _ _ [syv xs v] _
      rw [hx]
      rcases h1.2 with h3 | ⟨h3, h4⟩
      · exact q_iret hd (c1.trans (Nat.eq_of_beq_eq_true h3)) g
      · have h5 := sybit_ok (xs := xs) h4
        rw [hx] at h5
        exact q_zret hd (c1.trans (Nat.eq_of_beq_eq_true h3)) (h5.imp (fun e => Value.int.inj e) (fun e => Value.int.inj e)) g
    · exact (syno_inl h).elim
  | areturn =>
    obtain ⟨e, c0⟩ := syand hc; clear hc; have e := syd e; have c1 := syd c0; clear c0; subst e
    rcases st with _ | ⟨v, _ | ⟨w, st⟩⟩
    · exact (syno_inl h).elim
    · obtain ⟨h1, h2⟩ := syok_inl h
      obtain ⟨x, rfl⟩ := syisR_ok h1
      exact q_aret hd c1 (syret_ok (w := some (va_rf x)) rfl hb h2 hG hr)
    · exact (syno_inl h).elim
  | lreturn =>
    obtain ⟨e, c0⟩ := syand hc; clear hc; have e := syd e; have c1 := syd c0; clear c0; subst e
    have h : sy_lret (d, bx, (m, pc, K, l, st), rest, M) = .inl c' := h
    unfold sy_lret at h
    split at h
    · rename_i heq; cases heq
      exact q_lret hd c1 (syret_ok (w := some (.long _)) rfl hb h hG hr)
    · exact (syno_inl h).elim
  | return_ =>
    obtain ⟨e, c0⟩ := syand hc; clear hc; have e := syd e; have c1 := syd c0; clear c0; subst e
    rcases st with _ | ⟨v, st⟩
    · exact q_ret hd c1 (syret_ok (w := none) rfl hb h hG hr)
    · exact (syno_inl h).elim
  | _ => exact (syno_inl h).elim
theorem sydo_enc (i : Instr) (c : syC) : sydo u (syenc i r) c = syop u i r c := by
  cases i <;> rfl
theorem systep_ok {c : syC} (hO : ∀ m, zO m ≠ 9999) (hu : syUok xs u B) (hb : syBok xs c.2.1) (h : systep u c = .inl c') (hG : syG xs P B c') : syG xs P B c := by
  obtain ⟨d, bx, ⟨m, pc, K, l, st⟩, rest, M⟩ := c
  cases K with
  | nil => exact (syno_inl h).elim
  | cons q K =>
    intro hb hK hr
    obtain ⟨i, n, r, h1, h2, h3, h4⟩ := hK
    subst h3
    have h : sydo u (syenc i r) (d, bx, (m, pc, K, l, st), rest, M) = .inl c' := h
    rw [sydo_enc] at h
    exact syop_ok h1 h2 (hO m) hu hb h hG h4 hr
theorem syrun_ok {step : syC → syR} {fin : syC → Bool} (hstep : ∀ c c', syBok xs c.2.1 → step c = .inl c' → syG xs P B c' → syG xs P B c) (hfin : ∀ c, fin c = true → syG xs P B c) : ∀ (f : Nat) (c : syC), syrun step fin f c = true → syG xs P B c := by
  intro f
  induction f with
  | zero => intro c h; cases h
  | succ f ih =>
    intro c h
    have h : syrun1 step fin (syrun step fin f) c = true := h
    unfold syrun1 at h
    intro hb
    cases hs : step c with
    | inl c' => rw [hs] at h; exact hstep c c' hb hs (ih c' h) hb
    | inr q =>
      rw [hs] at h
      rcases q with ⟨j, k⟩ | b
      · have h : cond (syrun step fin f (c.1, (syfork c.2.1 j k).2, c.2.2)) (syrun step fin f (c.1, (syfork c.2.1 j k).1, c.2.2)) false = true := h
        cases h2 : syrun step fin f (c.1, (syfork c.2.1 j k).2, c.2.2) with
        | false => rw [h2] at h; cases h
        | true =>
          rw [h2] at h
          have g2 := ih _ h2
          have g1 := ih _ h
          have hj := syBg_ok hb j
          by_cases hk : (syE xs j).toInt ≤ k
          · exact g1 (fun q hq => by
              rcases List.mem_cons.mp hq with rfl | hq
              · exact ⟨hj.1, hk⟩
              · exact hb q hq)
          · exact g2 (fun q hq => by
              rcases List.mem_cons.mp hq with rfl | hq
              · exact ⟨(by show k + 1 ≤ (syE xs j).toInt; omega), hj.2⟩
              · exact hb q hq)
      · exact hfin c h hb
theorem syfin_ok {tb : Nat → Nat → Option syO} {fin : Option syV → syM → Bool} (htb : ∀ m pc i n r, tb m pc = some (i, n, r) → decode (zB m) pc = .ok (i, n) ∧ sychk m pc i n r = true) (hP : ∀ v M, fin v M = true → P (v.map (syv xs)) (syA B xs M)) (c : syC) (h : syfin tb fin c = true) : syG xs P B c := by
  obtain ⟨d, bx, ⟨m, pc, K, l, st⟩, rest, M⟩ := c
  intro hb0 hK0 hr0
  clear hb0 hK0 hr0
  cases rest with
  | cons f rest => cases h
  | nil =>
    dsimp only [syfin] at h
    split at h
    · rename_i n r ht
      obtain ⟨hd, hc⟩ := htb _ _ _ _ _ ht
      obtain ⟨e, c0⟩ := syand hc; clear hc; have e := syd e; have c1 := syd c0; clear c0; subst e
      split at h
      · rename_i v
        rw [Bool.and_eq_true, Bool.and_eq_true, Bool.or_eq_true, Bool.and_eq_true] at h
        obtain ⟨x, hx⟩ := syisI_ok (xs := xs) h.1.2
        have g := hP _ _ h.2
        have g : P (some (syv xs v)) (syA B xs M) := g
        show qW _ _ _ _ _ [syv xs v] _
        rw [hx] at g ⊢
        rcases h.1.1 with h3 | ⟨h3, h4⟩
        · exact q_iret hd (c1.trans (Nat.eq_of_beq_eq_true h3)) g
        · have h5 := sybit_ok (xs := xs) h4
          rw [hx] at h5
          exact q_zret hd (c1.trans (Nat.eq_of_beq_eq_true h3)) (h5.imp (fun e => Value.int.inj e) (fun e => Value.int.inj e)) g
      · cases h
    · rename_i n r ht
      obtain ⟨hd, hc⟩ := htb _ _ _ _ _ ht
      obtain ⟨e, c0⟩ := syand hc; clear hc; have e := syd e; have c1 := syd c0; clear c0; subst e
      split at h
      · exact q_ret hd c1 (hP _ _ h)
      · cases h
    · cases h
end SY
