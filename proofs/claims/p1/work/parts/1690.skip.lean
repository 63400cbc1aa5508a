/-! ===== a loop of ticks that change nothing is passed at once ===== -/
def syfinT (M : syM) (v : Option syV) (M' : syM) : Bool := v.isNone && decide (M'.1 = M.1) && decide (M'.2.1 = M.2.1) && decide (M'.2.2.1 = M.2.2.1) && Nat.beq M'.2.2.2.1 M.2.2.2.1 && Nat.beq M'.2.2.2.2 M.2.2.2.2
def syisA (a : Nat) (v : Option syV) : Bool := match v with
  | some (.inr (.inr (.inl (some b)))) => Nat.beq b a
  | _ => false
def syno3 : syL → Bool
  | [] => true
  | q :: t => !Nat.beq q.1 3 && Nat.beq (sycat q.2) 1 && syno3 t
def syk100x : List syQ := [([true, false, false], .eq, 0, 0, [0, 1]), ([true, false, true, true], .eq, 0, 0, [7, 5, 1]), ([false, false, false], .eq, 0, 0, [2, 1]), ([false, false, true, true, true], .eq, 0, 0, [0, 98, 1, 6, 3]), ([false, false, true, false, true, false], .eq, 0, 0, [1])]
def syk197x : List syQ := [([true, false, false], .eq, 0, 0, [0, 1]), ([false, false, false], .eq, 0, 0, [2, 1]), ([false, false, true, true, true], .eq, 0, 0, [0, 195, 1, 8, 2]), ([false, false, true, false, true, true, true], .eq, 0, 0, [3, 1]), ([true, false, false], .eq, 0, 0, [0, 1]), ([false, false, true, true, true], .eq, 0, 0, [0, 199, 0, 8, 1]), ([false, false, false], .eq, 0, 0, [3, 1]), ([false, false, true, false, true, false], .eq, 0, 0, [1])]
theorem syk100x_ok : syKok 100 51 syk100x := sykb_ok _ _ _ (by decide +kernel)
theorem syk197x_ok : syKok 197 41 syk197x := sykb_ok _ _ _ (by decide +kernel)
noncomputable def sysk100 (u : syU) (d : Nat) (bx : syB) (t : syL) (rest : List syF) (M : syM) : syR := match syld t 1 with
  | some v => syok (syin v && syle 0 (syrg bx v).1 && sykq (syGK u M.2.2.1 16) 7 0 && decide (syGR u M.2.1 16 5 = some (some 94)) && sykq (syGK u M.2.2.1 94) 6 0 && syisA 16 (syld t 0) && syno3 t
      && syrun (systep u) (syfin sytab (syfinT M)) 400 (d, bx, (69, 0, u.2.2.2 69 0, [(0, syrf 94)], []), [], M)) (.inl (d + 1, bx, (100, 51, syk100x, (3, v) :: t, []), rest, M))
  | none => syno
noncomputable def sysk197 (u : syU) (d : Nat) (bx : syB) (t : syL) (rest : List syF) (M : syM) : syR := match syld t 1 with
  | some v => syok (syin v && syle 0 (syrg bx v).1 && sykq (syGK u M.2.2.1 136) 8 0 && syisA 136 (syld t 0) && syno3 t
      && syrun (systep u) (syfin sytab (syfinT M)) 400 (d, bx, (175, 0, u.2.2.2 175 0, [(0, syrf 136)], []), [], M)) (.inl (d + 1, bx, (197, 41, syk197x, (3, v) :: t, []), rest, M))
  | none => syno
noncomputable def systepS (u : syU) : syC → syR
  | (d + 1, bx, (m, pc, K, (3, .inl 0) :: t, []), rest, M) => cond (Nat.beq m 100 && Nat.beq pc 33) (sysk100 u d bx t rest M) (cond (Nat.beq m 197 && Nat.beq pc 26) (sysk197 u d bx t rest M) (systep u (d + 1, bx, (m, pc, K, (3, .inl 0) :: t, []), rest, M)))
  | c => systep u c
section SY
variable {xs : Nat → Int32} {P : Option Value → zM → Prop} {B : zM} {u : syU} {d : Nat} {bx : syB} {K : List syQ} {t : syL} {rest : List syF} {M : syM} {c' : syC}
theorem syno3_ok : ∀ t : syL, syno3 t = true → (syl xs t).filter (fun q => !(q.1 == 3) && !(q.1 + 1 == 3 && q.2.category == 2)) = syl xs t := by
  intro t
  induction t with
  | nil => intro _; rfl
  | cons q t ih =>
    intro h
    obtain ⟨h, h3⟩ := syand h
    obtain ⟨h1, h2⟩ := syand h
    show List.filter _ ((q.1, syv xs q.2) :: syl xs t) = _
    rw [List.filter_cons, ih h3]
    have h2 := Nat.eq_of_beq_eq_true h2
    have h1 : Nat.beq q.1 3 = false := by cases hb : Nat.beq q.1 3 with | true => rw [hb] at h1; cases h1 | false => rfl
    have e1 : (q.1 == 3) = false := by
      cases hq : (q.1 == 3) with
      | false => rfl
      | true => have := eq_of_beq hq; rw [this] at h1; cases h1
    have e : (!((q.1, syv xs q.2).1 == 3) && !((q.1, syv xs q.2).1 + 1 == 3 && (q.1, syv xs q.2).2.category == 2)) = true := by
      show (!(q.1 == 3) && !(q.1 + 1 == 3 && (syv xs q.2).category == 2)) = true
      rw [e1, sycat_ok, h2]
      cases (q.1 + 1 == 3) <;> rfl
    rw [if_pos e]
    rfl
theorem syfinT_ok {v : Option syV} {M' : syM} (h : syfinT M v M' = true) : v.map (syv xs) = none ∧ syA B xs M' = syA B xs M := by
  obtain ⟨h, h6⟩ := syand h
  obtain ⟨h, h5⟩ := syand h
  obtain ⟨h, h4⟩ := syand h
  obtain ⟨h, h3⟩ := syand h
  obtain ⟨h1, h2⟩ := syand h
  refine ⟨?_, ?_⟩
  · cases v with
    | none => rfl
    | some w => cases h1
  · obtain ⟨a, b, c, n, s⟩ := M
    obtain ⟨a', b', c', n', s'⟩ := M'
    have e2 : a' = a := syd h2
    have e3 : b' = b := syd h3
    have e4 : c' = c := syd h4
    have e5 : n' = n := Nat.eq_of_beq_eq_true h5
    have e6 : s' = s := Nat.eq_of_beq_eq_true h6
    rw [e2, e3, e4, e5, e6]
/-- such a tick, as a call -/
theorem sytick {y a : Nat} (hy : y < 216) (hml : 1 ≤ zML y) (hu : syUok xs u B) (hb : syBok xs bx) (h : syrun (systep u) (syfin sytab (syfinT M)) 400 (d, bx, (y, 0, u.2.2.2 y 0, [(0, syrf a)], []), [], M) = true) : zEv (d + 1) y [.ref a] (syA B xs M) none (syA B xs M) := by
  have g := syrun_ok (xs := xs) (P := fun v N => v = none ∧ N = syA B xs M) (B := B) (fun c c' hb hs hG => systep_ok zO_ne hu hb hs hG) (fun c hc => syfin_ok sytab_ok (fun v M' h => syfinT_ok h) c hc) _ _ h
  obtain ⟨f, v, N, g1, g2, g3⟩ := g hb (hu.2.2.2 _ _) (fun f hf => by cases hf)
  subst g2
  subst g3
  exact Or.inr (Or.inr ⟨hy, hml, f, g1⟩)
theorem sy_ofI {x : Int32} {k : Nat} (h : (k : Int) = x.toInt) : Int32.ofInt k = x := by rw [h]; exact Int32.ofInt_toInt x
theorem sy_ofN {x : Int32} {k r : Nat} (h : (k : Int) + r = x.toInt) : (Int32.ofInt (k : Int)).toInt = k := by
  have := sylow x
  exact syZ_to (syZ_iff.mpr (by omega))
theorem d100_33 : decode (zB 100) 33 = .ok (.iload_n 3, 1) := by decide +kernel
theorem d100_34 : decode (zB 100) 34 = .ok (.iload_n 1, 1) := by decide +kernel
theorem d100_35 : decode (zB 100) 35 = .ok (.if_icmp .ge 16, 3) := by decide +kernel
theorem d100_38 : decode (zB 100) 38 = .ok (.aload_n 0, 1) := by decide +kernel
theorem d100_39 : decode (zB 100) 39 = .ok (.getfield 41, 3) := by decide +kernel
theorem d100_42 : decode (zB 100) 42 = .ok (.invokevirtual 175, 3) := by decide +kernel
theorem d100_45 : decode (zB 100) 45 = .ok (.iinc 3 1, 3) := by decide +kernel
theorem d100_48 : decode (zB 100) 48 = .ok (.goto (-15), 3) := by decide +kernel
theorem d197_26 : decode (zB 197) 26 = .ok (.iload_n 3, 1) := by decide +kernel
theorem d197_27 : decode (zB 197) 27 = .ok (.iload_n 1, 1) := by decide +kernel
theorem d197_28 : decode (zB 197) 28 = .ok (.if_icmp .ge 13, 3) := by decide +kernel
theorem d197_31 : decode (zB 197) 31 = .ok (.aload_n 0, 1) := by decide +kernel
theorem d197_32 : decode (zB 197) 32 = .ok (.invokevirtual 354, 3) := by decide +kernel
theorem d197_35 : decode (zB 197) 35 = .ok (.iinc 3 1, 3) := by decide +kernel
theorem d197_38 : decode (zB 197) 38 = .ok (.goto (-12), 3) := by decide +kernel
theorem sylo100 {N : zM} {Q : Option Value → zM → Prop} {T : List (Nat × Value)} {x : Int32} (hF : T.filter (fun q => !(q.1 == 3) && !(q.1 + 1 == 3 && q.2.category == 2)) = T) (h0 : zld T 0 = some (.ref 16)) (h1 : zld T 1 = some (.int x)) (k16 : zk N 16 = (7, 0)) (r16 : zr N 16 5 = some 94) (k94 : zk N 94 = (6, 0)) (ht : zEv d 69 [.ref 94] N none N) (he : qW (zEv d) 100 Q 51 ((3, .int x) :: T) [] N) :
    ∀ (r k : Nat), (k : Int) + r = x.toInt → qW (zEv d) 100 Q 33 ((3, .int (Int32.ofInt k)) :: T) [] N := by
  intro r
  induction r with
  | zero =>
    intro k hk
    have e := sy_ofI (x := x) (k := k) (by omega)
    refine q_iload_n (j := 3) (x := Int32.ofInt k) d100_33 rfl ?_
    refine q_iload_n (j := 1) (x := x) d100_34 h1 ?_
    refine q_icmp 51 d100_35 (by decide) (fun _ => ?_) (fun g => absurd (show x ≤ Int32.ofInt k from by rw [e]; exact Int32.le_refl x) g)
    rw [e]; exact he
  | succ r ih =>
    intro k hk
    have e := sy_ofN (x := x) (k := k) (r := r + 1) hk
    refine q_iload_n (j := 3) (x := Int32.ofInt k) d100_33 rfl ?_
    refine q_iload_n (j := 1) (x := x) d100_34 h1 ?_
    refine q_icmp 51 d100_35 (by decide) (fun g => ?_) (fun _ => ?_)
    · have g : x ≤ Int32.ofInt k := g
      have := Int32.le_iff_toInt_le.mp g
      omega
    · refine q_aload_n (j := 0) (a := 16) d100_38 h0 ?_
      refine q_getr (c := 7) (f := 5) (r := some 94) d100_39 ⟨by decide +kernel, by decide +kernel⟩ k16 r16 ?_
      refine q_virt (y := 69) (b := 94) (as := []) (st := []) d100_42 (by decide +kernel) (by decide +kernel) (k94.trans (by decide +kernel)) ht (by decide) ?_
      refine q_iinc (j := 3) (x := Int32.ofInt k) (y := Int32.ofInt ((k + 1 : Nat) : Int)) d100_45 (by decide +kernel) rfl (by rw [← Int32.ofInt_add]; rfl) (show zst ((3, .int (Int32.ofInt k)) :: T) 3 (.int (Int32.ofInt ((k + 1 : Nat) : Int))) = (3, .int (Int32.ofInt ((k + 1 : Nat) : Int))) :: T from by
        show (3, _) :: List.filter _ ((3, _) :: T) = _
        rw [List.filter_cons, if_neg (by simp), hF]) ?_
      refine q_goto 33 d100_48 (by decide) ?_
      exact ih (k + 1) (by omega)
theorem sylo197 {N : zM} {Q : Option Value → zM → Prop} {T : List (Nat × Value)} {x : Int32} (hF : T.filter (fun q => !(q.1 == 3) && !(q.1 + 1 == 3 && q.2.category == 2)) = T) (h0 : zld T 0 = some (.ref 136)) (h1 : zld T 1 = some (.int x)) (k136 : zk N 136 = (8, 0)) (ht : zEv d 175 [.ref 136] N none N) (he : qW (zEv d) 197 Q 41 ((3, .int x) :: T) [] N) :
    ∀ (r k : Nat), (k : Int) + r = x.toInt → qW (zEv d) 197 Q 26 ((3, .int (Int32.ofInt k)) :: T) [] N := by
  intro r
  induction r with
  | zero =>
    intro k hk
    have e := sy_ofI (x := x) (k := k) (by omega)
    refine q_iload_n (j := 3) (x := Int32.ofInt k) d197_26 rfl ?_
    refine q_iload_n (j := 1) (x := x) d197_27 h1 ?_
    refine q_icmp 41 d197_28 (by decide) (fun _ => ?_) (fun g => absurd (show x ≤ Int32.ofInt k from by rw [e]; exact Int32.le_refl x) g)
    rw [e]; exact he
  | succ r ih =>
    intro k hk
    have e := sy_ofN (x := x) (k := k) (r := r + 1) hk
    refine q_iload_n (j := 3) (x := Int32.ofInt k) d197_26 rfl ?_
    refine q_iload_n (j := 1) (x := x) d197_27 h1 ?_
    refine q_icmp 41 d197_28 (by decide) (fun g => ?_) (fun _ => ?_)
    · have g : x ≤ Int32.ofInt k := g
      have := Int32.le_iff_toInt_le.mp g
      omega
    · refine q_aload_n (j := 0) (a := 136) d197_31 h0 ?_
      refine q_virt (y := 175) (b := 136) (as := []) (st := []) d197_32 (by decide +kernel) (by decide +kernel) (k136.trans (by decide +kernel)) ht (by decide) ?_
      refine q_iinc (j := 3) (x := Int32.ofInt k) (y := Int32.ofInt ((k + 1 : Nat) : Int)) d197_35 (by decide +kernel) rfl (by rw [← Int32.ofInt_add]; rfl) (show zst ((3, .int (Int32.ofInt k)) :: T) 3 (.int (Int32.ofInt ((k + 1 : Nat) : Int))) = (3, .int (Int32.ofInt ((k + 1 : Nat) : Int))) :: T from by
        show (3, _) :: List.filter _ ((3, _) :: T) = _
        rw [List.filter_cons, if_neg (by simp), hF]) ?_
      refine q_goto 26 d197_38 (by decide) ?_
      exact ih (k + 1) (by omega)
theorem syisA_ok {a : Nat} {v : Option syV} (h : syisA a v = true) : v.map (syv xs) = some (.ref a) := by
  unfold syisA at h
  split at h
  · rw [Nat.eq_of_beq_eq_true h]; rfl
  · cases h
theorem sysk100_ok (hu : syUok xs u B) (hb : syBok xs bx) (h : sysk100 u d bx t rest M = .inl c') (hG : syG xs P B c') : syG xs P B (d + 1, bx, (100, 33, K, (3, .inl 0) :: t, []), rest, M) := by
  unfold sysk100 at h
  cases hl : syld t 1 with
  | none => rw [hl] at h; exact (syno_inl h).elim
  | some v =>
    rw [hl] at h
    obtain ⟨hc, h2⟩ := syok_inl h
    obtain ⟨hc, c8⟩ := syand hc
    obtain ⟨hc, c7⟩ := syand hc
    obtain ⟨hc, c6⟩ := syand hc
    obtain ⟨hc, c5⟩ := syand hc
    obtain ⟨hc, c4⟩ := syand hc
    obtain ⟨hc, c3⟩ := syand hc
    obtain ⟨c1, c2⟩ := syand hc
    obtain ⟨x, hx, r1, r2⟩ := syrg_ok hb c1
    have c2 := syle_iff.mp c2
    intro _ hK hr
    have g := sy_go (n := 0) h2 hG syk100x_ok hr
    have g : qW (zEv (d + 1)) 100 (sykont xs P (d + 1) rest) 51 ((3, syv xs v) :: syl xs t) [] (syA B xs M) := g
    rw [hx] at g
    exact sylo100 (syno3_ok t c7) ((syld_ok xs t 0).trans (syisA_ok c6)) ((syld_ok xs t 1).trans (by rw [hl]; exact congrArg some hx)) (syzk hu (sykq_ok c3) (by decide)) (syGR_ok hu.2.1 _ _ _ _ (syd c4)) (syzk hu (sykq_ok c5) (by decide)) (sytick (by decide) (by decide +kernel) hu hb c8) g x.toInt.toNat 0 (by omega)
theorem sysk197_ok (hu : syUok xs u B) (hb : syBok xs bx) (h : sysk197 u d bx t rest M = .inl c') (hG : syG xs P B c') : syG xs P B (d + 1, bx, (197, 26, K, (3, .inl 0) :: t, []), rest, M) := by
  unfold sysk197 at h
  cases hl : syld t 1 with
  | none => rw [hl] at h; exact (syno_inl h).elim
  | some v =>
    rw [hl] at h
    obtain ⟨hc, h2⟩ := syok_inl h
    obtain ⟨hc, c8⟩ := syand hc
    obtain ⟨hc, c7⟩ := syand hc
    obtain ⟨hc, c6⟩ := syand hc
    obtain ⟨hc, c3⟩ := syand hc
    obtain ⟨c1, c2⟩ := syand hc
    obtain ⟨x, hx, r1, r2⟩ := syrg_ok hb c1
    have c2 := syle_iff.mp c2
    intro _ hK hr
    have g := sy_go (n := 0) h2 hG syk197x_ok hr
    have g : qW (zEv (d + 1)) 197 (sykont xs P (d + 1) rest) 41 ((3, syv xs v) :: syl xs t) [] (syA B xs M) := g
    rw [hx] at g
    exact sylo197 (syno3_ok t c7) ((syld_ok xs t 0).trans (syisA_ok c6)) ((syld_ok xs t 1).trans (by rw [hl]; exact congrArg some hx)) (syzk hu (sykq_ok c3) (by decide)) (sytick (by decide) (by decide +kernel) hu hb c8) g x.toInt.toNat 0 (by omega)
theorem systepS_ok {c : syC} (hu : syUok xs u B) (hb : syBok xs c.2.1) (h : systepS u c = .inl c') (hG : syG xs P B c') : syG xs P B c := by
  unfold systepS at h
  split at h
  · rename_i d bx m pc K t rest M
    cases hx : (Nat.beq m 100 && Nat.beq pc 33) with
    | true =>
      rw [hx] at h
      obtain ⟨e1, e2⟩ := syand hx
      have e1 := Nat.eq_of_beq_eq_true e1
      have e2 := Nat.eq_of_beq_eq_true e2
      subst e1; subst e2
      exact sysk100_ok hu hb h hG
    | false =>
      rw [hx] at h
      have h : cond (Nat.beq m 197 && Nat.beq pc 26) (sysk197 u d bx t rest M) (systep u (d + 1, bx, (m, pc, K, (3, .inl 0) :: t, []), rest, M)) = .inl c' := h
      cases hy : (Nat.beq m 197 && Nat.beq pc 26) with
      | true =>
        rw [hy] at h
        obtain ⟨e1, e2⟩ := syand hy
        have e1 := Nat.eq_of_beq_eq_true e1
        have e2 := Nat.eq_of_beq_eq_true e2
        subst e1; subst e2
        exact sysk197_ok hu hb h hG
      | false =>
        rw [hy] at h
        exact systep_ok zO_ne hu hb h hG
  · exact systep_ok zO_ne hu hb h hG
end SY
theorem syboxS {L : Nat} {xs : Nat → Int32} {bx : syB} {f : Nat} (h : syrun (systepS (syu1 L)) (syfin sytab syfin1) f (syc1 bx) = true) (hb : syBok xs bx) : sySt L xs := by
  have hu := syu1_ok L xs
  have g := syrun_ok (xs := xs) (P := syP) (B := syB1 L xs) (fun c c' hb hs hG => systepS_ok hu hb hs hG) (fun c hc => syfin_ok sytab_ok syfin1_ok c hc) f _ h
  exact g hb (sykt_ok 902 18) (fun f hf => by cases hf)
