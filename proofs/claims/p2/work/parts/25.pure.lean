/-! ===== ticks keep what holds of sagas, purses and the log's length ===== -/
def yln (g : Option (List yL)) : Nat := match g with
  | none => 0
  | some l => l.length
theorem yln_lg (g : Option (List yL)) (x : yL) : yln (ylg g x) ≤ yln g + 1 := by
  cases g with
  | none => exact Nat.zero_le _
  | some l => show (l ++ [x]).length ≤ l.length + 1; rw [List.length_append]; exact Nat.le_refl _
theorem yck_0 {b : Int32} (h : yck b = 0) : 0 ≤ b ∧ b ≤ nI 9999 := by
  unfold yck at h
  by_cases h1 : 0 ≤ b
  · by_cases h2 : b ≤ nI 9999
    · exact ⟨h1, h2⟩
    · rw [if_pos h1, if_neg h2] at h; exact absurd h (by decide)
  · rw [if_neg h1] at h; exact absurd h (by decide)
theorem yck_i {b : Int32} (h : 0 ≤ b ∧ b ≤ nI 9999) : yck b = 0 := by unfold yck; rw [if_pos h.1, if_pos h.2]
theorem zix_m1 (n : Nat) : zix (-1) n = none := by
  unfold zix
  exact if_neg (fun h => absurd h.1 (by decide))
theorem ypu_n {P : yP} {m : Int32} : ypu P (-1) m = P := by unfold ypu; rw [zix_m1]
theorem ypu_a {P : yP} {a : Nat} {m : Int32} (h : a < 6) : ypu P (nI a) m = (yu P.1 a (P.1 a + m), P.2) := by unfold ypu; rw [zix_in h (by omega)]
theorem ybe_n {P : yP} {m : Int32} : ybe P (-1) m = 0 := by unfold ybe; rw [zix_m1]
theorem ybe_a {P : yP} {a : Nat} {m : Int32} (h : a < 6) : ybe P (nI a) m = yck (P.1 a + m) := by unfold ybe; rw [zix_in h (by omega)]
theorem yob_0 {T : yT} {P : yP} {i : Nat} {n w : Int32} (h : yob T P i n w = 0) : ybe P (tf T i) (w * yf1 (tk T i) n) = 0 ∧ ybe P (ts T i) (w * yf2 (tk T i) n) = 0 := by
  unfold yob at h
  by_cases h1 : ybe P (tf T i) (w * yf1 (tk T i) n) = 0
  · rw [if_neg (fun q => q h1)] at h; exact ⟨h1, h⟩
  · rw [if_pos h1] at h; exact absurd h h1
theorem m1_mul (n : Int32) : (-1 : Int32) * n = -n := by rw [Int32.neg_mul, Int32.one_mul]
theorem Int32_c1 (b w n : Int32) : b + w * -n + w * n = b := by rw [Int32.mul_neg, Int32.add_assoc, Int32.add_left_neg, Int32.add_zero]
theorem OKP_u {P : yP} {a : Nat} {v : Int32} (h : OKP P) (hv : 0 ≤ v ∧ v ≤ nI 9999) : OKP (yu P.1 a v, P.2) := by
  intro b hb
  show 0 ≤ yu P.1 a v b ∧ yu P.1 a v b ≤ nI 9999
  by_cases e : b = a
  · rw [e, yu_s]; exact hv
  · rw [yu_n e]; exact h b hb
theorem OKP_ex {P : yP} {a b : Nat} (hp : OKP P) (ha : a < 6) (hb : b < 6) : OKP (yex P (nI a) (nI b)) := by
  unfold yex
  rw [zix_in ha (by omega), zix_in hb (by omega)]
  exact OKP_u (P := (yu P.1 a (P.1 b), P.2)) (OKP_u hp (hp b hb)) (hp a ha)
theorem OKP_ch {T : yT} {P : yP} {i : Nat} {n w : Int32} (hT : OKT T) (hi : i < tn T) (h : OKP P) (h0 : yob T P i n w = 0) : OKP (ych T P i n w) := by
  obtain ⟨o1, o2⟩ := yob_0 h0
  obtain ⟨k6, -, a5, an5, s24, sn, -, -⟩ := hT.2.2.2 i hi
  unfold ych
  by_cases k5 : tk T i = 5
  · rw [if_neg (by omega), if_neg (by omega), a5 k5, sn (by omega) (by omega), ypu_n, ypu_n]
    split <;> exact h
  · obtain ⟨a, ha, ea⟩ := an5 k5
    rw [ea] at o1 ⊢
    rw [ybe_a ha] at o1
    by_cases k24 : tk T i = 2 ∨ tk T i = 4
    · obtain ⟨b, hb, eb⟩ := s24 k24
      rw [eb] at o2 ⊢
      rw [ybe_a hb] at o2
      have hp : OKP (ypu (ypu P (nI a) (w * yf1 (tk T i) n)) (nI b) (w * yf2 (tk T i) n)) := by
        rw [ypu_a ha, ypu_a hb]
        refine OKP_u (OKP_u h (yck_0 o1)) ?_
        show 0 ≤ yu P.1 a _ b + _ ∧ yu P.1 a _ b + _ ≤ nI 9999
        by_cases e : b = a
        · subst e
          rw [yu_s]
          have e2 : P.1 b + w * yf1 (tk T i) n + w * yf2 (tk T i) n = P.1 b := by
            rcases k24 with k | k
            · rw [k]; show P.1 b + w * -n + w * n = _; exact Int32_c1 _ _ _
            · rw [k]; show P.1 b + w * 0 + w * 0 = _; rw [Int32.mul_zero, Int32.add_zero, Int32.add_zero]
          rw [e2]; exact h b hb
        · rw [yu_n e]; exact yck_0 o2
      revert hp
      generalize ypu (ypu P (nI a) (w * yf1 (tk T i) n)) (nI b) (w * yf2 (tk T i) n) = P2
      intro hp
      rcases k24 with k | k
      · rw [if_neg (by omega), if_neg (by omega), if_neg (by omega)]; exact hp
      · rw [if_neg (by omega), if_pos k]
        exact OKP_ex hp ha hb
    · rw [sn (by omega) (by omega), ypu_n, ypu_a ha]
      have hp : OKP (yu P.1 a (P.1 a + w * yf1 (tk T i) n), P.2) := OKP_u h (yck_0 o1)
      by_cases k3 : tk T i = 3
      · rw [if_pos k3]; exact hp
      · rw [if_neg k3, if_neg (by omega), if_neg (by omega)]; exact hp
/-! sagas -/
theorem OKS_done {T : Nat → yT} {c : Nat} {S : yS} {i : Nat} {n : Int32} (h : OKS T c S) (hi : i < gz T S) (h0 : gd S i = 0) : OKS T c (yDn S i n) := by
  obtain ⟨a, b, d, e, f, g⟩ := h
  refine ⟨a, b, List.nodup_cons.mpr ⟨fun q => ?_, d⟩, fun k => ?_, fun k hk => ?_, fun k => ?_⟩
  · have := (e i).mp q; omega
  · show k ∈ i :: go S ↔ yu (gd S) i 1 k = 1
    rw [List.mem_cons, e k]
    by_cases q : k = i
    · subst q; rw [yu_s]; simp
    · rw [yu_n q]; simp [q]
  · have hk : gz T S ≤ k := hk
    show yu (gd S) i 1 k = 0
    rw [yu_n (by omega)]; exact f k hk
  · show yu (gd S) i 1 k ≤ 3
    by_cases q : k = i
    · subst q; rw [yu_s]; omega
    · rw [yu_n q]; exact g k
theorem OKS_undo {T : Nat → yT} {c : Nat} {S : yS} {i v : Nat} {t : List Nat} (h : OKS T c S) (hg : go S = i :: t) (hv : v = 2 ∨ v = 3) : OKS T c (goS (gdS S (yu (gd S) i v)) t) := by
  obtain ⟨a, b, d, e, f, g⟩ := h
  have hd := d
  rw [hg] at hd
  obtain ⟨n1, n2⟩ := List.nodup_cons.mp hd
  have hi : gd S i = 1 := (e i).mp (by rw [hg]; exact List.mem_cons_self)
  have hz : i < gz T S := Nat.lt_of_not_le (fun q => by have := f i q; omega)
  refine ⟨a, b, n2, fun k => ?_, fun k hk => ?_, fun k => ?_⟩
  · show k ∈ t ↔ yu (gd S) i v k = 1
    have h1 := e k
    rw [hg, List.mem_cons] at h1
    by_cases q : k = i
    · subst q; rw [yu_s]; constructor
      · intro q; exact absurd q n1
      · intro q; omega
    · rw [yu_n q, ← h1]; simp [q]
  · have hk : gz T S ≤ k := hk
    show yu (gd S) i v k = 0
    rw [yu_n (by omega)]; exact f k hk
  · show yu (gd S) i v k ≤ 3
    by_cases q : k = i
    · subst q; rw [yu_s]; omega
    · rw [yu_n q]; exact g k
theorem OKS_st {T : Nat → yT} {c v : Nat} {S : yS} (h : OKS T c S) (hg : gt S ≠ 0) (hv : v ≠ 0) (h5 : v ≤ 5) : OKS T c (gtS S v) := by
  obtain ⟨a, b, d, e, f, g⟩ := h
  refine ⟨h5, fun _ => b hg, d, e, fun k hk => ?_, g⟩
  have : gz T (gtS S v) = gz T S := by
    unfold gz; rw [if_neg hg]; show (if v = 0 then 0 else tn (T (gx S))) = _; rw [if_neg hv]
  rw [this] at hk; exact f k hk
theorem nodup_len : ∀ (n : Nat) (l : List Nat), l.Nodup → (∀ x ∈ l, x < n) → l.length ≤ n
  | 0, l, _, h => by
    cases l with
    | nil => exact Nat.le_refl _
    | cons a t => exact absurd (h a List.mem_cons_self) (Nat.not_lt_zero _)
  | n + 1, l, hd, h => by
    have h1 := nodup_len n (l.erase n) (hd.erase n) (fun x hx => by
      have h2 := hd.mem_erase_iff.mp hx
      have := h x h2.2
      omega)
    have h2 := List.length_erase (a := n) (l := l)
    split at h2 <;> omega
theorem OKS_len {T : Nat → yT} {c : Nat} {S : yS} (h : OKS T c S) (hz : gz T S ≤ 12) : (go S).length ≤ gz T S := by
  obtain ⟨a, b, d, e, f, g⟩ := h
  have hsub : ∀ i ∈ go S, i < gz T S := fun i hi => Nat.lt_of_not_le (fun q => by have := f i q; have := (e i).mp hi; omega)
  exact nodup_len _ _ d hsub
theorem OKS_pl {T : Nat → yT} {c : Nat} {S : yS} {p : Nat → Int32} (h : OKS T c S) : OKS T c (gpS S p) := h
theorem OKS_fS {T : Nat → yT} {c i : Nat} {S : yS} {r : Int32} {p : Bool} (h : OKS T c S) (hg : gt S ≠ 0) : OKS T c (yfS S i r p) := by
  unfold yfS
  split
  · exact h
  · exact OKS_st (S := gwS (gfS S (yu (gf S) i (gf S i + 1))) (yu (gw S) i r)) h hg (by omega) (by omega)
/-- the three ends of a try -/
theorem ytr_is (T : yT) (n : Int32) (s i : Nat) (X : yX) : ∃ S1, S1 = gpS (yxs X s) (ysd (gp (yxs X s)) i) ∧
    ((yob T X.1.1 i n 1 = 0 ∧ ypl (gp (yxs X s)) i = false ∧ ytr T n s i X = yno (yss (ysp X (ych T X.1.1 i n 1)) s (yDn S1 i n)) (1, s, i)) ∨
     (∃ r, r ≠ 0 ∧ ¬ (ypa T (gm (yxs X s) 1) = true ∧ ¬ gf (yxs X s) i + 1 < nI 3) ∧ ytr T n s i X = yno (yss X s (yfS S1 i r (ypa T (gm (yxs X s) 1)))) (2, s, i)) ∨
     (∃ r, r ≠ 0 ∧ (ypa T (gm (yxs X s) 1) = true ∧ ¬ gf (yxs X s) i + 1 < nI 3) ∧ ytr T n s i X = yen (yno (yss X s (yfS S1 i r true)) (2, s, i)) s 5)) := by
  refine ⟨_, rfl, ?_⟩
  unfold ytr
  by_cases hr : (if ypl (gp (yxs X s)) i then 1 else yob T X.1.1 i n 1) = 0
  · left
    have hp : ypl (gp (yxs X s)) i = false := by
      cases h : ypl (gp (yxs X s)) i with
      | false => rfl
      | true => rw [h, if_pos rfl] at hr; exact absurd hr (by decide)
    rw [hp] at hr
    refine ⟨hr, hp, ?_⟩
    simp only [hp]
    rw [if_pos hr]
  · right
    by_cases hc : ypa T (gm (yxs X s) 1) = true ∧ ¬ gf (yxs X s) i + 1 < nI 3
    · right
      refine ⟨_, hr, hc, ?_⟩
      simp only []
      rw [if_neg hr, if_pos hc, hc.1]
    · left
      refine ⟨_, hr, hc, ?_⟩
      simp only []
      rw [if_neg hr, if_neg hc]
theorem yss_s (X : yX) (s : Nat) (S : yS) : yxs (yss X s S) s = S := yu_s _ _ _
theorem yss_n {X : yX} {s r : Nat} {S : yS} (h : r ≠ s) : yxs (yss X s S) r = yxs X r := yu_n h
theorem OKW_ss {T : Nat → yT} {c s : Nat} {X : yX} {S : yS} (h : OKW T c X.1) (hS : OKS T c S) : OKW T c (yss X s S).1 := by
  refine ⟨h.1, h.2.1, fun r hr => ?_⟩
  show OKS T c (yu X.1.2 s S r)
  by_cases e : r = s
  · subst e; rw [yu_s]; exact hS
  · rw [yu_n e]; exact h.2.2 r hr
theorem ytr_n {T : yT} {n : Int32} {s i r : Nat} {X : yX} (h : r ≠ s) : yxs (ytr T n s i X) r = yxs X r := by
  obtain ⟨S1, -, ⟨-, -, e⟩ | ⟨w, -, -, e⟩ | ⟨w, -, -, e⟩⟩ := ytr_is T n s i X <;> rw [e]
  · exact yss_n h
  · exact yss_n h
  · exact (yss_n h).trans (yss_n h)
theorem yfS_d (S : yS) (i : Nat) (r : Int32) (p : Bool) : gd (yfS S i r p) = gd S ∧ gx (yfS S i r p) = gx S ∧ gt (yfS S i r p) = if p then gt S else 2 := by
  unfold yfS; cases p <;> exact ⟨rfl, rfl, rfl⟩
theorem ytr_d {T : yT} {n : Int32} {s i : Nat} {X : yX} (hg : gt (yxs X s) = 1) : (∀ k, k ≠ i → gd (yxs (ytr T n s i X) s) k = gd (yxs X s) k) ∧ gx (yxs (ytr T n s i X) s) = gx (yxs X s) ∧
    yln (ytr T n s i X).2 ≤ yln X.2 + (if gt (yxs (ytr T n s i X) s) = 1 then 1 else 2) ∧ (gt (yxs (ytr T n s i X) s) = 1 ∨ gt (yxs (ytr T n s i X) s) = 2 ∨ gt (yxs (ytr T n s i X) s) = 5) := by
  obtain ⟨S1, h1, ⟨-, -, e⟩ | ⟨w, -, -, e⟩ | ⟨w, -, -, e⟩⟩ := ytr_is T n s i X <;> rw [e]
  · have e2 : yxs (yno (yss (ysp X (ych T X.1.1 i n 1)) s (yDn S1 i n)) (1, s, i)) s = yDn S1 i n := yss_s _ _ _
    rw [e2]; subst h1
    refine ⟨fun k hk => yu_n hk, rfl, ?_, Or.inl hg⟩
    have : gt (yDn (gpS (yxs X s) (ysd (gp (yxs X s)) i)) i n) = 1 := hg
    rw [if_pos this]; exact yln_lg _ _
  · have e2 : yxs (yno (yss X s (yfS S1 i w (ypa T (gm (yxs X s) 1)))) (2, s, i)) s = yfS S1 i w (ypa T (gm (yxs X s) 1)) := yss_s _ _ _
    rw [e2]; subst h1
    obtain ⟨d1, d2, d3⟩ := yfS_d (gpS (yxs X s) (ysd (gp (yxs X s)) i)) i w (ypa T (gm (yxs X s) 1))
    refine ⟨fun k hk => by rw [d1]; rfl, by rw [d2]; rfl, ?_, ?_⟩
    · have := yln_lg X.2 (2, s, i)
      show yln (ylg X.2 (2, s, i)) ≤ _
      split <;> omega
    · rw [d3]; split
      · exact Or.inl hg
      · exact Or.inr (Or.inl rfl)
  · have e2 : yxs (yen (yno (yss X s (yfS S1 i w true)) (2, s, i)) s 5) s = gtS (yfS S1 i w true) 5 := by
      show yxs (yss _ s _) s = _
      rw [yss_s]; exact congrArg (fun S => gtS S 5) (yss_s X s _)
    rw [e2]; subst h1
    refine ⟨fun k hk => rfl, rfl, ?_, Or.inr (Or.inr rfl)⟩
    have a := yln_lg X.2 (2, s, i)
    have b := yln_lg (ylg X.2 (2, s, i)) (5, s, 5)
    show yln (ylg (ylg X.2 (2, s, i)) (5, s, 5)) ≤ yln X.2 + 2
    omega
theorem ytr_ok {T : Nat → yT} {c s i : Nat} {n : Int32} {X : yX} (h : OKW T c X.1) (hs : s < 3) (hg : gt (yxs X s) = 1) (hi : i < tn (T (gx (yxs X s)))) (h0 : gd (yxs X s) i = 0) : OKW T c (ytr (T (gx (yxs X s))) n s i X).1 := by
  have hS := h.2.2 s hs
  have hS : OKS T c (yxs X s) := hS
  have hz : gz T (yxs X s) = tn (T (gx (yxs X s))) := by unfold gz; rw [if_neg (by omega)]
  obtain ⟨S1, h1, ⟨o, -, e⟩ | ⟨w, -, -, e⟩ | ⟨w, -, -, e⟩⟩ := ytr_is (T (gx (yxs X s))) n s i X <;> rw [e] <;> subst h1
  · exact OKW_ss (X := ysp X _) ⟨h.1, OKP_ch (h.1.2 _ (hS.2.1 (by omega))) hi h.2.1 o, h.2.2⟩ (OKS_done (S := gpS (yxs X s) (ysd (gp (yxs X s)) i)) (i := i) hS (show i < gz T (yxs X s) by rw [hz]; exact hi) h0)
  · exact OKW_ss h (OKS_fS (S := gpS (yxs X s) (ysd (gp (yxs X s)) i)) hS (by show gt (yxs X s) ≠ 0; omega))
  · refine OKW_ss (OKW_ss h (OKS_fS (S := gpS (yxs X s) (ysd (gp (yxs X s)) i)) hS (by show gt (yxs X s) ≠ 0; omega))) ?_
    refine OKS_st ?_ ?_ (by omega) (by omega)
    · show OKS T c (yxs (yss X s _) s)
      rw [yss_s]; exact OKS_fS (S := gpS (yxs X s) (ysd (gp (yxs X s)) i)) hS (by show gt (yxs X s) ≠ 0; omega)
    · show gt (yxs (yss X s _) s) ≠ 0
      rw [yss_s]; show gt (yxs X s) ≠ 0; omega
