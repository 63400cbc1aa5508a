/-! ===== how a text is read, on numbers alone ===== -/
def ywl (i : Nat) : List Nat := [[97, 100, 100], [116, 97, 107, 101], [109, 111, 118, 101], [104, 111, 108, 100], [115, 119, 97, 112], [109, 97, 114, 107]].getD i []
def ywd (b : Nat → Nat) (s e i : Nat) : Bool := (e - s == (ywl i).length) && (List.range (ywl i).length).all (fun k => b (s + k) == (ywl i).getD k 0)
def ykr (b : Nat → Nat) (s e : Nat) : Nat → Nat → Nat
  | 0, i => i
  | r + 1, i => if ywd b s e i then i else ykr b s e r (i + 1)
/-- which word stands there; 6: none -/
def ykw (b : Nat → Nat) (s e : Nat) : Nat := ykr b s e 6 0
theorem ykr_le {b : Nat → Nat} {s e : Nat} : ∀ r i, ykr b s e r i ≤ i + r
  | 0, _ => Nat.le_refl _
  | r + 1, i => by
    have := ykr_le (b := b) (s := s) (e := e) r (i + 1)
    rw [ykr]; split <;> omega
abbrev yQ : Type := yK × yT
def pAd (n : Nat) (b : Nat → Nat) (k : yK) : yK := ltk n b k.2.2
def pAc (n : Nat) (b : Nat → Nat) (k : yK) : Except Nat (Nat × yK) := if k.1 = 1 ∧ k.2.2 - k.2.1 = 1 ∧ b k.2.1 ≤ 102 then .ok (b k.2.1 - 97, pAd n b k) else .error k.2.1
/-- the number of c digits from s on -/
def ynd (b : Nat → Nat) (s : Nat) : Nat → Nat
  | 0 => 0
  | c + 1 => ynd b s c * 10 + b (s + c) - 48
def pNu (n : Nat) (b : Nat → Nat) (k : yK) : Except Nat (Nat × yK) := if k.1 = 2 then .ok (ynd b k.2.1 (k.2.2 - k.2.1), pAd n b k) else .error k.2.1
def pAp (T : yT) (kd : Nat) (f s u : Int32) (ah : Nat) : yT := (tn T + 1, yu (tk T) (tn T) kd, yu (tf T) (tn T) f, yu (ts T) (tn T) s, yu (tu T) (tn T) u, yu (ta T) (tn T) ah, tp T)
/-- accounts and number of a step of that kind -/
def pA1 (n : Nat) (b : Nat → Nat) (kd : Nat) (k : yK) : Except Nat (Int32 × yK) := if kd = 5 then .ok (-1, k) else match pAc n b k with
  | .error f => .error f
  | .ok (a, k1) => .ok (nI a, k1)
def pA2 (n : Nat) (b : Nat → Nat) (kd : Nat) (k : yK) : Except Nat (Int32 × yK) := if kd = 2 ∨ kd = 4 then (match pAc n b k with
  | .error f => .error f
  | .ok (a, k1) => .ok (nI a, k1)) else .ok (-1, k)
def pA3 (n : Nat) (b : Nat → Nat) (kd : Nat) (k : yK) : Except Nat (Int32 × yK) := if kd ≠ 4 ∧ kd ≠ 5 then (match pNu n b k with
  | .error f => .error f
  | .ok (a, k1) => .ok (nI a, k1)) else .ok (-1, k)
def pSt (n : Nat) (b : Nat → Nat) (ah : Nat) (Q : yQ) : Except Nat (Nat × yQ) :=
  let kd := ykw b Q.1.2.1 Q.1.2.2
  if kd = 6 ∨ 12 ≤ tn Q.2 then .error Q.1.2.1
  else match pA1 n b kd (pAd n b Q.1) with
    | .error f => .error f
    | .ok (x, k1) => match pA2 n b kd k1 with
      | .error f => .error f
      | .ok (y, k2) => match pA3 n b kd k2 with
        | .error f => .error f
        | .ok (z, k3) => .ok (2 ^ tn Q.2, (k3, pAp Q.2 kd x y z ah))
def pPi (T : yT) (ah : Nat) : yT := (T.1, T.2.1, T.2.2.1, T.2.2.2.1, T.2.2.2.2.1, T.2.2.2.2.2.1, nI ah)
abbrev pFn : Type := Nat → yQ → Except Nat (Nat × yQ)
def pPt (n : Nat) (b : Nat → Nat) (br : pFn) (top : Bool) : pFn := fun ah Q =>
  if Q.1.1 = 1 then pSt n b ah Q
  else if Q.1.1 = 123 then br ah Q
  else if Q.1.1 = 33 ∧ top = true ∧ tp Q.2 = -1 then .ok (0, (pAd n b Q.1, pPi Q.2 ah))
  else .error Q.1.2.1
def pRe (n : Nat) (b : Nat → Nat) (pt : pFn) (ah : Nat) : Nat → Nat → yQ → Except Nat (Nat × yQ)
  | 0, own, Q => .ok (own, Q)
  | r + 1, own, Q => if Q.1.1 = 59 then (match pt (ah ||| own) (pAd n b Q.1, Q.2) with
      | .error f => .error f
      | .ok (o, Q1) => pRe n b pt ah r (own ||| o) Q1) else .ok (own, Q)
def pLn (n : Nat) (b : Nat → Nat) (pt : pFn) : pFn := fun ah Q => match pt ah Q with
  | .error f => .error f
  | .ok (o, Q1) => pRe n b pt ah 120 o Q1
def pEx (n : Nat) (b : Nat → Nat) (c own : Nat) (Q : yQ) : Except Nat (Nat × yQ) := if Q.1.1 = c then .ok (own, (pAd n b Q.1, Q.2)) else .error Q.1.2.1
def pB3 (n : Nat) (b : Nat → Nat) (ln : pFn) (ah own : Nat) (Q : yQ) : Except Nat (Nat × yQ) := if Q.1.1 = 124 then (match ln ah (pAd n b Q.1, Q.2) with
    | .error f => .error f
    | .ok (o, Q1) => .ok (own ||| o, Q1)) else .ok (own, Q)
def pBr (n : Nat) (b : Nat → Nat) (ln : pFn) : pFn := fun ah Q => match ln ah (pAd n b Q.1, Q.2) with
  | .error f => .error f
  | .ok (o1, Q1) => match pEx n b 124 o1 Q1 with
    | .error f => .error f
    | .ok (_, Q2) => match ln ah Q2 with
      | .error f => .error f
      | .ok (o2, Q3) => match pB3 n b ln ah (o1 ||| o2) Q3 with
        | .error f => .error f
        | .ok (o3, Q4) => pEx n b 125 o3 Q4
/-- lines with m more { within them -/
def pLd (n : Nat) (b : Nat → Nat) : Nat → Bool → pFn
  | 0, top => pLn n b (pPt n b (fun _ Q => .error Q.1.2.1) top)
  | m + 1, top => pLn n b (pPt n b (pBr n b (pLd n b m false)) top)
def yT0 : yT := (0, fun _ => 0, fun _ => 0, fun _ => 0, fun _ => 0, fun _ => 0, -1)
/-- a text of the tape's n bytes: itself, or the place of its fault -/
def pTx (n : Nat) (b : Nat → Nat) : Except Nat yT := match pLd n b 3 true 0 (ltk n b 0, yT0) with
  | .error f => .error f
  | .ok (_, Q) => if Q.1.1 ≠ 0 then .error Q.1.2.1 else if tn Q.2 = 0 then .error n else .ok Q.2
/-! what holds of it -/
def OKU (T : yT) (k : Nat) : Prop := tk T k < 6 ∧ ta T k < 2 ^ k ∧ (tk T k = 5 → tf T k = -1) ∧ (tk T k ≠ 5 → ∃ a, a < 6 ∧ tf T k = nI a) ∧ ((tk T k = 2 ∨ tk T k = 4) → ∃ a, a < 6 ∧ ts T k = nI a) ∧
  (tk T k ≠ 2 → tk T k ≠ 4 → ts T k = -1) ∧ ((tk T k = 4 ∨ tk T k = 5) → tu T k = -1) ∧ (tk T k ≠ 4 → tk T k ≠ 5 → ∃ v, v < 1000 ∧ tu T k = nI v)
def OKB (T : yT) : Prop := tn T ≤ 12 ∧ (tp T = -1 ∨ ∃ p, p < 2 ^ tn T ∧ tp T = nI p) ∧ ∀ k, k < tn T → OKU T k
theorem OKB.t {T : yT} (h : OKB T) (h0 : tn T ≠ 0) : OKT T := ⟨by omega, h.1, h.2.1, h.2.2⟩
theorem lrn_all {n : Nat} {b : Nat → Nat} {lo hi : Nat} : ∀ r p i, p ≤ i → i < lrn n b lo hi r p → lo ≤ b i ∧ b i ≤ hi
  | 0, p, i, h1, h2 => by rw [lrn] at h2; omega
  | r + 1, p, i, h1, h2 => by
    rw [lrn] at h2
    split at h2
    · rename_i h
      by_cases e : i = p
      · subst e; exact h.2
      · exact lrn_all r (p + 1) i (by omega) h2
    · omega
/-- a token as the tape has it -/
def yKv (n : Nat) (b : Nat → Nat) (k : yK) : Prop := yKo n k ∧ (k.1 = 1 → 97 ≤ b k.2.1 ∧ b k.2.1 ≤ 122) ∧ (k.1 = 2 → k.2.2 - k.2.1 ≤ 3 ∧ ∀ i, k.2.1 ≤ i → i < k.2.2 → 48 ≤ b i ∧ b i ≤ 57)
theorem ltk_v {n p : Nat} {b : Nat → Nat} (hp : p ≤ n) (hb : ∀ k, k < n → b k < 256) : yKv n b (ltk n b p) ∧ p ≤ (ltk n b p).2.1 := by
  have h0 := ltk_ok hp hb
  refine ⟨⟨h0.1, ?_⟩, h0.2⟩
  clear h0
  unfold ltk
  simp only []
  generalize lsk n b 120 p = q
  by_cases c1 : n ≤ q
  · rw [if_pos c1]; exact ⟨fun h => absurd h (show ¬ (0 : Nat) = 1 by omega), fun h => absurd h (show ¬ (0 : Nat) = 2 by omega)⟩
  · rw [if_neg c1]
    by_cases c2 : 97 ≤ b q ∧ b q ≤ 122
    · rw [if_pos c2]; exact ⟨fun _ => c2, fun h => absurd h (show ¬ (1 : Nat) = 2 by omega)⟩
    · rw [if_neg c2]
      by_cases c3 : 48 ≤ b q ∧ b q ≤ 57
      · rw [if_pos c3]
        refine ⟨fun h => ?_, fun h => ?_⟩
        · have h : (if lrn n b 48 57 120 q - q ≤ 3 then 2 else 3) = 1 := h
          split at h <;> omega
        · have h : (if lrn n b 48 57 120 q - q ≤ 3 then 2 else 3) = 2 := h
          refine ⟨?_, fun i h1 h2 => lrn_all 120 q i h1 h2⟩
          show lrn n b 48 57 120 q - q ≤ 3
          split at h <;> omega
      · rw [if_neg c3]
        refine ⟨fun h => ?_, fun h => ?_⟩
        · have h : (if ysg (b q) then b q else 3) = 1 := h
          by_cases e : ysg (b q) = true
          · rw [if_pos e] at h
            have e2 : ¬ ysg (b q) = true := ysg_f (by omega)
            exact absurd e e2
          · rw [if_neg e] at h; omega
        · have h : (if ysg (b q) then b q else 3) = 2 := h
          by_cases e : ysg (b q) = true
          · rw [if_pos e] at h
            have e2 : ¬ ysg (b q) = true := ysg_f (by omega)
            exact absurd e e2
          · rw [if_neg e] at h; omega
/-- a place of reading: the token's place, what is built so far -/
def yQv (n : Nat) (b : Nat → Nat) (Q : yQ) : Prop := yKv n b Q.1 ∧ OKB Q.2
theorem yQv.f {n : Nat} {b : Nat → Nat} {Q : yQ} (h : yQv n b Q) : Q.1.2.1 ≤ n := Nat.le_trans h.1.1.1 h.1.1.2.1
theorem pAd_v {n : Nat} {b : Nat → Nat} {k : yK} (h : yKv n b k) (hb : ∀ i, i < n → b i < 256) : yKv n b (pAd n b k) ∧ k.2.2 ≤ (pAd n b k).2.1 := ltk_v h.1.2.1 hb
/-- what a reading gives: a place further on, or a fault within the tape -/
def pGd (n : Nat) (b : Nat → Nat) (Q : yQ) (R : Except Nat (Nat × yQ)) : Prop := match R with
  | .error f => f ≤ n
  | .ok (o, Q1) => yQv n b Q1 ∧ tn Q.2 ≤ tn Q1.2 ∧ o < 2 ^ tn Q1.2 ∧ Q.1.2.1 ≤ Q1.1.2.1 ∧ Q.1.2.2 ≤ Q1.1.2.1
theorem ynd_lt {b : Nat → Nat} {s : Nat} : ∀ c, (∀ i, s ≤ i → i < s + c → 48 ≤ b i ∧ b i ≤ 57) → ynd b s c < 10 ^ c
  | 0, _ => by show 0 < 1; omega
  | c + 1, h => by
    have h1 := ynd_lt c (fun i a b => h i a (by omega))
    have h2 := h (s + c) (by omega) (by omega)
    rw [ynd, Nat.pow_succ]
    omega
theorem pA1_v {n kd : Nat} {b : Nat → Nat} {k : yK} (h : yKv n b k) (hb : ∀ i, i < n → b i < 256) : match pA1 n b kd k with
    | .error f => f ≤ n
    | .ok (x, k1) => yKv n b k1 ∧ k.2.1 ≤ k1.2.1 ∧ (kd = 5 → x = -1) ∧ (kd ≠ 5 → ∃ a, a < 6 ∧ x = nI a) := by
  unfold pA1 pAc
  by_cases h5 : kd = 5
  · rw [if_pos h5]; exact ⟨h, Nat.le_refl _, fun _ => rfl, fun q => absurd h5 q⟩
  · rw [if_neg h5]
    by_cases hc : k.1 = 1 ∧ k.2.2 - k.2.1 = 1 ∧ b k.2.1 ≤ 102
    · rw [if_pos hc]
      have ha := pAd_v h hb
      have h1 := h.2.1 hc.1
      exact ⟨ha.1, Nat.le_trans h.1.1 ha.2, fun q => absurd q h5, fun _ => ⟨b k.2.1 - 97, by omega, rfl⟩⟩
    · rw [if_neg hc]; exact Nat.le_trans h.1.1 h.1.2.1
theorem pA2_v {n kd : Nat} {b : Nat → Nat} {k : yK} (h : yKv n b k) (hb : ∀ i, i < n → b i < 256) : match pA2 n b kd k with
    | .error f => f ≤ n
    | .ok (x, k1) => yKv n b k1 ∧ k.2.1 ≤ k1.2.1 ∧ (kd ≠ 2 → kd ≠ 4 → x = -1) ∧ ((kd = 2 ∨ kd = 4) → ∃ a, a < 6 ∧ x = nI a) := by
  unfold pA2 pAc
  by_cases h5 : kd = 2 ∨ kd = 4
  · rw [if_pos h5]
    by_cases hc : k.1 = 1 ∧ k.2.2 - k.2.1 = 1 ∧ b k.2.1 ≤ 102
    · rw [if_pos hc]
      have ha := pAd_v h hb
      have h1 := h.2.1 hc.1
      exact ⟨ha.1, Nat.le_trans h.1.1 ha.2, fun q1 q2 => absurd h5 (by omega), fun _ => ⟨b k.2.1 - 97, by omega, rfl⟩⟩
    · rw [if_neg hc]; exact Nat.le_trans h.1.1 h.1.2.1
  · rw [if_neg h5]; exact ⟨h, Nat.le_refl _, fun _ _ => rfl, fun q => absurd q h5⟩
theorem pA3_v {n kd : Nat} {b : Nat → Nat} {k : yK} (h : yKv n b k) (hb : ∀ i, i < n → b i < 256) : match pA3 n b kd k with
    | .error f => f ≤ n
    | .ok (x, k1) => yKv n b k1 ∧ k.2.1 ≤ k1.2.1 ∧ ((kd = 4 ∨ kd = 5) → x = -1) ∧ (kd ≠ 4 → kd ≠ 5 → ∃ v, v < 1000 ∧ x = nI v) := by
  unfold pA3 pNu
  by_cases h5 : kd ≠ 4 ∧ kd ≠ 5
  · rw [if_pos h5]
    by_cases hc : k.1 = 2
    · rw [if_pos hc]
      have ha := pAd_v h hb
      obtain ⟨h1, h2⟩ := h.2.2 hc
      have h3 := h.1.1
      have h4 := ynd_lt (b := b) (s := k.2.1) (k.2.2 - k.2.1) (fun i a c => h2 i a (by omega))
      refine ⟨ha.1, Nat.le_trans h.1.1 ha.2, fun q => absurd q (by omega), fun _ _ => ⟨_, Nat.lt_of_lt_of_le h4 ?_, rfl⟩⟩
      exact Nat.pow_le_pow_right (by omega) h1
    · rw [if_neg hc]; exact Nat.le_trans h.1.1 h.1.2.1
  · rw [if_neg h5]; exact ⟨h, Nat.le_refl _, fun _ => rfl, fun q1 q2 => absurd ⟨q1, q2⟩ h5⟩
theorem pAp_ok {T : yT} {kd ah : Nat} {x y z : Int32} (h : OKB T) (h12 : tn T < 12) (hk : kd < 6) (hah : ah < 2 ^ tn T) (x1 : kd = 5 → x = -1) (x2 : kd ≠ 5 → ∃ a, a < 6 ∧ x = nI a) (y1 : kd ≠ 2 → kd ≠ 4 → y = -1) (y2 : (kd = 2 ∨ kd = 4) → ∃ a, a < 6 ∧ y = nI a) (z1 : (kd = 4 ∨ kd = 5) → z = -1) (z2 : kd ≠ 4 → kd ≠ 5 → ∃ v, v < 1000 ∧ z = nI v) : OKB (pAp T kd x y z ah) := by
  refine ⟨h12, ?_, fun k hk2 => ?_⟩
  · rcases h.2.1 with e | ⟨p, e1, e2⟩
    · exact Or.inl e
    · exact Or.inr ⟨p, Nat.lt_trans e1 (pow_lt (Nat.lt_succ_self _)), e2⟩
  · have hk2 : k < tn T + 1 := hk2
    unfold OKU
    show yu (tk T) (tn T) kd k < 6 ∧ yu (ta T) (tn T) ah k < 2 ^ k ∧ (yu (tk T) (tn T) kd k = 5 → yu (tf T) (tn T) x k = -1) ∧ (yu (tk T) (tn T) kd k ≠ 5 → ∃ a, a < 6 ∧ yu (tf T) (tn T) x k = nI a) ∧ ((yu (tk T) (tn T) kd k = 2 ∨ yu (tk T) (tn T) kd k = 4) → ∃ a, a < 6 ∧ yu (ts T) (tn T) y k = nI a) ∧
      (yu (tk T) (tn T) kd k ≠ 2 → yu (tk T) (tn T) kd k ≠ 4 → yu (ts T) (tn T) y k = -1) ∧ ((yu (tk T) (tn T) kd k = 4 ∨ yu (tk T) (tn T) kd k = 5) → yu (tu T) (tn T) z k = -1) ∧ (yu (tk T) (tn T) kd k ≠ 4 → yu (tk T) (tn T) kd k ≠ 5 → ∃ v, v < 1000 ∧ yu (tu T) (tn T) z k = nI v)
    by_cases e : k = tn T
    · subst e; simp only [yu_s]; exact ⟨hk, hah, x1, x2, y2, y1, z1, z2⟩
    · simp only [yu_n e]; exact h.2.2 k (by omega)
theorem pSt_v {n ah : Nat} {b : Nat → Nat} {Q : yQ} (h : yQv n b Q) (hb : ∀ i, i < n → b i < 256) (hah : ah < 2 ^ tn Q.2) : pGd n b Q (pSt n b ah Q) := by
  have ha := pAd_v h.1 hb
  have hk6 : ykw b Q.1.2.1 Q.1.2.2 ≤ 6 := ykr_le 6 0
  unfold pSt
  simp only []
  generalize ykw b Q.1.2.1 Q.1.2.2 = kd at hk6 ⊢
  by_cases hc : kd = 6 ∨ 12 ≤ tn Q.2
  · rw [if_pos hc]; exact h.f
  · rw [if_neg hc]
    have hk5 : kd < 6 := by omega
    have hk12 : tn Q.2 < 12 := by omega
    have v1 := pA1_v (kd := kd) ha.1 hb
    cases e1 : pA1 n b kd (pAd n b Q.1) with
    | error f => rw [e1] at v1; exact v1
    | ok r1 =>
      obtain ⟨x, k1⟩ := r1
      rw [e1] at v1
      simp only [] at v1 ⊢
      have v2 := pA2_v (kd := kd) v1.1 hb
      cases e2 : pA2 n b kd k1 with
      | error f => rw [e2] at v2; exact v2
      | ok r2 =>
        obtain ⟨y, k2⟩ := r2
        rw [e2] at v2
        simp only [] at v2 ⊢
        have v3 := pA3_v (kd := kd) v2.1 hb
        cases e3 : pA3 n b kd k2 with
        | error f => rw [e3] at v3; exact v3
        | ok r3 =>
          obtain ⟨z, k3⟩ := r3
          rw [e3] at v3
          simp only [] at v3 ⊢
          have h1 := h.1.1.1
          have g1 := v1.2.1
          have g2 := v2.2.1
          have g3 := v3.2.1
          have g4 := ha.2
          have w1 := v1.2.2
          have w2 := v2.2.2
          clear hc v1 v2
          refine ⟨⟨v3.1, pAp_ok h.2 hk12 hk5 hah w1.1 w1.2 w2.1 w2.2 v3.2.2.1 v3.2.2.2⟩, Nat.le_succ _, pow_lt (Nat.lt_succ_self _), ?_, ?_⟩
          · show Q.1.2.1 ≤ k3.2.1; clear w1 w2 v3; omega
          · show Q.1.2.2 ≤ k3.2.1; clear w1 w2 v3; omega
/-- a reader of pieces that does well -/
def pOK (n : Nat) (b : Nat → Nat) (p : pFn) : Prop := ∀ ah Q, yQv n b Q → ah < 2 ^ tn Q.2 → pGd n b Q (p ah Q)
theorem pPi_ok {T : yT} {ah : Nat} (h : OKB T) (ha : ah < 2 ^ tn T) : OKB (pPi T ah) := ⟨h.1, Or.inr ⟨ah, ha, rfl⟩, h.2.2⟩
theorem pPt_v {n : Nat} {b : Nat → Nat} {br : pFn} {top : Bool} (hb : ∀ i, i < n → b i < 256) (h : pOK n b br) : pOK n b (pPt n b br top) := by
  intro ah Q hQ hah
  unfold pPt
  by_cases c1 : Q.1.1 = 1
  · rw [if_pos c1]; exact pSt_v hQ hb hah
  · rw [if_neg c1]
    by_cases c2 : Q.1.1 = 123
    · rw [if_pos c2]; exact h ah Q hQ hah
    · rw [if_neg c2]
      by_cases c3 : Q.1.1 = 33 ∧ top = true ∧ tp Q.2 = -1
      · rw [if_pos c3]
        have ha := pAd_v hQ.1 hb
        exact ⟨⟨ha.1, pPi_ok hQ.2 hah⟩, Nat.le_refl _, Nat.two_pow_pos _, Nat.le_trans hQ.1.1.1 ha.2, ha.2⟩
      · rw [if_neg c3]; exact hQ.f
theorem pGd_tr {n : Nat} {b : Nat → Nat} {Q Q1 : yQ} {R : Except Nat (Nat × yQ)} (h : pGd n b Q1 R) (h1 : tn Q.2 ≤ tn Q1.2) (h2 : Q.1.2.1 ≤ Q1.1.2.1) (h3 : Q.1.2.2 ≤ Q1.1.2.1) : pGd n b Q R := by
  cases R with
  | error f => exact h
  | ok r => exact ⟨h.1, Nat.le_trans h1 h.2.1, h.2.2.1, Nat.le_trans h2 h.2.2.2.1, Nat.le_trans h3 h.2.2.2.1⟩
theorem pRe_v {n : Nat} {b : Nat → Nat} {pt : pFn} (hb : ∀ i, i < n → b i < 256) (h : pOK n b pt) {ah : Nat} : ∀ (r own : Nat) (Q : yQ), yQv n b Q → ah < 2 ^ tn Q.2 → own < 2 ^ tn Q.2 →
    match pRe n b pt ah r own Q with
    | .error f => f ≤ n
    | .ok (o, Q1) => yQv n b Q1 ∧ tn Q.2 ≤ tn Q1.2 ∧ o < 2 ^ tn Q1.2 ∧ Q.1.2.1 ≤ Q1.1.2.1
  | 0, own, Q, hQ, ha, ho => ⟨hQ, Nat.le_refl _, ho, Nat.le_refl _⟩
  | r + 1, own, Q, hQ, ha, ho => by
    rw [pRe]
    by_cases c : Q.1.1 = 59
    · rw [if_pos c]
      have hv := pAd_v hQ.1 hb
      have hp := h (ah ||| own) (pAd n b Q.1, Q.2) ⟨hv.1, hQ.2⟩ (or_lt ha ho)
      cases e : pt (ah ||| own) (pAd n b Q.1, Q.2) with
      | error f => rw [e] at hp; exact hp
      | ok q =>
        obtain ⟨o, Q1⟩ := q
        rw [e] at hp
        obtain ⟨p1, p2, p3, p4, p5⟩ := hp
        have p2 : tn Q.2 ≤ tn Q1.2 := p2
        have p4 : (pAd n b Q.1).2.1 ≤ Q1.1.2.1 := p4
        have hw : 2 ^ tn Q.2 ≤ 2 ^ tn Q1.2 := Nat.pow_le_pow_right (by omega) p2
        have ih := pRe_v hb h (ah := ah) r (own ||| o) Q1 p1 (by omega) (or_lt (by omega) p3)
        simp only []
        cases e2 : pRe n b pt ah r (own ||| o) Q1 with
        | error f => rw [e2] at ih; exact ih
        | ok q2 =>
          obtain ⟨o2, Q2⟩ := q2
          rw [e2] at ih
          have h0 := hQ.1.1.1
          exact ⟨ih.1, Nat.le_trans p2 ih.2.1, ih.2.2.1, by have := ih.2.2.2; have := hv.2; show Q.1.2.1 ≤ Q2.1.2.1; omega⟩
    · rw [if_neg c]; exact ⟨hQ, Nat.le_refl _, ho, Nat.le_refl _⟩
theorem pLn_v {n : Nat} {b : Nat → Nat} {pt : pFn} (hb : ∀ i, i < n → b i < 256) (h : pOK n b pt) : pOK n b (pLn n b pt) := by
  intro ah Q hQ hah
  unfold pLn
  have hp := h ah Q hQ hah
  cases e : pt ah Q with
  | error f => rw [e] at hp; exact hp
  | ok q =>
    obtain ⟨o, Q1⟩ := q
    rw [e] at hp
    obtain ⟨p1, p2, p3, p4, p5⟩ := hp
    have hw : 2 ^ tn Q.2 ≤ 2 ^ tn Q1.2 := Nat.pow_le_pow_right (by omega) p2
    have hr := pRe_v hb h (ah := ah) 120 o Q1 p1 (by omega) p3
    simp only []
    cases e2 : pRe n b pt ah 120 o Q1 with
    | error f => rw [e2] at hr; exact hr
    | ok q2 =>
      obtain ⟨o2, Q2⟩ := q2
      rw [e2] at hr
      exact ⟨hr.1, Nat.le_trans p2 hr.2.1, hr.2.2.1, Nat.le_trans p4 hr.2.2.2, Nat.le_trans p5 hr.2.2.2⟩
theorem pEx_v {n c own : Nat} {b : Nat → Nat} {Q : yQ} (hb : ∀ i, i < n → b i < 256) (hQ : yQv n b Q) (ho : own < 2 ^ tn Q.2) : match pEx n b c own Q with
    | .error f => f ≤ n
    | .ok (o, Q1) => yQv n b Q1 ∧ Q1.2 = Q.2 ∧ o = own ∧ Q.1.2.1 ≤ Q1.1.2.1 := by
  unfold pEx
  by_cases c1 : Q.1.1 = c
  · rw [if_pos c1]
    have ha := pAd_v hQ.1 hb
    exact ⟨⟨ha.1, hQ.2⟩, rfl, rfl, Nat.le_trans hQ.1.1.1 ha.2⟩
  · rw [if_neg c1]; exact hQ.f
theorem pB3_v {n ah own : Nat} {b : Nat → Nat} {ln : pFn} {Q : yQ} (hb : ∀ i, i < n → b i < 256) (h : pOK n b ln) (hQ : yQv n b Q) (ha : ah < 2 ^ tn Q.2) (ho : own < 2 ^ tn Q.2) : match pB3 n b ln ah own Q with
    | .error f => f ≤ n
    | .ok (o, Q1) => yQv n b Q1 ∧ tn Q.2 ≤ tn Q1.2 ∧ o < 2 ^ tn Q1.2 ∧ Q.1.2.1 ≤ Q1.1.2.1 := by
  unfold pB3
  by_cases c1 : Q.1.1 = 124
  · rw [if_pos c1]
    have hv := pAd_v hQ.1 hb
    have hp := h ah (pAd n b Q.1, Q.2) ⟨hv.1, hQ.2⟩ ha
    cases e : ln ah (pAd n b Q.1, Q.2) with
    | error f => rw [e] at hp; exact hp
    | ok q =>
      obtain ⟨o, Q1⟩ := q
      rw [e] at hp
      obtain ⟨p1, p2, p3, p4, p5⟩ := hp
      have p2 : tn Q.2 ≤ tn Q1.2 := p2
      have p4 : (pAd n b Q.1).2.1 ≤ Q1.1.2.1 := p4
      have hw : 2 ^ tn Q.2 ≤ 2 ^ tn Q1.2 := Nat.pow_le_pow_right (by omega) p2
      have h0 := hQ.1.1.1
      exact ⟨p1, p2, or_lt (by omega) p3, by have := hv.2; show Q.1.2.1 ≤ Q1.1.2.1; omega⟩
  · rw [if_neg c1]; exact ⟨hQ, Nat.le_refl _, ho, Nat.le_refl _⟩
theorem pBr_v {n : Nat} {b : Nat → Nat} {ln : pFn} (hb : ∀ i, i < n → b i < 256) (h : pOK n b ln) : pOK n b (pBr n b ln) := by
  intro ah Q hQ hah
  unfold pBr
  have hv := pAd_v hQ.1 hb
  have h0 := hQ.1.1.1
  have hp := h ah (pAd n b Q.1, Q.2) ⟨hv.1, hQ.2⟩ hah
  cases e : ln ah (pAd n b Q.1, Q.2) with
  | error f => rw [e] at hp; exact hp
  | ok q =>
    obtain ⟨o1, Q1⟩ := q
    rw [e] at hp
    obtain ⟨p1, p2, p3, p4, p5⟩ := hp
    have p2 : tn Q.2 ≤ tn Q1.2 := p2
    have p4 : (pAd n b Q.1).2.1 ≤ Q1.1.2.1 := p4
    simp only []
    have hx := pEx_v (c := 124) hb p1 p3
    cases e2 : pEx n b 124 o1 Q1 with
    | error f => rw [e2] at hx; exact hx
    | ok q2 =>
      obtain ⟨o1', Q2⟩ := q2
      rw [e2] at hx
      obtain ⟨x1, x2, x3, x4⟩ := hx
      simp only []
      have hp3 := h ah Q2 x1 (by rw [x2]; exact Nat.lt_of_lt_of_le hah (Nat.pow_le_pow_right (by omega) p2))
      cases e3 : ln ah Q2 with
      | error f => rw [e3] at hp3; exact hp3
      | ok q3 =>
        obtain ⟨o2, Q3⟩ := q3
        rw [e3] at hp3
        obtain ⟨t1, t2, t3, t4, t5⟩ := hp3
        rw [x2] at t2
        simp only []
        have hw1 : 2 ^ tn Q1.2 ≤ 2 ^ tn Q3.2 := Nat.pow_le_pow_right (by omega) t2
        have hw2 : 2 ^ tn Q.2 ≤ 2 ^ tn Q1.2 := Nat.pow_le_pow_right (by omega) p2
        have hb3 := pB3_v (own := o1 ||| o2) hb h t1 (show ah < _ by omega) (or_lt (by omega) t3)
        cases e4 : pB3 n b ln ah (o1 ||| o2) Q3 with
        | error f => rw [e4] at hb3; exact hb3
        | ok q4 =>
          obtain ⟨o3, Q4⟩ := q4
          rw [e4] at hb3
          obtain ⟨s1, s2, s3, s4⟩ := hb3
          simp only []
          have hy := pEx_v (c := 125) hb s1 s3
          cases e5 : pEx n b 125 o3 Q4 with
          | error f => rw [e5] at hy; exact hy
          | ok q5 =>
            obtain ⟨o4, Q5⟩ := q5
            rw [e5] at hy
            obtain ⟨y1, y2, y3, y4⟩ := hy
            subst y3
            refine ⟨y1, ?_, ?_, ?_, ?_⟩
            · rw [y2]; omega
            · rw [y2]; exact s3
            · show Q.1.2.1 ≤ Q5.1.2.1; omega
            · show Q.1.2.2 ≤ Q5.1.2.1; have := hv.2; omega
theorem pLd_v {n : Nat} {b : Nat → Nat} (hb : ∀ i, i < n → b i < 256) : ∀ (m : Nat) (top : Bool), pOK n b (pLd n b m top)
  | 0, top => pLn_v hb (pPt_v hb (fun _ Q hQ _ => hQ.f))
  | m + 1, top => pLn_v hb (pPt_v hb (pBr_v hb (pLd_v hb m false)))
theorem OKB_0 : OKB yT0 := ⟨Nat.zero_le _, Or.inl rfl, fun k hk => absurd hk (Nat.not_lt_zero _)⟩
theorem pTx_v {n : Nat} {b : Nat → Nat} (hb : ∀ i, i < n → b i < 256) : match pTx n b with
    | .error f => f ≤ n
    | .ok T => OKT T := by
  unfold pTx
  have h0 := ltk_v (Nat.zero_le n) hb
  have hp := pLd_v hb 3 true 0 (ltk n b 0, yT0) ⟨h0.1, OKB_0⟩ (by show 0 < 2 ^ 0; decide)
  cases e : pLd n b 3 true 0 (ltk n b 0, yT0) with
  | error f => rw [e] at hp; exact hp
  | ok q =>
    obtain ⟨o, Q⟩ := q
    rw [e] at hp
    obtain ⟨p1, p2, p3, p4, p5⟩ := hp
    simp only []
    by_cases c1 : Q.1.1 ≠ 0
    · rw [if_pos c1]; exact p1.f
    · rw [if_neg c1]
      by_cases c2 : tn Q.2 = 0
      · rw [if_pos c2]; exact Nat.le_refl _
      · rw [if_neg c2]; exact p1.2.t c2
