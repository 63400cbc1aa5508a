/-! ===== from the law's entry to its loop ===== -/
theorem gate9 {L : Nat} {xs : Nat → Int32} {P : Option Value → zM → Prop} (h : qW (zEv 40) 902 P 18 (syl xs sysL) [] (syA (zM0 L xs) xs symM)) : qW (zEv 40) 902 P 0 [(0, .ref 0)] [] (zM0 L xs) := by
  have hu := syu9_ok L xs
  have hfin : ∀ c, syeq18 c = true → syG xs P (zM0 L xs) c := by
    intro c hc
    obtain ⟨d, bx, ⟨m, pc, K, l, st⟩, rest, MI, MR, MK, n, s⟩ := c
    intro hb hK hr
    obtain ⟨hc, k12⟩ := syand hc
    obtain ⟨hc, k11⟩ := syand hc
    obtain ⟨hc, k10⟩ := syand hc
    obtain ⟨hc, k9⟩ := syand hc
    obtain ⟨hc, k8⟩ := syand hc
    obtain ⟨hc, k7⟩ := syand hc
    obtain ⟨hc, k6⟩ := syand hc
    obtain ⟨hc, k5⟩ := syand hc
    obtain ⟨hc, k4⟩ := syand hc
    obtain ⟨hc, k3⟩ := syand hc
    obtain ⟨k1, k2⟩ := syand hc
    have e1 : d = 40 := syd k1
    have e2 : m = 902 := syd k2
    have e3 : pc = 18 := syd k3
    have e5 : l = sysL := syd k5
    have e6 : st = [] := List.isEmpty_iff.mp k6
    have e7 : rest = [] := List.isEmpty_iff.mp k7
    have e8 : MI = symI := syd k8
    have e9 : MR = symR := syd k9
    have e10 : MK = symK := syd k10
    have e11 : n = 327 := syd k11
    have e12 : s = 13301 := syd k12
    clear k1 k2 k3 k4 k5 k6 k7 k8 k9 k10 k11 k12
    subst e1 e2 e3 e5 e6 e7 e8 e9 e10 e11 e12
    exact h
  have g := syrun_ok (xs := xs) (P := P) (B := zM0 L xs) (step := systep0 (syu9)) (fun c c' hb hs hG => by
    obtain ⟨d, bx, ⟨m, pc, K, l, st⟩, rest, M⟩ := c
    have hs : cond (Nat.beq m 902 && Nat.beq pc 18) syno (systep (syu9) (d, bx, (m, pc, K, l, st), rest, M)) = .inl c' := hs
    cases hx : (Nat.beq m 902 && Nat.beq pc 18) with
    | true => rw [hx] at hs; exact (syno_inl hs).elim
    | false => rw [hx] at hs; exact systep_ok zO_ne hu hb hs hG) hfin 3000 syc0 symake9
  exact g (fun q hq => by cases hq) (sykt_ok 902 0) (fun f hf => by cases hf)
