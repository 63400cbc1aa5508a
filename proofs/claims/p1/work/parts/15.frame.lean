/-! ===== from the makers on ===== -/
def syfin1 (v : Option syV) (M : syM) : Bool := match v with
  | some (.inl z) => decide (z = 1) && Nat.ble M.2.2.2.1 600016 && Nat.ble M.2.2.2.2 7302249
  | _ => false
/-- what the law's end has to be -/
def syP (v : Option Value) (M : zM) : Prop := v = some (.int 1) ∧ zn M ≤ 600016 ∧ zs M ≤ 7302249
theorem syfin1_ok {xs : Nat → Int32} {B : zM} (v : Option syV) (M : syM) (h : syfin1 v M = true) : syP (v.map (syv xs)) (syA B xs M) := by
  cases v with
  | none => cases h
  | some v =>
    rcases v with z | j | r | q
    · have h : (decide (z = 1) && Nat.ble M.2.2.2.1 600016 && Nat.ble M.2.2.2.2 7302249) = true := h
      obtain ⟨h, h3⟩ := syand h
      obtain ⟨h1, h2⟩ := syand h
      have h1 := syd h1
      subst h1
      exact ⟨rfl, Nat.ble_eq.mp h2, Nat.ble_eq.mp h3⟩
    · cases h
    · cases h
    · cases h
def syc1 (bx : syB) : syC := (40, bx, (902, 18, syk902_18, sysL, []), [], ([], [], [], 327, 13301))
/-- the state behind the makers -/
def syB1 (L : Nat) (xs : Nat → Int32) : zM := syA (zM0 L xs) xs symM
/-- what has to be shown of it -/
def sySt (L : Nat) (xs : Nat → Int32) : Prop := qW (zEv 40) 902 (sykont xs syP 40 []) 18 (syl xs sysL) [] (syB1 L xs)
theorem syO_ne (m : Nat) (h : m < 216 ∨ 900 ≤ m) : zO m ≠ 9999 := by
  rcases h with h | h
  · have key : ∀ y, y < 216 → zO y ≠ 9999 := by decide +kernel
    exact key m h
  · unfold zO zMt
    rw [if_neg (by omega)]
    split
    · decide
    · split
      · decide
      · decide
theorem zO_ne (m : Nat) : zO m ≠ 9999 := by
  by_cases h : m < 216
  · exact syO_ne m (Or.inl h)
  · by_cases h2 : 900 ≤ m
    · exact syO_ne m (Or.inr h2)
    · unfold zO zMt
      rw [if_pos (by omega)]
      have hl : zMs.length = 216 := by decide +kernel
      rw [List.getD_eq_getElem?_getD, List.getElem?_eq_none (by omega)]
      decide
/-- a run of the second half, in a box -/
theorem sybox {L : Nat} {xs : Nat → Int32} {bx : syB} {f : Nat} (h : syrun (systep (syu1 L)) (syfin sytab syfin1) f (syc1 bx) = true) (hb : syBok xs bx) : sySt L xs := by
  have hu := syu1_ok L xs
  have g := syrun_ok (xs := xs) (P := syP) (B := syB1 L xs) (fun c c' hb hs hG => systep_ok zO_ne hu hb hs hG) (fun c hc => syfin_ok sytab_ok syfin1_ok c hc) f _ h
  exact g hb (sykt_ok 902 18) (fun f hf => by cases hf)
theorem sygate {L : Nat} {xs : Nat → Int32} (hL : L < 8) (h : sySt L xs) : ∃ (f : Nat) (M' : zM), zLoop (zEv 40) 902 (some (.int 1)) M' f 0 [(0, .ref 0)] [] (zM0 L xs) ∧ zn M' ≤ 600016 ∧ zs M' ≤ 7302249 := by
  have hu := syu0_ok L xs
  have hfin : ∀ c, syeq18 c = true → syG xs syP (zM0 L xs) c := by
    intro c hc
    obtain ⟨d, bx, ⟨m, pc, K, l, st⟩, rest, MI, MR, MK, n, s⟩ := c
    intro hb hK hr
    obtain ⟨hc, k12⟩ := syand hc
    obtain ⟨hc, k11⟩ := syand hc
    obtain ⟨hc, k10⟩ := syand hc
    obtain ⟨hc, k9⟩ := syand hc
    obtain ⟨hc, k8⟩ := syand hc
    obtain ⟨hc, k7⟩ := syand hc
    obtain ⟨hc, k6⟩ := syand hc
    obtain ⟨hc, k5⟩ := syand hc
    obtain ⟨hc, k4⟩ := syand hc
    obtain ⟨hc, k3⟩ := syand hc
    obtain ⟨k1, k2⟩ := syand hc
    have e1 : d = 40 := syd k1
    have e2 : m = 902 := syd k2
    have e3 : pc = 18 := syd k3
    have e5 : l = sysL := syd k5
    have e6 : st = [] := List.isEmpty_iff.mp k6
    have e7 : rest = [] := List.isEmpty_iff.mp k7
    have e8 : MI = symI := syd k8
    have e9 : MR = symR := syd k9
    have e10 : MK = symK := syd k10
    have e11 : n = 327 := syd k11
    have e12 : s = 13301 := syd k12
    clear k1 k2 k3 k4 k5 k6 k7 k8 k9 k10 k11 k12
    subst e1 e2 e3 e5 e6 e7 e8 e9 e10 e11 e12
    exact h
  have g := syrun_ok (xs := xs) (P := syP) (B := zM0 L xs) (step := systep0 (syu0 L)) (fun c c' hb hs hG => by
    obtain ⟨d, bx, ⟨m, pc, K, l, st⟩, rest, M⟩ := c
    have hs : cond (Nat.beq m 902 && Nat.beq pc 18) syno (systep (syu0 L) (d, bx, (m, pc, K, l, st), rest, M)) = .inl c' := hs
    cases hx : (Nat.beq m 902 && Nat.beq pc 18) with
    | true => rw [hx] at hs; exact (syno_inl hs).elim
    | false => rw [hx] at hs; exact systep_ok zO_ne hu hb hs hG) hfin 3000 syc0 (symake L hL)
  have g : qW (zEv 40) 902 syP 0 [(0, .ref 0)] [] (zM0 L xs) := g (fun q hq => by cases hq) (sykt_ok 902 0) (fun f hf => by cases hf)
  obtain ⟨f, v, M', g1, rfl, g2, g3⟩ := g
  exact ⟨f, M', g1, g2, g3⟩
/-- which call the script asks for -/
theorem sycode7 (xs : Nat → Int32) : 0 ≤ (syE xs 7).toInt ∧ (syE xs 7).toInt ≤ 31 := by
  have e : syE xs 7 = xs 0 &&& 31 := rfl
  rw [e]
  have h : (xs 0 &&& 31).toBitVec = (xs 0).toBitVec &&& 31#32 := rfl
  have h2 : ((xs 0 &&& 31).toBitVec).toNat ≤ 31 := by rw [h, BitVec.toNat_and]; exact Nat.and_le_right
  have h3 : (xs 0 &&& 31).toInt = ((xs 0 &&& 31).toBitVec).toInt := rfl
  rw [h3, BitVec.toInt_eq_toNat_cond]
  split <;> omega
theorem sylow (x : Int32) : -2147483648 ≤ x.toInt ∧ x.toInt ≤ 2147483647 := by
  have h1 := Int32.le_toInt x
  have h2 := Int32.toInt_lt x
  omega
