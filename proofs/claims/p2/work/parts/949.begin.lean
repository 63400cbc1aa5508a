/-! ===== behind the makers: a desk on which nothing stands ===== -/
def yD0 : yD := (0, fun _ => yT0, 0, fun _ => 0, yW0, [], fun _ => (-1, 0))
noncomputable def gk (a : Nat) : Nat × Nat := syGK syu9 symK a
noncomputable def gr (a f : Nat) : Option (Option Nat) := syGR syu9 symR a f
noncomputable def gi (a k : Nat) : Option syI := syGI syu9 symI a k
def zB0 (L : Nat) (xs : Nat → Int32) : zM := syA (zM0 L xs) xs symM
theorem gk_z {L : Nat} {xs : Nat → Int32} {a t n : Nat} (h : gk a = (t, n)) (h9 : t ≠ 9999 := by decide) : zk (zB0 L xs) a = (t, n) := by
  have h : syGK syu9 symK a = (t, n) := h
  have g := syGK_ok (syu9_ok L xs).2.2.1 symK a (by rw [h]; exact h9)
  rw [h] at g; exact g
theorem gr_z {L : Nat} {xs : Nat → Int32} {a f : Nat} {r : Option Nat} (h : gr a f = some r) : zr (zB0 L xs) a f = r := syGR_ok (syu9_ok L xs).2.1 symR a f r h
theorem gi_z {L : Nat} {xs : Nat → Int32} {a k : Nat} {z : Int} (h : gi a k = some (.inl z)) : zi (zB0 L xs) a k = Int32.ofInt z := syGI_ok (syu9_ok L xs).1 symI a k (.inl z) h
theorem gi_0 {L : Nat} {xs : Nat → Int32} {a k : Nat} (h : gi a k = some (.inl 0)) : zi (zB0 L xs) a k = nI 0 := (gi_z h).trans (by decide)
theorem gi_m {L : Nat} {xs : Nat → Int32} {a k : Nat} (h : gi a k = some (.inl (-1))) : zi (zB0 L xs) a k = -1 := (gi_z h).trans (by decide)
theorem gi_h {L : Nat} {xs : Nat → Int32} {a k : Nat} (h : gi a k = some (.inl 100)) : zi (zB0 L xs) a k = 100 := (gi_z h).trans (by decide)
/-! kinds and references -/
theorem b_xk : ∀ q ∈ zXk, gk q.1 = q.2 ∧ q.2.1 ≠ 9999 := by decide +kernel
theorem b_xf : ∀ q ∈ zXf, gr q.1 q.2.1 = some (some q.2.2) := by decide +kernel
theorem z_SX (L : Nat) (xs : Nat → Int32) : SX (zB0 L xs) := ⟨fun q hq => gk_z (t := q.2.1) (n := q.2.2) (b_xk q hq).1 (b_xk q hq).2, fun q hq => gr_z (b_xf q hq)⟩
theorem b_pr : ∀ i, i < 6 → gk (20 + 7 * i) = (1, 0) ∧ ∀ f, f < 6 → gr (20 + 7 * i) f = some (some (20 + 7 * i + 1 + f)) ∧ gk (20 + 7 * i + 1 + f) = (20, 12) := by decide +kernel
theorem b_pu : ∀ u ∈ [67, 99], gk u = (2, 0) ∧ gr u 0 = some (some (u + 1)) ∧ gk (u + 1) = (20, 6) := by decide +kernel
theorem b_sg : ∀ b ∈ [70, 102], ∀ s, s < 3 → gk (b + 8 * s) = (5, 0) ∧ gr (b + 8 * s) 6 = some (some (b + 8 * s + 1)) ∧ (∀ f, f < 6 → gr (b + 8 * s) (8 + f) = some (some (b + 8 * s + 2 + f))) ∧ ∀ f, f < 7 → gk (b + 8 * s + 1 + f) = (20, 12) := by decide +kernel
theorem b_jo : ∀ q ∈ [(62, 240), (95, 0)], gk q.1 = (0, 0) ∧ ∀ f, f < 3 → gr q.1 f = some (some (q.1 + 1 + f)) ∧ gk (q.1 + 1 + f) = (20, q.2) := by decide +kernel
theorem b_ro : ∀ i, i < 4 → gk (127 + 2 * i) = (4, 0) ∧ gr (127 + 2 * i) 2 = some (some (127 + 2 * i + 1)) ∧ gk (127 + 2 * i + 1) = (20, 40) := by decide +kernel
theorem b_wo : ∀ q ∈ [(66, 67, 62), (94, 99, 95)], gk q.1 = (6, 0) ∧ gr q.1 0 = some (some 19) ∧ gr q.1 1 = some (some q.2.2) ∧ gr q.1 2 = some (some q.2.1) ∧ gr q.1 3 = some (some (q.2.1 + 2)) ∧ gk (q.2.1 + 2) = (23, 3) ∧ ∀ s, s < 3 → gr (q.2.1 + 2) s = some (some (q.2.1 + 3 + 8 * s)) := by decide +kernel
theorem b_rd : gk 17 = (3, 0) ∧ gr 17 0 = some (some 18) ∧ gk 18 = (20, 120) := by decide +kernel
theorem b_dk : gk 16 = (7, 0) ∧ gr 16 0 = some (some 17) ∧ gr 16 1 = some (some 19) ∧ gk 19 = (22, 6) ∧ (∀ i, i < 6 → gr 19 i = some (some (20 + 7 * i))) ∧ gr 16 3 = some (some 62) ∧ gr 16 4 = some (some 66) ∧ gr 16 5 = some (some 94) ∧ gr 16 6 = some (some 126) ∧
  gk 126 = (24, 4) ∧ (∀ i, i < 4 → gr 126 i = some (some (127 + 2 * i))) ∧ gr 16 7 = some (some 135) ∧ gk 135 = (21, 4096) := by decide +kernel
theorem b_st : gk 1 = (30, 6) ∧ gk 2 = (30, 6) := by decide +kernel
def syLo : syMI → Bool
  | [] => true
  | .inl q :: t => Nat.ble 3 q.1 && syLo t
  | .inr q :: t => Nat.ble 3 q.2.2.1 && syLo t
theorem syLo_ok {B : zM} {xs : Nat → Int32} {a : Nat} (ha : a < 3) (j : Nat) : ∀ M : syMI, syLo M = true → syFI B xs M a j = zi B a j
  | [], _ => rfl
  | .inl q :: t, h => by
    obtain ⟨h1, h2⟩ := syand h
    have h1 := Nat.ble_eq.mp h1
    show zup (syFI B xs t) q.1 q.2.1 (syi xs q.2.2) a j = _
    have e : zup (syFI B xs t) q.1 q.2.1 (syi xs q.2.2) a j = syFI B xs t a j := if_neg (fun c => by have := c.1; omega)
    rw [e]; exact syLo_ok ha j t h2
  | .inr q :: t, h => by
    obtain ⟨h1, h2⟩ := syand h
    have h1 := Nat.ble_eq.mp h1
    show (if a = q.2.2.1 ∧ q.2.2.2.1 ≤ j ∧ j < q.2.2.2.1 + q.2.2.2.2 then syFI B xs t q.1 (q.2.1 + (j - q.2.2.2.1)) else syFI B xs t a j) = _
    rw [if_neg (fun c => by have := c.1; omega)]
    exact syLo_ok ha j t h2
theorem z_SC (L : Nat) (xs : Nat → Int32) : SC (zB0 L xs) := by
  have pu : ∀ u, u = 67 ∨ u = 99 → SPu (zB0 L xs) u := fun u hu => by
    have h := b_pu u (by rcases hu with rfl | rfl <;> simp)
    exact ⟨gk_z h.1, gr_z h.2.1, gk_z h.2.2⟩
  have sg : ∀ b, b = 70 ∨ b = 102 → ∀ s, s < 3 → SSg (zB0 L xs) (b + 8 * s) := fun b hb s hs => by
    have h := b_sg b (by rcases hb with rfl | rfl <;> simp) s hs
    exact ⟨gk_z h.1, gr_z h.2.1, fun f hf => gr_z (h.2.2.1 f hf), fun f hf => gk_z (h.2.2.2 f hf)⟩
  have jo : ∀ q, q = (62, 240) ∨ q = (95, 0) → SJo (zB0 L xs) q.1 q.2 := fun q hq => by
    have h := b_jo q (by rcases hq with rfl | rfl <;> simp)
    exact ⟨gk_z h.1, fun f hf => ⟨gr_z (h.2 f hf).1, gk_z (h.2 f hf).2⟩⟩
  have wo : ∀ q : Nat × Nat × Nat, q = (66, 67, 62) ∨ q = (94, 99, 95) → SWo (zB0 L xs) q.1 q.2.1 q.2.2 := fun q hq => by
    have h := b_wo q (by rcases hq with rfl | rfl <;> simp)
    exact ⟨gk_z h.1, gr_z h.2.1, gr_z h.2.2.1, gr_z h.2.2.2.1, gr_z h.2.2.2.2.1, gk_z h.2.2.2.2.2.1, fun s hs => gr_z (h.2.2.2.2.2.2 s hs)⟩
  have lo : ∀ a, a < 3 → ∀ j, zi (zB0 L xs) a j = zi (zM0 L xs) a j := fun a ha j => syLo_ok ha j symI (by decide +kernel)
  have d := b_dk
  refine ⟨⟨gk_z d.1, gr_z d.2.1, gr_z d.2.2.1, gk_z d.2.2.2.1, fun i hi => gr_z (d.2.2.2.2.1 i hi), gr_z d.2.2.2.2.2.1, gr_z d.2.2.2.2.2.2.1, gr_z d.2.2.2.2.2.2.2.1, gr_z d.2.2.2.2.2.2.2.2.1, gk_z d.2.2.2.2.2.2.2.2.2.1, fun i hi => gr_z (d.2.2.2.2.2.2.2.2.2.2.1 i hi), gr_z d.2.2.2.2.2.2.2.2.2.2.2.1, gk_z d.2.2.2.2.2.2.2.2.2.2.2.2⟩,
    ⟨gk_z b_rd.1, gr_z b_rd.2.1, gk_z b_rd.2.2⟩, fun i hi => ⟨gk_z (b_pr i hi).1, fun f hf => ⟨gr_z ((b_pr i hi).2 f hf).1, gk_z ((b_pr i hi).2 f hf).2⟩⟩, jo _ (Or.inl rfl), jo _ (Or.inr rfl), wo _ (Or.inl rfl), wo _ (Or.inr rfl), pu _ (Or.inl rfl), pu _ (Or.inr rfl), sg _ (Or.inl rfl), sg _ (Or.inr rfl),
    fun i hi => ⟨gk_z (b_ro i hi).1, gr_z (b_ro i hi).2.1, gk_z (b_ro i hi).2.2⟩, gk_z b_st.1, gk_z b_st.2, fun j => (lo 1 (by omega) j).trans ?_, fun j => (lo 2 (by omega) j).trans ?_⟩
  · show (if (1 : Nat) = 0 then xs j else if (1 : Nat) = 1 then zUn j else if (1 : Nat) = 2 then zAo j else 0) = _
    rw [if_neg (by omega), if_pos rfl]
  · show (if (2 : Nat) = 0 then xs j else if (2 : Nat) = 1 then zUn j else if (2 : Nat) = 2 then zAo j else 0) = _
    rw [if_neg (by omega), if_neg (by omega), if_pos rfl]
/-! values -/
theorem b_c0 : gi 16 2 = some (.inl 0) ∧ gi 17 1 = some (.inl 0) ∧ gi 62 3 = some (.inl 0) ∧ gi 67 1 = some (.inl 0) ∧ gi 67 2 = some (.inl 0) ∧ (∀ k, k < 6 → gi 68 k = some (.inl 100)) ∧ ∀ i, i < 4 → gi (127 + 2 * i) 0 = some (.inl (-1)) ∧ gi (127 + 2 * i) 1 = some (.inl 0) := by decide +kernel
theorem b_cs : ∀ s, s < 3 → gi (70 + 8 * s) 0 = some (.inl 0) ∧ gi (70 + 8 * s) 1 = some (.inl (-1)) ∧ gr (70 + 8 * s) 2 = some none := by decide +kernel
theorem b_cs2 : ∀ s, s < 3 → gi (70 + 8 * s) 3 = some (.inl 0) ∧ gi (70 + 8 * s) 4 = some (.inl 0) ∧ gi (70 + 8 * s) 5 = some (.inl 0) ∧ gi (70 + 8 * s) 7 = some (.inl 0) := by decide +kernel
theorem b_cs3 : ∀ s, s < 3 → ∀ f, f < 4 → ∀ k, k < 12 → gi (70 + 8 * s + 4 + f) k = some (.inl 0) := by decide +kernel
theorem gm_z : gm yS0 1 = 0 ∧ gm yS0 2 = 0 ∧ gm yS0 3 = 0 := by decide
theorem b_r0 : gi 136 0 = some (.inl 0) ∧ gi 136 9 = some (.inl 0) ∧ gi 136 10 = some (.inl 0) ∧ gi 136 20 = some (.inl 0) ∧ gi 136 21 = some (.inl (-1)) ∧ gi 136 24 = some (.inl 0) ∧ gi 136 25 = some (.inl 0) ∧ gi 136 30 = some (.inl 0) ∧ (∀ k, k < 6 → gi 174 k = some (.inl 100)) ∧ ∀ i, i < 4 → gi 319 i = some (.inl (-1)) ∧ gi 320 i = some (.inl 0) := by decide +kernel
theorem b_rs : ∀ s, s < 3 → gi 175 s = some (.inl 0) ∧ gi 176 s = some (.inl (-1)) := by decide +kernel
theorem b_rs2 : ∀ s, s < 3 → ∀ k, k < 12 → gi (178 + s) k = some (.inl 0) ∧ gi (190 + s) k = some (.inl 0) ∧ gi (194 + s) k = some (.inl 0) := by decide +kernel
theorem b_rs3 : ∀ s, s < 3 → ∀ k, k < 12 → gi (198 + s) k = some (.inl 0) ∧ gi (202 + s) k = some (.inl 0) := by decide +kernel
theorem OKT0 : (0 : Nat) ≤ 6 ∧ ∀ i, i < 0 → OKT ((fun _ => yT0 : Nat → yT) i) := ⟨by omega, fun i hi => absurd hi (Nat.not_lt_zero _)⟩
theorem z_RC (L : Nat) (xs : Nat → Int32) : RC (zB0 L xs) yD0 := by
  have c := b_c0
  refine ⟨⟨z_SC L xs, Or.inl ⟨rfl, rfl, rfl, rfl⟩, fun i hi => absurd hi (Nat.not_lt_zero _), OKW_0 OKT0, ⟨fun k hk => gi_h (c.2.2.2.2.2.1 k hk), gi_0 c.2.2.2.1, gi_0 c.2.2.2.2.1⟩, fun s hs => ?_, rfl, gi_0 c.2.2.1, fun k hk => absurd hk (Nat.not_lt_zero _)⟩, gi_0 c.1, ⟨Nat.zero_le _, gi_0 c.2.1, fun k hk => absurd hk (Nat.not_lt_zero _)⟩, fun i hi => ⟨gi_m (c.2.2.2.2.2.2 i hi).1, gi_0 (c.2.2.2.2.2.2 i hi).2⟩⟩
  have h := b_cs s hs
  have h2 := b_cs2 s hs
  have e : 67 + 3 + 8 * s = 70 + 8 * s := by omega
  show RS (zB0 L xs) (67 + 3 + 8 * s) _ _ yS0
  rw [e]
  refine ⟨⟨gi_0 h.1, gi_m h.2.1, gr_z h.2.2⟩, ⟨(gi_0 h2.1).trans (congrArg nI gm_z.1.symm), (gi_0 h2.2.1).trans (congrArg nI gm_z.2.1.symm), (gi_0 h2.2.2.1).trans (congrArg nI gm_z.2.2.symm)⟩, ⟨gi_0 h2.2.2.2, fun k hk => absurd hk (Nat.not_lt_zero _)⟩, fun k hk => absurd hk (Nat.not_lt_zero _), fun k _ q => absurd (show (0 : Nat) = 1 from q) (by omega), fun k hk => ?_⟩
  exact ⟨gi_0 (b_cs3 s hs 0 (by omega) k hk), gi_0 (b_cs3 s hs 1 (by omega) k hk), gi_0 (b_cs3 s hs 2 (by omega) k hk), gi_0 (b_cs3 s hs 3 (by omega) k hk)⟩
theorem z_RX (L : Nat) (xs : Nat → Int32) : RX (zB0 L xs) yD0 0 := by
  have c := b_r0
  have b21 : zi (zB0 L xs) 136 21 = -1 := gi_m c.2.2.2.2.1
  refine ⟨⟨z_SX L xs, fun i hi => absurd hi (Nat.not_lt_zero _), OKW_0 OKT0, ⟨fun k hk => gi_h (c.2.2.2.2.2.2.2.2.1 k hk), gi_0 c.2.1, gi_0 c.2.2.1⟩, fun s hs => ?_, gi_0 c.2.2.2.1, ⟨gi_0 c.2.2.2.2.2.2.1, gi_0 c.2.2.2.2.2.1, fun k hk => absurd hk (Nat.not_lt_zero _)⟩, ⟨none, b21, fun s hs h0 k hk => rfl⟩⟩, b21, gi_0 c.1, ⟨Nat.zero_le _, gi_0 c.2.2.2.2.2.2.2.1, fun k hk => absurd hk (Nat.not_lt_zero _)⟩, fun i hi => ⟨gi_m (c.2.2.2.2.2.2.2.2.2 i hi).1, gi_0 (c.2.2.2.2.2.2.2.2.2 i hi).2⟩⟩
  have h := b_rs s hs
  refine ⟨⟨gi_0 h.1, gi_m h.2⟩, fun k hk => ?_, fun k _ q => absurd (show (0 : Nat) = 1 from q) (by omega), fun _ => 0, fun i hi => absurd hi List.not_mem_nil, List.Pairwise.nil⟩
  have g := b_rs2 s hs k hk
  have g2 := b_rs3 s hs k hk
  exact ⟨gi_0 g.1, gi_0 g.2.1, gi_0 g.2.2, gi_0 g2.1, gi_0 g2.2⟩
theorem z_OK : OKD yD0 := ⟨OKW_0 OKT0, Nat.zero_le _, fun k hk => absurd hk (Nat.not_lt_zero _), yCo.rf _, fun i _ => ⟨Nat.zero_le _, Or.inl rfl⟩⟩
def syKz : syMK → Bool
  | [] => true
  | .inl q :: t => Nat.blt 0 q.1 && syKz t
  | .inr (.inl q) :: t => Nat.blt 0 q.1 && syKz t
  | .inr (.inr q) :: t => Nat.blt 0 q.1 && syKz t
theorem syK0_z {B : zM} : ∀ M : syMK, syKz M = true → syFK B M 0 = zk B 0
  | [], _ => rfl
  | .inl q :: t, h => by
    obtain ⟨h1, h2⟩ := syand h
    have h1 := Nat.blt_eq.mp h1
    show (if 0 = q.1 then q.2 else syFK B t 0) = _
    rw [if_neg (by omega)]; exact syK0_z t h2
  | .inr (.inl q) :: t, h => by
    obtain ⟨h1, h2⟩ := syand h
    have h1 := Nat.blt_eq.mp h1
    show (if 0 = q.1 then (q.2.1, q.2.2.1) else if q.1 < 0 ∧ 0 ≤ q.1 + q.2.2.1 then (20, q.2.2.2) else syFK B t 0) = _
    rw [if_neg (by omega), if_neg (by omega)]; exact syK0_z t h2
  | .inr (.inr q) :: t, h => by
    obtain ⟨h1, h2⟩ := syand h
    have h1 := Nat.blt_eq.mp h1
    show (if 0 = q.1 then (26, q.2.1) else if q.1 < 0 ∧ 0 ≤ q.1 + q.2.1 * (1 + q.2.2.1) then (if (0 - q.1 - 1) % (1 + q.2.2.1) = 0 then (25, q.2.2.1) else (20, q.2.2.2)) else syFK B t 0) = _
    rw [if_neg (by omega), if_neg (by omega)]; exact syK0_z t h2
theorem syA_zi (B : zM) (xs : Nat → Int32) (M : syM) (a j : Nat) : zi (syA B xs M) a j = syFI B xs M.1 a j := rfl
theorem syA_zk (B : zM) (xs : Nat → Int32) (M : syM) (a : Nat) : zk (syA B xs M) a = syFK B M.2.2.1 a := rfl
theorem symM_I : symM.1 = symI := rfl
theorem symM_K : symM.2.2.1 = symK := rfl
theorem z_sc1 (L : Nat) (xs : Nat → Int32) (j : Nat) : zi (zB0 L xs) 0 j = xs j := by
  have lo : syFI (zM0 L xs) xs symI 0 j = zi (zM0 L xs) 0 j := syLo_ok (B := zM0 L xs) (xs := xs) (a := 0) (by omega) j symI (by decide +kernel)
  show zi (syA (zM0 L xs) xs symM) 0 j = xs j
  rw [syA_zi, symM_I, lo]
  show (if (0 : Nat) = 0 then xs j else if (0 : Nat) = 1 then zUn j else if (0 : Nat) = 2 then zAo j else 0) = xs j
  exact if_pos rfl
theorem z_sc2 (L : Nat) (xs : Nat → Int32) : zk (zB0 L xs) 0 = (30, L) := by
  have lo : syFK (zM0 L xs) symK 0 = zk (zM0 L xs) 0 := syK0_z (B := zM0 L xs) symK (by decide +kernel)
  show zk (syA (zM0 L xs) xs symM) 0 = (30, L)
  rw [syA_zk, symM_K, lo]
  show (if (0 : Nat) = 0 then ((30, L) : Nat × Nat) else if (0 : Nat) = 1 ∨ (0 : Nat) = 2 then (30, 6) else if (0 : Nat) < 16 then (98, 0) else (99, 0)) = (30, L)
  exact if_pos rfl
