/-! ===== contracts: tokens ===== -/
/-- tokens: what it is (0 the end, 1 a word, 2 a number, 3 none, else the sign), where it begins, where it ends -/
def lsk (n : Nat) (b : Nat → Nat) : Nat → Nat → Nat
  | 0, p => p
  | r + 1, p => if p < n ∧ (b p = 32 ∨ b p = 10) then lsk n b r (p + 1) else p
def lrn (n : Nat) (b : Nat → Nat) (lo hi : Nat) : Nat → Nat → Nat
  | 0, p => p
  | r + 1, p => if p < n ∧ lo ≤ b p ∧ b p ≤ hi then lrn n b lo hi r (p + 1) else p
abbrev yK : Type := Nat × Nat × Nat
def ysg (c : Nat) : Bool := c == 59 || c == 123 || c == 124 || c == 125 || c == 33
theorem ysg_t {c : Nat} (h : c = 59 ∨ c = 123 ∨ c = 124 ∨ c = 125 ∨ c = 33) : ysg c = true := by
  rcases h with rfl | rfl | rfl | rfl | rfl <;> rfl
theorem ysg_f {c : Nat} (h : c ≠ 59 ∧ c ≠ 123 ∧ c ≠ 124 ∧ c ≠ 125 ∧ c ≠ 33) : ¬ ysg c = true := by
  intro q
  unfold ysg at q
  simp only [Bool.or_eq_true, beq_iff_eq] at q
  omega
def ltk (n : Nat) (b : Nat → Nat) (p : Nat) : yK :=
  let q := lsk n b 120 p
  if n ≤ q then (0, q, q)
  else if 97 ≤ b q ∧ b q ≤ 122 then (1, q, lrn n b 97 122 120 q)
  else if 48 ≤ b q ∧ b q ≤ 57 then (if lrn n b 48 57 120 q - q ≤ 3 then 2 else 3, q, lrn n b 48 57 120 q)
  else (if ysg (b q) then b q else 3, q, q + 1)
theorem lsk_ge {n : Nat} {b : Nat → Nat} : ∀ r p, p ≤ lsk n b r p ∧ (p ≤ n → lsk n b r p ≤ n)
  | 0, p => ⟨Nat.le_refl _, fun h => h⟩
  | r + 1, p => by
    rw [lsk]
    split
    · rename_i h
      have := lsk_ge (n := n) (b := b) r (p + 1)
      exact ⟨by omega, fun _ => this.2 (by omega)⟩
    · exact ⟨Nat.le_refl _, fun h => h⟩
theorem lrn_ge {n : Nat} {b : Nat → Nat} {lo hi : Nat} : ∀ r p, p ≤ lrn n b lo hi r p ∧ (p ≤ n → lrn n b lo hi r p ≤ n)
  | 0, p => ⟨Nat.le_refl _, fun h => h⟩
  | r + 1, p => by
    rw [lrn]
    split
    · rename_i h
      have := lrn_ge (n := n) (b := b) (lo := lo) (hi := hi) r (p + 1)
      exact ⟨by omega, fun _ => this.2 (by omega)⟩
    · exact ⟨Nat.le_refl _, fun h => h⟩
theorem lrn_gt {n : Nat} {b : Nat → Nat} {lo hi p : Nat} (h : p < n) (h1 : lo ≤ b p) (h2 : b p ≤ hi) : p < lrn n b lo hi 120 p := by
  have := (lrn_ge (n := n) (b := b) (lo := lo) (hi := hi) 119 (p + 1)).1
  rw [show (120 : Nat) = 119 + 1 from rfl, lrn, if_pos ⟨h, h1, h2⟩]
  omega
/-- where tokens lie -/
def yKo (n : Nat) (k : yK) : Prop := k.2.1 ≤ k.2.2 ∧ k.2.2 ≤ n ∧ k.1 < 256 ∧ (k.1 ≠ 0 → k.2.1 < k.2.2)
theorem ltk_ok {n p : Nat} {b : Nat → Nat} (hp : p ≤ n) (hb : ∀ k, k < n → b k < 256) : yKo n (ltk n b p) ∧ p ≤ (ltk n b p).2.1 := by
  have h1 := lsk_ge (n := n) (b := b) 120 p
  have hq : p ≤ lsk n b 120 p := h1.1
  have hqn : lsk n b 120 p ≤ n := h1.2 hp
  unfold ltk
  simp only []
  generalize lsk n b 120 p = q at hq hqn ⊢
  by_cases c1 : n ≤ q
  · rw [if_pos c1]; exact ⟨⟨Nat.le_refl _, hqn, by show 0 < 256; omega, fun h => absurd rfl h⟩, hq⟩
  · rw [if_neg c1]
    by_cases c2 : 97 ≤ b q ∧ b q ≤ 122
    · rw [if_pos c2]
      have h2 := lrn_ge (n := n) (b := b) (lo := 97) (hi := 122) 120 q
      exact ⟨⟨h2.1, h2.2 hqn, by show 1 < 256; omega, fun _ => lrn_gt (p := q) (by omega) c2.1 c2.2⟩, hq⟩
    · rw [if_neg c2]
      by_cases c3 : 48 ≤ b q ∧ b q ≤ 57
      · rw [if_pos c3]
        have h2 := lrn_ge (n := n) (b := b) (lo := 48) (hi := 57) 120 q
        exact ⟨⟨h2.1, h2.2 hqn, by show (if _ then 2 else 3) < 256; split <;> omega, fun _ => lrn_gt (p := q) (by omega) c3.1 c3.2⟩, hq⟩
      · rw [if_neg c3]
        exact ⟨⟨Nat.le_succ _, by show q + 1 ≤ n; omega, by show (if _ then b q else 3) < 256; have := hb q (by omega); split <;> omega, fun _ => Nat.lt_succ_self _⟩, hq⟩
/-- the tape's cells, the token's -/
def RTp (M : zM) (n : Nat) (b : Nat → Nat) : Prop := n ≤ 120 ∧ zi M 17 1 = nI n ∧ ∀ k, k < n → zi M 18 k = nI (b k) ∧ b k < 256
def RK (M : zM) (k : yK) : Prop := zi M 17 3 = nI k.1 ∧ zi M 17 4 = nI k.2.1 ∧ zi M 17 2 = nI k.2.2
theorem RTp_fi {M M' : zM} {S : Nat → Nat → Prop} {n : Nat} {b : Nat → Nat} (h : RTp M n b) (f : Fr S M M') (hs : ¬ S 17 1 ∧ ∀ k, ¬ S 18 k) : RTp M' n b :=
  ⟨h.1, (f.i hs.1).trans h.2.1, fun k hk => ⟨(f.i (hs.2 k)).trans (h.2.2 k hk).1, (h.2.2 k hk).2⟩⟩
theorem RK_fi {M M' : zM} {S : Nat → Nat → Prop} {k : yK} (h : RK M k) (f : Fr S M M') (hs : ¬ S 17 2 ∧ ¬ S 17 3 ∧ ¬ S 17 4) : RK M' k := ⟨(f.i hs.2.1).trans h.1, (f.i hs.2.2).trans h.2.1, (f.i hs.1).trans h.2.2⟩
def SRd_fi {M M' : zM} {S : Nat → Nat → Prop} (h : SRd M) (f : Fi S M M') : SRd M' := ⟨(f.k _).trans h.1, (f.r _ _).trans h.2.1, (f.k _).trans h.2.2⟩
def FP : Nat → Nat → Prop := fun a k => a = 17 ∧ k = 2
theorem FP_t : ¬ FP 17 1 ∧ ∀ k, ¬ FP 18 k := ⟨by unfold FP; omega, fun k => by unfold FP; omega⟩
def FK : Nat → Nat → Prop := fun a k => a = 17 ∧ (k = 2 ∨ k = 3 ∨ k = 4)
theorem d17_0 : decode (zB 17) 0 = .ok (.aload_n 0, 1) := (congrArg (fun c => decode c 0) zeq17).trans (by decide +kernel)
theorem d17_1 : decode (zB 17) 1 = .ok (.getfield 28, 3) := (congrArg (fun c => decode c 1) zeq17).trans (by decide +kernel)
theorem d17_4 : decode (zB 17) 4 = .ok (.aload_n 0, 1) := (congrArg (fun c => decode c 4) zeq17).trans (by decide +kernel)
theorem d17_5 : decode (zB 17) 5 = .ok (.getfield 15, 3) := (congrArg (fun c => decode c 5) zeq17).trans (by decide +kernel)
theorem d17_8 : decode (zB 17) 8 = .ok (.if_icmp .ge 42, 3) := (congrArg (fun c => decode c 8) zeq17).trans (by decide +kernel)
theorem d17_11 : decode (zB 17) 11 = .ok (.aload_n 0, 1) := (congrArg (fun c => decode c 11) zeq17).trans (by decide +kernel)
theorem d17_12 : decode (zB 17) 12 = .ok (.getfield 9, 3) := (congrArg (fun c => decode c 12) zeq17).trans (by decide +kernel)
theorem d17_15 : decode (zB 17) 15 = .ok (.aload_n 0, 1) := (congrArg (fun c => decode c 15) zeq17).trans (by decide +kernel)
theorem d17_16 : decode (zB 17) 16 = .ok (.getfield 28, 3) := (congrArg (fun c => decode c 16) zeq17).trans (by decide +kernel)
theorem d17_19 : decode (zB 17) 19 = .ok (.iaload, 1) := (congrArg (fun c => decode c 19) zeq17).trans (by decide +kernel)
theorem d17_20 : decode (zB 17) 20 = .ok (.iload_n 1, 1) := (congrArg (fun c => decode c 20) zeq17).trans (by decide +kernel)
theorem d17_21 : decode (zB 17) 21 = .ok (.if_icmp .lt 29, 3) := (congrArg (fun c => decode c 21) zeq17).trans (by decide +kernel)
theorem d17_24 : decode (zB 17) 24 = .ok (.aload_n 0, 1) := (congrArg (fun c => decode c 24) zeq17).trans (by decide +kernel)
theorem d17_25 : decode (zB 17) 25 = .ok (.getfield 9, 3) := (congrArg (fun c => decode c 25) zeq17).trans (by decide +kernel)
theorem d17_28 : decode (zB 17) 28 = .ok (.aload_n 0, 1) := (congrArg (fun c => decode c 28) zeq17).trans (by decide +kernel)
theorem d17_29 : decode (zB 17) 29 = .ok (.getfield 28, 3) := (congrArg (fun c => decode c 29) zeq17).trans (by decide +kernel)
theorem d17_32 : decode (zB 17) 32 = .ok (.iaload, 1) := (congrArg (fun c => decode c 32) zeq17).trans (by decide +kernel)
theorem d17_33 : decode (zB 17) 33 = .ok (.iload_n 2, 1) := (congrArg (fun c => decode c 33) zeq17).trans (by decide +kernel)
theorem d17_34 : decode (zB 17) 34 = .ok (.if_icmp .gt 16, 3) := (congrArg (fun c => decode c 34) zeq17).trans (by decide +kernel)
theorem d17_37 : decode (zB 17) 37 = .ok (.aload_n 0, 1) := (congrArg (fun c => decode c 37) zeq17).trans (by decide +kernel)
theorem d17_38 : decode (zB 17) 38 = .ok (.dup, 1) := (congrArg (fun c => decode c 38) zeq17).trans (by decide +kernel)
theorem d17_39 : decode (zB 17) 39 = .ok (.getfield 28, 3) := (congrArg (fun c => decode c 39) zeq17).trans (by decide +kernel)
theorem d17_42 : decode (zB 17) 42 = .ok (.iconst 1, 1) := (congrArg (fun c => decode c 42) zeq17).trans (by decide +kernel)
theorem d17_43 : decode (zB 17) 43 = .ok (.iadd, 1) := (congrArg (fun c => decode c 43) zeq17).trans (by decide +kernel)
theorem d17_44 : decode (zB 17) 44 = .ok (.putfield 28, 3) := (congrArg (fun c => decode c 44) zeq17).trans (by decide +kernel)
theorem d17_47 : decode (zB 17) 47 = .ok (.goto (-47), 3) := (congrArg (fun c => decode c 47) zeq17).trans (by decide +kernel)
theorem d17_50 : decode (zB 17) 50 = .ok (.return_, 1) := (congrArg (fun c => decode c 50) zeq17).trans (by decide +kernel)
theorem l17 {d : Nat} {Q : Option Value → zM → Prop} {n : Nat} {b : Nat → Nat} {M0 : zM} {lo hi : Nat} (hlo : lo < 1000) (hhi : hi < 1000) (hs : SRd M0) (ht : RTp M0 n b) : ∀ (r p : Nat) (M1 : zM), n ≤ p + r → zi M1 17 2 = nI p → Fi FP M0 M1 → (∀ M', zi M' 17 2 = nI (lrn n b lo hi r p) → Fi FP M0 M' → qW (zEv (d + 0)) 17 Q 50 [(0, .ref 17), (1, .int (nI lo)), (2, .int (nI hi))] [] M') → p ≤ n → qW (zEv (d + 0)) 17 Q 0 [(0, .ref 17), (1, .int (nI lo)), (2, .int (nI hi))] [] M1 := by
  intro r
  induction r with
  | zero =>
    intro p M1 h1 hp hF k hpn
    have h120 := ht.1
    refine q_aload_n d17_0 rfl ?_
    refine q_getv (c := 3) (f := 2) d17_1 ⟨rfl, by decide⟩ (SRd_fi hs hF).1 hp ?_
    refine q_aload_n d17_4 rfl ?_
    refine q_getv (c := 3) (f := 1) d17_5 ⟨rfl, by decide⟩ (SRd_fi hs hF).1 (RTp_fi ht hF.fr FP_t).2.1 ?_
    refine nc_ge 50 d17_8 (by decide) (by omega) (by omega) (fun h8 => ?_) (fun h8 => (False.elim (by omega)))
    exact k _ hp hF
  | succ r ih =>
    intro p M1 h1 hp hF k hpn
    have h120 := ht.1
    refine q_aload_n d17_0 rfl ?_
    refine q_getv (c := 3) (f := 2) d17_1 ⟨rfl, by decide⟩ (SRd_fi hs hF).1 hp ?_
    refine q_aload_n d17_4 rfl ?_
    refine q_getv (c := 3) (f := 1) d17_5 ⟨rfl, by decide⟩ (SRd_fi hs hF).1 (RTp_fi ht hF.fr FP_t).2.1 ?_
    refine nc_ge 50 d17_8 (by decide) (by omega) (by omega) (fun h8 => ?_) (fun h8 => ?_)
    · rw [lrn, if_neg (fun q => by omega)] at k
      exact k _ hp hF
    · have hb := (ht.2.2 p (by omega)).2
      refine q_aload_n d17_11 rfl ?_
      refine q_getr (c := 3) (f := 0) d17_12 ⟨rfl, rfl⟩ (SRd_fi hs hF).1 (SRd_fi hs hF).2.1 ?_
      refine q_aload_n d17_15 rfl ?_
      refine q_getv (c := 3) (f := 2) d17_16 ⟨rfl, by decide⟩ (SRd_fi hs hF).1 hp ?_
      refine n_iald d17_19 (SRd_fi hs hF).2.2 (by omega) (by decide) ((RTp_fi ht hF.fr FP_t).2.2 _ (by omega)).1 ?_
      refine q_iload_n d17_20 rfl ?_
      refine nc_lt 50 d17_21 (by decide) (by omega) (by omega) (fun h21 => ?_) (fun h21 => ?_)
      · rw [lrn, if_neg (fun q => by omega)] at k
        exact k _ hp hF
      · refine q_aload_n d17_24 rfl ?_
        refine q_getr (c := 3) (f := 0) d17_25 ⟨rfl, rfl⟩ (SRd_fi hs hF).1 (SRd_fi hs hF).2.1 ?_
        refine q_aload_n d17_28 rfl ?_
        refine q_getv (c := 3) (f := 2) d17_29 ⟨rfl, by decide⟩ (SRd_fi hs hF).1 hp ?_
        refine n_iald d17_32 (SRd_fi hs hF).2.2 (by omega) (by decide) ((RTp_fi ht hF.fr FP_t).2.2 _ (by omega)).1 ?_
        refine q_iload_n d17_33 rfl ?_
        refine nc_gt 50 d17_34 (by decide) (by omega) (by omega) (fun h34 => ?_) (fun h34 => ?_)
        · rw [lrn, if_neg (fun q => by omega)] at k
          exact k _ hp hF
        · refine q_aload_n d17_37 rfl ?_
          refine q_dup d17_38 rfl ?_
          refine q_getv (c := 3) (f := 2) d17_39 ⟨rfl, by decide⟩ (SRd_fi hs hF).1 hp ?_
          refine q_iconstN (z := 1) d17_42 ?_
          refine n_iadd d17_43 ?_
          refine q_puti (c := 3) (f := 2) d17_44 ⟨rfl, rfl, by decide⟩ (SRd_fi hs hF).1 ?_
          refine q_goto 0 d17_47 (by decide) ?_
          exact ih (p + 1) _ (by omega) (wi_s _ _ _ _) (hF.wi ⟨rfl, rfl⟩) (by rw [lrn, if_pos ⟨h8, h21, h34⟩] at k; exact k) (by omega)
theorem c17 {d : Nat} {M : zM} {Q : Option Value → zM → Prop} {n : Nat} {b : Nat → Nat} {p lo hi : Nat} (hs : SRd M) (ht : RTp M n b) (hlo : lo < 1000) (hhi : hi < 1000) (hp : zi M 17 2 = nI p) (hpn : p ≤ n) (k : ∀ M', zi M' 17 2 = nI (lrn n b lo hi 120 p) → Fi FP M M' → Q none M') : qC (d + 1) 17 [.ref 17, .int (nI lo), .int (nI hi)] M Q := by
  refine qC_of (by decide) (Nat.le_of_ble_eq_true rfl) ?_
  exact l17 hlo hhi hs ht 120 p M (by have := ht.1; omega) hp (Fi.refl _ _) (fun M1 hp1 f1 => q_ret d17_50 rfl (k _ hp1 f1)) hpn
theorem d16_0 : decode (zB 16) 0 = .ok (.aload_n 0, 1) := (congrArg (fun c => decode c 0) zeq16).trans (by decide +kernel)
theorem d16_1 : decode (zB 16) 1 = .ok (.getfield 28, 3) := (congrArg (fun c => decode c 1) zeq16).trans (by decide +kernel)
theorem d16_4 : decode (zB 16) 4 = .ok (.aload_n 0, 1) := (congrArg (fun c => decode c 4) zeq16).trans (by decide +kernel)
theorem d16_5 : decode (zB 16) 5 = .ok (.getfield 15, 3) := (congrArg (fun c => decode c 5) zeq16).trans (by decide +kernel)
theorem d16_8 : decode (zB 16) 8 = .ok (.if_icmp .ge 44, 3) := (congrArg (fun c => decode c 8) zeq16).trans (by decide +kernel)
theorem d16_11 : decode (zB 16) 11 = .ok (.aload_n 0, 1) := (congrArg (fun c => decode c 11) zeq16).trans (by decide +kernel)
theorem d16_12 : decode (zB 16) 12 = .ok (.getfield 9, 3) := (congrArg (fun c => decode c 12) zeq16).trans (by decide +kernel)
theorem d16_15 : decode (zB 16) 15 = .ok (.aload_n 0, 1) := (congrArg (fun c => decode c 15) zeq16).trans (by decide +kernel)
theorem d16_16 : decode (zB 16) 16 = .ok (.getfield 28, 3) := (congrArg (fun c => decode c 16) zeq16).trans (by decide +kernel)
theorem d16_19 : decode (zB 16) 19 = .ok (.iaload, 1) := (congrArg (fun c => decode c 19) zeq16).trans (by decide +kernel)
theorem d16_20 : decode (zB 16) 20 = .ok (.bipush 32, 2) := (congrArg (fun c => decode c 20) zeq16).trans (by decide +kernel)
theorem d16_22 : decode (zB 16) 22 = .ok (.if_icmp .eq 17, 3) := (congrArg (fun c => decode c 22) zeq16).trans (by decide +kernel)
theorem d16_25 : decode (zB 16) 25 = .ok (.aload_n 0, 1) := (congrArg (fun c => decode c 25) zeq16).trans (by decide +kernel)
theorem d16_26 : decode (zB 16) 26 = .ok (.getfield 9, 3) := (congrArg (fun c => decode c 26) zeq16).trans (by decide +kernel)
theorem d16_29 : decode (zB 16) 29 = .ok (.aload_n 0, 1) := (congrArg (fun c => decode c 29) zeq16).trans (by decide +kernel)
theorem d16_30 : decode (zB 16) 30 = .ok (.getfield 28, 3) := (congrArg (fun c => decode c 30) zeq16).trans (by decide +kernel)
theorem d16_33 : decode (zB 16) 33 = .ok (.iaload, 1) := (congrArg (fun c => decode c 33) zeq16).trans (by decide +kernel)
theorem d16_34 : decode (zB 16) 34 = .ok (.bipush 10, 2) := (congrArg (fun c => decode c 34) zeq16).trans (by decide +kernel)
theorem d16_36 : decode (zB 16) 36 = .ok (.if_icmp .ne 16, 3) := (congrArg (fun c => decode c 36) zeq16).trans (by decide +kernel)
theorem d16_39 : decode (zB 16) 39 = .ok (.aload_n 0, 1) := (congrArg (fun c => decode c 39) zeq16).trans (by decide +kernel)
theorem d16_40 : decode (zB 16) 40 = .ok (.dup, 1) := (congrArg (fun c => decode c 40) zeq16).trans (by decide +kernel)
theorem d16_41 : decode (zB 16) 41 = .ok (.getfield 28, 3) := (congrArg (fun c => decode c 41) zeq16).trans (by decide +kernel)
theorem d16_44 : decode (zB 16) 44 = .ok (.iconst 1, 1) := (congrArg (fun c => decode c 44) zeq16).trans (by decide +kernel)
theorem d16_45 : decode (zB 16) 45 = .ok (.iadd, 1) := (congrArg (fun c => decode c 45) zeq16).trans (by decide +kernel)
theorem d16_46 : decode (zB 16) 46 = .ok (.putfield 28, 3) := (congrArg (fun c => decode c 46) zeq16).trans (by decide +kernel)
theorem d16_49 : decode (zB 16) 49 = .ok (.goto (-49), 3) := (congrArg (fun c => decode c 49) zeq16).trans (by decide +kernel)
theorem d16_52 : decode (zB 16) 52 = .ok (.aload_n 0, 1) := (congrArg (fun c => decode c 52) zeq16).trans (by decide +kernel)
theorem d16_53 : decode (zB 16) 53 = .ok (.aload_n 0, 1) := (congrArg (fun c => decode c 53) zeq16).trans (by decide +kernel)
theorem d16_54 : decode (zB 16) 54 = .ok (.getfield 28, 3) := (congrArg (fun c => decode c 54) zeq16).trans (by decide +kernel)
theorem d16_57 : decode (zB 16) 57 = .ok (.putfield 48, 3) := (congrArg (fun c => decode c 57) zeq16).trans (by decide +kernel)
theorem d16_60 : decode (zB 16) 60 = .ok (.aload_n 0, 1) := (congrArg (fun c => decode c 60) zeq16).trans (by decide +kernel)
theorem d16_61 : decode (zB 16) 61 = .ok (.getfield 28, 3) := (congrArg (fun c => decode c 61) zeq16).trans (by decide +kernel)
theorem d16_64 : decode (zB 16) 64 = .ok (.aload_n 0, 1) := (congrArg (fun c => decode c 64) zeq16).trans (by decide +kernel)
theorem d16_65 : decode (zB 16) 65 = .ok (.getfield 15, 3) := (congrArg (fun c => decode c 65) zeq16).trans (by decide +kernel)
theorem d16_68 : decode (zB 16) 68 = .ok (.if_icmp .lt 9, 3) := (congrArg (fun c => decode c 68) zeq16).trans (by decide +kernel)
theorem d16_71 : decode (zB 16) 71 = .ok (.aload_n 0, 1) := (congrArg (fun c => decode c 71) zeq16).trans (by decide +kernel)
theorem d16_72 : decode (zB 16) 72 = .ok (.iconst 0, 1) := (congrArg (fun c => decode c 72) zeq16).trans (by decide +kernel)
theorem d16_73 : decode (zB 16) 73 = .ok (.putfield 41, 3) := (congrArg (fun c => decode c 73) zeq16).trans (by decide +kernel)
theorem d16_76 : decode (zB 16) 76 = .ok (.return_, 1) := (congrArg (fun c => decode c 76) zeq16).trans (by decide +kernel)
theorem d16_77 : decode (zB 16) 77 = .ok (.aload_n 0, 1) := (congrArg (fun c => decode c 77) zeq16).trans (by decide +kernel)
theorem d16_78 : decode (zB 16) 78 = .ok (.getfield 9, 3) := (congrArg (fun c => decode c 78) zeq16).trans (by decide +kernel)
theorem d16_81 : decode (zB 16) 81 = .ok (.aload_n 0, 1) := (congrArg (fun c => decode c 81) zeq16).trans (by decide +kernel)
theorem d16_82 : decode (zB 16) 82 = .ok (.getfield 28, 3) := (congrArg (fun c => decode c 82) zeq16).trans (by decide +kernel)
theorem d16_85 : decode (zB 16) 85 = .ok (.iaload, 1) := (congrArg (fun c => decode c 85) zeq16).trans (by decide +kernel)
theorem d16_86 : decode (zB 16) 86 = .ok (.istore_n 1, 1) := (congrArg (fun c => decode c 86) zeq16).trans (by decide +kernel)
theorem d16_87 : decode (zB 16) 87 = .ok (.iload_n 1, 1) := (congrArg (fun c => decode c 87) zeq16).trans (by decide +kernel)
theorem d16_88 : decode (zB 16) 88 = .ok (.bipush 97, 2) := (congrArg (fun c => decode c 88) zeq16).trans (by decide +kernel)
theorem d16_90 : decode (zB 16) 90 = .ok (.bipush 122, 2) := (congrArg (fun c => decode c 90) zeq16).trans (by decide +kernel)
theorem d16_92 : decode (zB 16) 92 = .ok (.invokestatic 51, 3) := (congrArg (fun c => decode c 92) zeq16).trans (by decide +kernel)
theorem d16_95 : decode (zB 16) 95 = .ok (.ifCond .eq 19, 3) := (congrArg (fun c => decode c 95) zeq16).trans (by decide +kernel)
theorem d16_98 : decode (zB 16) 98 = .ok (.aload_n 0, 1) := (congrArg (fun c => decode c 98) zeq16).trans (by decide +kernel)
theorem d16_99 : decode (zB 16) 99 = .ok (.bipush 97, 2) := (congrArg (fun c => decode c 99) zeq16).trans (by decide +kernel)
theorem d16_101 : decode (zB 16) 101 = .ok (.bipush 122, 2) := (congrArg (fun c => decode c 101) zeq16).trans (by decide +kernel)
theorem d16_103 : decode (zB 16) 103 = .ok (.invokevirtual 55, 3) := (congrArg (fun c => decode c 103) zeq16).trans (by decide +kernel)
theorem d16_106 : decode (zB 16) 106 = .ok (.aload_n 0, 1) := (congrArg (fun c => decode c 106) zeq16).trans (by decide +kernel)
theorem d16_107 : decode (zB 16) 107 = .ok (.iconst 1, 1) := (congrArg (fun c => decode c 107) zeq16).trans (by decide +kernel)
theorem d16_108 : decode (zB 16) 108 = .ok (.putfield 41, 3) := (congrArg (fun c => decode c 108) zeq16).trans (by decide +kernel)
theorem d16_111 : decode (zB 16) 111 = .ok (.goto 96, 3) := (congrArg (fun c => decode c 111) zeq16).trans (by decide +kernel)
theorem d16_114 : decode (zB 16) 114 = .ok (.iload_n 1, 1) := (congrArg (fun c => decode c 114) zeq16).trans (by decide +kernel)
theorem d16_115 : decode (zB 16) 115 = .ok (.bipush 48, 2) := (congrArg (fun c => decode c 115) zeq16).trans (by decide +kernel)
theorem d16_117 : decode (zB 16) 117 = .ok (.bipush 57, 2) := (congrArg (fun c => decode c 117) zeq16).trans (by decide +kernel)
theorem d16_119 : decode (zB 16) 119 = .ok (.invokestatic 51, 3) := (congrArg (fun c => decode c 119) zeq16).trans (by decide +kernel)
theorem d16_122 : decode (zB 16) 122 = .ok (.ifCond .eq 36, 3) := (congrArg (fun c => decode c 122) zeq16).trans (by decide +kernel)
theorem d16_125 : decode (zB 16) 125 = .ok (.aload_n 0, 1) := (congrArg (fun c => decode c 125) zeq16).trans (by decide +kernel)
theorem d16_126 : decode (zB 16) 126 = .ok (.bipush 48, 2) := (congrArg (fun c => decode c 126) zeq16).trans (by decide +kernel)
theorem d16_128 : decode (zB 16) 128 = .ok (.bipush 57, 2) := (congrArg (fun c => decode c 128) zeq16).trans (by decide +kernel)
theorem d16_130 : decode (zB 16) 130 = .ok (.invokevirtual 55, 3) := (congrArg (fun c => decode c 130) zeq16).trans (by decide +kernel)
theorem d16_133 : decode (zB 16) 133 = .ok (.aload_n 0, 1) := (congrArg (fun c => decode c 133) zeq16).trans (by decide +kernel)
theorem d16_134 : decode (zB 16) 134 = .ok (.aload_n 0, 1) := (congrArg (fun c => decode c 134) zeq16).trans (by decide +kernel)
theorem d16_135 : decode (zB 16) 135 = .ok (.getfield 28, 3) := (congrArg (fun c => decode c 135) zeq16).trans (by decide +kernel)
theorem d16_138 : decode (zB 16) 138 = .ok (.aload_n 0, 1) := (congrArg (fun c => decode c 138) zeq16).trans (by decide +kernel)
theorem d16_139 : decode (zB 16) 139 = .ok (.getfield 48, 3) := (congrArg (fun c => decode c 139) zeq16).trans (by decide +kernel)
theorem d16_142 : decode (zB 16) 142 = .ok (.isub, 1) := (congrArg (fun c => decode c 142) zeq16).trans (by decide +kernel)
theorem d16_143 : decode (zB 16) 143 = .ok (.iconst 3, 1) := (congrArg (fun c => decode c 143) zeq16).trans (by decide +kernel)
theorem d16_144 : decode (zB 16) 144 = .ok (.if_icmp .le 7, 3) := (congrArg (fun c => decode c 144) zeq16).trans (by decide +kernel)
theorem d16_147 : decode (zB 16) 147 = .ok (.iconst 3, 1) := (congrArg (fun c => decode c 147) zeq16).trans (by decide +kernel)
theorem d16_148 : decode (zB 16) 148 = .ok (.goto 4, 3) := (congrArg (fun c => decode c 148) zeq16).trans (by decide +kernel)
theorem d16_151 : decode (zB 16) 151 = .ok (.iconst 2, 1) := (congrArg (fun c => decode c 151) zeq16).trans (by decide +kernel)
theorem d16_152 : decode (zB 16) 152 = .ok (.putfield 41, 3) := (congrArg (fun c => decode c 152) zeq16).trans (by decide +kernel)
theorem d16_155 : decode (zB 16) 155 = .ok (.goto 52, 3) := (congrArg (fun c => decode c 155) zeq16).trans (by decide +kernel)
theorem d16_158 : decode (zB 16) 158 = .ok (.aload_n 0, 1) := (congrArg (fun c => decode c 158) zeq16).trans (by decide +kernel)
theorem d16_159 : decode (zB 16) 159 = .ok (.dup, 1) := (congrArg (fun c => decode c 159) zeq16).trans (by decide +kernel)
theorem d16_160 : decode (zB 16) 160 = .ok (.getfield 28, 3) := (congrArg (fun c => decode c 160) zeq16).trans (by decide +kernel)
theorem d16_163 : decode (zB 16) 163 = .ok (.iconst 1, 1) := (congrArg (fun c => decode c 163) zeq16).trans (by decide +kernel)
theorem d16_164 : decode (zB 16) 164 = .ok (.iadd, 1) := (congrArg (fun c => decode c 164) zeq16).trans (by decide +kernel)
theorem d16_165 : decode (zB 16) 165 = .ok (.putfield 28, 3) := (congrArg (fun c => decode c 165) zeq16).trans (by decide +kernel)
theorem d16_168 : decode (zB 16) 168 = .ok (.aload_n 0, 1) := (congrArg (fun c => decode c 168) zeq16).trans (by decide +kernel)
theorem d16_169 : decode (zB 16) 169 = .ok (.iload_n 1, 1) := (congrArg (fun c => decode c 169) zeq16).trans (by decide +kernel)
theorem d16_170 : decode (zB 16) 170 = .ok (.bipush 59, 2) := (congrArg (fun c => decode c 170) zeq16).trans (by decide +kernel)
theorem d16_172 : decode (zB 16) 172 = .ok (.if_icmp .eq 27, 3) := (congrArg (fun c => decode c 172) zeq16).trans (by decide +kernel)
theorem d16_175 : decode (zB 16) 175 = .ok (.iload_n 1, 1) := (congrArg (fun c => decode c 175) zeq16).trans (by decide +kernel)
theorem d16_176 : decode (zB 16) 176 = .ok (.bipush 123, 2) := (congrArg (fun c => decode c 176) zeq16).trans (by decide +kernel)
theorem d16_178 : decode (zB 16) 178 = .ok (.if_icmp .eq 21, 3) := (congrArg (fun c => decode c 178) zeq16).trans (by decide +kernel)
theorem d16_181 : decode (zB 16) 181 = .ok (.iload_n 1, 1) := (congrArg (fun c => decode c 181) zeq16).trans (by decide +kernel)
theorem d16_182 : decode (zB 16) 182 = .ok (.bipush 124, 2) := (congrArg (fun c => decode c 182) zeq16).trans (by decide +kernel)
theorem d16_184 : decode (zB 16) 184 = .ok (.if_icmp .eq 15, 3) := (congrArg (fun c => decode c 184) zeq16).trans (by decide +kernel)
theorem d16_187 : decode (zB 16) 187 = .ok (.iload_n 1, 1) := (congrArg (fun c => decode c 187) zeq16).trans (by decide +kernel)
theorem d16_188 : decode (zB 16) 188 = .ok (.bipush 125, 2) := (congrArg (fun c => decode c 188) zeq16).trans (by decide +kernel)
theorem d16_190 : decode (zB 16) 190 = .ok (.if_icmp .eq 9, 3) := (congrArg (fun c => decode c 190) zeq16).trans (by decide +kernel)
theorem d16_193 : decode (zB 16) 193 = .ok (.iload_n 1, 1) := (congrArg (fun c => decode c 193) zeq16).trans (by decide +kernel)
theorem d16_194 : decode (zB 16) 194 = .ok (.bipush 33, 2) := (congrArg (fun c => decode c 194) zeq16).trans (by decide +kernel)
theorem d16_196 : decode (zB 16) 196 = .ok (.if_icmp .ne 7, 3) := (congrArg (fun c => decode c 196) zeq16).trans (by decide +kernel)
theorem d16_199 : decode (zB 16) 199 = .ok (.iload_n 1, 1) := (congrArg (fun c => decode c 199) zeq16).trans (by decide +kernel)
theorem d16_200 : decode (zB 16) 200 = .ok (.goto 4, 3) := (congrArg (fun c => decode c 200) zeq16).trans (by decide +kernel)
theorem d16_203 : decode (zB 16) 203 = .ok (.iconst 3, 1) := (congrArg (fun c => decode c 203) zeq16).trans (by decide +kernel)
theorem d16_204 : decode (zB 16) 204 = .ok (.putfield 41, 3) := (congrArg (fun c => decode c 204) zeq16).trans (by decide +kernel)
theorem d16_207 : decode (zB 16) 207 = .ok (.return_, 1) := (congrArg (fun c => decode c 207) zeq16).trans (by decide +kernel)
theorem l16 {d : Nat} {Q : Option Value → zM → Prop} {n : Nat} {b : Nat → Nat} {M0 : zM}  (hs : SRd M0) (ht : RTp M0 n b) : ∀ (r p : Nat) (M1 : zM), n ≤ p + r → zi M1 17 2 = nI p → Fi FP M0 M1 → (∀ M', zi M' 17 2 = nI (lsk n b r p) → Fi FP M0 M' → qW (zEv (d + 1)) 16 Q 52 [(0, .ref 17)] [] M') → p ≤ n → qW (zEv (d + 1)) 16 Q 0 [(0, .ref 17)] [] M1 := by
  intro r
  induction r with
  | zero =>
    intro p M1 h1 hp hF k hpn
    have h120 := ht.1
    refine q_aload_n d16_0 rfl ?_
    refine q_getv (c := 3) (f := 2) d16_1 ⟨rfl, by decide⟩ (SRd_fi hs hF).1 hp ?_
    refine q_aload_n d16_4 rfl ?_
    refine q_getv (c := 3) (f := 1) d16_5 ⟨rfl, by decide⟩ (SRd_fi hs hF).1 (RTp_fi ht hF.fr FP_t).2.1 ?_
    refine nc_ge 52 d16_8 (by decide) (by omega) (by omega) (fun h8 => ?_) (fun h8 => (False.elim (by omega)))
    exact k _ hp hF
  | succ r ih =>
    intro p M1 h1 hp hF k hpn
    have h120 := ht.1
    refine q_aload_n d16_0 rfl ?_
    refine q_getv (c := 3) (f := 2) d16_1 ⟨rfl, by decide⟩ (SRd_fi hs hF).1 hp ?_
    refine q_aload_n d16_4 rfl ?_
    refine q_getv (c := 3) (f := 1) d16_5 ⟨rfl, by decide⟩ (SRd_fi hs hF).1 (RTp_fi ht hF.fr FP_t).2.1 ?_
    refine nc_ge 52 d16_8 (by decide) (by omega) (by omega) (fun h8 => ?_) (fun h8 => ?_)
    · rw [lsk, if_neg (fun q => by omega)] at k
      exact k _ hp hF
    · have hb := (ht.2.2 p (by omega)).2
      refine q_aload_n d16_11 rfl ?_
      refine q_getr (c := 3) (f := 0) d16_12 ⟨rfl, rfl⟩ (SRd_fi hs hF).1 (SRd_fi hs hF).2.1 ?_
      refine q_aload_n d16_15 rfl ?_
      refine q_getv (c := 3) (f := 2) d16_16 ⟨rfl, by decide⟩ (SRd_fi hs hF).1 hp ?_
      refine n_iald d16_19 (SRd_fi hs hF).2.2 (by omega) (by decide) ((RTp_fi ht hF.fr FP_t).2.2 _ (by omega)).1 ?_
      refine q_bipush (x := nI 32) d16_20 rfl ?_
      refine nc_eq 39 d16_22 (by decide) (by omega) (by omega) (fun h22 => ?_) (fun h22 => ?_)
      · refine q_aload_n d16_39 rfl ?_
        refine q_dup d16_40 rfl ?_
        refine q_getv (c := 3) (f := 2) d16_41 ⟨rfl, by decide⟩ (SRd_fi hs hF).1 hp ?_
        refine q_iconstN (z := 1) d16_44 ?_
        refine n_iadd d16_45 ?_
        refine q_puti (c := 3) (f := 2) d16_46 ⟨rfl, rfl, by decide⟩ (SRd_fi hs hF).1 ?_
        refine q_goto 0 d16_49 (by decide) ?_
        exact ih (p + 1) _ (by omega) (wi_s _ _ _ _) (hF.wi ⟨rfl, rfl⟩) (by rw [lsk, if_pos ⟨h8, by omega⟩] at k; exact k) (by omega)
      · refine q_aload_n d16_25 rfl ?_
        refine q_getr (c := 3) (f := 0) d16_26 ⟨rfl, rfl⟩ (SRd_fi hs hF).1 (SRd_fi hs hF).2.1 ?_
        refine q_aload_n d16_29 rfl ?_
        refine q_getv (c := 3) (f := 2) d16_30 ⟨rfl, by decide⟩ (SRd_fi hs hF).1 hp ?_
        refine n_iald d16_33 (SRd_fi hs hF).2.2 (by omega) (by decide) ((RTp_fi ht hF.fr FP_t).2.2 _ (by omega)).1 ?_
        refine q_bipush (x := nI 10) d16_34 rfl ?_
        refine nc_ne 52 d16_36 (by decide) (by omega) (by omega) (fun h36 => ?_) (fun h36 => ?_)
        · rw [lsk, if_neg (fun q => by omega)] at k
          exact k _ hp hF
        · refine q_aload_n d16_39 rfl ?_
          refine q_dup d16_40 rfl ?_
          refine q_getv (c := 3) (f := 2) d16_41 ⟨rfl, by decide⟩ (SRd_fi hs hF).1 hp ?_
          refine q_iconstN (z := 1) d16_44 ?_
          refine n_iadd d16_45 ?_
          refine q_puti (c := 3) (f := 2) d16_46 ⟨rfl, rfl, by decide⟩ (SRd_fi hs hF).1 ?_
          refine q_goto 0 d16_49 (by decide) ?_
          exact ih (p + 1) _ (by omega) (wi_s _ _ _ _) (hF.wi ⟨rfl, rfl⟩) (by rw [lsk, if_pos ⟨h8, by omega⟩] at k; exact k) (by omega)
theorem Fi.pk {M M' : zM} (h : Fi FP M M') : Fi FK M M' := h.mono (fun _ _ q => ⟨q.1, Or.inl q.2⟩)
theorem c16 {d : Nat} {M : zM} {Q : Option Value → zM → Prop} {n : Nat} {b : Nat → Nat} {p : Nat} (hs : SRd M) (ht : RTp M n b) (hp : zi M 17 2 = nI p) (hpn : p ≤ n) (k : ∀ M', RK M' (ltk n b p) → Fi FK M M' → Q none M') : qC (d + 2) 16 [.ref 17] M Q := by
  refine qC_of (by decide) (Nat.le_of_ble_eq_true rfl) ?_
  refine l16 hs ht 120 p M (by have := ht.1; omega) hp (Fi.refl _ _) (fun M1 hp1 f1 => ?_) hpn
  have h120 := ht.1
  have hs1 := SRd_fi hs f1
  have ht1 := RTp_fi ht f1.fr FP_t
  have hq0 := lsk_ge (n := n) (b := b) 120 p
  have hq1 := hq0.2 hpn
  by_cases hq : n ≤ lsk n b 120 p
  · skip
    refine q_aload_n d16_52 rfl ?_
    refine q_aload_n d16_53 rfl ?_
    refine q_getv (c := 3) (f := 2) d16_54 ⟨rfl, by decide⟩ hs1.1 hp1 ?_
    refine q_puti (c := 3) (f := 4) d16_57 ⟨rfl, rfl, by decide⟩ hs1.1 ?_
    refine q_aload_n d16_60 rfl ?_
    refine q_getv (c := 3) (f := 2) d16_61 ⟨rfl, by decide⟩ hs1.1 (Eq.trans (by (repeat (first | rw [wi_n (Or.inl (by omega))] | rw [wi_n (Or.inr (by omega))] | rw [wi_s] | rw [wr_i] | rw [cp_n (by omega)]))) hp1) ?_
    refine q_aload_n d16_64 rfl ?_
    refine q_getv (c := 3) (f := 1) d16_65 ⟨rfl, by decide⟩ hs1.1 (Eq.trans (by (repeat (first | rw [wi_n (Or.inl (by omega))] | rw [wi_n (Or.inr (by omega))] | rw [wi_s] | rw [wr_i] | rw [cp_n (by omega)]))) ht1.2.1) ?_
    refine nc_lt 77 d16_68 (by decide) (by omega) (by omega) (fun h68 => (False.elim (by omega))) (fun h68 => ?_)
    refine q_aload_n d16_71 rfl ?_
    refine q_iconstN (z := 0) d16_72 ?_
    refine q_puti (c := 3) (f := 3) d16_73 ⟨rfl, rfl, by decide⟩ hs1.1 ?_
    refine q_ret d16_76 rfl ?_
    rw [show ltk n b p = (0, lsk n b 120 p, lsk n b 120 p) by unfold ltk; simp only []; rw [if_pos hq]] at k
    refine k _ ⟨?_, ?_, ?_⟩ (((f1.pk).wi ⟨rfl, by omega⟩).wi ⟨rfl, by omega⟩)
    · (repeat (first | rw [wi_n (Or.inl (by omega))] | rw [wi_n (Or.inr (by omega))] | rw [wi_s] | rw [wr_i] | rw [cp_n (by omega)] | rw [cp_0 (by omega)]))
    · (repeat (first | rw [wi_n (Or.inl (by omega))] | rw [wi_n (Or.inr (by omega))] | rw [wi_s] | rw [wr_i] | rw [cp_n (by omega)] | rw [cp_0 (by omega)]))
    · (repeat (first | rw [wi_n (Or.inl (by omega))] | rw [wi_n (Or.inr (by omega))] | rw [wi_s] | rw [wr_i] | rw [cp_n (by omega)] | rw [cp_0 (by omega)])); exact hp1
  · obtain ⟨q, hqe⟩ : ∃ q, lsk n b 120 p = q := ⟨_, rfl⟩
    rw [hqe] at hp1 hq hq1
    have hbq := (ht1.2.2 q (by omega)).2
    have hs2 : SRd (zwi M1 17 4 (nI q)) := hs1
    have ht2 : RTp (zwi M1 17 4 (nI q)) n b := RTp_fi ht1 ((Fi.refl (fun a k => a = 17 ∧ k = 4) M1).wi ⟨rfl, rfl⟩).fr ⟨by omega, fun k => by omega⟩
    have hp2 : zi (zwi M1 17 4 (nI q)) 17 2 = nI q := by (repeat (first | rw [wi_n (Or.inl (by omega))] | rw [wi_n (Or.inr (by omega))] | rw [wi_s] | rw [wr_i] | rw [cp_n (by omega)] | rw [cp_0 (by omega)])); exact hp1
    by_cases hc : 97 ≤ b q ∧ b q ≤ 122
    · skip
      refine q_aload_n d16_52 rfl ?_
      refine q_aload_n d16_53 rfl ?_
      refine q_getv (c := 3) (f := 2) d16_54 ⟨rfl, by decide⟩ hs1.1 hp1 ?_
      refine q_puti (c := 3) (f := 4) d16_57 ⟨rfl, rfl, by decide⟩ hs1.1 ?_
      refine q_aload_n d16_60 rfl ?_
      refine q_getv (c := 3) (f := 2) d16_61 ⟨rfl, by decide⟩ hs1.1 (Eq.trans (by (repeat (first | rw [wi_n (Or.inl (by omega))] | rw [wi_n (Or.inr (by omega))] | rw [wi_s] | rw [wr_i] | rw [cp_n (by omega)]))) hp1) ?_
      refine q_aload_n d16_64 rfl ?_
      refine q_getv (c := 3) (f := 1) d16_65 ⟨rfl, by decide⟩ hs1.1 (Eq.trans (by (repeat (first | rw [wi_n (Or.inl (by omega))] | rw [wi_n (Or.inr (by omega))] | rw [wi_s] | rw [wr_i] | rw [cp_n (by omega)]))) ht1.2.1) ?_
      refine nc_lt 77 d16_68 (by decide) (by omega) (by omega) (fun h68 => ?_) (fun h68 => (False.elim (by omega)))
      refine q_aload_n d16_77 rfl ?_
      refine q_getr (c := 3) (f := 0) d16_78 ⟨rfl, rfl⟩ hs1.1 hs1.2.1 ?_
      refine q_aload_n d16_81 rfl ?_
      refine q_getv (c := 3) (f := 2) d16_82 ⟨rfl, by decide⟩ hs1.1 (Eq.trans (by (repeat (first | rw [wi_n (Or.inl (by omega))] | rw [wi_n (Or.inr (by omega))] | rw [wi_s] | rw [wr_i] | rw [cp_n (by omega)]))) hp1) ?_
      refine n_iald d16_85 hs1.2.2 (by omega) (by decide) (Eq.trans (by (repeat (first | rw [wi_n (Or.inl (by omega))] | rw [wi_n (Or.inr (by omega))] | rw [wi_s] | rw [wr_i] | rw [cp_n (by omega)]))) (ht1.2.2 _ (by omega)).1) ?_
      refine q_istore_n d16_86 (by decide) rfl ?_
      refine q_iload_n d16_87 rfl ?_
      refine q_bipush (x := nI 97) d16_88 rfl ?_
      refine q_bipush (x := nI 122) d16_90 rfl ?_
      refine q_s3 d16_92 (Or.inr rfl) rfl (Nat.le_of_ble_eq_true rfl) (c10t ⟨by omega, by omega⟩ (by decide) ?_)
      refine n0_eq 114 d16_95 (by decide) (by decide) (fun q => absurd q (by decide)) (fun _ => ?_)
      refine q_aload_n d16_98 rfl ?_
      refine q_bipush (x := nI 97) d16_99 rfl ?_
      refine q_bipush (x := nI 122) d16_101 rfl ?_
      refine q_v2 d16_103 rfl rfl hs1.1 (Nat.le_of_ble_eq_true rfl) (c17 hs2 ht2 (by decide) (by decide) hp2 (by omega) (fun M3 hp3 f3 => ?_))
      have hs3 := SRd_fi hs2 f3
      refine q_aload_n d16_106 rfl ?_
      refine q_iconstN (z := 1) d16_107 ?_
      refine q_puti (c := 3) (f := 3) d16_108 ⟨rfl, rfl, by decide⟩ hs3.1 ?_
      refine q_goto 207 d16_111 (by decide) ?_
      refine q_ret d16_207 rfl ?_
      rw [show ltk n b p = (1, q, lrn n b 97 122 120 q) by unfold ltk; simp only []; rw [hqe, if_neg (by omega), if_pos hc]] at k
      refine k _ ⟨?_, ?_, ?_⟩ ((((f1.pk).wi ⟨rfl, by omega⟩).trans f3.pk).wi ⟨rfl, by omega⟩)
      · (repeat (first | rw [wi_n (Or.inl (by omega))] | rw [wi_n (Or.inr (by omega))] | rw [wi_s] | rw [wr_i] | rw [cp_n (by omega)] | rw [cp_0 (by omega)]))
      · (repeat (first | rw [wi_n (Or.inl (by omega))] | rw [wi_n (Or.inr (by omega))] | rw [wi_s] | rw [wr_i] | rw [cp_n (by omega)] | rw [cp_0 (by omega)])); rw [f3.1 _ _ (by unfold FP; omega)]; (repeat (first | rw [wi_n (Or.inl (by omega))] | rw [wi_n (Or.inr (by omega))] | rw [wi_s] | rw [wr_i] | rw [cp_n (by omega)] | rw [cp_0 (by omega)]))
      · (repeat (first | rw [wi_n (Or.inl (by omega))] | rw [wi_n (Or.inr (by omega))] | rw [wi_s] | rw [wr_i] | rw [cp_n (by omega)] | rw [cp_0 (by omega)])); exact hp3
    · by_cases hd : 48 ≤ b q ∧ b q ≤ 57
      · skip
        refine q_aload_n d16_52 rfl ?_
        refine q_aload_n d16_53 rfl ?_
        refine q_getv (c := 3) (f := 2) d16_54 ⟨rfl, by decide⟩ hs1.1 hp1 ?_
        refine q_puti (c := 3) (f := 4) d16_57 ⟨rfl, rfl, by decide⟩ hs1.1 ?_
        refine q_aload_n d16_60 rfl ?_
        refine q_getv (c := 3) (f := 2) d16_61 ⟨rfl, by decide⟩ hs1.1 (Eq.trans (by (repeat (first | rw [wi_n (Or.inl (by omega))] | rw [wi_n (Or.inr (by omega))] | rw [wi_s] | rw [wr_i] | rw [cp_n (by omega)]))) hp1) ?_
        refine q_aload_n d16_64 rfl ?_
        refine q_getv (c := 3) (f := 1) d16_65 ⟨rfl, by decide⟩ hs1.1 (Eq.trans (by (repeat (first | rw [wi_n (Or.inl (by omega))] | rw [wi_n (Or.inr (by omega))] | rw [wi_s] | rw [wr_i] | rw [cp_n (by omega)]))) ht1.2.1) ?_
        refine nc_lt 77 d16_68 (by decide) (by omega) (by omega) (fun h68 => ?_) (fun h68 => (False.elim (by omega)))
        refine q_aload_n d16_77 rfl ?_
        refine q_getr (c := 3) (f := 0) d16_78 ⟨rfl, rfl⟩ hs1.1 hs1.2.1 ?_
        refine q_aload_n d16_81 rfl ?_
        refine q_getv (c := 3) (f := 2) d16_82 ⟨rfl, by decide⟩ hs1.1 (Eq.trans (by (repeat (first | rw [wi_n (Or.inl (by omega))] | rw [wi_n (Or.inr (by omega))] | rw [wi_s] | rw [wr_i] | rw [cp_n (by omega)]))) hp1) ?_
        refine n_iald d16_85 hs1.2.2 (by omega) (by decide) (Eq.trans (by (repeat (first | rw [wi_n (Or.inl (by omega))] | rw [wi_n (Or.inr (by omega))] | rw [wi_s] | rw [wr_i] | rw [cp_n (by omega)]))) (ht1.2.2 _ (by omega)).1) ?_
        refine q_istore_n d16_86 (by decide) rfl ?_
        refine q_iload_n d16_87 rfl ?_
        refine q_bipush (x := nI 97) d16_88 rfl ?_
        refine q_bipush (x := nI 122) d16_90 rfl ?_
        refine q_s3 d16_92 (Or.inr rfl) rfl (Nat.le_of_ble_eq_true rfl) (c10n (by omega) (by decide) (by omega) (by decide) ?_)
        refine n0_eq 114 d16_95 (by decide) (by decide) (fun _ => ?_) (fun q => absurd q (by decide))
        refine q_iload_n d16_114 rfl ?_
        refine q_bipush (x := nI 48) d16_115 rfl ?_
        refine q_bipush (x := nI 57) d16_117 rfl ?_
        refine q_s3 d16_119 (Or.inr rfl) rfl (Nat.le_of_ble_eq_true rfl) (c10t ⟨by omega, by omega⟩ (by decide) ?_)
        refine n0_eq 158 d16_122 (by decide) (by decide) (fun q => absurd q (by decide)) (fun _ => ?_)
        refine q_aload_n d16_125 rfl ?_
        refine q_bipush (x := nI 48) d16_126 rfl ?_
        refine q_bipush (x := nI 57) d16_128 rfl ?_
        refine q_v2 d16_130 rfl rfl hs1.1 (Nat.le_of_ble_eq_true rfl) (c17 hs2 ht2 (by decide) (by decide) hp2 (by omega) (fun M3 hp3 f3 => ?_))
        have hs3 := SRd_fi hs2 f3
        have hst3 : zi M3 17 4 = nI q := by rw [f3.1 _ _ (by unfold FP; omega)]; (repeat (first | rw [wi_n (Or.inl (by omega))] | rw [wi_n (Or.inr (by omega))] | rw [wi_s] | rw [wr_i] | rw [cp_n (by omega)] | rw [cp_0 (by omega)]))
        have hle := lrn_ge (n := n) (b := b) (lo := 48) (hi := 57) 120 q
        have hle2 := hle.2 (by omega)
        refine q_aload_n d16_133 rfl ?_
        refine q_aload_n d16_134 rfl ?_
        refine q_getv (c := 3) (f := 2) d16_135 ⟨rfl, by decide⟩ hs3.1 hp3 ?_
        refine q_aload_n d16_138 rfl ?_
        refine q_getv (c := 3) (f := 4) d16_139 ⟨rfl, by decide⟩ hs3.1 hst3 ?_
        refine n_isub d16_142 (by omega) ?_
        refine q_iconstN (z := 3) d16_143 ?_
        refine nc_le 151 d16_144 (by decide) (by omega) (by omega) (fun h144 => ?_) (fun h144 => ?_)
        · refine q_iconstN (z := 2) d16_151 ?_
          refine q_puti (c := 3) (f := 3) d16_152 ⟨rfl, rfl, by decide⟩ hs3.1 ?_
          refine q_goto 207 d16_155 (by decide) ?_
          refine q_ret d16_207 rfl ?_
          rw [show ltk n b p = (if lrn n b 48 57 120 q - q ≤ 3 then 2 else 3, q, lrn n b 48 57 120 q) by unfold ltk; simp only []; rw [hqe, if_neg (by omega), if_neg hc, if_pos hd]] at k
          refine k _ ⟨?_, ?_, ?_⟩ ((((f1.pk).wi ⟨rfl, by omega⟩).trans f3.pk).wi ⟨rfl, by omega⟩)
          · first
            | (rw [if_pos h144]; (repeat (first | rw [wi_n (Or.inl (by omega))] | rw [wi_n (Or.inr (by omega))] | rw [wi_s] | rw [wr_i] | rw [cp_n (by omega)] | rw [cp_0 (by omega)])))
            | (rw [if_neg (by omega)]; (repeat (first | rw [wi_n (Or.inl (by omega))] | rw [wi_n (Or.inr (by omega))] | rw [wi_s] | rw [wr_i] | rw [cp_n (by omega)] | rw [cp_0 (by omega)])))
          · (repeat (first | rw [wi_n (Or.inl (by omega))] | rw [wi_n (Or.inr (by omega))] | rw [wi_s] | rw [wr_i] | rw [cp_n (by omega)] | rw [cp_0 (by omega)])); exact hst3
          · (repeat (first | rw [wi_n (Or.inl (by omega))] | rw [wi_n (Or.inr (by omega))] | rw [wi_s] | rw [wr_i] | rw [cp_n (by omega)] | rw [cp_0 (by omega)])); exact hp3
        · refine q_iconstN (z := 3) d16_147 ?_
          refine q_goto 152 d16_148 (by decide) ?_
          refine q_puti (c := 3) (f := 3) d16_152 ⟨rfl, rfl, by decide⟩ hs3.1 ?_
          refine q_goto 207 d16_155 (by decide) ?_
          refine q_ret d16_207 rfl ?_
          rw [show ltk n b p = (if lrn n b 48 57 120 q - q ≤ 3 then 2 else 3, q, lrn n b 48 57 120 q) by unfold ltk; simp only []; rw [hqe, if_neg (by omega), if_neg hc, if_pos hd]] at k
          refine k _ ⟨?_, ?_, ?_⟩ ((((f1.pk).wi ⟨rfl, by omega⟩).trans f3.pk).wi ⟨rfl, by omega⟩)
          · first
            | (rw [if_pos h144]; (repeat (first | rw [wi_n (Or.inl (by omega))] | rw [wi_n (Or.inr (by omega))] | rw [wi_s] | rw [wr_i] | rw [cp_n (by omega)] | rw [cp_0 (by omega)])))
            | (rw [if_neg (by omega)]; (repeat (first | rw [wi_n (Or.inl (by omega))] | rw [wi_n (Or.inr (by omega))] | rw [wi_s] | rw [wr_i] | rw [cp_n (by omega)] | rw [cp_0 (by omega)])))
          · (repeat (first | rw [wi_n (Or.inl (by omega))] | rw [wi_n (Or.inr (by omega))] | rw [wi_s] | rw [wr_i] | rw [cp_n (by omega)] | rw [cp_0 (by omega)])); exact hst3
          · (repeat (first | rw [wi_n (Or.inl (by omega))] | rw [wi_n (Or.inr (by omega))] | rw [wi_s] | rw [wr_i] | rw [cp_n (by omega)] | rw [cp_0 (by omega)])); exact hp3
      · skip
        refine q_aload_n d16_52 rfl ?_
        refine q_aload_n d16_53 rfl ?_
        refine q_getv (c := 3) (f := 2) d16_54 ⟨rfl, by decide⟩ hs1.1 hp1 ?_
        refine q_puti (c := 3) (f := 4) d16_57 ⟨rfl, rfl, by decide⟩ hs1.1 ?_
        refine q_aload_n d16_60 rfl ?_
        refine q_getv (c := 3) (f := 2) d16_61 ⟨rfl, by decide⟩ hs1.1 (Eq.trans (by (repeat (first | rw [wi_n (Or.inl (by omega))] | rw [wi_n (Or.inr (by omega))] | rw [wi_s] | rw [wr_i] | rw [cp_n (by omega)]))) hp1) ?_
        refine q_aload_n d16_64 rfl ?_
        refine q_getv (c := 3) (f := 1) d16_65 ⟨rfl, by decide⟩ hs1.1 (Eq.trans (by (repeat (first | rw [wi_n (Or.inl (by omega))] | rw [wi_n (Or.inr (by omega))] | rw [wi_s] | rw [wr_i] | rw [cp_n (by omega)]))) ht1.2.1) ?_
        refine nc_lt 77 d16_68 (by decide) (by omega) (by omega) (fun h68 => ?_) (fun h68 => (False.elim (by omega)))
        refine q_aload_n d16_77 rfl ?_
        refine q_getr (c := 3) (f := 0) d16_78 ⟨rfl, rfl⟩ hs1.1 hs1.2.1 ?_
        refine q_aload_n d16_81 rfl ?_
        refine q_getv (c := 3) (f := 2) d16_82 ⟨rfl, by decide⟩ hs1.1 (Eq.trans (by (repeat (first | rw [wi_n (Or.inl (by omega))] | rw [wi_n (Or.inr (by omega))] | rw [wi_s] | rw [wr_i] | rw [cp_n (by omega)]))) hp1) ?_
        refine n_iald d16_85 hs1.2.2 (by omega) (by decide) (Eq.trans (by (repeat (first | rw [wi_n (Or.inl (by omega))] | rw [wi_n (Or.inr (by omega))] | rw [wi_s] | rw [wr_i] | rw [cp_n (by omega)]))) (ht1.2.2 _ (by omega)).1) ?_
        refine q_istore_n d16_86 (by decide) rfl ?_
        refine q_iload_n d16_87 rfl ?_
        refine q_bipush (x := nI 97) d16_88 rfl ?_
        refine q_bipush (x := nI 122) d16_90 rfl ?_
        refine q_s3 d16_92 (Or.inr rfl) rfl (Nat.le_of_ble_eq_true rfl) (c10n (by omega) (by decide) (by omega) (by decide) ?_)
        refine n0_eq 114 d16_95 (by decide) (by decide) (fun _ => ?_) (fun q => absurd q (by decide))
        refine q_iload_n d16_114 rfl ?_
        refine q_bipush (x := nI 48) d16_115 rfl ?_
        refine q_bipush (x := nI 57) d16_117 rfl ?_
        refine q_s3 d16_119 (Or.inr rfl) rfl (Nat.le_of_ble_eq_true rfl) (c10n (by omega) (by decide) (by omega) (by decide) ?_)
        refine n0_eq 158 d16_122 (by decide) (by decide) (fun _ => ?_) (fun q => absurd q (by decide))
        refine q_aload_n d16_158 rfl ?_
        refine q_dup d16_159 rfl ?_
        refine q_getv (c := 3) (f := 2) d16_160 ⟨rfl, by decide⟩ hs1.1 (Eq.trans (by (repeat (first | rw [wi_n (Or.inl (by omega))] | rw [wi_n (Or.inr (by omega))] | rw [wi_s] | rw [wr_i] | rw [cp_n (by omega)]))) hp1) ?_
        refine q_iconstN (z := 1) d16_163 ?_
        refine n_iadd d16_164 ?_
        refine q_puti (c := 3) (f := 2) d16_165 ⟨rfl, rfl, by decide⟩ hs1.1 ?_
        refine q_aload_n d16_168 rfl ?_
        refine q_iload_n d16_169 rfl ?_
        refine q_bipush (x := nI 59) d16_170 rfl ?_
        refine nc_eq 199 d16_172 (by decide) (by omega) (by omega) (fun h172 => ?_) (fun h172 => ?_)
        · refine q_iload_n d16_199 rfl ?_
          refine q_goto 204 d16_200 (by decide) ?_
          refine q_puti (c := 3) (f := 3) d16_204 ⟨rfl, rfl, by decide⟩ hs1.1 ?_
          refine q_ret d16_207 rfl ?_
          rw [show ltk n b p = (if ysg (b q) then b q else 3, q, q + 1) by unfold ltk; simp only []; rw [hqe, if_neg (by omega), if_neg hc, if_neg hd]] at k
          refine k _ ⟨?_, ?_, ?_⟩ ((((f1.pk).wi ⟨rfl, by omega⟩).wi ⟨rfl, by omega⟩).wi ⟨rfl, by omega⟩)
          · first
            | (rw [if_pos (ysg_t (by omega))]; (repeat (first | rw [wi_n (Or.inl (by omega))] | rw [wi_n (Or.inr (by omega))] | rw [wi_s] | rw [wr_i] | rw [cp_n (by omega)] | rw [cp_0 (by omega)])))
            | (rw [if_neg (ysg_f (by omega))]; (repeat (first | rw [wi_n (Or.inl (by omega))] | rw [wi_n (Or.inr (by omega))] | rw [wi_s] | rw [wr_i] | rw [cp_n (by omega)] | rw [cp_0 (by omega)])))
          · (repeat (first | rw [wi_n (Or.inl (by omega))] | rw [wi_n (Or.inr (by omega))] | rw [wi_s] | rw [wr_i] | rw [cp_n (by omega)] | rw [cp_0 (by omega)]))
          · (repeat (first | rw [wi_n (Or.inl (by omega))] | rw [wi_n (Or.inr (by omega))] | rw [wi_s] | rw [wr_i] | rw [cp_n (by omega)] | rw [cp_0 (by omega)]))
        · refine q_iload_n d16_175 rfl ?_
          refine q_bipush (x := nI 123) d16_176 rfl ?_
          refine nc_eq 199 d16_178 (by decide) (by omega) (by omega) (fun h178 => ?_) (fun h178 => ?_)
          · refine q_iload_n d16_199 rfl ?_
            refine q_goto 204 d16_200 (by decide) ?_
            refine q_puti (c := 3) (f := 3) d16_204 ⟨rfl, rfl, by decide⟩ hs1.1 ?_
            refine q_ret d16_207 rfl ?_
            rw [show ltk n b p = (if ysg (b q) then b q else 3, q, q + 1) by unfold ltk; simp only []; rw [hqe, if_neg (by omega), if_neg hc, if_neg hd]] at k
            refine k _ ⟨?_, ?_, ?_⟩ ((((f1.pk).wi ⟨rfl, by omega⟩).wi ⟨rfl, by omega⟩).wi ⟨rfl, by omega⟩)
            · first
              | (rw [if_pos (ysg_t (by omega))]; (repeat (first | rw [wi_n (Or.inl (by omega))] | rw [wi_n (Or.inr (by omega))] | rw [wi_s] | rw [wr_i] | rw [cp_n (by omega)] | rw [cp_0 (by omega)])))
              | (rw [if_neg (ysg_f (by omega))]; (repeat (first | rw [wi_n (Or.inl (by omega))] | rw [wi_n (Or.inr (by omega))] | rw [wi_s] | rw [wr_i] | rw [cp_n (by omega)] | rw [cp_0 (by omega)])))
            · (repeat (first | rw [wi_n (Or.inl (by omega))] | rw [wi_n (Or.inr (by omega))] | rw [wi_s] | rw [wr_i] | rw [cp_n (by omega)] | rw [cp_0 (by omega)]))
            · (repeat (first | rw [wi_n (Or.inl (by omega))] | rw [wi_n (Or.inr (by omega))] | rw [wi_s] | rw [wr_i] | rw [cp_n (by omega)] | rw [cp_0 (by omega)]))
          · refine q_iload_n d16_181 rfl ?_
            refine q_bipush (x := nI 124) d16_182 rfl ?_
            refine nc_eq 199 d16_184 (by decide) (by omega) (by omega) (fun h184 => ?_) (fun h184 => ?_)
            · refine q_iload_n d16_199 rfl ?_
              refine q_goto 204 d16_200 (by decide) ?_
              refine q_puti (c := 3) (f := 3) d16_204 ⟨rfl, rfl, by decide⟩ hs1.1 ?_
              refine q_ret d16_207 rfl ?_
              rw [show ltk n b p = (if ysg (b q) then b q else 3, q, q + 1) by unfold ltk; simp only []; rw [hqe, if_neg (by omega), if_neg hc, if_neg hd]] at k
              refine k _ ⟨?_, ?_, ?_⟩ ((((f1.pk).wi ⟨rfl, by omega⟩).wi ⟨rfl, by omega⟩).wi ⟨rfl, by omega⟩)
              · first
                | (rw [if_pos (ysg_t (by omega))]; (repeat (first | rw [wi_n (Or.inl (by omega))] | rw [wi_n (Or.inr (by omega))] | rw [wi_s] | rw [wr_i] | rw [cp_n (by omega)] | rw [cp_0 (by omega)])))
                | (rw [if_neg (ysg_f (by omega))]; (repeat (first | rw [wi_n (Or.inl (by omega))] | rw [wi_n (Or.inr (by omega))] | rw [wi_s] | rw [wr_i] | rw [cp_n (by omega)] | rw [cp_0 (by omega)])))
              · (repeat (first | rw [wi_n (Or.inl (by omega))] | rw [wi_n (Or.inr (by omega))] | rw [wi_s] | rw [wr_i] | rw [cp_n (by omega)] | rw [cp_0 (by omega)]))
              · (repeat (first | rw [wi_n (Or.inl (by omega))] | rw [wi_n (Or.inr (by omega))] | rw [wi_s] | rw [wr_i] | rw [cp_n (by omega)] | rw [cp_0 (by omega)]))
            · refine q_iload_n d16_187 rfl ?_
              refine q_bipush (x := nI 125) d16_188 rfl ?_
              refine nc_eq 199 d16_190 (by decide) (by omega) (by omega) (fun h190 => ?_) (fun h190 => ?_)
              · refine q_iload_n d16_199 rfl ?_
                refine q_goto 204 d16_200 (by decide) ?_
                refine q_puti (c := 3) (f := 3) d16_204 ⟨rfl, rfl, by decide⟩ hs1.1 ?_
                refine q_ret d16_207 rfl ?_
                rw [show ltk n b p = (if ysg (b q) then b q else 3, q, q + 1) by unfold ltk; simp only []; rw [hqe, if_neg (by omega), if_neg hc, if_neg hd]] at k
                refine k _ ⟨?_, ?_, ?_⟩ ((((f1.pk).wi ⟨rfl, by omega⟩).wi ⟨rfl, by omega⟩).wi ⟨rfl, by omega⟩)
                · first
                  | (rw [if_pos (ysg_t (by omega))]; (repeat (first | rw [wi_n (Or.inl (by omega))] | rw [wi_n (Or.inr (by omega))] | rw [wi_s] | rw [wr_i] | rw [cp_n (by omega)] | rw [cp_0 (by omega)])))
                  | (rw [if_neg (ysg_f (by omega))]; (repeat (first | rw [wi_n (Or.inl (by omega))] | rw [wi_n (Or.inr (by omega))] | rw [wi_s] | rw [wr_i] | rw [cp_n (by omega)] | rw [cp_0 (by omega)])))
                · (repeat (first | rw [wi_n (Or.inl (by omega))] | rw [wi_n (Or.inr (by omega))] | rw [wi_s] | rw [wr_i] | rw [cp_n (by omega)] | rw [cp_0 (by omega)]))
                · (repeat (first | rw [wi_n (Or.inl (by omega))] | rw [wi_n (Or.inr (by omega))] | rw [wi_s] | rw [wr_i] | rw [cp_n (by omega)] | rw [cp_0 (by omega)]))
              · refine q_iload_n d16_193 rfl ?_
                refine q_bipush (x := nI 33) d16_194 rfl ?_
                refine nc_ne 203 d16_196 (by decide) (by omega) (by omega) (fun h196 => ?_) (fun h196 => ?_)
                · refine q_iconstN (z := 3) d16_203 ?_
                  refine q_puti (c := 3) (f := 3) d16_204 ⟨rfl, rfl, by decide⟩ hs1.1 ?_
                  refine q_ret d16_207 rfl ?_
                  rw [show ltk n b p = (if ysg (b q) then b q else 3, q, q + 1) by unfold ltk; simp only []; rw [hqe, if_neg (by omega), if_neg hc, if_neg hd]] at k
                  refine k _ ⟨?_, ?_, ?_⟩ ((((f1.pk).wi ⟨rfl, by omega⟩).wi ⟨rfl, by omega⟩).wi ⟨rfl, by omega⟩)
                  · first
                    | (rw [if_pos (ysg_t (by omega))]; (repeat (first | rw [wi_n (Or.inl (by omega))] | rw [wi_n (Or.inr (by omega))] | rw [wi_s] | rw [wr_i] | rw [cp_n (by omega)] | rw [cp_0 (by omega)])))
                    | (rw [if_neg (ysg_f (by omega))]; (repeat (first | rw [wi_n (Or.inl (by omega))] | rw [wi_n (Or.inr (by omega))] | rw [wi_s] | rw [wr_i] | rw [cp_n (by omega)] | rw [cp_0 (by omega)])))
                  · (repeat (first | rw [wi_n (Or.inl (by omega))] | rw [wi_n (Or.inr (by omega))] | rw [wi_s] | rw [wr_i] | rw [cp_n (by omega)] | rw [cp_0 (by omega)]))
                  · (repeat (first | rw [wi_n (Or.inl (by omega))] | rw [wi_n (Or.inr (by omega))] | rw [wi_s] | rw [wr_i] | rw [cp_n (by omega)] | rw [cp_0 (by omega)]))
                · refine q_iload_n d16_199 rfl ?_
                  refine q_goto 204 d16_200 (by decide) ?_
                  refine q_puti (c := 3) (f := 3) d16_204 ⟨rfl, rfl, by decide⟩ hs1.1 ?_
                  refine q_ret d16_207 rfl ?_
                  rw [show ltk n b p = (if ysg (b q) then b q else 3, q, q + 1) by unfold ltk; simp only []; rw [hqe, if_neg (by omega), if_neg hc, if_neg hd]] at k
                  refine k _ ⟨?_, ?_, ?_⟩ ((((f1.pk).wi ⟨rfl, by omega⟩).wi ⟨rfl, by omega⟩).wi ⟨rfl, by omega⟩)
                  · first
                    | (rw [if_pos (ysg_t (by omega))]; (repeat (first | rw [wi_n (Or.inl (by omega))] | rw [wi_n (Or.inr (by omega))] | rw [wi_s] | rw [wr_i] | rw [cp_n (by omega)] | rw [cp_0 (by omega)])))
                    | (rw [if_neg (ysg_f (by omega))]; (repeat (first | rw [wi_n (Or.inl (by omega))] | rw [wi_n (Or.inr (by omega))] | rw [wi_s] | rw [wr_i] | rw [cp_n (by omega)] | rw [cp_0 (by omega)])))
                  · (repeat (first | rw [wi_n (Or.inl (by omega))] | rw [wi_n (Or.inr (by omega))] | rw [wi_s] | rw [wr_i] | rw [cp_n (by omega)] | rw [cp_0 (by omega)]))
                  · (repeat (first | rw [wi_n (Or.inl (by omega))] | rw [wi_n (Or.inr (by omega))] | rw [wi_s] | rw [wr_i] | rw [cp_n (by omega)] | rw [cp_0 (by omega)]))
theorem d12_0 : decode (zB 12) 0 = .ok (.aload_n 0, 1) := (congrArg (fun c => decode c 0) zeq12).trans (by decide +kernel)
theorem d12_1 : decode (zB 12) 1 = .ok (.getfield 15, 3) := (congrArg (fun c => decode c 1) zeq12).trans (by decide +kernel)
theorem d12_4 : decode (zB 12) 4 = .ok (.bipush 120, 2) := (congrArg (fun c => decode c 4) zeq12).trans (by decide +kernel)
theorem d12_6 : decode (zB 12) 6 = .ok (.if_icmp .ge 23, 3) := (congrArg (fun c => decode c 6) zeq12).trans (by decide +kernel)
theorem d12_9 : decode (zB 12) 9 = .ok (.aload_n 0, 1) := (congrArg (fun c => decode c 9) zeq12).trans (by decide +kernel)
theorem d12_10 : decode (zB 12) 10 = .ok (.getfield 9, 3) := (congrArg (fun c => decode c 10) zeq12).trans (by decide +kernel)
theorem d12_13 : decode (zB 12) 13 = .ok (.aload_n 0, 1) := (congrArg (fun c => decode c 13) zeq12).trans (by decide +kernel)
theorem d12_14 : decode (zB 12) 14 = .ok (.getfield 15, 3) := (congrArg (fun c => decode c 14) zeq12).trans (by decide +kernel)
theorem d12_17 : decode (zB 12) 17 = .ok (.iload_n 1, 1) := (congrArg (fun c => decode c 17) zeq12).trans (by decide +kernel)
theorem d12_18 : decode (zB 12) 18 = .ok (.iastore, 1) := (congrArg (fun c => decode c 18) zeq12).trans (by decide +kernel)
theorem d12_19 : decode (zB 12) 19 = .ok (.aload_n 0, 1) := (congrArg (fun c => decode c 19) zeq12).trans (by decide +kernel)
theorem d12_20 : decode (zB 12) 20 = .ok (.dup, 1) := (congrArg (fun c => decode c 20) zeq12).trans (by decide +kernel)
theorem d12_21 : decode (zB 12) 21 = .ok (.getfield 15, 3) := (congrArg (fun c => decode c 21) zeq12).trans (by decide +kernel)
theorem d12_24 : decode (zB 12) 24 = .ok (.iconst 1, 1) := (congrArg (fun c => decode c 24) zeq12).trans (by decide +kernel)
theorem d12_25 : decode (zB 12) 25 = .ok (.iadd, 1) := (congrArg (fun c => decode c 25) zeq12).trans (by decide +kernel)
theorem d12_26 : decode (zB 12) 26 = .ok (.putfield 15, 3) := (congrArg (fun c => decode c 26) zeq12).trans (by decide +kernel)
theorem d12_29 : decode (zB 12) 29 = .ok (.return_, 1) := (congrArg (fun c => decode c 29) zeq12).trans (by decide +kernel)
theorem c12 {d : Nat} {M : zM} {Q : Option Value → zM → Prop} {n : Nat} {b : Nat → Nat} {v : Nat} (hs : SRd M) (ht : RTp M n b) (hn : n < 120) (hv : v < 256) (k : ∀ M', RTp M' (n + 1) (yu b n v) → Fi (fun a k => (a = 17 ∧ k = 1) ∨ a = 18) M M' → Q none M') : qC (d + 1) 12 [.ref 17, .int (nI v)] M Q := by
  have h120 := ht.1
  refine qC_of (by decide) (Nat.le_of_ble_eq_true rfl) ?_
  refine q_aload_n d12_0 rfl ?_
  refine q_getv (c := 3) (f := 1) d12_1 ⟨rfl, by decide⟩ hs.1 ht.2.1 ?_
  refine q_bipush (x := nI 120) d12_4 rfl ?_
  refine nc_ge 29 d12_6 (by decide) (by omega) (by omega) (fun h6 => (False.elim (by omega))) (fun h6 => ?_)
  refine q_aload_n d12_9 rfl ?_
  refine q_getr (c := 3) (f := 0) d12_10 ⟨rfl, rfl⟩ hs.1 hs.2.1 ?_
  refine q_aload_n d12_13 rfl ?_
  refine q_getv (c := 3) (f := 1) d12_14 ⟨rfl, by decide⟩ hs.1 ht.2.1 ?_
  refine q_iload_n d12_17 rfl ?_
  refine n_iast d12_18 hs.2.2 (by omega) (by decide) ?_
  refine q_aload_n d12_19 rfl ?_
  refine q_dup d12_20 rfl ?_
  refine q_getv (c := 3) (f := 1) d12_21 ⟨rfl, by decide⟩ hs.1 (Eq.trans (by (repeat (first | rw [wi_n (Or.inl (by omega))] | rw [wi_n (Or.inr (by omega))] | rw [wi_s] | rw [wr_i] | rw [cp_n (by omega)]))) ht.2.1) ?_
  refine q_iconstN (z := 1) d12_24 ?_
  refine n_iadd d12_25 ?_
  refine q_puti (c := 3) (f := 1) d12_26 ⟨rfl, rfl, by decide⟩ hs.1 ?_
  refine q_ret d12_29 rfl ?_
  refine k _ ⟨by omega, ?_, fun q hq => ?_⟩ (((Fi.refl _ _).wi (Or.inr rfl)).wi (Or.inl ⟨rfl, rfl⟩))
  · (repeat (first | rw [wi_n (Or.inl (by omega))] | rw [wi_n (Or.inr (by omega))] | rw [wi_s] | rw [wr_i] | rw [cp_n (by omega)] | rw [cp_0 (by omega)]))
  · show _ = nI (yu b n v q) ∧ yu b n v q < 256
    by_cases e : q = n
    · subst e; rw [yu_s]; exact ⟨by (repeat (first | rw [wi_n (Or.inl (by omega))] | rw [wi_n (Or.inr (by omega))] | rw [wi_s] | rw [wr_i] | rw [cp_n (by omega)] | rw [cp_0 (by omega)])), hv⟩
    · rw [yu_n e]; refine ⟨?_, (ht.2.2 q (by omega)).2⟩; (repeat (first | rw [wi_n (Or.inl (by omega))] | rw [wi_n (Or.inr (by omega))] | rw [wi_s] | rw [wr_i] | rw [cp_n (by omega)] | rw [cp_0 (by omega)])); exact (ht.2.2 q (by omega)).1
/-! ===== how a text is read, on numbers alone ===== -/
def ywl (i : Nat) : List Nat := [[97, 100, 100], [116, 97, 107, 101], [109, 111, 118, 101], [104, 111, 108, 100], [115, 119, 97, 112], [109, 97, 114, 107]].getD i []
def ywd (b : Nat → Nat) (s e i : Nat) : Bool := (e - s == (ywl i).length) && (List.range (ywl i).length).all (fun k => b (s + k) == (ywl i).getD k 0)
def ykr (b : Nat → Nat) (s e : Nat) : Nat → Nat → Nat
  | 0, i => i
  | r + 1, i => if ywd b s e i then i else ykr b s e r (i + 1)
/-- which word stands there; 6: none -/
def ykw (b : Nat → Nat) (s e : Nat) : Nat := ykr b s e 6 0
theorem ykr_le {b : Nat → Nat} {s e : Nat} : ∀ r i, ykr b s e r i ≤ i + r
  | 0, _ => Nat.le_refl _
  | r + 1, i => by
    have := ykr_le (b := b) (s := s) (e := e) r (i + 1)
    rw [ykr]; split <;> omega
abbrev yQ : Type := yK × yT
def pAd (n : Nat) (b : Nat → Nat) (k : yK) : yK := ltk n b k.2.2
def pAc (n : Nat) (b : Nat → Nat) (k : yK) : Except Nat (Nat × yK) := if k.1 = 1 ∧ k.2.2 - k.2.1 = 1 ∧ b k.2.1 ≤ 102 then .ok (b k.2.1 - 97, pAd n b k) else .error k.2.1
/-- the number of c digits from s on -/
def ynd (b : Nat → Nat) (s : Nat) : Nat → Nat
  | 0 => 0
  | c + 1 => ynd b s c * 10 + b (s + c) - 48
def pNu (n : Nat) (b : Nat → Nat) (k : yK) : Except Nat (Nat × yK) := if k.1 = 2 then .ok (ynd b k.2.1 (k.2.2 - k.2.1), pAd n b k) else .error k.2.1
def pAp (T : yT) (kd : Nat) (f s u : Int32) (ah : Nat) : yT := (tn T + 1, yu (tk T) (tn T) kd, yu (tf T) (tn T) f, yu (ts T) (tn T) s, yu (tu T) (tn T) u, yu (ta T) (tn T) ah, tp T)
/-- accounts and number of a step of that kind -/
def pA1 (n : Nat) (b : Nat → Nat) (kd : Nat) (k : yK) : Except Nat (Int32 × yK) := if kd = 5 then .ok (-1, k) else match pAc n b k with
  | .error f => .error f
  | .ok (a, k1) => .ok (nI a, k1)
def pA2 (n : Nat) (b : Nat → Nat) (kd : Nat) (k : yK) : Except Nat (Int32 × yK) := if kd = 2 ∨ kd = 4 then (match pAc n b k with
  | .error f => .error f
  | .ok (a, k1) => .ok (nI a, k1)) else .ok (-1, k)
def pA3 (n : Nat) (b : Nat → Nat) (kd : Nat) (k : yK) : Except Nat (Int32 × yK) := if kd ≠ 4 ∧ kd ≠ 5 then (match pNu n b k with
  | .error f => .error f
  | .ok (a, k1) => .ok (nI a, k1)) else .ok (-1, k)
def pSt (n : Nat) (b : Nat → Nat) (ah : Nat) (Q : yQ) : Except Nat (Nat × yQ) :=
  let kd := ykw b Q.1.2.1 Q.1.2.2
  if kd = 6 ∨ 12 ≤ tn Q.2 then .error Q.1.2.1
  else match pA1 n b kd (pAd n b Q.1) with
    | .error f => .error f
    | .ok (x, k1) => match pA2 n b kd k1 with
      | .error f => .error f
      | .ok (y, k2) => match pA3 n b kd k2 with
        | .error f => .error f
        | .ok (z, k3) => .ok (2 ^ tn Q.2, (k3, pAp Q.2 kd x y z ah))
def pPi (T : yT) (ah : Nat) : yT := (T.1, T.2.1, T.2.2.1, T.2.2.2.1, T.2.2.2.2.1, T.2.2.2.2.2.1, nI ah)
abbrev pFn : Type := Nat → yQ → Except Nat (Nat × yQ)
def pPt (n : Nat) (b : Nat → Nat) (br : pFn) (top : Bool) : pFn := fun ah Q =>
  if Q.1.1 = 1 then pSt n b ah Q
  else if Q.1.1 = 123 then br ah Q
  else if Q.1.1 = 33 ∧ top = true ∧ tp Q.2 = -1 then .ok (0, (pAd n b Q.1, pPi Q.2 ah))
  else .error Q.1.2.1
def pRe (n : Nat) (b : Nat → Nat) (pt : pFn) (ah : Nat) : Nat → Nat → yQ → Except Nat (Nat × yQ)
  | 0, own, Q => .ok (own, Q)
  | r + 1, own, Q => if Q.1.1 = 59 then (match pt (ah ||| own) (pAd n b Q.1, Q.2) with
      | .error f => .error f
      | .ok (o, Q1) => pRe n b pt ah r (own ||| o) Q1) else .ok (own, Q)
def pLn (n : Nat) (b : Nat → Nat) (pt : pFn) : pFn := fun ah Q => match pt ah Q with
  | .error f => .error f
  | .ok (o, Q1) => pRe n b pt ah 120 o Q1
def pEx (n : Nat) (b : Nat → Nat) (c own : Nat) (Q : yQ) : Except Nat (Nat × yQ) := if Q.1.1 = c then .ok (own, (pAd n b Q.1, Q.2)) else .error Q.1.2.1
def pB3 (n : Nat) (b : Nat → Nat) (ln : pFn) (ah own : Nat) (Q : yQ) : Except Nat (Nat × yQ) := if Q.1.1 = 124 then (match ln ah (pAd n b Q.1, Q.2) with
    | .error f => .error f
    | .ok (o, Q1) => .ok (own ||| o, Q1)) else .ok (own, Q)
def pBr (n : Nat) (b : Nat → Nat) (ln : pFn) : pFn := fun ah Q => match ln ah (pAd n b Q.1, Q.2) with
  | .error f => .error f
  | .ok (o1, Q1) => match pEx n b 124 o1 Q1 with
    | .error f => .error f
    | .ok (_, Q2) => match ln ah Q2 with
      | .error f => .error f
      | .ok (o2, Q3) => match pB3 n b ln ah (o1 ||| o2) Q3 with
        | .error f => .error f
        | .ok (o3, Q4) => pEx n b 125 o3 Q4
/-- lines with m more { within them -/
def pLd (n : Nat) (b : Nat → Nat) : Nat → Bool → pFn
  | 0, top => pLn n b (pPt n b (fun _ Q => .error Q.1.2.1) top)
  | m + 1, top => pLn n b (pPt n b (pBr n b (pLd n b m false)) top)
def yT0 : yT := (0, fun _ => 0, fun _ => 0, fun _ => 0, fun _ => 0, fun _ => 0, -1)
/-- a text of the tape's n bytes: itself, or the place of its fault -/
def pTx (n : Nat) (b : Nat → Nat) : Except Nat yT := match pLd n b 3 true 0 (ltk n b 0, yT0) with
  | .error f => .error f
  | .ok (_, Q) => if Q.1.1 ≠ 0 then .error Q.1.2.1 else if tn Q.2 = 0 then .error n else .ok Q.2
/-! what holds of it -/
def OKU (T : yT) (k : Nat) : Prop := tk T k < 6 ∧ ta T k < 2 ^ k ∧ (tk T k = 5 → tf T k = -1) ∧ (tk T k ≠ 5 → ∃ a, a < 6 ∧ tf T k = nI a) ∧ ((tk T k = 2 ∨ tk T k = 4) → ∃ a, a < 6 ∧ ts T k = nI a) ∧
  (tk T k ≠ 2 → tk T k ≠ 4 → ts T k = -1) ∧ ((tk T k = 4 ∨ tk T k = 5) → tu T k = -1) ∧ (tk T k ≠ 4 → tk T k ≠ 5 → ∃ v, v < 1000 ∧ tu T k = nI v)
def OKB (T : yT) : Prop := tn T ≤ 12 ∧ (tp T = -1 ∨ ∃ p, p < 2 ^ tn T ∧ tp T = nI p) ∧ ∀ k, k < tn T → OKU T k
theorem OKB.t {T : yT} (h : OKB T) (h0 : tn T ≠ 0) : OKT T := ⟨by omega, h.1, h.2.1, h.2.2⟩
theorem lrn_all {n : Nat} {b : Nat → Nat} {lo hi : Nat} : ∀ r p i, p ≤ i → i < lrn n b lo hi r p → lo ≤ b i ∧ b i ≤ hi
  | 0, p, i, h1, h2 => by rw [lrn] at h2; omega
  | r + 1, p, i, h1, h2 => by
    rw [lrn] at h2
    split at h2
    · rename_i h
      by_cases e : i = p
      · subst e; exact h.2
      · exact lrn_all r (p + 1) i (by omega) h2
    · omega
/-- a token as the tape has it -/
def yKv (n : Nat) (b : Nat → Nat) (k : yK) : Prop := yKo n k ∧ (k.1 = 1 → 97 ≤ b k.2.1 ∧ b k.2.1 ≤ 122) ∧ (k.1 = 2 → k.2.2 - k.2.1 ≤ 3 ∧ ∀ i, k.2.1 ≤ i → i < k.2.2 → 48 ≤ b i ∧ b i ≤ 57)
theorem ltk_v {n p : Nat} {b : Nat → Nat} (hp : p ≤ n) (hb : ∀ k, k < n → b k < 256) : yKv n b (ltk n b p) ∧ p ≤ (ltk n b p).2.1 := by
  have h0 := ltk_ok hp hb
  refine ⟨⟨h0.1, ?_⟩, h0.2⟩
  clear h0
  unfold ltk
  simp only []
  generalize lsk n b 120 p = q
  by_cases c1 : n ≤ q
  · rw [if_pos c1]; exact ⟨fun h => absurd h (show ¬ (0 : Nat) = 1 by omega), fun h => absurd h (show ¬ (0 : Nat) = 2 by omega)⟩
  · rw [if_neg c1]
    by_cases c2 : 97 ≤ b q ∧ b q ≤ 122
    · rw [if_pos c2]; exact ⟨fun _ => c2, fun h => absurd h (show ¬ (1 : Nat) = 2 by omega)⟩
    · rw [if_neg c2]
      by_cases c3 : 48 ≤ b q ∧ b q ≤ 57
      · rw [if_pos c3]
        refine ⟨fun h => ?_, fun h => ?_⟩
        · have h : (if lrn n b 48 57 120 q - q ≤ 3 then 2 else 3) = 1 := h
          split at h <;> omega
        · have h : (if lrn n b 48 57 120 q - q ≤ 3 then 2 else 3) = 2 := h
          refine ⟨?_, fun i h1 h2 => lrn_all 120 q i h1 h2⟩
          show lrn n b 48 57 120 q - q ≤ 3
          split at h <;> omega
      · rw [if_neg c3]
        refine ⟨fun h => ?_, fun h => ?_⟩
        · have h : (if ysg (b q) then b q else 3) = 1 := h
          by_cases e : ysg (b q) = true
          · rw [if_pos e] at h
            have e2 : ¬ ysg (b q) = true := ysg_f (by omega)
            exact absurd e e2
          · rw [if_neg e] at h; omega
        · have h : (if ysg (b q) then b q else 3) = 2 := h
          by_cases e : ysg (b q) = true
          · rw [if_pos e] at h
            have e2 : ¬ ysg (b q) = true := ysg_f (by omega)
            exact absurd e e2
          · rw [if_neg e] at h; omega
/-- a place of reading: the token's place, what is built so far -/
def yQv (n : Nat) (b : Nat → Nat) (Q : yQ) : Prop := yKv n b Q.1 ∧ OKB Q.2
theorem yQv.f {n : Nat} {b : Nat → Nat} {Q : yQ} (h : yQv n b Q) : Q.1.2.1 ≤ n := Nat.le_trans h.1.1.1 h.1.1.2.1
theorem pAd_v {n : Nat} {b : Nat → Nat} {k : yK} (h : yKv n b k) (hb : ∀ i, i < n → b i < 256) : yKv n b (pAd n b k) ∧ k.2.2 ≤ (pAd n b k).2.1 := ltk_v h.1.2.1 hb
/-- what a reading gives: a place further on, or a fault within the tape -/
def pGd (n : Nat) (b : Nat → Nat) (Q : yQ) (R : Except Nat (Nat × yQ)) : Prop := match R with
  | .error f => f ≤ n
  | .ok (o, Q1) => yQv n b Q1 ∧ tn Q.2 ≤ tn Q1.2 ∧ o < 2 ^ tn Q1.2 ∧ Q.1.2.1 ≤ Q1.1.2.1 ∧ Q.1.2.2 ≤ Q1.1.2.1
theorem ynd_lt {b : Nat → Nat} {s : Nat} : ∀ c, (∀ i, s ≤ i → i < s + c → 48 ≤ b i ∧ b i ≤ 57) → ynd b s c < 10 ^ c
  | 0, _ => by show 0 < 1; omega
  | c + 1, h => by
    have h1 := ynd_lt c (fun i a b => h i a (by omega))
    have h2 := h (s + c) (by omega) (by omega)
    rw [ynd, Nat.pow_succ]
    omega
theorem pA1_v {n kd : Nat} {b : Nat → Nat} {k : yK} (h : yKv n b k) (hb : ∀ i, i < n → b i < 256) : match pA1 n b kd k with
    | .error f => f ≤ n
    | .ok (x, k1) => yKv n b k1 ∧ k.2.1 ≤ k1.2.1 ∧ (kd = 5 → x = -1) ∧ (kd ≠ 5 → ∃ a, a < 6 ∧ x = nI a) := by
  unfold pA1 pAc
  by_cases h5 : kd = 5
  · rw [if_pos h5]; exact ⟨h, Nat.le_refl _, fun _ => rfl, fun q => absurd h5 q⟩
  · rw [if_neg h5]
    by_cases hc : k.1 = 1 ∧ k.2.2 - k.2.1 = 1 ∧ b k.2.1 ≤ 102
    · rw [if_pos hc]
      have ha := pAd_v h hb
      have h1 := h.2.1 hc.1
      exact ⟨ha.1, Nat.le_trans h.1.1 ha.2, fun q => absurd q h5, fun _ => ⟨b k.2.1 - 97, by omega, rfl⟩⟩
    · rw [if_neg hc]; exact Nat.le_trans h.1.1 h.1.2.1
theorem pA2_v {n kd : Nat} {b : Nat → Nat} {k : yK} (h : yKv n b k) (hb : ∀ i, i < n → b i < 256) : match pA2 n b kd k with
    | .error f => f ≤ n
    | .ok (x, k1) => yKv n b k1 ∧ k.2.1 ≤ k1.2.1 ∧ (kd ≠ 2 → kd ≠ 4 → x = -1) ∧ ((kd = 2 ∨ kd = 4) → ∃ a, a < 6 ∧ x = nI a) := by
  unfold pA2 pAc
  by_cases h5 : kd = 2 ∨ kd = 4
  · rw [if_pos h5]
    by_cases hc : k.1 = 1 ∧ k.2.2 - k.2.1 = 1 ∧ b k.2.1 ≤ 102
    · rw [if_pos hc]
      have ha := pAd_v h hb
      have h1 := h.2.1 hc.1
      exact ⟨ha.1, Nat.le_trans h.1.1 ha.2, fun q1 q2 => absurd h5 (by omega), fun _ => ⟨b k.2.1 - 97, by omega, rfl⟩⟩
    · rw [if_neg hc]; exact Nat.le_trans h.1.1 h.1.2.1
  · rw [if_neg h5]; exact ⟨h, Nat.le_refl _, fun _ _ => rfl, fun q => absurd q h5⟩
theorem pA3_v {n kd : Nat} {b : Nat → Nat} {k : yK} (h : yKv n b k) (hb : ∀ i, i < n → b i < 256) : match pA3 n b kd k with
    | .error f => f ≤ n
    | .ok (x, k1) => yKv n b k1 ∧ k.2.1 ≤ k1.2.1 ∧ ((kd = 4 ∨ kd = 5) → x = -1) ∧ (kd ≠ 4 → kd ≠ 5 → ∃ v, v < 1000 ∧ x = nI v) := by
  unfold pA3 pNu
  by_cases h5 : kd ≠ 4 ∧ kd ≠ 5
  · rw [if_pos h5]
    by_cases hc : k.1 = 2
    · rw [if_pos hc]
      have ha := pAd_v h hb
      obtain ⟨h1, h2⟩ := h.2.2 hc
      have h3 := h.1.1
      have h4 := ynd_lt (b := b) (s := k.2.1) (k.2.2 - k.2.1) (fun i a c => h2 i a (by omega))
      refine ⟨ha.1, Nat.le_trans h.1.1 ha.2, fun q => absurd q (by omega), fun _ _ => ⟨_, Nat.lt_of_lt_of_le h4 ?_, rfl⟩⟩
      exact Nat.pow_le_pow_right (by omega) h1
    · rw [if_neg hc]; exact Nat.le_trans h.1.1 h.1.2.1
  · rw [if_neg h5]; exact ⟨h, Nat.le_refl _, fun _ => rfl, fun q1 q2 => absurd ⟨q1, q2⟩ h5⟩
theorem pAp_ok {T : yT} {kd ah : Nat} {x y z : Int32} (h : OKB T) (h12 : tn T < 12) (hk : kd < 6) (hah : ah < 2 ^ tn T) (x1 : kd = 5 → x = -1) (x2 : kd ≠ 5 → ∃ a, a < 6 ∧ x = nI a) (y1 : kd ≠ 2 → kd ≠ 4 → y = -1) (y2 : (kd = 2 ∨ kd = 4) → ∃ a, a < 6 ∧ y = nI a) (z1 : (kd = 4 ∨ kd = 5) → z = -1) (z2 : kd ≠ 4 → kd ≠ 5 → ∃ v, v < 1000 ∧ z = nI v) : OKB (pAp T kd x y z ah) := by
  refine ⟨h12, ?_, fun k hk2 => ?_⟩
  · rcases h.2.1 with e | ⟨p, e1, e2⟩
    · exact Or.inl e
    · exact Or.inr ⟨p, Nat.lt_trans e1 (pow_lt (Nat.lt_succ_self _)), e2⟩
  · have hk2 : k < tn T + 1 := hk2
    unfold OKU
    show yu (tk T) (tn T) kd k < 6 ∧ yu (ta T) (tn T) ah k < 2 ^ k ∧ (yu (tk T) (tn T) kd k = 5 → yu (tf T) (tn T) x k = -1) ∧ (yu (tk T) (tn T) kd k ≠ 5 → ∃ a, a < 6 ∧ yu (tf T) (tn T) x k = nI a) ∧ ((yu (tk T) (tn T) kd k = 2 ∨ yu (tk T) (tn T) kd k = 4) → ∃ a, a < 6 ∧ yu (ts T) (tn T) y k = nI a) ∧
      (yu (tk T) (tn T) kd k ≠ 2 → yu (tk T) (tn T) kd k ≠ 4 → yu (ts T) (tn T) y k = -1) ∧ ((yu (tk T) (tn T) kd k = 4 ∨ yu (tk T) (tn T) kd k = 5) → yu (tu T) (tn T) z k = -1) ∧ (yu (tk T) (tn T) kd k ≠ 4 → yu (tk T) (tn T) kd k ≠ 5 → ∃ v, v < 1000 ∧ yu (tu T) (tn T) z k = nI v)
    by_cases e : k = tn T
    · subst e; simp only [yu_s]; exact ⟨hk, hah, x1, x2, y2, y1, z1, z2⟩
    · simp only [yu_n e]; exact h.2.2 k (by omega)
theorem pSt_v {n ah : Nat} {b : Nat → Nat} {Q : yQ} (h : yQv n b Q) (hb : ∀ i, i < n → b i < 256) (hah : ah < 2 ^ tn Q.2) : pGd n b Q (pSt n b ah Q) := by
  have ha := pAd_v h.1 hb
  have hk6 : ykw b Q.1.2.1 Q.1.2.2 ≤ 6 := ykr_le 6 0
  unfold pSt
  simp only []
  generalize ykw b Q.1.2.1 Q.1.2.2 = kd at hk6 ⊢
  by_cases hc : kd = 6 ∨ 12 ≤ tn Q.2
  · rw [if_pos hc]; exact h.f
  · rw [if_neg hc]
    have hk5 : kd < 6 := by omega
    have hk12 : tn Q.2 < 12 := by omega
    have v1 := pA1_v (kd := kd) ha.1 hb
    cases e1 : pA1 n b kd (pAd n b Q.1) with
    | error f => rw [e1] at v1; exact v1
    | ok r1 =>
      obtain ⟨x, k1⟩ := r1
      rw [e1] at v1
      simp only [] at v1 ⊢
      have v2 := pA2_v (kd := kd) v1.1 hb
      cases e2 : pA2 n b kd k1 with
      | error f => rw [e2] at v2; exact v2
      | ok r2 =>
        obtain ⟨y, k2⟩ := r2
        rw [e2] at v2
        simp only [] at v2 ⊢
        have v3 := pA3_v (kd := kd) v2.1 hb
        cases e3 : pA3 n b kd k2 with
        | error f => rw [e3] at v3; exact v3
        | ok r3 =>
          obtain ⟨z, k3⟩ := r3
          rw [e3] at v3
          simp only [] at v3 ⊢
          have h1 := h.1.1.1
          have g1 := v1.2.1
          have g2 := v2.2.1
          have g3 := v3.2.1
          have g4 := ha.2
          have w1 := v1.2.2
          have w2 := v2.2.2
          clear hc v1 v2
          refine ⟨⟨v3.1, pAp_ok h.2 hk12 hk5 hah w1.1 w1.2 w2.1 w2.2 v3.2.2.1 v3.2.2.2⟩, Nat.le_succ _, pow_lt (Nat.lt_succ_self _), ?_, ?_⟩
          · show Q.1.2.1 ≤ k3.2.1; clear w1 w2 v3; omega
          · show Q.1.2.2 ≤ k3.2.1; clear w1 w2 v3; omega
/-- a reader of pieces that does well -/
def pOK (n : Nat) (b : Nat → Nat) (p : pFn) : Prop := ∀ ah Q, yQv n b Q → ah < 2 ^ tn Q.2 → pGd n b Q (p ah Q)
theorem pPi_ok {T : yT} {ah : Nat} (h : OKB T) (ha : ah < 2 ^ tn T) : OKB (pPi T ah) := ⟨h.1, Or.inr ⟨ah, ha, rfl⟩, h.2.2⟩
theorem pPt_v {n : Nat} {b : Nat → Nat} {br : pFn} {top : Bool} (hb : ∀ i, i < n → b i < 256) (h : pOK n b br) : pOK n b (pPt n b br top) := by
  intro ah Q hQ hah
  unfold pPt
  by_cases c1 : Q.1.1 = 1
  · rw [if_pos c1]; exact pSt_v hQ hb hah
  · rw [if_neg c1]
    by_cases c2 : Q.1.1 = 123
    · rw [if_pos c2]; exact h ah Q hQ hah
    · rw [if_neg c2]
      by_cases c3 : Q.1.1 = 33 ∧ top = true ∧ tp Q.2 = -1
      · rw [if_pos c3]
        have ha := pAd_v hQ.1 hb
        exact ⟨⟨ha.1, pPi_ok hQ.2 hah⟩, Nat.le_refl _, Nat.two_pow_pos _, Nat.le_trans hQ.1.1.1 ha.2, ha.2⟩
      · rw [if_neg c3]; exact hQ.f
theorem pGd_tr {n : Nat} {b : Nat → Nat} {Q Q1 : yQ} {R : Except Nat (Nat × yQ)} (h : pGd n b Q1 R) (h1 : tn Q.2 ≤ tn Q1.2) (h2 : Q.1.2.1 ≤ Q1.1.2.1) (h3 : Q.1.2.2 ≤ Q1.1.2.1) : pGd n b Q R := by
  cases R with
  | error f => exact h
  | ok r => exact ⟨h.1, Nat.le_trans h1 h.2.1, h.2.2.1, Nat.le_trans h2 h.2.2.2.1, Nat.le_trans h3 h.2.2.2.1⟩
theorem pRe_v {n : Nat} {b : Nat → Nat} {pt : pFn} (hb : ∀ i, i < n → b i < 256) (h : pOK n b pt) {ah : Nat} : ∀ (r own : Nat) (Q : yQ), yQv n b Q → ah < 2 ^ tn Q.2 → own < 2 ^ tn Q.2 →
    match pRe n b pt ah r own Q with
    | .error f => f ≤ n
    | .ok (o, Q1) => yQv n b Q1 ∧ tn Q.2 ≤ tn Q1.2 ∧ o < 2 ^ tn Q1.2 ∧ Q.1.2.1 ≤ Q1.1.2.1
  | 0, own, Q, hQ, ha, ho => ⟨hQ, Nat.le_refl _, ho, Nat.le_refl _⟩
  | r + 1, own, Q, hQ, ha, ho => by
    rw [pRe]
    by_cases c : Q.1.1 = 59
    · rw [if_pos c]
      have hv := pAd_v hQ.1 hb
      have hp := h (ah ||| own) (pAd n b Q.1, Q.2) ⟨hv.1, hQ.2⟩ (or_lt ha ho)
      cases e : pt (ah ||| own) (pAd n b Q.1, Q.2) with
      | error f => rw [e] at hp; exact hp
      | ok q =>
        obtain ⟨o, Q1⟩ := q
        rw [e] at hp
        obtain ⟨p1, p2, p3, p4, p5⟩ := hp
        have p2 : tn Q.2 ≤ tn Q1.2 := p2
        have p4 : (pAd n b Q.1).2.1 ≤ Q1.1.2.1 := p4
        have hw : 2 ^ tn Q.2 ≤ 2 ^ tn Q1.2 := Nat.pow_le_pow_right (by omega) p2
        have ih := pRe_v hb h (ah := ah) r (own ||| o) Q1 p1 (by omega) (or_lt (by omega) p3)
        simp only []
        cases e2 : pRe n b pt ah r (own ||| o) Q1 with
        | error f => rw [e2] at ih; exact ih
        | ok q2 =>
          obtain ⟨o2, Q2⟩ := q2
          rw [e2] at ih
          have h0 := hQ.1.1.1
          exact ⟨ih.1, Nat.le_trans p2 ih.2.1, ih.2.2.1, by have := ih.2.2.2; have := hv.2; show Q.1.2.1 ≤ Q2.1.2.1; omega⟩
    · rw [if_neg c]; exact ⟨hQ, Nat.le_refl _, ho, Nat.le_refl _⟩
theorem pLn_v {n : Nat} {b : Nat → Nat} {pt : pFn} (hb : ∀ i, i < n → b i < 256) (h : pOK n b pt) : pOK n b (pLn n b pt) := by
  intro ah Q hQ hah
  unfold pLn
  have hp := h ah Q hQ hah
  cases e : pt ah Q with
  | error f => rw [e] at hp; exact hp
  | ok q =>
    obtain ⟨o, Q1⟩ := q
    rw [e] at hp
    obtain ⟨p1, p2, p3, p4, p5⟩ := hp
    have hw : 2 ^ tn Q.2 ≤ 2 ^ tn Q1.2 := Nat.pow_le_pow_right (by omega) p2
    have hr := pRe_v hb h (ah := ah) 120 o Q1 p1 (by omega) p3
    simp only []
    cases e2 : pRe n b pt ah 120 o Q1 with
    | error f => rw [e2] at hr; exact hr
    | ok q2 =>
      obtain ⟨o2, Q2⟩ := q2
      rw [e2] at hr
      exact ⟨hr.1, Nat.le_trans p2 hr.2.1, hr.2.2.1, Nat.le_trans p4 hr.2.2.2, Nat.le_trans p5 hr.2.2.2⟩
theorem pEx_v {n c own : Nat} {b : Nat → Nat} {Q : yQ} (hb : ∀ i, i < n → b i < 256) (hQ : yQv n b Q) (ho : own < 2 ^ tn Q.2) : match pEx n b c own Q with
    | .error f => f ≤ n
    | .ok (o, Q1) => yQv n b Q1 ∧ Q1.2 = Q.2 ∧ o = own ∧ Q.1.2.1 ≤ Q1.1.2.1 := by
  unfold pEx
  by_cases c1 : Q.1.1 = c
  · rw [if_pos c1]
    have ha := pAd_v hQ.1 hb
    exact ⟨⟨ha.1, hQ.2⟩, rfl, rfl, Nat.le_trans hQ.1.1.1 ha.2⟩
  · rw [if_neg c1]; exact hQ.f
theorem pB3_v {n ah own : Nat} {b : Nat → Nat} {ln : pFn} {Q : yQ} (hb : ∀ i, i < n → b i < 256) (h : pOK n b ln) (hQ : yQv n b Q) (ha : ah < 2 ^ tn Q.2) (ho : own < 2 ^ tn Q.2) : match pB3 n b ln ah own Q with
    | .error f => f ≤ n
    | .ok (o, Q1) => yQv n b Q1 ∧ tn Q.2 ≤ tn Q1.2 ∧ o < 2 ^ tn Q1.2 ∧ Q.1.2.1 ≤ Q1.1.2.1 := by
  unfold pB3
  by_cases c1 : Q.1.1 = 124
  · rw [if_pos c1]
    have hv := pAd_v hQ.1 hb
    have hp := h ah (pAd n b Q.1, Q.2) ⟨hv.1, hQ.2⟩ ha
    cases e : ln ah (pAd n b Q.1, Q.2) with
    | error f => rw [e] at hp; exact hp
    | ok q =>
      obtain ⟨o, Q1⟩ := q
      rw [e] at hp
      obtain ⟨p1, p2, p3, p4, p5⟩ := hp
      have p2 : tn Q.2 ≤ tn Q1.2 := p2
      have p4 : (pAd n b Q.1).2.1 ≤ Q1.1.2.1 := p4
      have hw : 2 ^ tn Q.2 ≤ 2 ^ tn Q1.2 := Nat.pow_le_pow_right (by omega) p2
      have h0 := hQ.1.1.1
      exact ⟨p1, p2, or_lt (by omega) p3, by have := hv.2; show Q.1.2.1 ≤ Q1.1.2.1; omega⟩
  · rw [if_neg c1]; exact ⟨hQ, Nat.le_refl _, ho, Nat.le_refl _⟩
theorem pBr_v {n : Nat} {b : Nat → Nat} {ln : pFn} (hb : ∀ i, i < n → b i < 256) (h : pOK n b ln) : pOK n b (pBr n b ln) := by
  intro ah Q hQ hah
  unfold pBr
  have hv := pAd_v hQ.1 hb
  have h0 := hQ.1.1.1
  have hp := h ah (pAd n b Q.1, Q.2) ⟨hv.1, hQ.2⟩ hah
  cases e : ln ah (pAd n b Q.1, Q.2) with
  | error f => rw [e] at hp; exact hp
  | ok q =>
    obtain ⟨o1, Q1⟩ := q
    rw [e] at hp
    obtain ⟨p1, p2, p3, p4, p5⟩ := hp
    have p2 : tn Q.2 ≤ tn Q1.2 := p2
    have p4 : (pAd n b Q.1).2.1 ≤ Q1.1.2.1 := p4
    simp only []
    have hx := pEx_v (c := 124) hb p1 p3
    cases e2 : pEx n b 124 o1 Q1 with
    | error f => rw [e2] at hx; exact hx
    | ok q2 =>
      obtain ⟨o1', Q2⟩ := q2
      rw [e2] at hx
      obtain ⟨x1, x2, x3, x4⟩ := hx
      simp only []
      have hp3 := h ah Q2 x1 (by rw [x2]; exact Nat.lt_of_lt_of_le hah (Nat.pow_le_pow_right (by omega) p2))
      cases e3 : ln ah Q2 with
      | error f => rw [e3] at hp3; exact hp3
      | ok q3 =>
        obtain ⟨o2, Q3⟩ := q3
        rw [e3] at hp3
        obtain ⟨t1, t2, t3, t4, t5⟩ := hp3
        rw [x2] at t2
        simp only []
        have hw1 : 2 ^ tn Q1.2 ≤ 2 ^ tn Q3.2 := Nat.pow_le_pow_right (by omega) t2
        have hw2 : 2 ^ tn Q.2 ≤ 2 ^ tn Q1.2 := Nat.pow_le_pow_right (by omega) p2
        have hb3 := pB3_v (own := o1 ||| o2) hb h t1 (show ah < _ by omega) (or_lt (by omega) t3)
        cases e4 : pB3 n b ln ah (o1 ||| o2) Q3 with
        | error f => rw [e4] at hb3; exact hb3
        | ok q4 =>
          obtain ⟨o3, Q4⟩ := q4
          rw [e4] at hb3
          obtain ⟨s1, s2, s3, s4⟩ := hb3
          simp only []
          have hy := pEx_v (c := 125) hb s1 s3
          cases e5 : pEx n b 125 o3 Q4 with
          | error f => rw [e5] at hy; exact hy
          | ok q5 =>
            obtain ⟨o4, Q5⟩ := q5
            rw [e5] at hy
            obtain ⟨y1, y2, y3, y4⟩ := hy
            subst y3
            refine ⟨y1, ?_, ?_, ?_, ?_⟩
            · rw [y2]; omega
            · rw [y2]; exact s3
            · show Q.1.2.1 ≤ Q5.1.2.1; omega
            · show Q.1.2.2 ≤ Q5.1.2.1; have := hv.2; omega
theorem pLd_v {n : Nat} {b : Nat → Nat} (hb : ∀ i, i < n → b i < 256) : ∀ (m : Nat) (top : Bool), pOK n b (pLd n b m top)
  | 0, top => pLn_v hb (pPt_v hb (fun _ Q hQ _ => hQ.f))
  | m + 1, top => pLn_v hb (pPt_v hb (pBr_v hb (pLd_v hb m false)))
theorem OKB_0 : OKB yT0 := ⟨Nat.zero_le _, Or.inl rfl, fun k hk => absurd hk (Nat.not_lt_zero _)⟩
theorem pTx_v {n : Nat} {b : Nat → Nat} (hb : ∀ i, i < n → b i < 256) : match pTx n b with
    | .error f => f ≤ n
    | .ok T => OKT T := by
  unfold pTx
  have h0 := ltk_v (Nat.zero_le n) hb
  have hp := pLd_v hb 3 true 0 (ltk n b 0, yT0) ⟨h0.1, OKB_0⟩ (by show 0 < 2 ^ 0; decide)
  cases e : pLd n b 3 true 0 (ltk n b 0, yT0) with
  | error f => rw [e] at hp; exact hp
  | ok q =>
    obtain ⟨o, Q⟩ := q
    rw [e] at hp
    obtain ⟨p1, p2, p3, p4, p5⟩ := hp
    simp only []
    by_cases c1 : Q.1.1 ≠ 0
    · rw [if_pos c1]; exact p1.f
    · rw [if_neg c1]
      by_cases c2 : tn Q.2 = 0
      · rw [if_pos c2]; exact Nat.le_refl _
      · rw [if_neg c2]; exact p1.2.t c2
/-! ===== contracts: words, accounts, numbers ===== -/
theorem zTx_l : ∀ i, i < 6 → zTx i = (ywl i).map nI := by decide +kernel
theorem c900 {d i : Nat} {M : zM} {Q : Option Value → zM → Prop} (hi : i < 6) (k : Q (some (.int (nI (ywl i).length))) M) : qC (d + 7) 900 [.ref (3 + i)] M Q := by
  refine ⟨_, M, Or.inl ⟨rfl, by omega, rfl, i, hi, rfl, rfl⟩, ?_⟩
  rw [zTx_l i hi, List.length_map]; exact k
theorem c901 {d i j : Nat} {M : zM} {Q : Option Value → zM → Prop} (hi : i < 6) (hj : j < (ywl i).length) (k : Q (some (.int (nI ((ywl i).getD j 0)))) M) : qC (d + 7) 901 [.ref (3 + i), .int (nI j)] M Q := by
  refine ⟨_, M, Or.inr (Or.inl ⟨rfl, by omega, rfl, i, j, hi, by rw [zTx_l i hi, List.length_map]; exact hj, rfl, rfl⟩), ?_⟩
  have e : (zTx i).getD j 0 = nI ((ywl i).getD j 0) := by
    rw [zTx_l i hi]
    simp only [List.getD, List.getElem?_map, List.getElem?_eq_getElem hj, Option.map_some, Option.getD_some]
  rw [e]; exact k
theorem ywl_len : ∀ i, i < 6 → (ywl i).length ≤ 4 ∧ ∀ j, j < 4 → (ywl i).getD j 0 < 256 := by decide
theorem ywd_t {b : Nat → Nat} {s e i : Nat} (h1 : e - s = (ywl i).length) (h2 : ∀ k, k < (ywl i).length → b (s + k) = (ywl i).getD k 0) : ywd b s e i = true := by
  unfold ywd
  rw [h1]
  simp only [beq_self_eq_true, Bool.true_and, List.all_eq_true, List.mem_range, beq_iff_eq]
  exact h2
theorem ywd_f1 {b : Nat → Nat} {s e i : Nat} (h1 : ¬ e - s = (ywl i).length) : ywd b s e i = false := by
  unfold ywd; rw [beq_false_of_ne h1]; rfl
theorem ywd_f2 {b : Nat → Nat} {s e i k : Nat} (hk : k < (ywl i).length) (h2 : ¬ b (s + k) = (ywl i).getD k 0) : ywd b s e i = false := by
  cases h : ywd b s e i with
  | false => rfl
  | true =>
    unfold ywd at h
    simp only [Bool.and_eq_true, List.all_eq_true, List.mem_range, beq_iff_eq] at h
    exact absurd (h.2 k hk) h2
def ykv (k : Nat) : Int32 := if k < 6 then nI k else -1
/-- a reader that is well: at Q, its text at 20 + 7 c -/
def GR (M : zM) (c n : Nat) (b : Nat → Nat) (Q : yQ) : Prop := SC M ∧ c < 6 ∧ RTp M n b ∧ RK M Q.1 ∧ zi M 17 5 = -1 ∧ zr M 17 6 = some (20 + 7 * c) ∧ RP M (20 + 7 * c) Q.2
/-- one that has met a fault -/
def BR (M : zM) (c n : Nat) (b : Nat → Nat) (f : Nat) : Prop := SC M ∧ c < 6 ∧ RTp M n b ∧ zi M 17 5 = nI f ∧ zr M 17 6 = some (20 + 7 * c)
def FG (c : Nat) : Nat → Nat → Prop := fun a k => (a = 17 ∧ (k = 2 ∨ k = 3 ∨ k = 4 ∨ k = 5)) ∨ (20 + 7 * c ≤ a ∧ a < 27 + 7 * c)
theorem FK_t : ¬ FK 17 1 ∧ ∀ k, ¬ FK 18 k := ⟨by unfold FK; omega, fun k => by unfold FK; omega⟩
theorem FK_G {c : Nat} : ∀ a k, FK a k → FG c a k := fun a k q => Or.inl ⟨q.1, by have := q.2; omega⟩
theorem GR.ad {M M' : zM} {c n : Nat} {b : Nat → Nat} {Q : yQ} (h : GR M c n b Q) (hk : RK M' (pAd n b Q.1)) (f : Fi FK M M') : GR M' c n b (pAd n b Q.1, Q.2) :=
  ⟨f.sc h.1 (fun a k ha q => by have := q.1; omega), h.2.1, RTp_fi h.2.2.1 f.fr FK_t, hk, (f.1 _ _ (by unfold FK; omega)).trans h.2.2.2.2.1, (f.r _ _).trans h.2.2.2.2.2.1, RP_fr h.2.2.2.2.2.2 f.fr (fun a k h1 h2 q => by have := q.1; omega)⟩
theorem GR.bad {M : zM} {c n : Nat} {b : Nat → Nat} {Q : yQ} (h : GR M c n b Q) : BR (zwi M 17 5 (nI Q.1.2.1)) c n b Q.1.2.1 :=
  ⟨SC_wi h.1 (by omega), h.2.1, RTp_fi h.2.2.1 (((Fi.refl (fun a k => a = 17 ∧ k = 5) M).wi ⟨rfl, rfl⟩).fr) ⟨by omega, fun k => by omega⟩, wi_s _ _ _ _, h.2.2.2.2.2.1⟩
theorem d24_0 : decode (zB 24) 0 = .ok (.aload_n 0, 1) := (congrArg (fun c => decode c 0) zeq24).trans (by decide +kernel)
theorem d24_1 : decode (zB 24) 1 = .ok (.getfield 31, 3) := (congrArg (fun c => decode c 1) zeq24).trans (by decide +kernel)
theorem d24_4 : decode (zB 24) 4 = .ok (.iconst (-1), 1) := (congrArg (fun c => decode c 4) zeq24).trans (by decide +kernel)
theorem d24_5 : decode (zB 24) 5 = .ok (.if_icmp .ne 11, 3) := (congrArg (fun c => decode c 5) zeq24).trans (by decide +kernel)
theorem d24_8 : decode (zB 24) 8 = .ok (.aload_n 0, 1) := (congrArg (fun c => decode c 8) zeq24).trans (by decide +kernel)
theorem d24_9 : decode (zB 24) 9 = .ok (.aload_n 0, 1) := (congrArg (fun c => decode c 9) zeq24).trans (by decide +kernel)
theorem d24_10 : decode (zB 24) 10 = .ok (.getfield 48, 3) := (congrArg (fun c => decode c 10) zeq24).trans (by decide +kernel)
theorem d24_13 : decode (zB 24) 13 = .ok (.putfield 31, 3) := (congrArg (fun c => decode c 13) zeq24).trans (by decide +kernel)
theorem d24_16 : decode (zB 24) 16 = .ok (.return_, 1) := (congrArg (fun c => decode c 16) zeq24).trans (by decide +kernel)
theorem c24 {d : Nat} {M : zM} {Q : Option Value → zM → Prop} {c n : Nat} {b : Nat → Nat} {K : yQ} (hG : GR M c n b K) (hv : yQv n b K) (kb : ∀ M', BR M' c n b K.1.2.1 → Fi (FG c) M M' → Q none M') : qC (d + 1) 24 [.ref 17] M Q := by
  have h120 := hG.2.2.1.1
  have hk1 := hv.1.1.1
  have hk2 := hv.1.1.2.1
  have hk3 := hv.1.1.2.2.1
  refine qC_of (by decide) (Nat.le_of_ble_eq_true rfl) ?_
  refine q_aload_n d24_0 rfl ?_
  refine q_getv (c := 3) (f := 5) d24_1 ⟨rfl, by decide⟩ hG.1.2.1.1 hG.2.2.2.2.1 ?_
  refine q_iconst (x := (-1)) d24_4 rfl ?_
  refine ic_ne 16 d24_5 (by decide) (fun h5 => (False.elim (h5 rfl))) (fun h5 => ?_)
  refine q_aload_n d24_8 rfl ?_
  refine q_aload_n d24_9 rfl ?_
  refine q_getv (c := 3) (f := 4) d24_10 ⟨rfl, by decide⟩ hG.1.2.1.1 hG.2.2.2.1.2.1 ?_
  refine q_puti (c := 3) (f := 5) d24_13 ⟨rfl, rfl, by decide⟩ hG.1.2.1.1 ?_
  refine q_ret d24_16 rfl ?_
  exact kb _ hG.bad ((Fi.refl _ _).wi (Or.inl ⟨rfl, by omega⟩))
theorem c24f {d : Nat} {M : zM} {Q : Option Value → zM → Prop} {c n f : Nat} {b : Nat → Nat} (hB : BR M c n b f) (hf : f ≤ 120) (k : Q none M) : qC (d + 1) 24 [.ref 17] M Q := by
  refine qC_of (by decide) (Nat.le_of_ble_eq_true rfl) ?_
  refine q_aload_n d24_0 rfl ?_
  refine q_getv (c := 3) (f := 5) d24_1 ⟨rfl, by decide⟩ hB.1.2.1.1 hB.2.2.2.1 ?_
  refine q_iconst (x := (-1)) d24_4 rfl ?_
  refine ic_ne 16 d24_5 (by decide) (fun h5 => ?_) (fun h5 => (False.elim (nI_m1 (by omega) h5)))
  refine q_ret d24_16 rfl ?_
  exact k
theorem d31_0 : decode (zB 31) 0 = .ok (.aload_n 0, 1) := (congrArg (fun c => decode c 0) zeq31).trans (by decide +kernel)
theorem d31_1 : decode (zB 31) 1 = .ok (.getfield 31, 3) := (congrArg (fun c => decode c 1) zeq31).trans (by decide +kernel)
theorem d31_4 : decode (zB 31) 4 = .ok (.iconst (-1), 1) := (congrArg (fun c => decode c 4) zeq31).trans (by decide +kernel)
theorem d31_5 : decode (zB 31) 5 = .ok (.if_icmp .ne 18, 3) := (congrArg (fun c => decode c 5) zeq31).trans (by decide +kernel)
theorem d31_8 : decode (zB 31) 8 = .ok (.aload_n 0, 1) := (congrArg (fun c => decode c 8) zeq31).trans (by decide +kernel)
theorem d31_9 : decode (zB 31) 9 = .ok (.getfield 41, 3) := (congrArg (fun c => decode c 9) zeq31).trans (by decide +kernel)
theorem d31_12 : decode (zB 31) 12 = .ok (.iload_n 1, 1) := (congrArg (fun c => decode c 12) zeq31).trans (by decide +kernel)
theorem d31_13 : decode (zB 31) 13 = .ok (.if_icmp .ne 10, 3) := (congrArg (fun c => decode c 13) zeq31).trans (by decide +kernel)
theorem d31_16 : decode (zB 31) 16 = .ok (.aload_n 0, 1) := (congrArg (fun c => decode c 16) zeq31).trans (by decide +kernel)
theorem d31_17 : decode (zB 31) 17 = .ok (.invokevirtual 34, 3) := (congrArg (fun c => decode c 17) zeq31).trans (by decide +kernel)
theorem d31_20 : decode (zB 31) 20 = .ok (.goto 7, 3) := (congrArg (fun c => decode c 20) zeq31).trans (by decide +kernel)
theorem d31_23 : decode (zB 31) 23 = .ok (.aload_n 0, 1) := (congrArg (fun c => decode c 23) zeq31).trans (by decide +kernel)
theorem d31_24 : decode (zB 31) 24 = .ok (.invokevirtual 44, 3) := (congrArg (fun c => decode c 24) zeq31).trans (by decide +kernel)
theorem d31_27 : decode (zB 31) 27 = .ok (.return_, 1) := (congrArg (fun c => decode c 27) zeq31).trans (by decide +kernel)
theorem c31t {d : Nat} {M : zM} {Q : Option Value → zM → Prop} {c n : Nat} {b : Nat → Nat} {K : yQ} (hG : GR M c n b K) (hv : yQv n b K) (k : ∀ M', GR M' c n b (pAd n b K.1, K.2) → Fi (FG c) M M' → Q none M') : qC (d + 3) 31 [.ref 17, .int (nI K.1.1)] M Q := by
  have h120 := hG.2.2.1.1
  have hk1 := hv.1.1.1
  have hk2 := hv.1.1.2.1
  have hk3 := hv.1.1.2.2.1
  refine qC_of (by decide) (Nat.le_of_ble_eq_true rfl) ?_
  refine q_aload_n d31_0 rfl ?_
  refine q_getv (c := 3) (f := 5) d31_1 ⟨rfl, by decide⟩ hG.1.2.1.1 hG.2.2.2.2.1 ?_
  refine q_iconst (x := (-1)) d31_4 rfl ?_
  refine ic_ne 23 d31_5 (by decide) (fun h5 => (False.elim (h5 rfl))) (fun h5 => ?_)
  refine q_aload_n d31_8 rfl ?_
  refine q_getv (c := 3) (f := 3) d31_9 ⟨rfl, by decide⟩ hG.1.2.1.1 hG.2.2.2.1.1 ?_
  refine q_iload_n d31_12 rfl ?_
  refine nc_ne 23 d31_13 (by decide) (by omega) (by omega) (fun h13 => (False.elim (h13 rfl))) (fun h13 => ?_)
  refine q_aload_n d31_16 rfl ?_
  refine q_v0 d31_17 rfl rfl hG.1.2.1.1 (Nat.le_of_ble_eq_true rfl) (c16 hG.1.2.1 hG.2.2.1 hG.2.2.2.1.2.2 (by omega) (fun M1 hk f1 => ?_))
  refine q_goto 27 d31_20 (by decide) ?_
  refine q_ret d31_27 rfl ?_
  exact k _ (hG.ad hk f1) (f1.mono FK_G)
theorem c31n {d : Nat} {M : zM} {Q : Option Value → zM → Prop} {c n : Nat} {b : Nat → Nat} {K : yQ} {ch : Nat} (hG : GR M c n b K) (hv : yQv n b K) (hc256 : ch < 256) (hch : ¬ K.1.1 = ch) (kb : ∀ M', BR M' c n b K.1.2.1 → Fi (FG c) M M' → Q none M') : qC (d + 3) 31 [.ref 17, .int (nI ch)] M Q := by
  have h120 := hG.2.2.1.1
  have hk1 := hv.1.1.1
  have hk2 := hv.1.1.2.1
  have hk3 := hv.1.1.2.2.1
  refine qC_of (by decide) (Nat.le_of_ble_eq_true rfl) ?_
  refine q_aload_n d31_0 rfl ?_
  refine q_getv (c := 3) (f := 5) d31_1 ⟨rfl, by decide⟩ hG.1.2.1.1 hG.2.2.2.2.1 ?_
  refine q_iconst (x := (-1)) d31_4 rfl ?_
  refine ic_ne 23 d31_5 (by decide) (fun h5 => (False.elim (h5 rfl))) (fun h5 => ?_)
  refine q_aload_n d31_8 rfl ?_
  refine q_getv (c := 3) (f := 3) d31_9 ⟨rfl, by decide⟩ hG.1.2.1.1 hG.2.2.2.1.1 ?_
  refine q_iload_n d31_12 rfl ?_
  refine nc_ne 23 d31_13 (by decide) (by omega) (by omega) (fun h13 => ?_) (fun h13 => (False.elim (hch h13)))
  refine q_aload_n d31_23 rfl ?_
  refine q_v0 d31_24 rfl rfl hG.1.2.1.1 (Nat.le_of_ble_eq_true rfl) (c24 hG hv (fun M1 hB f1 => ?_))
  refine q_ret d31_27 rfl ?_
  exact kb _ hB f1
theorem c31f {d : Nat} {M : zM} {Q : Option Value → zM → Prop} {c n f : Nat} {b : Nat → Nat} {x : Int32} (hB : BR M c n b f) (hf : f ≤ 120) (k : Q none M) : qC (d + 3) 31 [.ref 17, .int x] M Q := by
  refine qC_of (by decide) (Nat.le_of_ble_eq_true rfl) ?_
  refine q_aload_n d31_0 rfl ?_
  refine q_getv (c := 3) (f := 5) d31_1 ⟨rfl, by decide⟩ hB.1.2.1.1 hB.2.2.2.1 ?_
  refine q_iconst (x := (-1)) d31_4 rfl ?_
  refine ic_ne 23 d31_5 (by decide) (fun h5 => ?_) (fun h5 => (False.elim (nI_m1 (by omega) h5)))
  refine q_aload_n d31_23 rfl ?_
  refine q_v0 d31_24 rfl rfl hB.1.2.1.1 (Nat.le_of_ble_eq_true rfl) (c24f hB hf ?_)
  refine q_ret d31_27 rfl ?_
  exact k
theorem d22_0 : decode (zB 22) 0 = .ok (.iload_n 0, 1) := (congrArg (fun c => decode c 0) zeq22).trans (by decide +kernel)
theorem d22_1 : decode (zB 22) 1 = .ok (.tableswitch 50 0 4 #[35, 38, 41, 44, 47], 35) := (congrArg (fun c => decode c 1) zeq22).trans (by decide +kernel)
theorem d22_36 : decode (zB 22) 36 = .ok (.ldc 117, 2) := (congrArg (fun c => decode c 36) zeq22).trans (by decide +kernel)
theorem d22_38 : decode (zB 22) 38 = .ok (.areturn, 1) := (congrArg (fun c => decode c 38) zeq22).trans (by decide +kernel)
theorem d22_39 : decode (zB 22) 39 = .ok (.ldc 119, 2) := (congrArg (fun c => decode c 39) zeq22).trans (by decide +kernel)
theorem d22_41 : decode (zB 22) 41 = .ok (.areturn, 1) := (congrArg (fun c => decode c 41) zeq22).trans (by decide +kernel)
theorem d22_42 : decode (zB 22) 42 = .ok (.ldc 121, 2) := (congrArg (fun c => decode c 42) zeq22).trans (by decide +kernel)
theorem d22_44 : decode (zB 22) 44 = .ok (.areturn, 1) := (congrArg (fun c => decode c 44) zeq22).trans (by decide +kernel)
theorem d22_45 : decode (zB 22) 45 = .ok (.ldc 123, 2) := (congrArg (fun c => decode c 45) zeq22).trans (by decide +kernel)
theorem d22_47 : decode (zB 22) 47 = .ok (.areturn, 1) := (congrArg (fun c => decode c 47) zeq22).trans (by decide +kernel)
theorem d22_48 : decode (zB 22) 48 = .ok (.ldc 125, 2) := (congrArg (fun c => decode c 48) zeq22).trans (by decide +kernel)
theorem d22_50 : decode (zB 22) 50 = .ok (.areturn, 1) := (congrArg (fun c => decode c 50) zeq22).trans (by decide +kernel)
theorem d22_51 : decode (zB 22) 51 = .ok (.ldc 127, 2) := (congrArg (fun c => decode c 51) zeq22).trans (by decide +kernel)
theorem d22_53 : decode (zB 22) 53 = .ok (.areturn, 1) := (congrArg (fun c => decode c 53) zeq22).trans (by decide +kernel)
theorem c22 {d : Nat} {M : zM} {Q : Option Value → zM → Prop} {i : Nat} (hi : i < 6) (k : Q (some (.ref (3 + i))) M) : qC (d + 1) 22 [.int (nI i)] M Q := by
  refine qC_of (by decide) (Nat.le_of_ble_eq_true rfl) ?_
  rcases (show i = 0 ∨ i = 1 ∨ i = 2 ∨ i = 3 ∨ i = 4 ∨ i = 5 by omega) with rfl | rfl | rfl | rfl | rfl | rfl
  · refine q_iload_n d22_0 rfl ?_
    refine n_tsI (35) 36 d22_1 (by decide) (by decide) rfl (by decide) ?_
    refine q_ldcs d22_36 rfl ?_
    refine q_aret (r := some _) d22_38 rfl ?_
    exact k
  · refine q_iload_n d22_0 rfl ?_
    refine n_tsI (38) 39 d22_1 (by decide) (by decide) rfl (by decide) ?_
    refine q_ldcs d22_39 rfl ?_
    refine q_aret (r := some _) d22_41 rfl ?_
    exact k
  · refine q_iload_n d22_0 rfl ?_
    refine n_tsI (41) 42 d22_1 (by decide) (by decide) rfl (by decide) ?_
    refine q_ldcs d22_42 rfl ?_
    refine q_aret (r := some _) d22_44 rfl ?_
    exact k
  · refine q_iload_n d22_0 rfl ?_
    refine n_tsI (44) 45 d22_1 (by decide) (by decide) rfl (by decide) ?_
    refine q_ldcs d22_45 rfl ?_
    refine q_aret (r := some _) d22_47 rfl ?_
    exact k
  · refine q_iload_n d22_0 rfl ?_
    refine n_tsI (47) 48 d22_1 (by decide) (by decide) rfl (by decide) ?_
    refine q_ldcs d22_48 rfl ?_
    refine q_aret (r := some _) d22_50 rfl ?_
    exact k
  · refine q_iload_n d22_0 rfl ?_
    refine n_tsO 51 d22_1 (by decide) (Or.inr (by decide)) (by decide) ?_
    refine q_ldcs d22_51 rfl ?_
    refine q_aret (r := some _) d22_53 rfl ?_
    exact k
theorem d23_0 : decode (zB 23) 0 = .ok (.aload_n 0, 1) := (congrArg (fun c => decode c 0) zeq23).trans (by decide +kernel)
theorem d23_1 : decode (zB 23) 1 = .ok (.getfield 28, 3) := (congrArg (fun c => decode c 1) zeq23).trans (by decide +kernel)
theorem d23_4 : decode (zB 23) 4 = .ok (.aload_n 0, 1) := (congrArg (fun c => decode c 4) zeq23).trans (by decide +kernel)
theorem d23_5 : decode (zB 23) 5 = .ok (.getfield 48, 3) := (congrArg (fun c => decode c 5) zeq23).trans (by decide +kernel)
theorem d23_8 : decode (zB 23) 8 = .ok (.isub, 1) := (congrArg (fun c => decode c 8) zeq23).trans (by decide +kernel)
theorem d23_9 : decode (zB 23) 9 = .ok (.aload_n 1, 1) := (congrArg (fun c => decode c 9) zeq23).trans (by decide +kernel)
theorem d23_10 : decode (zB 23) 10 = .ok (.invokevirtual 108, 3) := (congrArg (fun c => decode c 10) zeq23).trans (by decide +kernel)
theorem d23_13 : decode (zB 23) 13 = .ok (.if_icmp .eq 5, 3) := (congrArg (fun c => decode c 13) zeq23).trans (by decide +kernel)
theorem d23_16 : decode (zB 23) 16 = .ok (.iconst 0, 1) := (congrArg (fun c => decode c 16) zeq23).trans (by decide +kernel)
theorem d23_17 : decode (zB 23) 17 = .ok (.ireturn, 1) := (congrArg (fun c => decode c 17) zeq23).trans (by decide +kernel)
theorem d23_18 : decode (zB 23) 18 = .ok (.iconst 0, 1) := (congrArg (fun c => decode c 18) zeq23).trans (by decide +kernel)
theorem d23_19 : decode (zB 23) 19 = .ok (.istore_n 2, 1) := (congrArg (fun c => decode c 19) zeq23).trans (by decide +kernel)
theorem d23_20 : decode (zB 23) 20 = .ok (.iload_n 2, 1) := (congrArg (fun c => decode c 20) zeq23).trans (by decide +kernel)
theorem d23_21 : decode (zB 23) 21 = .ok (.aload_n 1, 1) := (congrArg (fun c => decode c 21) zeq23).trans (by decide +kernel)
theorem d23_22 : decode (zB 23) 22 = .ok (.invokevirtual 108, 3) := (congrArg (fun c => decode c 22) zeq23).trans (by decide +kernel)
theorem d23_25 : decode (zB 23) 25 = .ok (.if_icmp .ge 43, 3) := (congrArg (fun c => decode c 25) zeq23).trans (by decide +kernel)
theorem d23_28 : decode (zB 23) 28 = .ok (.aload_n 0, 1) := (congrArg (fun c => decode c 28) zeq23).trans (by decide +kernel)
theorem d23_29 : decode (zB 23) 29 = .ok (.getfield 48, 3) := (congrArg (fun c => decode c 29) zeq23).trans (by decide +kernel)
theorem d23_32 : decode (zB 23) 32 = .ok (.iload_n 2, 1) := (congrArg (fun c => decode c 32) zeq23).trans (by decide +kernel)
theorem d23_33 : decode (zB 23) 33 = .ok (.iadd, 1) := (congrArg (fun c => decode c 33) zeq23).trans (by decide +kernel)
theorem d23_34 : decode (zB 23) 34 = .ok (.aload_n 0, 1) := (congrArg (fun c => decode c 34) zeq23).trans (by decide +kernel)
theorem d23_35 : decode (zB 23) 35 = .ok (.getfield 15, 3) := (congrArg (fun c => decode c 35) zeq23).trans (by decide +kernel)
theorem d23_38 : decode (zB 23) 38 = .ok (.if_icmp .ge 22, 3) := (congrArg (fun c => decode c 38) zeq23).trans (by decide +kernel)
theorem d23_41 : decode (zB 23) 41 = .ok (.aload_n 0, 1) := (congrArg (fun c => decode c 41) zeq23).trans (by decide +kernel)
theorem d23_42 : decode (zB 23) 42 = .ok (.getfield 9, 3) := (congrArg (fun c => decode c 42) zeq23).trans (by decide +kernel)
theorem d23_45 : decode (zB 23) 45 = .ok (.aload_n 0, 1) := (congrArg (fun c => decode c 45) zeq23).trans (by decide +kernel)
theorem d23_46 : decode (zB 23) 46 = .ok (.getfield 48, 3) := (congrArg (fun c => decode c 46) zeq23).trans (by decide +kernel)
theorem d23_49 : decode (zB 23) 49 = .ok (.iload_n 2, 1) := (congrArg (fun c => decode c 49) zeq23).trans (by decide +kernel)
theorem d23_50 : decode (zB 23) 50 = .ok (.iadd, 1) := (congrArg (fun c => decode c 50) zeq23).trans (by decide +kernel)
theorem d23_51 : decode (zB 23) 51 = .ok (.iaload, 1) := (congrArg (fun c => decode c 51) zeq23).trans (by decide +kernel)
theorem d23_52 : decode (zB 23) 52 = .ok (.aload_n 1, 1) := (congrArg (fun c => decode c 52) zeq23).trans (by decide +kernel)
theorem d23_53 : decode (zB 23) 53 = .ok (.iload_n 2, 1) := (congrArg (fun c => decode c 53) zeq23).trans (by decide +kernel)
theorem d23_54 : decode (zB 23) 54 = .ok (.invokevirtual 113, 3) := (congrArg (fun c => decode c 54) zeq23).trans (by decide +kernel)
theorem d23_57 : decode (zB 23) 57 = .ok (.if_icmp .eq 5, 3) := (congrArg (fun c => decode c 57) zeq23).trans (by decide +kernel)
theorem d23_60 : decode (zB 23) 60 = .ok (.iconst 0, 1) := (congrArg (fun c => decode c 60) zeq23).trans (by decide +kernel)
theorem d23_61 : decode (zB 23) 61 = .ok (.ireturn, 1) := (congrArg (fun c => decode c 61) zeq23).trans (by decide +kernel)
theorem d23_62 : decode (zB 23) 62 = .ok (.iinc 2 1, 3) := (congrArg (fun c => decode c 62) zeq23).trans (by decide +kernel)
theorem d23_65 : decode (zB 23) 65 = .ok (.goto (-45), 3) := (congrArg (fun c => decode c 65) zeq23).trans (by decide +kernel)
theorem d23_68 : decode (zB 23) 68 = .ok (.iconst 1, 1) := (congrArg (fun c => decode c 68) zeq23).trans (by decide +kernel)
theorem d23_69 : decode (zB 23) 69 = .ok (.ireturn, 1) := (congrArg (fun c => decode c 69) zeq23).trans (by decide +kernel)
theorem l23 {d : Nat} {M : zM} {Q : Option Value → zM → Prop} {c n : Nat} {b : Nat → Nat} {K : yQ} {i : Nat} (hG : GR M c n b K) (hv : yQv n b K) (hi : i < 6) (k : Q (some (.int (bI (ywd b K.1.2.1 K.1.2.2 i)))) M) (he : K.1.2.2 - K.1.2.1 = (ywl i).length) : ∀ (r q : Nat), q ≤ (ywl i).length → (ywl i).length < q + r → (∀ p, p < q → b (K.1.2.1 + p) = (ywl i).getD p 0) → qW (zEv (d + 7)) 23 Q 20 [(0, .ref 17), (1, .ref (3 + i)), (2, .int (nI q))] [] M := by
  intro r
  induction r with
  | zero => intros; omega
  | succ r ih =>
    intro q  h1 h2 hb
    have h120 := hG.2.2.1.1
    have hk1 := hv.1.1.1
    have hk2 := hv.1.1.2.1
    have hwl := ywl_len i hi
    refine q_iload_n d23_20 rfl ?_
    refine q_aload_n d23_21 rfl ?_
    refine q_t0 d23_22 (Or.inl rfl) (Nat.le_of_ble_eq_true rfl) (c900 hi ?_)
    refine nc_ge 68 d23_25 (by decide) (by omega) (by omega) (fun h25 => ?_) (fun h25 => ?_)
    · refine q_iconstN (z := 1) d23_68 ?_
      refine q_zret d23_69 rfl (by decide) ?_
      exact bK1 k (ywd_t he (fun p hp => hb p (by omega)))
    · refine q_aload_n d23_28 rfl ?_
      refine q_getv (c := 3) (f := 4) d23_29 ⟨rfl, by decide⟩ hG.1.2.1.1 hG.2.2.2.1.2.1 ?_
      refine q_iload_n d23_32 rfl ?_
      refine n_iadd d23_33 ?_
      refine q_aload_n d23_34 rfl ?_
      refine q_getv (c := 3) (f := 1) d23_35 ⟨rfl, by decide⟩ hG.1.2.1.1 hG.2.2.1.2.1 ?_
      refine nc_ge 60 d23_38 (by decide) (by omega) (by omega) (fun h38 => (False.elim (by omega))) (fun h38 => ?_)
      have hbb := (hG.2.2.1.2.2 (K.1.2.1 + q) (by omega)).2
      have hww := hwl.2 q (by omega)
      refine q_aload_n d23_41 rfl ?_
      refine q_getr (c := 3) (f := 0) d23_42 ⟨rfl, rfl⟩ hG.1.2.1.1 hG.1.2.1.2.1 ?_
      refine q_aload_n d23_45 rfl ?_
      refine q_getv (c := 3) (f := 4) d23_46 ⟨rfl, by decide⟩ hG.1.2.1.1 hG.2.2.2.1.2.1 ?_
      refine q_iload_n d23_49 rfl ?_
      refine n_iadd d23_50 ?_
      refine n_iald d23_51 hG.1.2.1.2.2 (by omega) (by decide) (hG.2.2.1.2.2 _ (by omega)).1 ?_
      refine q_aload_n d23_52 rfl ?_
      refine q_iload_n d23_53 rfl ?_
      refine q_t1 d23_54 (Or.inr rfl) (Nat.le_of_ble_eq_true rfl) (c901 hi (by omega) ?_)
      refine nc_eq 62 d23_57 (by decide) (by omega) (by omega) (fun h57 => ?_) (fun h57 => ?_)
      · refine n_iinc 1 d23_62 (by decide) rfl rfl ?_
        refine q_goto 20 d23_65 (by decide) ?_
        refine qW_srt rfl rfl ?_
        exact ih (q + 1) (by omega) (by omega) (fun p hp => by by_cases e : p = q; (subst e; exact h57); exact hb p (by omega))
      · refine q_iconstN (z := 0) d23_60 ?_
        refine q_zret d23_61 rfl (by decide) ?_
        exact bK0 k (ywd_f2 (by omega) h57)
theorem c23 {d : Nat} {M : zM} {Q : Option Value → zM → Prop} {c n : Nat} {b : Nat → Nat} {K : yQ} {i : Nat} (hG : GR M c n b K) (hv : yQv n b K) (hi : i < 6) (k : Q (some (.int (bI (ywd b K.1.2.1 K.1.2.2 i)))) M) : qC (d + 8) 23 [.ref 17, .ref (3 + i)] M Q := by
  have h120 := hG.2.2.1.1
  have hk1 := hv.1.1.1
  have hk2 := hv.1.1.2.1
  have hwl := ywl_len i hi
  refine qC_of (by decide) (Nat.le_of_ble_eq_true rfl) ?_
  refine q_aload_n d23_0 rfl ?_
  refine q_getv (c := 3) (f := 2) d23_1 ⟨rfl, by decide⟩ hG.1.2.1.1 hG.2.2.2.1.2.2 ?_
  refine q_aload_n d23_4 rfl ?_
  refine q_getv (c := 3) (f := 4) d23_5 ⟨rfl, by decide⟩ hG.1.2.1.1 hG.2.2.2.1.2.1 ?_
  refine n_isub d23_8 (by omega) ?_
  refine q_aload_n d23_9 rfl ?_
  refine q_t0 d23_10 (Or.inl rfl) (Nat.le_of_ble_eq_true rfl) (c900 hi ?_)
  refine nc_eq 18 d23_13 (by decide) (by omega) (by omega) (fun h13 => ?_) (fun h13 => ?_)
  · refine q_iconstN (z := 0) d23_18 ?_
    refine q_istore_n d23_19 (by decide) rfl ?_
    refine qW_srt rfl rfl ?_
    exact l23 hG hv hi k h13 ((ywl i).length + 1) 0 (by omega) (by omega) (fun p hp => absurd hp (by omega))
  · refine q_iconstN (z := 0) d23_16 ?_
    refine q_zret d23_17 rfl (by decide) ?_
    exact bK0 k (ywd_f1 h13)
theorem d21_0 : decode (zB 21) 0 = .ok (.iconst 0, 1) := (congrArg (fun c => decode c 0) zeq21).trans (by decide +kernel)
theorem d21_1 : decode (zB 21) 1 = .ok (.istore_n 1, 1) := (congrArg (fun c => decode c 1) zeq21).trans (by decide +kernel)
theorem d21_2 : decode (zB 21) 2 = .ok (.iload_n 1, 1) := (congrArg (fun c => decode c 2) zeq21).trans (by decide +kernel)
theorem d21_3 : decode (zB 21) 3 = .ok (.bipush 6, 2) := (congrArg (fun c => decode c 3) zeq21).trans (by decide +kernel)
theorem d21_5 : decode (zB 21) 5 = .ok (.if_icmp .ge 22, 3) := (congrArg (fun c => decode c 5) zeq21).trans (by decide +kernel)
theorem d21_8 : decode (zB 21) 8 = .ok (.aload_n 0, 1) := (congrArg (fun c => decode c 8) zeq21).trans (by decide +kernel)
theorem d21_9 : decode (zB 21) 9 = .ok (.iload_n 1, 1) := (congrArg (fun c => decode c 9) zeq21).trans (by decide +kernel)
theorem d21_10 : decode (zB 21) 10 = .ok (.invokestatic 100, 3) := (congrArg (fun c => decode c 10) zeq21).trans (by decide +kernel)
theorem d21_13 : decode (zB 21) 13 = .ok (.invokevirtual 104, 3) := (congrArg (fun c => decode c 13) zeq21).trans (by decide +kernel)
theorem d21_16 : decode (zB 21) 16 = .ok (.ifCond .eq 5, 3) := (congrArg (fun c => decode c 16) zeq21).trans (by decide +kernel)
theorem d21_19 : decode (zB 21) 19 = .ok (.iload_n 1, 1) := (congrArg (fun c => decode c 19) zeq21).trans (by decide +kernel)
theorem d21_20 : decode (zB 21) 20 = .ok (.ireturn, 1) := (congrArg (fun c => decode c 20) zeq21).trans (by decide +kernel)
theorem d21_21 : decode (zB 21) 21 = .ok (.iinc 1 1, 3) := (congrArg (fun c => decode c 21) zeq21).trans (by decide +kernel)
theorem d21_24 : decode (zB 21) 24 = .ok (.goto (-22), 3) := (congrArg (fun c => decode c 24) zeq21).trans (by decide +kernel)
theorem d21_27 : decode (zB 21) 27 = .ok (.iconst (-1), 1) := (congrArg (fun c => decode c 27) zeq21).trans (by decide +kernel)
theorem d21_28 : decode (zB 21) 28 = .ok (.ireturn, 1) := (congrArg (fun c => decode c 28) zeq21).trans (by decide +kernel)
theorem l21 {d : Nat} {M : zM} {Q : Option Value → zM → Prop} {c n : Nat} {b : Nat → Nat} {K : yQ} (hG : GR M c n b K) (hv : yQv n b K) (k : Q (some (.int (ykv (ykw b K.1.2.1 K.1.2.2)))) M) : ∀ (r i : Nat), i ≤ 6 → 6 < i + r → ykr b K.1.2.1 K.1.2.2 (6 - i) i = ykw b K.1.2.1 K.1.2.2 → qW (zEv (d + 8)) 21 Q 2 [(0, .ref 17), (1, .int (nI i))] [] M := by
  intro r
  induction r with
  | zero => intros; omega
  | succ r ih =>
    intro i  h1 h2 hb
    refine q_iload_n d21_2 rfl ?_
    refine q_bipush (x := nI 6) d21_3 rfl ?_
    refine nc_ge 27 d21_5 (by decide) (by omega) (by omega) (fun h5 => ?_) (fun h5 => ?_)
    · refine q_iconst (x := (-1)) d21_27 rfl ?_
      refine q_iret d21_28 rfl ?_
      refine nK k ?_; rw [show 6 - i = 0 by omega, show i = 6 by omega] at hb; rw [← hb]; rfl
    · refine q_aload_n d21_8 rfl ?_
      refine q_iload_n d21_9 rfl ?_
      refine q_s1 d21_10 (Or.inl rfl) rfl (Nat.le_of_ble_eq_true rfl) (c22 (by omega) ?_)
      refine q_v1 d21_13 rfl rfl hG.1.2.1.1 (Nat.le_of_ble_eq_true rfl) (c23 hG hv (by omega) ?_)
      refine b0_eq 21 d21_16 (by decide) (fun h16 => ?_) (fun h16 => ?_)
      · refine n_iinc 1 d21_21 (by decide) rfl rfl ?_
        refine q_goto 2 d21_24 (by decide) ?_
        refine qW_srt rfl rfl ?_
        exact ih (i + 1) (by omega) (by omega) (by rw [show 6 - i = (6 - (i + 1)) + 1 by omega, ykr, h16, if_neg (by decide)] at hb; exact hb)
      · refine q_iload_n d21_19 rfl ?_
        refine q_iret d21_20 rfl ?_
        refine nK k ?_; rw [show 6 - i = (6 - (i + 1)) + 1 by omega, ykr, if_pos h16] at hb; rw [← hb]; exact (if_pos (by omega)).symm
theorem c21 {d : Nat} {M : zM} {Q : Option Value → zM → Prop} {c n : Nat} {b : Nat → Nat} {K : yQ} (hG : GR M c n b K) (hv : yQv n b K) (k : Q (some (.int (ykv (ykw b K.1.2.1 K.1.2.2)))) M) : qC (d + 9) 21 [.ref 17] M Q := by
  refine qC_of (by decide) (Nat.le_of_ble_eq_true rfl) ?_
  refine q_iconstN (z := 0) d21_0 ?_
  refine q_istore_n d21_1 (by decide) rfl ?_
  refine qW_srt rfl rfl ?_
  exact l21 hG hv k 7 0 (by omega) (by omega) rfl
theorem d25_0 : decode (zB 25) 0 = .ok (.aload_n 0, 1) := (congrArg (fun c => decode c 0) zeq25).trans (by decide +kernel)
theorem d25_1 : decode (zB 25) 1 = .ok (.getfield 31, 3) := (congrArg (fun c => decode c 1) zeq25).trans (by decide +kernel)
theorem d25_4 : decode (zB 25) 4 = .ok (.iconst (-1), 1) := (congrArg (fun c => decode c 4) zeq25).trans (by decide +kernel)
theorem d25_5 : decode (zB 25) 5 = .ok (.if_icmp .ne 24, 3) := (congrArg (fun c => decode c 5) zeq25).trans (by decide +kernel)
theorem d25_8 : decode (zB 25) 8 = .ok (.aload_n 0, 1) := (congrArg (fun c => decode c 8) zeq25).trans (by decide +kernel)
theorem d25_9 : decode (zB 25) 9 = .ok (.getfield 41, 3) := (congrArg (fun c => decode c 9) zeq25).trans (by decide +kernel)
theorem d25_12 : decode (zB 25) 12 = .ok (.iconst 1, 1) := (congrArg (fun c => decode c 12) zeq25).trans (by decide +kernel)
theorem d25_13 : decode (zB 25) 13 = .ok (.if_icmp .ne 16, 3) := (congrArg (fun c => decode c 13) zeq25).trans (by decide +kernel)
theorem d25_16 : decode (zB 25) 16 = .ok (.aload_n 0, 1) := (congrArg (fun c => decode c 16) zeq25).trans (by decide +kernel)
theorem d25_17 : decode (zB 25) 17 = .ok (.getfield 28, 3) := (congrArg (fun c => decode c 17) zeq25).trans (by decide +kernel)
theorem d25_20 : decode (zB 25) 20 = .ok (.aload_n 0, 1) := (congrArg (fun c => decode c 20) zeq25).trans (by decide +kernel)
theorem d25_21 : decode (zB 25) 21 = .ok (.getfield 48, 3) := (congrArg (fun c => decode c 21) zeq25).trans (by decide +kernel)
theorem d25_24 : decode (zB 25) 24 = .ok (.isub, 1) := (congrArg (fun c => decode c 24) zeq25).trans (by decide +kernel)
theorem d25_25 : decode (zB 25) 25 = .ok (.iconst 1, 1) := (congrArg (fun c => decode c 25) zeq25).trans (by decide +kernel)
theorem d25_26 : decode (zB 25) 26 = .ok (.if_icmp .eq 9, 3) := (congrArg (fun c => decode c 26) zeq25).trans (by decide +kernel)
theorem d25_29 : decode (zB 25) 29 = .ok (.aload_n 0, 1) := (congrArg (fun c => decode c 29) zeq25).trans (by decide +kernel)
theorem d25_30 : decode (zB 25) 30 = .ok (.invokevirtual 44, 3) := (congrArg (fun c => decode c 30) zeq25).trans (by decide +kernel)
theorem d25_33 : decode (zB 25) 33 = .ok (.iconst (-1), 1) := (congrArg (fun c => decode c 33) zeq25).trans (by decide +kernel)
theorem d25_34 : decode (zB 25) 34 = .ok (.ireturn, 1) := (congrArg (fun c => decode c 34) zeq25).trans (by decide +kernel)
theorem d25_35 : decode (zB 25) 35 = .ok (.aload_n 0, 1) := (congrArg (fun c => decode c 35) zeq25).trans (by decide +kernel)
theorem d25_36 : decode (zB 25) 36 = .ok (.getfield 9, 3) := (congrArg (fun c => decode c 36) zeq25).trans (by decide +kernel)
theorem d25_39 : decode (zB 25) 39 = .ok (.aload_n 0, 1) := (congrArg (fun c => decode c 39) zeq25).trans (by decide +kernel)
theorem d25_40 : decode (zB 25) 40 = .ok (.getfield 48, 3) := (congrArg (fun c => decode c 40) zeq25).trans (by decide +kernel)
theorem d25_43 : decode (zB 25) 43 = .ok (.iaload, 1) := (congrArg (fun c => decode c 43) zeq25).trans (by decide +kernel)
theorem d25_44 : decode (zB 25) 44 = .ok (.bipush 97, 2) := (congrArg (fun c => decode c 44) zeq25).trans (by decide +kernel)
theorem d25_46 : decode (zB 25) 46 = .ok (.isub, 1) := (congrArg (fun c => decode c 46) zeq25).trans (by decide +kernel)
theorem d25_47 : decode (zB 25) 47 = .ok (.istore_n 1, 1) := (congrArg (fun c => decode c 47) zeq25).trans (by decide +kernel)
theorem d25_48 : decode (zB 25) 48 = .ok (.iload_n 1, 1) := (congrArg (fun c => decode c 48) zeq25).trans (by decide +kernel)
theorem d25_49 : decode (zB 25) 49 = .ok (.invokestatic 97, 3) := (congrArg (fun c => decode c 49) zeq25).trans (by decide +kernel)
theorem d25_52 : decode (zB 25) 52 = .ok (.ifCond .ne 9, 3) := (congrArg (fun c => decode c 52) zeq25).trans (by decide +kernel)
theorem d25_55 : decode (zB 25) 55 = .ok (.aload_n 0, 1) := (congrArg (fun c => decode c 55) zeq25).trans (by decide +kernel)
theorem d25_56 : decode (zB 25) 56 = .ok (.invokevirtual 44, 3) := (congrArg (fun c => decode c 56) zeq25).trans (by decide +kernel)
theorem d25_59 : decode (zB 25) 59 = .ok (.iconst (-1), 1) := (congrArg (fun c => decode c 59) zeq25).trans (by decide +kernel)
theorem d25_60 : decode (zB 25) 60 = .ok (.ireturn, 1) := (congrArg (fun c => decode c 60) zeq25).trans (by decide +kernel)
theorem d25_61 : decode (zB 25) 61 = .ok (.aload_n 0, 1) := (congrArg (fun c => decode c 61) zeq25).trans (by decide +kernel)
theorem d25_62 : decode (zB 25) 62 = .ok (.invokevirtual 34, 3) := (congrArg (fun c => decode c 62) zeq25).trans (by decide +kernel)
theorem d25_65 : decode (zB 25) 65 = .ok (.iload_n 1, 1) := (congrArg (fun c => decode c 65) zeq25).trans (by decide +kernel)
theorem d25_66 : decode (zB 25) 66 = .ok (.ireturn, 1) := (congrArg (fun c => decode c 66) zeq25).trans (by decide +kernel)
theorem zix_no {x n : Nat} (h : ¬ x < n ∧ x < 2147483648) : zix (nI x) n = none := by
  unfold zix
  rw [nI_toInt h.2]
  exact if_neg (by omega)
theorem c25 {d : Nat} {M : zM} {Q : Option Value → zM → Prop} {c n : Nat} {b : Nat → Nat} {K : yQ} (hG : GR M c n b K) (hv : yQv n b K) (k : ∀ a k1 M', pAc n b K.1 = .ok (a, k1) → GR M' c n b (k1, K.2) → Fi (FG c) M M' → Q (some (.int (nI a))) M') (kb : ∀ M', pAc n b K.1 = .error K.1.2.1 → BR M' c n b K.1.2.1 → Fi (FG c) M M' → Q (some (.int (-1))) M') : qC (d + 3) 25 [.ref 17] M Q := by
  refine qC_of (by decide) (Nat.le_of_ble_eq_true rfl) ?_
  have h120 := hG.2.2.1.1
  have hk1 := hv.1.1.1
  have hk2 := hv.1.1.2.1
  have hk3 := hv.1.1.2.2.1
  by_cases h102 : b K.1.2.1 ≤ 102
  · skip
    refine q_aload_n d25_0 rfl ?_
    refine q_getv (c := 3) (f := 5) d25_1 ⟨rfl, by decide⟩ hG.1.2.1.1 hG.2.2.2.2.1 ?_
    refine q_iconst (x := (-1)) d25_4 rfl ?_
    refine ic_ne 29 d25_5 (by decide) (fun h5 => (False.elim (h5 rfl))) (fun h5 => ?_)
    refine q_aload_n d25_8 rfl ?_
    refine q_getv (c := 3) (f := 3) d25_9 ⟨rfl, by decide⟩ hG.1.2.1.1 hG.2.2.2.1.1 ?_
    refine q_iconstN (z := 1) d25_12 ?_
    refine nc_ne 29 d25_13 (by decide) (by omega) (by omega) (fun h13 => ?_) (fun h13 => ?_)
    · refine q_aload_n d25_29 rfl ?_
      refine q_v0 d25_30 rfl rfl hG.1.2.1.1 (Nat.le_of_ble_eq_true rfl) (c24 hG hv (fun M1 hB f1 => ?_))
      refine q_iconst (x := (-1)) d25_33 rfl ?_
      refine q_iret d25_34 rfl ?_
      exact kb _ (if_neg (fun q => by omega)) hB f1
    · refine q_aload_n d25_16 rfl ?_
      refine q_getv (c := 3) (f := 2) d25_17 ⟨rfl, by decide⟩ hG.1.2.1.1 hG.2.2.2.1.2.2 ?_
      refine q_aload_n d25_20 rfl ?_
      refine q_getv (c := 3) (f := 4) d25_21 ⟨rfl, by decide⟩ hG.1.2.1.1 hG.2.2.2.1.2.1 ?_
      refine n_isub d25_24 (by omega) ?_
      refine q_iconstN (z := 1) d25_25 ?_
      refine nc_eq 35 d25_26 (by decide) (by omega) (by omega) (fun h26 => ?_) (fun h26 => ?_)
      · have hl := hv.1.2.1 (by omega)
        have hbb := (hG.2.2.1.2.2 K.1.2.1 (by omega)).2
        refine q_aload_n d25_35 rfl ?_
        refine q_getr (c := 3) (f := 0) d25_36 ⟨rfl, rfl⟩ hG.1.2.1.1 hG.1.2.1.2.1 ?_
        refine q_aload_n d25_39 rfl ?_
        refine q_getv (c := 3) (f := 4) d25_40 ⟨rfl, by decide⟩ hG.1.2.1.1 hG.2.2.2.1.2.1 ?_
        refine n_iald d25_43 hG.1.2.1.2.2 (by omega) (by decide) (hG.2.2.1.2.2 _ (by omega)).1 ?_
        refine q_bipush (x := nI 97) d25_44 rfl ?_
        refine n_isub d25_46 (by omega) ?_
        refine q_istore_n d25_47 (by decide) rfl ?_
        refine q_iload_n d25_48 rfl ?_
        refine q_s1 d25_49 (Or.inr rfl) rfl (Nat.le_of_ble_eq_true rfl) (c26t (by omega) ?_)
        refine n0_ne 61 d25_52 (by decide) (by decide) (fun _ => ?_) (fun q => absurd q (by decide))
        refine q_aload_n d25_61 rfl ?_
        refine q_v0 d25_62 rfl rfl hG.1.2.1.1 (Nat.le_of_ble_eq_true rfl) (c16 hG.1.2.1 hG.2.2.1 hG.2.2.2.1.2.2 (by omega) (fun M1 hk f1 => ?_))
        refine q_iload_n d25_65 rfl ?_
        refine q_iret d25_66 rfl ?_
        exact k _ _ _ (if_pos ⟨by omega, by omega, by omega⟩) (hG.ad hk f1) (f1.mono FK_G)
      · refine q_aload_n d25_29 rfl ?_
        refine q_v0 d25_30 rfl rfl hG.1.2.1.1 (Nat.le_of_ble_eq_true rfl) (c24 hG hv (fun M1 hB f1 => ?_))
        refine q_iconst (x := (-1)) d25_33 rfl ?_
        refine q_iret d25_34 rfl ?_
        exact kb _ (if_neg (fun q => by omega)) hB f1
  · skip
    refine q_aload_n d25_0 rfl ?_
    refine q_getv (c := 3) (f := 5) d25_1 ⟨rfl, by decide⟩ hG.1.2.1.1 hG.2.2.2.2.1 ?_
    refine q_iconst (x := (-1)) d25_4 rfl ?_
    refine ic_ne 29 d25_5 (by decide) (fun h5 => (False.elim (h5 rfl))) (fun h5 => ?_)
    refine q_aload_n d25_8 rfl ?_
    refine q_getv (c := 3) (f := 3) d25_9 ⟨rfl, by decide⟩ hG.1.2.1.1 hG.2.2.2.1.1 ?_
    refine q_iconstN (z := 1) d25_12 ?_
    refine nc_ne 29 d25_13 (by decide) (by omega) (by omega) (fun h13 => ?_) (fun h13 => ?_)
    · refine q_aload_n d25_29 rfl ?_
      refine q_v0 d25_30 rfl rfl hG.1.2.1.1 (Nat.le_of_ble_eq_true rfl) (c24 hG hv (fun M1 hB f1 => ?_))
      refine q_iconst (x := (-1)) d25_33 rfl ?_
      refine q_iret d25_34 rfl ?_
      exact kb _ (if_neg (fun q => by omega)) hB f1
    · refine q_aload_n d25_16 rfl ?_
      refine q_getv (c := 3) (f := 2) d25_17 ⟨rfl, by decide⟩ hG.1.2.1.1 hG.2.2.2.1.2.2 ?_
      refine q_aload_n d25_20 rfl ?_
      refine q_getv (c := 3) (f := 4) d25_21 ⟨rfl, by decide⟩ hG.1.2.1.1 hG.2.2.2.1.2.1 ?_
      refine n_isub d25_24 (by omega) ?_
      refine q_iconstN (z := 1) d25_25 ?_
      refine nc_eq 35 d25_26 (by decide) (by omega) (by omega) (fun h26 => ?_) (fun h26 => ?_)
      · have hl := hv.1.2.1 (by omega)
        have hbb := (hG.2.2.1.2.2 K.1.2.1 (by omega)).2
        refine q_aload_n d25_35 rfl ?_
        refine q_getr (c := 3) (f := 0) d25_36 ⟨rfl, rfl⟩ hG.1.2.1.1 hG.1.2.1.2.1 ?_
        refine q_aload_n d25_39 rfl ?_
        refine q_getv (c := 3) (f := 4) d25_40 ⟨rfl, by decide⟩ hG.1.2.1.1 hG.2.2.2.1.2.1 ?_
        refine n_iald d25_43 hG.1.2.1.2.2 (by omega) (by decide) (hG.2.2.1.2.2 _ (by omega)).1 ?_
        refine q_bipush (x := nI 97) d25_44 rfl ?_
        refine n_isub d25_46 (by omega) ?_
        refine q_istore_n d25_47 (by decide) rfl ?_
        refine q_iload_n d25_48 rfl ?_
        refine q_s1 d25_49 (Or.inr rfl) rfl (Nat.le_of_ble_eq_true rfl) (c26f (zix_no (by omega)) ?_)
        refine n0_ne 61 d25_52 (by decide) (by decide) (fun q => absurd q (by decide)) (fun _ => ?_)
        refine q_aload_n d25_55 rfl ?_
        refine q_v0 d25_56 rfl rfl hG.1.2.1.1 (Nat.le_of_ble_eq_true rfl) (c24 hG hv (fun M1 hB f1 => ?_))
        refine q_iconst (x := (-1)) d25_59 rfl ?_
        refine q_iret d25_60 rfl ?_
        exact kb _ (if_neg (fun q => by omega)) hB f1
      · refine q_aload_n d25_29 rfl ?_
        refine q_v0 d25_30 rfl rfl hG.1.2.1.1 (Nat.le_of_ble_eq_true rfl) (c24 hG hv (fun M1 hB f1 => ?_))
        refine q_iconst (x := (-1)) d25_33 rfl ?_
        refine q_iret d25_34 rfl ?_
        exact kb _ (if_neg (fun q => by omega)) hB f1
theorem c25f {d : Nat} {M : zM} {Q : Option Value → zM → Prop} {c n f : Nat} {b : Nat → Nat} (hB : BR M c n b f) (hf : f ≤ 120) (k : Q (some (.int (-1))) M) : qC (d + 3) 25 [.ref 17] M Q := by
  refine qC_of (by decide) (Nat.le_of_ble_eq_true rfl) ?_
  refine q_aload_n d25_0 rfl ?_
  refine q_getv (c := 3) (f := 5) d25_1 ⟨rfl, by decide⟩ hB.1.2.1.1 hB.2.2.2.1 ?_
  refine q_iconst (x := (-1)) d25_4 rfl ?_
  refine ic_ne 29 d25_5 (by decide) (fun h5 => ?_) (fun h5 => (False.elim (nI_m1 (by omega) h5)))
  refine q_aload_n d25_29 rfl ?_
  refine q_v0 d25_30 rfl rfl hB.1.2.1.1 (Nat.le_of_ble_eq_true rfl) (c24f hB hf ?_)
  refine q_iconst (x := (-1)) d25_33 rfl ?_
  refine q_iret d25_34 rfl ?_
  exact k
theorem d28_0 : decode (zB 28) 0 = .ok (.aload_n 0, 1) := (congrArg (fun c => decode c 0) zeq28).trans (by decide +kernel)
theorem d28_1 : decode (zB 28) 1 = .ok (.getfield 31, 3) := (congrArg (fun c => decode c 1) zeq28).trans (by decide +kernel)
theorem d28_4 : decode (zB 28) 4 = .ok (.iconst (-1), 1) := (congrArg (fun c => decode c 4) zeq28).trans (by decide +kernel)
theorem d28_5 : decode (zB 28) 5 = .ok (.if_icmp .ne 11, 3) := (congrArg (fun c => decode c 5) zeq28).trans (by decide +kernel)
theorem d28_8 : decode (zB 28) 8 = .ok (.aload_n 0, 1) := (congrArg (fun c => decode c 8) zeq28).trans (by decide +kernel)
theorem d28_9 : decode (zB 28) 9 = .ok (.getfield 41, 3) := (congrArg (fun c => decode c 9) zeq28).trans (by decide +kernel)
theorem d28_12 : decode (zB 28) 12 = .ok (.iconst 2, 1) := (congrArg (fun c => decode c 12) zeq28).trans (by decide +kernel)
theorem d28_13 : decode (zB 28) 13 = .ok (.if_icmp .eq 9, 3) := (congrArg (fun c => decode c 13) zeq28).trans (by decide +kernel)
theorem d28_16 : decode (zB 28) 16 = .ok (.aload_n 0, 1) := (congrArg (fun c => decode c 16) zeq28).trans (by decide +kernel)
theorem d28_17 : decode (zB 28) 17 = .ok (.invokevirtual 44, 3) := (congrArg (fun c => decode c 17) zeq28).trans (by decide +kernel)
theorem d28_20 : decode (zB 28) 20 = .ok (.iconst (-1), 1) := (congrArg (fun c => decode c 20) zeq28).trans (by decide +kernel)
theorem d28_21 : decode (zB 28) 21 = .ok (.ireturn, 1) := (congrArg (fun c => decode c 21) zeq28).trans (by decide +kernel)
theorem d28_22 : decode (zB 28) 22 = .ok (.iconst 0, 1) := (congrArg (fun c => decode c 22) zeq28).trans (by decide +kernel)
theorem d28_23 : decode (zB 28) 23 = .ok (.istore_n 1, 1) := (congrArg (fun c => decode c 23) zeq28).trans (by decide +kernel)
theorem d28_24 : decode (zB 28) 24 = .ok (.aload_n 0, 1) := (congrArg (fun c => decode c 24) zeq28).trans (by decide +kernel)
theorem d28_25 : decode (zB 28) 25 = .ok (.getfield 48, 3) := (congrArg (fun c => decode c 25) zeq28).trans (by decide +kernel)
theorem d28_28 : decode (zB 28) 28 = .ok (.istore_n 2, 1) := (congrArg (fun c => decode c 28) zeq28).trans (by decide +kernel)
theorem d28_29 : decode (zB 28) 29 = .ok (.iload_n 2, 1) := (congrArg (fun c => decode c 29) zeq28).trans (by decide +kernel)
theorem d28_30 : decode (zB 28) 30 = .ok (.aload_n 0, 1) := (congrArg (fun c => decode c 30) zeq28).trans (by decide +kernel)
theorem d28_31 : decode (zB 28) 31 = .ok (.getfield 28, 3) := (congrArg (fun c => decode c 31) zeq28).trans (by decide +kernel)
theorem d28_34 : decode (zB 28) 34 = .ok (.if_icmp .ge 24, 3) := (congrArg (fun c => decode c 34) zeq28).trans (by decide +kernel)
theorem d28_37 : decode (zB 28) 37 = .ok (.iload_n 1, 1) := (congrArg (fun c => decode c 37) zeq28).trans (by decide +kernel)
theorem d28_38 : decode (zB 28) 38 = .ok (.bipush 10, 2) := (congrArg (fun c => decode c 38) zeq28).trans (by decide +kernel)
theorem d28_40 : decode (zB 28) 40 = .ok (.imul, 1) := (congrArg (fun c => decode c 40) zeq28).trans (by decide +kernel)
theorem d28_41 : decode (zB 28) 41 = .ok (.aload_n 0, 1) := (congrArg (fun c => decode c 41) zeq28).trans (by decide +kernel)
theorem d28_42 : decode (zB 28) 42 = .ok (.getfield 9, 3) := (congrArg (fun c => decode c 42) zeq28).trans (by decide +kernel)
theorem d28_45 : decode (zB 28) 45 = .ok (.iload_n 2, 1) := (congrArg (fun c => decode c 45) zeq28).trans (by decide +kernel)
theorem d28_46 : decode (zB 28) 46 = .ok (.iaload, 1) := (congrArg (fun c => decode c 46) zeq28).trans (by decide +kernel)
theorem d28_47 : decode (zB 28) 47 = .ok (.iadd, 1) := (congrArg (fun c => decode c 47) zeq28).trans (by decide +kernel)
theorem d28_48 : decode (zB 28) 48 = .ok (.bipush 48, 2) := (congrArg (fun c => decode c 48) zeq28).trans (by decide +kernel)
theorem d28_50 : decode (zB 28) 50 = .ok (.isub, 1) := (congrArg (fun c => decode c 50) zeq28).trans (by decide +kernel)
theorem d28_51 : decode (zB 28) 51 = .ok (.istore_n 1, 1) := (congrArg (fun c => decode c 51) zeq28).trans (by decide +kernel)
theorem d28_52 : decode (zB 28) 52 = .ok (.iinc 2 1, 3) := (congrArg (fun c => decode c 52) zeq28).trans (by decide +kernel)
theorem d28_55 : decode (zB 28) 55 = .ok (.goto (-26), 3) := (congrArg (fun c => decode c 55) zeq28).trans (by decide +kernel)
theorem d28_58 : decode (zB 28) 58 = .ok (.aload_n 0, 1) := (congrArg (fun c => decode c 58) zeq28).trans (by decide +kernel)
theorem d28_59 : decode (zB 28) 59 = .ok (.invokevirtual 34, 3) := (congrArg (fun c => decode c 59) zeq28).trans (by decide +kernel)
theorem d28_62 : decode (zB 28) 62 = .ok (.iload_n 1, 1) := (congrArg (fun c => decode c 62) zeq28).trans (by decide +kernel)
theorem d28_63 : decode (zB 28) 63 = .ok (.ireturn, 1) := (congrArg (fun c => decode c 63) zeq28).trans (by decide +kernel)
theorem l28 {d : Nat} {M : zM} {Q : Option Value → zM → Prop} {c n : Nat} {b : Nat → Nat} {K : yQ} (hG : GR M c n b K) (hv : yQv n b K) (htk : K.1.1 = 2) (k : ∀ M', GR M' c n b (pAd n b K.1, K.2) → Fi (FG c) M M' → Q (some (.int (nI (ynd b K.1.2.1 (K.1.2.2 - K.1.2.1))))) M') : ∀ (r i : Nat) (v : Nat), i ≤ K.1.2.2 → K.1.2.2 < i + r → K.1.2.1 ≤ i → v = ynd b K.1.2.1 (i - K.1.2.1) → qW (zEv (d + 2)) 28 Q 29 [(0, .ref 17), (1, .int (nI v)), (2, .int (nI i))] [] M := by
  intro r
  induction r with
  | zero => intros; omega
  | succ r ih =>
    intro i v h1 h2 hi hvv
    have h120 := hG.2.2.1.1
    have hk1 := hv.1.1.1
    have hk2 := hv.1.1.2.1
    have hk3 := hv.1.1.2.2.1
    refine q_iload_n d28_29 rfl ?_
    refine q_aload_n d28_30 rfl ?_
    refine q_getv (c := 3) (f := 2) d28_31 ⟨rfl, by decide⟩ hG.1.2.1.1 hG.2.2.2.1.2.2 ?_
    refine nc_ge 58 d28_34 (by decide) (by omega) (by omega) (fun h34 => ?_) (fun h34 => ?_)
    · refine q_aload_n d28_58 rfl ?_
      refine q_v0 d28_59 rfl rfl hG.1.2.1.1 (Nat.le_of_ble_eq_true rfl) (c16 hG.1.2.1 hG.2.2.1 hG.2.2.2.1.2.2 (by omega) (fun M1 hk f1 => ?_))
      refine q_iload_n d28_62 rfl ?_
      refine q_iret d28_63 rfl ?_
      rw [hvv, show i = K.1.2.2 by omega]; exact k _ (hG.ad hk f1) (f1.mono FK_G)
    · have hdg := hv.1.2.2 htk
      have hd1 := hdg.2 i (by omega) (by omega)
      have hbb := (hG.2.2.1.2.2 i (by omega)).2
      refine q_iload_n d28_37 rfl ?_
      refine q_bipush (x := nI 10) d28_38 rfl ?_
      refine n_imul d28_40 ?_
      refine q_aload_n d28_41 rfl ?_
      refine q_getr (c := 3) (f := 0) d28_42 ⟨rfl, rfl⟩ hG.1.2.1.1 hG.1.2.1.2.1 ?_
      refine q_iload_n d28_45 rfl ?_
      refine n_iald d28_46 hG.1.2.1.2.2 (by omega) (by decide) (hG.2.2.1.2.2 _ (by omega)).1 ?_
      refine n_iadd d28_47 ?_
      refine q_bipush (x := nI 48) d28_48 rfl ?_
      refine n_isub d28_50 (by omega) ?_
      refine q_istore_n d28_51 (by decide) rfl ?_
      refine n_iinc 1 d28_52 (by decide) rfl rfl ?_
      refine q_goto 29 d28_55 (by decide) ?_
      refine qW_srt rfl rfl ?_
      refine ih (i + 1) _ (by omega) (by omega) (by omega) ?_
      rw [show i + 1 - K.1.2.1 = (i - K.1.2.1) + 1 by omega, ynd, show K.1.2.1 + (i - K.1.2.1) = i by omega, hvv]
theorem c28 {d : Nat} {M : zM} {Q : Option Value → zM → Prop} {c n : Nat} {b : Nat → Nat} {K : yQ} (hG : GR M c n b K) (hv : yQv n b K) (htk : K.1.1 = 2) (k : ∀ M', GR M' c n b (pAd n b K.1, K.2) → Fi (FG c) M M' → Q (some (.int (nI (ynd b K.1.2.1 (K.1.2.2 - K.1.2.1))))) M') : qC (d + 3) 28 [.ref 17] M Q := by
  have h120 := hG.2.2.1.1
  have hk1 := hv.1.1.1
  have hk2 := hv.1.1.2.1
  have hk3 := hv.1.1.2.2.1
  refine qC_of (by decide) (Nat.le_of_ble_eq_true rfl) ?_
  refine q_aload_n d28_0 rfl ?_
  refine q_getv (c := 3) (f := 5) d28_1 ⟨rfl, by decide⟩ hG.1.2.1.1 hG.2.2.2.2.1 ?_
  refine q_iconst (x := (-1)) d28_4 rfl ?_
  refine ic_ne 16 d28_5 (by decide) (fun h5 => (False.elim (h5 rfl))) (fun h5 => ?_)
  refine q_aload_n d28_8 rfl ?_
  refine q_getv (c := 3) (f := 3) d28_9 ⟨rfl, by decide⟩ hG.1.2.1.1 hG.2.2.2.1.1 ?_
  refine q_iconstN (z := 2) d28_12 ?_
  refine nc_eq 22 d28_13 (by decide) (by omega) (by omega) (fun h13 => ?_) (fun h13 => (False.elim (h13 htk)))
  refine q_iconstN (z := 0) d28_22 ?_
  refine q_istore_n d28_23 (by decide) rfl ?_
  refine q_aload_n d28_24 rfl ?_
  refine q_getv (c := 3) (f := 4) d28_25 ⟨rfl, by decide⟩ hG.1.2.1.1 hG.2.2.2.1.2.1 ?_
  refine q_istore_n d28_28 (by decide) rfl ?_
  refine qW_srt rfl rfl ?_
  exact l28 hG hv htk k (K.1.2.2 + 1) K.1.2.1 0 (by omega) (by omega) (by omega) (by rw [Nat.sub_self]; rfl)
theorem c28n {d : Nat} {M : zM} {Q : Option Value → zM → Prop} {c n : Nat} {b : Nat → Nat} {K : yQ} (hG : GR M c n b K) (hv : yQv n b K) (htk : ¬ K.1.1 = 2) (kb : ∀ M', BR M' c n b K.1.2.1 → Fi (FG c) M M' → Q (some (.int (-1))) M') : qC (d + 3) 28 [.ref 17] M Q := by
  have h120 := hG.2.2.1.1
  have hk1 := hv.1.1.1
  have hk2 := hv.1.1.2.1
  have hk3 := hv.1.1.2.2.1
  refine qC_of (by decide) (Nat.le_of_ble_eq_true rfl) ?_
  refine q_aload_n d28_0 rfl ?_
  refine q_getv (c := 3) (f := 5) d28_1 ⟨rfl, by decide⟩ hG.1.2.1.1 hG.2.2.2.2.1 ?_
  refine q_iconst (x := (-1)) d28_4 rfl ?_
  refine ic_ne 16 d28_5 (by decide) (fun h5 => (False.elim (h5 rfl))) (fun h5 => ?_)
  refine q_aload_n d28_8 rfl ?_
  refine q_getv (c := 3) (f := 3) d28_9 ⟨rfl, by decide⟩ hG.1.2.1.1 hG.2.2.2.1.1 ?_
  refine q_iconstN (z := 2) d28_12 ?_
  refine nc_eq 22 d28_13 (by decide) (by omega) (by omega) (fun h13 => (False.elim (htk h13))) (fun h13 => ?_)
  refine q_aload_n d28_16 rfl ?_
  refine q_v0 d28_17 rfl rfl hG.1.2.1.1 (Nat.le_of_ble_eq_true rfl) (c24 hG hv (fun M1 hB f1 => ?_))
  refine q_iconst (x := (-1)) d28_20 rfl ?_
  refine q_iret d28_21 rfl ?_
  exact kb _ hB f1
theorem c28f {d : Nat} {M : zM} {Q : Option Value → zM → Prop} {c n f : Nat} {b : Nat → Nat} (hB : BR M c n b f) (hf : f ≤ 120) (k : Q (some (.int (-1))) M) : qC (d + 3) 28 [.ref 17] M Q := by
  refine qC_of (by decide) (Nat.le_of_ble_eq_true rfl) ?_
  refine q_aload_n d28_0 rfl ?_
  refine q_getv (c := 3) (f := 5) d28_1 ⟨rfl, by decide⟩ hB.1.2.1.1 hB.2.2.2.1 ?_
  refine q_iconst (x := (-1)) d28_4 rfl ?_
  refine ic_ne 16 d28_5 (by decide) (fun h5 => ?_) (fun h5 => (False.elim (nI_m1 (by omega) h5)))
  refine q_aload_n d28_16 rfl ?_
  refine q_v0 d28_17 rfl rfl hB.1.2.1.1 (Nat.le_of_ble_eq_true rfl) (c24f hB hf ?_)
  refine q_iconst (x := (-1)) d28_20 rfl ?_
  refine q_iret d28_21 rfl ?_
  exact k
/-! ===== contracts: a step is read ===== -/
theorem d29_0 : decode (zB 29) 0 = .ok (.aload_n 0, 1) := (congrArg (fun c => decode c 0) zeq29).trans (by decide +kernel)
theorem d29_1 : decode (zB 29) 1 = .ok (.getfield 34, 3) := (congrArg (fun c => decode c 1) zeq29).trans (by decide +kernel)
theorem d29_4 : decode (zB 29) 4 = .ok (.bipush 12, 2) := (congrArg (fun c => decode c 4) zeq29).trans (by decide +kernel)
theorem d29_6 : decode (zB 29) 6 = .ok (.if_icmp .lt 5, 3) := (congrArg (fun c => decode c 6) zeq29).trans (by decide +kernel)
theorem d29_9 : decode (zB 29) 9 = .ok (.iconst 0, 1) := (congrArg (fun c => decode c 9) zeq29).trans (by decide +kernel)
theorem d29_10 : decode (zB 29) 10 = .ok (.ireturn, 1) := (congrArg (fun c => decode c 10) zeq29).trans (by decide +kernel)
theorem d29_11 : decode (zB 29) 11 = .ok (.aload_n 0, 1) := (congrArg (fun c => decode c 11) zeq29).trans (by decide +kernel)
theorem d29_12 : decode (zB 29) 12 = .ok (.getfield 9, 3) := (congrArg (fun c => decode c 12) zeq29).trans (by decide +kernel)
theorem d29_15 : decode (zB 29) 15 = .ok (.aload_n 0, 1) := (congrArg (fun c => decode c 15) zeq29).trans (by decide +kernel)
theorem d29_16 : decode (zB 29) 16 = .ok (.getfield 34, 3) := (congrArg (fun c => decode c 16) zeq29).trans (by decide +kernel)
theorem d29_19 : decode (zB 29) 19 = .ok (.iload_n 1, 1) := (congrArg (fun c => decode c 19) zeq29).trans (by decide +kernel)
theorem d29_20 : decode (zB 29) 20 = .ok (.iastore, 1) := (congrArg (fun c => decode c 20) zeq29).trans (by decide +kernel)
theorem d29_21 : decode (zB 29) 21 = .ok (.aload_n 0, 1) := (congrArg (fun c => decode c 21) zeq29).trans (by decide +kernel)
theorem d29_22 : decode (zB 29) 22 = .ok (.getfield 15, 3) := (congrArg (fun c => decode c 22) zeq29).trans (by decide +kernel)
theorem d29_25 : decode (zB 29) 25 = .ok (.aload_n 0, 1) := (congrArg (fun c => decode c 25) zeq29).trans (by decide +kernel)
theorem d29_26 : decode (zB 29) 26 = .ok (.getfield 34, 3) := (congrArg (fun c => decode c 26) zeq29).trans (by decide +kernel)
theorem d29_29 : decode (zB 29) 29 = .ok (.iload_n 2, 1) := (congrArg (fun c => decode c 29) zeq29).trans (by decide +kernel)
theorem d29_30 : decode (zB 29) 30 = .ok (.iastore, 1) := (congrArg (fun c => decode c 30) zeq29).trans (by decide +kernel)
theorem d29_31 : decode (zB 29) 31 = .ok (.aload_n 0, 1) := (congrArg (fun c => decode c 31) zeq29).trans (by decide +kernel)
theorem d29_32 : decode (zB 29) 32 = .ok (.getfield 18, 3) := (congrArg (fun c => decode c 32) zeq29).trans (by decide +kernel)
theorem d29_35 : decode (zB 29) 35 = .ok (.aload_n 0, 1) := (congrArg (fun c => decode c 35) zeq29).trans (by decide +kernel)
theorem d29_36 : decode (zB 29) 36 = .ok (.getfield 34, 3) := (congrArg (fun c => decode c 36) zeq29).trans (by decide +kernel)
theorem d29_39 : decode (zB 29) 39 = .ok (.iload_n 3, 1) := (congrArg (fun c => decode c 39) zeq29).trans (by decide +kernel)
theorem d29_40 : decode (zB 29) 40 = .ok (.iastore, 1) := (congrArg (fun c => decode c 40) zeq29).trans (by decide +kernel)
theorem d29_41 : decode (zB 29) 41 = .ok (.aload_n 0, 1) := (congrArg (fun c => decode c 41) zeq29).trans (by decide +kernel)
theorem d29_42 : decode (zB 29) 42 = .ok (.getfield 21, 3) := (congrArg (fun c => decode c 42) zeq29).trans (by decide +kernel)
theorem d29_45 : decode (zB 29) 45 = .ok (.aload_n 0, 1) := (congrArg (fun c => decode c 45) zeq29).trans (by decide +kernel)
theorem d29_46 : decode (zB 29) 46 = .ok (.getfield 34, 3) := (congrArg (fun c => decode c 46) zeq29).trans (by decide +kernel)
theorem d29_49 : decode (zB 29) 49 = .ok (.iload 4, 2) := (congrArg (fun c => decode c 49) zeq29).trans (by decide +kernel)
theorem d29_51 : decode (zB 29) 51 = .ok (.iastore, 1) := (congrArg (fun c => decode c 51) zeq29).trans (by decide +kernel)
theorem d29_52 : decode (zB 29) 52 = .ok (.aload_n 0, 1) := (congrArg (fun c => decode c 52) zeq29).trans (by decide +kernel)
theorem d29_53 : decode (zB 29) 53 = .ok (.getfield 24, 3) := (congrArg (fun c => decode c 53) zeq29).trans (by decide +kernel)
theorem d29_56 : decode (zB 29) 56 = .ok (.aload_n 0, 1) := (congrArg (fun c => decode c 56) zeq29).trans (by decide +kernel)
theorem d29_57 : decode (zB 29) 57 = .ok (.getfield 34, 3) := (congrArg (fun c => decode c 57) zeq29).trans (by decide +kernel)
theorem d29_60 : decode (zB 29) 60 = .ok (.iload 5, 2) := (congrArg (fun c => decode c 60) zeq29).trans (by decide +kernel)
theorem d29_62 : decode (zB 29) 62 = .ok (.iastore, 1) := (congrArg (fun c => decode c 62) zeq29).trans (by decide +kernel)
theorem d29_63 : decode (zB 29) 63 = .ok (.aload_n 0, 1) := (congrArg (fun c => decode c 63) zeq29).trans (by decide +kernel)
theorem d29_64 : decode (zB 29) 64 = .ok (.dup, 1) := (congrArg (fun c => decode c 64) zeq29).trans (by decide +kernel)
theorem d29_65 : decode (zB 29) 65 = .ok (.getfield 34, 3) := (congrArg (fun c => decode c 65) zeq29).trans (by decide +kernel)
theorem d29_68 : decode (zB 29) 68 = .ok (.iconst 1, 1) := (congrArg (fun c => decode c 68) zeq29).trans (by decide +kernel)
theorem d29_69 : decode (zB 29) 69 = .ok (.iadd, 1) := (congrArg (fun c => decode c 69) zeq29).trans (by decide +kernel)
theorem d29_70 : decode (zB 29) 70 = .ok (.putfield 34, 3) := (congrArg (fun c => decode c 70) zeq29).trans (by decide +kernel)
theorem d29_73 : decode (zB 29) 73 = .ok (.iconst 1, 1) := (congrArg (fun c => decode c 73) zeq29).trans (by decide +kernel)
theorem d29_74 : decode (zB 29) 74 = .ok (.aload_n 0, 1) := (congrArg (fun c => decode c 74) zeq29).trans (by decide +kernel)
theorem d29_75 : decode (zB 29) 75 = .ok (.getfield 34, 3) := (congrArg (fun c => decode c 75) zeq29).trans (by decide +kernel)
theorem d29_78 : decode (zB 29) 78 = .ok (.iconst 1, 1) := (congrArg (fun c => decode c 78) zeq29).trans (by decide +kernel)
theorem d29_79 : decode (zB 29) 79 = .ok (.isub, 1) := (congrArg (fun c => decode c 79) zeq29).trans (by decide +kernel)
theorem d29_80 : decode (zB 29) 80 = .ok (.ishl, 1) := (congrArg (fun c => decode c 80) zeq29).trans (by decide +kernel)
theorem d29_81 : decode (zB 29) 81 = .ok (.ireturn, 1) := (congrArg (fun c => decode c 81) zeq29).trans (by decide +kernel)
theorem c29 {d : Nat} {M : zM} {Q : Option Value → zM → Prop} {a kd ah : Nat} {T : yT} {x y z : Int32} (hp : SPr M a) (hr : RP M a T) (h12 : tn T < 12) (k : ∀ M', RP M' a (pAp T kd x y z ah) → Fi (Fb a (a + 7)) M M' → Q (some (.int (nI (2 ^ tn T)))) M') : qC (d + 1) 29 [.ref a, .int (nI kd), .int x, .int y, .int z, .int (nI ah)] M Q := by
  refine qC_of (by decide) (Nat.le_of_ble_eq_true rfl) ?_
  refine q_aload_n d29_0 rfl ?_
  refine q_getv (c := 1) (f := 6) d29_1 ⟨rfl, by decide⟩ hp.1 hr.1 ?_
  refine q_bipush (x := nI 12) d29_4 rfl ?_
  refine nc_lt 11 d29_6 (by decide) (by omega) (by omega) (fun h6 => ?_) (fun h6 => (False.elim (by omega)))
  refine q_aload_n d29_11 rfl ?_
  refine q_getr (c := 1) (f := 0) d29_12 ⟨rfl, rfl⟩ hp.1 (hp.2 0 (by decide)).1 ?_
  refine q_aload_n d29_15 rfl ?_
  refine q_getv (c := 1) (f := 6) d29_16 ⟨rfl, by decide⟩ hp.1 hr.1 ?_
  refine q_iload_n d29_19 rfl ?_
  refine n_iast d29_20 (hp.2 0 (by decide)).2 (by omega) (by decide) ?_
  refine q_aload_n d29_21 rfl ?_
  refine q_getr (c := 1) (f := 1) d29_22 ⟨rfl, rfl⟩ hp.1 (hp.2 1 (by decide)).1 ?_
  refine q_aload_n d29_25 rfl ?_
  refine q_getv (c := 1) (f := 6) d29_26 ⟨rfl, by decide⟩ hp.1 (Eq.trans (by (repeat (first | rw [wi_n (Or.inl (by omega))] | rw [wi_n (Or.inr (by omega))] | rw [wi_s] | rw [wr_i] | rw [cp_n (by omega)]))) hr.1) ?_
  refine q_iload_n d29_29 rfl ?_
  refine n_iast d29_30 (hp.2 1 (by decide)).2 (by omega) (by decide) ?_
  refine q_aload_n d29_31 rfl ?_
  refine q_getr (c := 1) (f := 2) d29_32 ⟨rfl, rfl⟩ hp.1 (hp.2 2 (by decide)).1 ?_
  refine q_aload_n d29_35 rfl ?_
  refine q_getv (c := 1) (f := 6) d29_36 ⟨rfl, by decide⟩ hp.1 (Eq.trans (by (repeat (first | rw [wi_n (Or.inl (by omega))] | rw [wi_n (Or.inr (by omega))] | rw [wi_s] | rw [wr_i] | rw [cp_n (by omega)]))) hr.1) ?_
  refine q_iload_n d29_39 rfl ?_
  refine n_iast d29_40 (hp.2 2 (by decide)).2 (by omega) (by decide) ?_
  refine q_aload_n d29_41 rfl ?_
  refine q_getr (c := 1) (f := 3) d29_42 ⟨rfl, rfl⟩ hp.1 (hp.2 3 (by decide)).1 ?_
  refine q_aload_n d29_45 rfl ?_
  refine q_getv (c := 1) (f := 6) d29_46 ⟨rfl, by decide⟩ hp.1 (Eq.trans (by (repeat (first | rw [wi_n (Or.inl (by omega))] | rw [wi_n (Or.inr (by omega))] | rw [wi_s] | rw [wr_i] | rw [cp_n (by omega)]))) hr.1) ?_
  refine q_iload d29_49 rfl ?_
  refine n_iast d29_51 (hp.2 3 (by decide)).2 (by omega) (by decide) ?_
  refine q_aload_n d29_52 rfl ?_
  refine q_getr (c := 1) (f := 4) d29_53 ⟨rfl, rfl⟩ hp.1 (hp.2 4 (by decide)).1 ?_
  refine q_aload_n d29_56 rfl ?_
  refine q_getv (c := 1) (f := 6) d29_57 ⟨rfl, by decide⟩ hp.1 (Eq.trans (by (repeat (first | rw [wi_n (Or.inl (by omega))] | rw [wi_n (Or.inr (by omega))] | rw [wi_s] | rw [wr_i] | rw [cp_n (by omega)]))) hr.1) ?_
  refine q_iload d29_60 rfl ?_
  refine n_iast d29_62 (hp.2 4 (by decide)).2 (by omega) (by decide) ?_
  refine q_aload_n d29_63 rfl ?_
  refine q_dup d29_64 rfl ?_
  refine q_getv (c := 1) (f := 6) d29_65 ⟨rfl, by decide⟩ hp.1 (Eq.trans (by (repeat (first | rw [wi_n (Or.inl (by omega))] | rw [wi_n (Or.inr (by omega))] | rw [wi_s] | rw [wr_i] | rw [cp_n (by omega)]))) hr.1) ?_
  refine q_iconstN (z := 1) d29_68 ?_
  refine n_iadd d29_69 ?_
  refine q_puti (c := 1) (f := 6) d29_70 ⟨rfl, rfl, by decide⟩ hp.1 ?_
  refine q_iconstN (z := 1) d29_73 ?_
  refine q_aload_n d29_74 rfl ?_
  refine q_getv (c := 1) (f := 6) d29_75 ⟨rfl, by decide⟩ hp.1 (wi_s _ _ _ _) ?_
  refine q_iconstN (z := 1) d29_78 ?_
  refine n_isub d29_79 (by omega) ?_
  refine n_ishl1 d29_80 (by omega) ?_
  refine q_iret d29_81 rfl ?_
  refine nK (k _ ⟨?_, ?_, fun q hq => ?_⟩ ((((((((Fi.refl (Fb a (a + 7)) _).wi ⟨by omega, by omega⟩).wi ⟨by omega, by omega⟩).wi ⟨by omega, by omega⟩).wi ⟨by omega, by omega⟩).wi ⟨by omega, by omega⟩).wi ⟨by omega, by omega⟩))) (by rw [Nat.add_sub_cancel])
  · show _ = nI (tn T + 1); (repeat (first | rw [wi_n (Or.inl (by omega))] | rw [wi_n (Or.inr (by omega))] | rw [wi_s] | rw [wr_i] | rw [cp_n (by omega)] | rw [cp_0 (by omega)]))
  · (repeat (first | rw [wi_n (Or.inl (by omega))] | rw [wi_n (Or.inr (by omega))] | rw [wi_s] | rw [wr_i] | rw [cp_n (by omega)] | rw [cp_0 (by omega)])); exact hr.2.1
  · have hq : q < tn T + 1 := hq
    show _ = nI (yu (tk T) (tn T) kd q) ∧ _ = yu (tf T) (tn T) x q ∧ _ = yu (ts T) (tn T) y q ∧ _ = yu (tu T) (tn T) z q ∧ _ = nI (yu (ta T) (tn T) ah q)
    by_cases e : q = tn T
    · subst e
      simp only [yu_s]
      refine ⟨?_, ?_, ?_, ?_, ?_⟩
      · (repeat (first | rw [wi_n (Or.inl (by omega))] | rw [wi_n (Or.inr (by omega))] | rw [wi_s] | rw [wr_i] | rw [cp_n (by omega)] | rw [cp_0 (by omega)]))
      · (repeat (first | rw [wi_n (Or.inl (by omega))] | rw [wi_n (Or.inr (by omega))] | rw [wi_s] | rw [wr_i] | rw [cp_n (by omega)] | rw [cp_0 (by omega)]))
      · (repeat (first | rw [wi_n (Or.inl (by omega))] | rw [wi_n (Or.inr (by omega))] | rw [wi_s] | rw [wr_i] | rw [cp_n (by omega)] | rw [cp_0 (by omega)]))
      · (repeat (first | rw [wi_n (Or.inl (by omega))] | rw [wi_n (Or.inr (by omega))] | rw [wi_s] | rw [wr_i] | rw [cp_n (by omega)] | rw [cp_0 (by omega)]))
      · (repeat (first | rw [wi_n (Or.inl (by omega))] | rw [wi_n (Or.inr (by omega))] | rw [wi_s] | rw [wr_i] | rw [cp_n (by omega)] | rw [cp_0 (by omega)]))
    · simp only [yu_n e]
      obtain ⟨a1, a2, a3, a4, a5⟩ := hr.2.2 q (by omega)
      refine ⟨?_, ?_, ?_, ?_, ?_⟩
      · (repeat (first | rw [wi_n (Or.inl (by omega))] | rw [wi_n (Or.inr (by omega))] | rw [wi_s] | rw [wr_i] | rw [cp_n (by omega)] | rw [cp_0 (by omega)])); exact a1
      · (repeat (first | rw [wi_n (Or.inl (by omega))] | rw [wi_n (Or.inr (by omega))] | rw [wi_s] | rw [wr_i] | rw [cp_n (by omega)] | rw [cp_0 (by omega)])); exact a2
      · (repeat (first | rw [wi_n (Or.inl (by omega))] | rw [wi_n (Or.inr (by omega))] | rw [wi_s] | rw [wr_i] | rw [cp_n (by omega)] | rw [cp_0 (by omega)])); exact a3
      · (repeat (first | rw [wi_n (Or.inl (by omega))] | rw [wi_n (Or.inr (by omega))] | rw [wi_s] | rw [wr_i] | rw [cp_n (by omega)] | rw [cp_0 (by omega)])); exact a4
      · (repeat (first | rw [wi_n (Or.inl (by omega))] | rw [wi_n (Or.inr (by omega))] | rw [wi_s] | rw [wr_i] | rw [cp_n (by omega)] | rw [cp_0 (by omega)])); exact a5
theorem SC.st {M : zM} (h : SC M) : SSt M := h.2.2.2.2.2.2.2.2.2.2.2.2
theorem c21t {d c n kd : Nat} {M : zM} {Q : Option Value → zM → Prop} {b : Nat → Nat} {K : yQ} (hG : GR M c n b K) (hv : yQv n b K) (h : ykw b K.1.2.1 K.1.2.2 = kd) (h6 : kd < 6) (k : Q (some (.int (nI kd))) M) : qC (d + 9) 21 [.ref 17] M Q := c21 hG hv (by rw [h]; unfold ykv; rw [if_pos h6]; exact k)
theorem c21n {d c n : Nat} {M : zM} {Q : Option Value → zM → Prop} {b : Nat → Nat} {K : yQ} (hG : GR M c n b K) (hv : yQv n b K) (h : ykw b K.1.2.1 K.1.2.2 = 6) (k : Q (some (.int (-1))) M) : qC (d + 9) 21 [.ref 17] M Q := c21 hG hv (by rw [h]; exact k)
theorem pAc_k {n a : Nat} {b : Nat → Nat} {k k1 : yK} (h : pAc n b k = .ok (a, k1)) : k1 = pAd n b k := by
  unfold pAc at h
  split at h
  · cases h; rfl
  · cases h
theorem pAc_f {n f : Nat} {b : Nat → Nat} {k : yK} (h : pAc n b k = .error f) : f = k.2.1 := by
  unfold pAc at h
  split at h
  · cases h
  · cases h; rfl
theorem pNu_k {n a : Nat} {b : Nat → Nat} {k k1 : yK} (h : pNu n b k = .ok (a, k1)) : k.1 = 2 ∧ a = ynd b k.2.1 (k.2.2 - k.2.1) ∧ k1 = pAd n b k := by
  unfold pNu at h
  split at h
  · rename_i q; cases h; exact ⟨q, rfl, rfl⟩
  · cases h
theorem pNu_f {n f : Nat} {b : Nat → Nat} {k : yK} (h : pNu n b k = .error f) : ¬ k.1 = 2 ∧ f = k.2.1 := by
  unfold pNu at h
  split at h
  · cases h
  · rename_i q; cases h; exact ⟨q, rfl⟩
theorem c25t {d c n a : Nat} {M : zM} {Q : Option Value → zM → Prop} {b : Nat → Nat} {K : yQ} {k1 : yK} (hG : GR M c n b K) (hv : yQv n b K) (e : pAc n b K.1 = .ok (a, k1)) (k : ∀ M', GR M' c n b (k1, K.2) → Fi (FG c) M M' → Q (some (.int (nI a))) M') : qC (d + 3) 25 [.ref 17] M Q :=
  c25 hG hv (fun a' k' M' e' g f => by rw [e] at e'; cases e'; exact k M' g f) (fun M' e' _ _ => by rw [e] at e'; cases e')
theorem c25e {d c n f : Nat} {M : zM} {Q : Option Value → zM → Prop} {b : Nat → Nat} {K : yQ} (hG : GR M c n b K) (hv : yQv n b K) (e : pAc n b K.1 = .error f) (k : ∀ M', BR M' c n b f → Fi (FG c) M M' → Q (some (.int (-1))) M') : qC (d + 3) 25 [.ref 17] M Q :=
  c25 hG hv (fun a' k' M' e' g f => by rw [e] at e'; cases e') (fun M' e' g f => by rw [pAc_f e] at k; exact k M' g f)
theorem c28t {d c n a : Nat} {M : zM} {Q : Option Value → zM → Prop} {b : Nat → Nat} {K : yQ} {k1 : yK} (hG : GR M c n b K) (hv : yQv n b K) (e : pNu n b K.1 = .ok (a, k1)) (k : ∀ M', GR M' c n b (k1, K.2) → Fi (FG c) M M' → Q (some (.int (nI a))) M') : qC (d + 3) 28 [.ref 17] M Q := by
  obtain ⟨e1, e2, e3⟩ := pNu_k e
  subst e2; subst e3
  exact c28 hG hv e1 k
theorem c28e {d c n f : Nat} {M : zM} {Q : Option Value → zM → Prop} {b : Nat → Nat} {K : yQ} (hG : GR M c n b K) (hv : yQv n b K) (e : pNu n b K.1 = .error f) (k : ∀ M', BR M' c n b f → Fi (FG c) M M' → Q (some (.int (-1))) M') : qC (d + 3) 28 [.ref 17] M Q := by
  obtain ⟨e1, e2⟩ := pNu_f e
  subst e2
  exact c28n hG hv e1 k
theorem GR.b {M : zM} {c n : Nat} {b : Nat → Nat} {K : yQ} (h : GR M c n b K) : ∀ i, i < n → b i < 256 := fun i hi => (h.2.2.1.2.2 i hi).2
theorem d20_0 : decode (zB 20) 0 = .ok (.aload_n 0, 1) := (congrArg (fun c => decode c 0) zeq20).trans (by decide +kernel)
theorem d20_1 : decode (zB 20) 1 = .ok (.invokevirtual 76, 3) := (congrArg (fun c => decode c 1) zeq20).trans (by decide +kernel)
theorem d20_4 : decode (zB 20) 4 = .ok (.istore_n 2, 1) := (congrArg (fun c => decode c 4) zeq20).trans (by decide +kernel)
theorem d20_5 : decode (zB 20) 5 = .ok (.iload_n 2, 1) := (congrArg (fun c => decode c 5) zeq20).trans (by decide +kernel)
theorem d20_6 : decode (zB 20) 6 = .ok (.iconst (-1), 1) := (congrArg (fun c => decode c 6) zeq20).trans (by decide +kernel)
theorem d20_7 : decode (zB 20) 7 = .ok (.if_icmp .eq 15, 3) := (congrArg (fun c => decode c 7) zeq20).trans (by decide +kernel)
theorem d20_10 : decode (zB 20) 10 = .ok (.aload_n 0, 1) := (congrArg (fun c => decode c 10) zeq20).trans (by decide +kernel)
theorem d20_11 : decode (zB 20) 11 = .ok (.getfield 19, 3) := (congrArg (fun c => decode c 11) zeq20).trans (by decide +kernel)
theorem d20_14 : decode (zB 20) 14 = .ok (.getfield 47, 3) := (congrArg (fun c => decode c 14) zeq20).trans (by decide +kernel)
theorem d20_17 : decode (zB 20) 17 = .ok (.bipush 12, 2) := (congrArg (fun c => decode c 17) zeq20).trans (by decide +kernel)
theorem d20_19 : decode (zB 20) 19 = .ok (.if_icmp .lt 9, 3) := (congrArg (fun c => decode c 19) zeq20).trans (by decide +kernel)
theorem d20_22 : decode (zB 20) 22 = .ok (.aload_n 0, 1) := (congrArg (fun c => decode c 22) zeq20).trans (by decide +kernel)
theorem d20_23 : decode (zB 20) 23 = .ok (.invokevirtual 44, 3) := (congrArg (fun c => decode c 23) zeq20).trans (by decide +kernel)
theorem d20_26 : decode (zB 20) 26 = .ok (.iconst 0, 1) := (congrArg (fun c => decode c 26) zeq20).trans (by decide +kernel)
theorem d20_27 : decode (zB 20) 27 = .ok (.ireturn, 1) := (congrArg (fun c => decode c 27) zeq20).trans (by decide +kernel)
theorem d20_28 : decode (zB 20) 28 = .ok (.aload_n 0, 1) := (congrArg (fun c => decode c 28) zeq20).trans (by decide +kernel)
theorem d20_29 : decode (zB 20) 29 = .ok (.invokevirtual 34, 3) := (congrArg (fun c => decode c 29) zeq20).trans (by decide +kernel)
theorem d20_32 : decode (zB 20) 32 = .ok (.getstatic 80, 3) := (congrArg (fun c => decode c 32) zeq20).trans (by decide +kernel)
theorem d20_35 : decode (zB 20) 35 = .ok (.iload_n 2, 1) := (congrArg (fun c => decode c 35) zeq20).trans (by decide +kernel)
theorem d20_36 : decode (zB 20) 36 = .ok (.iaload, 1) := (congrArg (fun c => decode c 36) zeq20).trans (by decide +kernel)
theorem d20_37 : decode (zB 20) 37 = .ok (.ifCond .le 10, 3) := (congrArg (fun c => decode c 37) zeq20).trans (by decide +kernel)
theorem d20_40 : decode (zB 20) 40 = .ok (.aload_n 0, 1) := (congrArg (fun c => decode c 40) zeq20).trans (by decide +kernel)
theorem d20_41 : decode (zB 20) 41 = .ok (.invokevirtual 83, 3) := (congrArg (fun c => decode c 41) zeq20).trans (by decide +kernel)
theorem d20_44 : decode (zB 20) 44 = .ok (.goto 4, 3) := (congrArg (fun c => decode c 44) zeq20).trans (by decide +kernel)
theorem d20_47 : decode (zB 20) 47 = .ok (.iconst (-1), 1) := (congrArg (fun c => decode c 47) zeq20).trans (by decide +kernel)
theorem d20_48 : decode (zB 20) 48 = .ok (.istore_n 3, 1) := (congrArg (fun c => decode c 48) zeq20).trans (by decide +kernel)
theorem d20_49 : decode (zB 20) 49 = .ok (.getstatic 80, 3) := (congrArg (fun c => decode c 49) zeq20).trans (by decide +kernel)
theorem d20_52 : decode (zB 20) 52 = .ok (.iload_n 2, 1) := (congrArg (fun c => decode c 52) zeq20).trans (by decide +kernel)
theorem d20_53 : decode (zB 20) 53 = .ok (.iaload, 1) := (congrArg (fun c => decode c 53) zeq20).trans (by decide +kernel)
theorem d20_54 : decode (zB 20) 54 = .ok (.iconst 1, 1) := (congrArg (fun c => decode c 54) zeq20).trans (by decide +kernel)
theorem d20_55 : decode (zB 20) 55 = .ok (.if_icmp .le 10, 3) := (congrArg (fun c => decode c 55) zeq20).trans (by decide +kernel)
theorem d20_58 : decode (zB 20) 58 = .ok (.aload_n 0, 1) := (congrArg (fun c => decode c 58) zeq20).trans (by decide +kernel)
theorem d20_59 : decode (zB 20) 59 = .ok (.invokevirtual 83, 3) := (congrArg (fun c => decode c 59) zeq20).trans (by decide +kernel)
theorem d20_62 : decode (zB 20) 62 = .ok (.goto 4, 3) := (congrArg (fun c => decode c 62) zeq20).trans (by decide +kernel)
theorem d20_65 : decode (zB 20) 65 = .ok (.iconst (-1), 1) := (congrArg (fun c => decode c 65) zeq20).trans (by decide +kernel)
theorem d20_66 : decode (zB 20) 66 = .ok (.istore 4, 2) := (congrArg (fun c => decode c 66) zeq20).trans (by decide +kernel)
theorem d20_68 : decode (zB 20) 68 = .ok (.iload_n 2, 1) := (congrArg (fun c => decode c 68) zeq20).trans (by decide +kernel)
theorem d20_69 : decode (zB 20) 69 = .ok (.invokestatic 86, 3) := (congrArg (fun c => decode c 69) zeq20).trans (by decide +kernel)
theorem d20_72 : decode (zB 20) 72 = .ok (.ifCond .eq 10, 3) := (congrArg (fun c => decode c 72) zeq20).trans (by decide +kernel)
theorem d20_75 : decode (zB 20) 75 = .ok (.aload_n 0, 1) := (congrArg (fun c => decode c 75) zeq20).trans (by decide +kernel)
theorem d20_76 : decode (zB 20) 76 = .ok (.invokevirtual 90, 3) := (congrArg (fun c => decode c 76) zeq20).trans (by decide +kernel)
theorem d20_79 : decode (zB 20) 79 = .ok (.goto 4, 3) := (congrArg (fun c => decode c 79) zeq20).trans (by decide +kernel)
theorem d20_82 : decode (zB 20) 82 = .ok (.iconst (-1), 1) := (congrArg (fun c => decode c 82) zeq20).trans (by decide +kernel)
theorem d20_83 : decode (zB 20) 83 = .ok (.istore 5, 2) := (congrArg (fun c => decode c 83) zeq20).trans (by decide +kernel)
theorem d20_85 : decode (zB 20) 85 = .ok (.aload_n 0, 1) := (congrArg (fun c => decode c 85) zeq20).trans (by decide +kernel)
theorem d20_86 : decode (zB 20) 86 = .ok (.getfield 31, 3) := (congrArg (fun c => decode c 86) zeq20).trans (by decide +kernel)
theorem d20_89 : decode (zB 20) 89 = .ok (.iconst (-1), 1) := (congrArg (fun c => decode c 89) zeq20).trans (by decide +kernel)
theorem d20_90 : decode (zB 20) 90 = .ok (.if_icmp .ne 20, 3) := (congrArg (fun c => decode c 90) zeq20).trans (by decide +kernel)
theorem d20_93 : decode (zB 20) 93 = .ok (.aload_n 0, 1) := (congrArg (fun c => decode c 93) zeq20).trans (by decide +kernel)
theorem d20_94 : decode (zB 20) 94 = .ok (.getfield 19, 3) := (congrArg (fun c => decode c 94) zeq20).trans (by decide +kernel)
theorem d20_97 : decode (zB 20) 97 = .ok (.iload_n 2, 1) := (congrArg (fun c => decode c 97) zeq20).trans (by decide +kernel)
theorem d20_98 : decode (zB 20) 98 = .ok (.iload_n 3, 1) := (congrArg (fun c => decode c 98) zeq20).trans (by decide +kernel)
theorem d20_99 : decode (zB 20) 99 = .ok (.iload 4, 2) := (congrArg (fun c => decode c 99) zeq20).trans (by decide +kernel)
theorem d20_101 : decode (zB 20) 101 = .ok (.iload 5, 2) := (congrArg (fun c => decode c 101) zeq20).trans (by decide +kernel)
theorem d20_103 : decode (zB 20) 103 = .ok (.iload_n 1, 1) := (congrArg (fun c => decode c 103) zeq20).trans (by decide +kernel)
theorem d20_104 : decode (zB 20) 104 = .ok (.invokevirtual 93, 3) := (congrArg (fun c => decode c 104) zeq20).trans (by decide +kernel)
theorem d20_107 : decode (zB 20) 107 = .ok (.goto 4, 3) := (congrArg (fun c => decode c 107) zeq20).trans (by decide +kernel)
theorem d20_110 : decode (zB 20) 110 = .ok (.iconst 0, 1) := (congrArg (fun c => decode c 110) zeq20).trans (by decide +kernel)
theorem d20_111 : decode (zB 20) 111 = .ok (.ireturn, 1) := (congrArg (fun c => decode c 111) zeq20).trans (by decide +kernel)
theorem c20 {d : Nat} {M : zM} {Q : Option Value → zM → Prop} {c n : Nat} {b : Nat → Nat} {K : yQ} {ah : Nat} (hG : GR M c n b K) (hv : yQv n b K) (k : ∀ o K1 M', pSt n b ah K = .ok (o, K1) → GR M' c n b K1 → Fi (FG c) M M' → Q (some (.int (nI o))) M') (kb : ∀ f v M', pSt n b ah K = .error f → BR M' c n b f → Fi (FG c) M M' → Q (some (.int v)) M') : qC (d + 10) 20 [.ref 17, .int (nI ah)] M Q := by
  refine qC_of (by decide) (Nat.le_of_ble_eq_true rfl) ?_
  have h120 := hG.2.2.1.1
  have hk1 := hv.1.1.1
  have hk2 := hv.1.1.2.1
  have hk3 := hv.1.1.2.2.1
  have htn := hv.2.1
  have h6 : ykw b K.1.2.1 K.1.2.2 ≤ 6 := ykr_le 6 0
  obtain ⟨kd, hkd⟩ : ∃ kd, ykw b K.1.2.1 K.1.2.2 = kd := ⟨_, rfl⟩
  rw [hkd] at h6
  rcases (show kd = 0 ∨ kd = 1 ∨ kd = 2 ∨ kd = 3 ∨ kd = 4 ∨ kd = 5 ∨ kd = 6 by omega) with rfl | rfl | rfl | rfl | rfl | rfl | rfl
  · skip
    cases eA : pAc n b (pAd n b K.1) with
    | error fA =>
      refine q_aload_n d20_0 rfl ?_
      refine q_v0 d20_1 rfl rfl hG.1.2.1.1 (Nat.le_of_ble_eq_true rfl) (c21t hG hv hkd (by decide) ?_)
      refine q_istore_n d20_4 (by decide) rfl ?_
      refine q_iload_n d20_5 rfl ?_
      refine q_iconst (x := (-1)) d20_6 rfl ?_
      refine ic_eq 22 d20_7 (by decide) (fun h7 => (False.elim (nI_m1 (by omega) h7))) (fun h7 => ?_)
      refine q_aload_n d20_10 rfl ?_
      refine q_getr (c := 3) (f := 6) d20_11 ⟨rfl, rfl⟩ hG.1.2.1.1 hG.2.2.2.2.2.1 ?_
      refine q_getv (c := 1) (f := 6) d20_14 ⟨rfl, by decide⟩ (hG.1.pr hG.2.1).1 hG.2.2.2.2.2.2.1 ?_
      refine q_bipush (x := nI 12) d20_17 rfl ?_
      refine nc_lt 28 d20_19 (by decide) (by omega) (by omega) (fun h19 => ?_) (fun h19 => ?_)
      · refine q_aload_n d20_28 rfl ?_
        refine q_v0 d20_29 rfl rfl hG.1.2.1.1 (Nat.le_of_ble_eq_true rfl) (c16 hG.1.2.1 hG.2.2.1 hG.2.2.2.1.2.2 (by omega) (fun M1 hk f1 => ?_))
        have hG1 := hG.ad hk f1
        have hv1 : yQv n b (pAd n b K.1, K.2) := ⟨(pAd_v hv.1 hG.b).1, hv.2⟩
        have hSt := hG1.1.st
        have g1 : Fi (FG c) M M1 := f1.mono FK_G
        refine q_getst d20_32 rfl ?_
        refine q_iload_n d20_35 rfl ?_
        refine n_ialds d20_36 ⟨by decide, hSt.2.1⟩ (by omega) (by decide) ((hSt.2.2.2 0).trans (by decide : zAo 0 = nI 1)) ?_
        refine n0_le 47 d20_37 (by decide) (by decide) (fun q => absurd q (by decide)) (fun _ => ?_)
        refine q_aload_n d20_40 rfl ?_
        refine q_v0 d20_41 rfl rfl hG1.1.2.1.1 (Nat.le_of_ble_eq_true rfl) (c25e hG1 hv1 eA (fun M2 hB f2 => ?_))
        have hSt := hB.1.st
        have hf : fA ≤ 120 := by rw [pAc_f eA]; exact Nat.le_trans hv1.f h120
        have g2 := g1.trans f2
        refine q_goto 48 d20_44 (by decide) ?_
        refine q_istore_n d20_48 (by decide) rfl ?_
        refine q_getst d20_49 rfl ?_
        refine q_iload_n d20_52 rfl ?_
        refine n_ialds d20_53 ⟨by decide, hSt.2.1⟩ (by omega) (by decide) ((hSt.2.2.2 0).trans (by decide : zAo 0 = nI 1)) ?_
        refine q_iconstN (z := 1) d20_54 ?_
        refine nc_le 65 d20_55 (by decide) (by decide) (by decide) (fun _ => ?_) (fun q => absurd q (by decide))
        refine q_iconst (x := (-1)) d20_65 rfl ?_
        refine q_istore d20_66 (by decide) rfl ?_
        refine q_iload_n d20_68 rfl ?_
        refine q_s1 d20_69 (Or.inr rfl) rfl (Nat.le_of_ble_eq_true rfl) (c27 (by decide) ?_)
        refine n0_eq 82 d20_72 (by decide) (by decide) (fun q => absurd q (by decide)) (fun _ => ?_)
        refine q_aload_n d20_75 rfl ?_
        refine q_v0 d20_76 rfl rfl hB.1.2.1.1 (Nat.le_of_ble_eq_true rfl) (c28f hB hf ?_)
        refine q_goto 83 d20_79 (by decide) ?_
        refine q_istore d20_83 (by decide) rfl ?_
        refine q_aload_n d20_85 rfl ?_
        refine q_getv (c := 3) (f := 5) d20_86 ⟨rfl, by decide⟩ hB.1.2.1.1 hB.2.2.2.1 ?_
        refine q_iconst (x := (-1)) d20_89 rfl ?_
        refine ic_ne 110 d20_90 (by decide) (fun h90 => ?_) (fun h90 => (False.elim (nI_m1 (by omega) h90)))
        refine q_iconstN (z := 0) d20_110 ?_
        refine q_iret d20_111 rfl ?_
        exact kb _ _ _ (by unfold pSt; simp only [hkd]; rw [if_neg (by omega)]; unfold pA1 pA2 pA3; simp [eA]) hB g2
      · refine q_aload_n d20_22 rfl ?_
        refine q_v0 d20_23 rfl rfl hG.1.2.1.1 (Nat.le_of_ble_eq_true rfl) (c24 hG hv (fun M1 hB f1 => ?_))
        refine q_iconstN (z := 0) d20_26 ?_
        refine q_iret d20_27 rfl ?_
        exact kb _ _ _ (by unfold pSt; simp only [hkd]; rw [if_pos (by omega)]) hB f1
    | ok rA =>
      obtain ⟨aA, kA⟩ := rA
      cases eN : pNu n b kA with
      | error fN =>
        refine q_aload_n d20_0 rfl ?_
        refine q_v0 d20_1 rfl rfl hG.1.2.1.1 (Nat.le_of_ble_eq_true rfl) (c21t hG hv hkd (by decide) ?_)
        refine q_istore_n d20_4 (by decide) rfl ?_
        refine q_iload_n d20_5 rfl ?_
        refine q_iconst (x := (-1)) d20_6 rfl ?_
        refine ic_eq 22 d20_7 (by decide) (fun h7 => (False.elim (nI_m1 (by omega) h7))) (fun h7 => ?_)
        refine q_aload_n d20_10 rfl ?_
        refine q_getr (c := 3) (f := 6) d20_11 ⟨rfl, rfl⟩ hG.1.2.1.1 hG.2.2.2.2.2.1 ?_
        refine q_getv (c := 1) (f := 6) d20_14 ⟨rfl, by decide⟩ (hG.1.pr hG.2.1).1 hG.2.2.2.2.2.2.1 ?_
        refine q_bipush (x := nI 12) d20_17 rfl ?_
        refine nc_lt 28 d20_19 (by decide) (by omega) (by omega) (fun h19 => ?_) (fun h19 => ?_)
        · refine q_aload_n d20_28 rfl ?_
          refine q_v0 d20_29 rfl rfl hG.1.2.1.1 (Nat.le_of_ble_eq_true rfl) (c16 hG.1.2.1 hG.2.2.1 hG.2.2.2.1.2.2 (by omega) (fun M1 hk f1 => ?_))
          have hG1 := hG.ad hk f1
          have hv1 : yQv n b (pAd n b K.1, K.2) := ⟨(pAd_v hv.1 hG.b).1, hv.2⟩
          have hSt := hG1.1.st
          have g1 : Fi (FG c) M M1 := f1.mono FK_G
          refine q_getst d20_32 rfl ?_
          refine q_iload_n d20_35 rfl ?_
          refine n_ialds d20_36 ⟨by decide, hSt.2.1⟩ (by omega) (by decide) ((hSt.2.2.2 0).trans (by decide : zAo 0 = nI 1)) ?_
          refine n0_le 47 d20_37 (by decide) (by decide) (fun q => absurd q (by decide)) (fun _ => ?_)
          refine q_aload_n d20_40 rfl ?_
          refine q_v0 d20_41 rfl rfl hG1.1.2.1.1 (Nat.le_of_ble_eq_true rfl) (c25t hG1 hv1 eA (fun M2 hG2 f2 => ?_))
          have hv2 : yQv n b (kA, K.2) := ⟨by rw [pAc_k eA]; exact (pAd_v hv1.1 hG.b).1, hv.2⟩
          have hSt := hG2.1.st
          have g2 := g1.trans f2
          refine q_goto 48 d20_44 (by decide) ?_
          refine q_istore_n d20_48 (by decide) rfl ?_
          refine q_getst d20_49 rfl ?_
          refine q_iload_n d20_52 rfl ?_
          refine n_ialds d20_53 ⟨by decide, hSt.2.1⟩ (by omega) (by decide) ((hSt.2.2.2 0).trans (by decide : zAo 0 = nI 1)) ?_
          refine q_iconstN (z := 1) d20_54 ?_
          refine nc_le 65 d20_55 (by decide) (by decide) (by decide) (fun _ => ?_) (fun q => absurd q (by decide))
          refine q_iconst (x := (-1)) d20_65 rfl ?_
          refine q_istore d20_66 (by decide) rfl ?_
          refine q_iload_n d20_68 rfl ?_
          refine q_s1 d20_69 (Or.inr rfl) rfl (Nat.le_of_ble_eq_true rfl) (c27 (by decide) ?_)
          refine n0_eq 82 d20_72 (by decide) (by decide) (fun q => absurd q (by decide)) (fun _ => ?_)
          refine q_aload_n d20_75 rfl ?_
          refine q_v0 d20_76 rfl rfl hG2.1.2.1.1 (Nat.le_of_ble_eq_true rfl) (c28e hG2 hv2 eN (fun M3 hB f3 => ?_))
          have hSt := hB.1.st
          have hf : fN ≤ 120 := by rw [(pNu_f eN).2]; exact Nat.le_trans hv2.f h120
          have g3 := g2.trans f3
          refine q_goto 83 d20_79 (by decide) ?_
          refine q_istore d20_83 (by decide) rfl ?_
          refine q_aload_n d20_85 rfl ?_
          refine q_getv (c := 3) (f := 5) d20_86 ⟨rfl, by decide⟩ hB.1.2.1.1 hB.2.2.2.1 ?_
          refine q_iconst (x := (-1)) d20_89 rfl ?_
          refine ic_ne 110 d20_90 (by decide) (fun h90 => ?_) (fun h90 => (False.elim (nI_m1 (by omega) h90)))
          refine q_iconstN (z := 0) d20_110 ?_
          refine q_iret d20_111 rfl ?_
          exact kb _ _ _ (by unfold pSt; simp only [hkd]; rw [if_neg (by omega)]; unfold pA1 pA2 pA3; simp [eA, eN]) hB g3
        · refine q_aload_n d20_22 rfl ?_
          refine q_v0 d20_23 rfl rfl hG.1.2.1.1 (Nat.le_of_ble_eq_true rfl) (c24 hG hv (fun M1 hB f1 => ?_))
          refine q_iconstN (z := 0) d20_26 ?_
          refine q_iret d20_27 rfl ?_
          exact kb _ _ _ (by unfold pSt; simp only [hkd]; rw [if_pos (by omega)]) hB f1
      | ok rN =>
        obtain ⟨aN, kN⟩ := rN
        refine q_aload_n d20_0 rfl ?_
        refine q_v0 d20_1 rfl rfl hG.1.2.1.1 (Nat.le_of_ble_eq_true rfl) (c21t hG hv hkd (by decide) ?_)
        refine q_istore_n d20_4 (by decide) rfl ?_
        refine q_iload_n d20_5 rfl ?_
        refine q_iconst (x := (-1)) d20_6 rfl ?_
        refine ic_eq 22 d20_7 (by decide) (fun h7 => (False.elim (nI_m1 (by omega) h7))) (fun h7 => ?_)
        refine q_aload_n d20_10 rfl ?_
        refine q_getr (c := 3) (f := 6) d20_11 ⟨rfl, rfl⟩ hG.1.2.1.1 hG.2.2.2.2.2.1 ?_
        refine q_getv (c := 1) (f := 6) d20_14 ⟨rfl, by decide⟩ (hG.1.pr hG.2.1).1 hG.2.2.2.2.2.2.1 ?_
        refine q_bipush (x := nI 12) d20_17 rfl ?_
        refine nc_lt 28 d20_19 (by decide) (by omega) (by omega) (fun h19 => ?_) (fun h19 => ?_)
        · refine q_aload_n d20_28 rfl ?_
          refine q_v0 d20_29 rfl rfl hG.1.2.1.1 (Nat.le_of_ble_eq_true rfl) (c16 hG.1.2.1 hG.2.2.1 hG.2.2.2.1.2.2 (by omega) (fun M1 hk f1 => ?_))
          have hG1 := hG.ad hk f1
          have hv1 : yQv n b (pAd n b K.1, K.2) := ⟨(pAd_v hv.1 hG.b).1, hv.2⟩
          have hSt := hG1.1.st
          have g1 : Fi (FG c) M M1 := f1.mono FK_G
          refine q_getst d20_32 rfl ?_
          refine q_iload_n d20_35 rfl ?_
          refine n_ialds d20_36 ⟨by decide, hSt.2.1⟩ (by omega) (by decide) ((hSt.2.2.2 0).trans (by decide : zAo 0 = nI 1)) ?_
          refine n0_le 47 d20_37 (by decide) (by decide) (fun q => absurd q (by decide)) (fun _ => ?_)
          refine q_aload_n d20_40 rfl ?_
          refine q_v0 d20_41 rfl rfl hG1.1.2.1.1 (Nat.le_of_ble_eq_true rfl) (c25t hG1 hv1 eA (fun M2 hG2 f2 => ?_))
          have hv2 : yQv n b (kA, K.2) := ⟨by rw [pAc_k eA]; exact (pAd_v hv1.1 hG.b).1, hv.2⟩
          have hSt := hG2.1.st
          have g2 := g1.trans f2
          refine q_goto 48 d20_44 (by decide) ?_
          refine q_istore_n d20_48 (by decide) rfl ?_
          refine q_getst d20_49 rfl ?_
          refine q_iload_n d20_52 rfl ?_
          refine n_ialds d20_53 ⟨by decide, hSt.2.1⟩ (by omega) (by decide) ((hSt.2.2.2 0).trans (by decide : zAo 0 = nI 1)) ?_
          refine q_iconstN (z := 1) d20_54 ?_
          refine nc_le 65 d20_55 (by decide) (by decide) (by decide) (fun _ => ?_) (fun q => absurd q (by decide))
          refine q_iconst (x := (-1)) d20_65 rfl ?_
          refine q_istore d20_66 (by decide) rfl ?_
          refine q_iload_n d20_68 rfl ?_
          refine q_s1 d20_69 (Or.inr rfl) rfl (Nat.le_of_ble_eq_true rfl) (c27 (by decide) ?_)
          refine n0_eq 82 d20_72 (by decide) (by decide) (fun q => absurd q (by decide)) (fun _ => ?_)
          refine q_aload_n d20_75 rfl ?_
          refine q_v0 d20_76 rfl rfl hG2.1.2.1.1 (Nat.le_of_ble_eq_true rfl) (c28t hG2 hv2 eN (fun M3 hG3 f3 => ?_))
          have hv3 : yQv n b (kN, K.2) := ⟨by rw [(pNu_k eN).2.2]; exact (pAd_v hv2.1 hG.b).1, hv.2⟩
          have hSt := hG3.1.st
          have g3 := g2.trans f3
          refine q_goto 83 d20_79 (by decide) ?_
          refine q_istore d20_83 (by decide) rfl ?_
          refine q_aload_n d20_85 rfl ?_
          refine q_getv (c := 3) (f := 5) d20_86 ⟨rfl, by decide⟩ hG3.1.2.1.1 hG3.2.2.2.2.1 ?_
          refine q_iconst (x := (-1)) d20_89 rfl ?_
          refine ic_ne 110 d20_90 (by decide) (fun h90 => (False.elim (h90 rfl))) (fun h90 => ?_)
          refine q_aload_n d20_93 rfl ?_
          refine q_getr (c := 3) (f := 6) d20_94 ⟨rfl, rfl⟩ hG3.1.2.1.1 hG3.2.2.2.2.2.1 ?_
          refine q_iload_n d20_97 rfl ?_
          refine q_iload_n d20_98 rfl ?_
          refine q_iload d20_99 rfl ?_
          refine q_iload d20_101 rfl ?_
          refine q_iload_n d20_103 rfl ?_
          refine q_v5 d20_104 rfl rfl (hG3.1.pr hG3.2.1).1 (Nat.le_of_ble_eq_true rfl) (c29 (hG3.1.pr hG3.2.1) hG3.2.2.2.2.2.2 h19 (fun M9 hr9 f9 => ?_))
          refine q_goto 111 d20_107 (by decide) ?_
          refine q_iret d20_111 rfl ?_
          have f9' : Fi (FG c) M3 M9 := f9.mono (fun _ _ q => Or.inr ⟨q.1, by have := q.2; omega⟩)
          have hG9 : GR M9 c n b (kN, pAp K.2 0 (nI aA) (-1) (nI aN) ah) := ⟨f9.sc hG3.1 (fun a k ha q => by have := q.1; omega), hG3.2.1, RTp_fi hG3.2.2.1 f9.fr ⟨fun q => by have := q.1; omega, fun q e => by have := e.1; omega⟩, RK_fi hG3.2.2.2.1 f9.fr ⟨fun q => by have := q.1; omega, fun q => by have := q.1; omega, fun q => by have := q.1; omega⟩, (f9.1 _ _ (fun q => by have := q.1; omega)).trans hG3.2.2.2.2.1, (f9.r _ _).trans hG3.2.2.2.2.2.1, hr9⟩
          exact k _ _ _ (by unfold pSt; simp only [hkd]; rw [if_neg (by omega)]; unfold pA1 pA2 pA3; simp [eA, eN]) hG9 (g3.trans f9')
        · refine q_aload_n d20_22 rfl ?_
          refine q_v0 d20_23 rfl rfl hG.1.2.1.1 (Nat.le_of_ble_eq_true rfl) (c24 hG hv (fun M1 hB f1 => ?_))
          refine q_iconstN (z := 0) d20_26 ?_
          refine q_iret d20_27 rfl ?_
          exact kb _ _ _ (by unfold pSt; simp only [hkd]; rw [if_pos (by omega)]) hB f1
  · skip
    cases eA : pAc n b (pAd n b K.1) with
    | error fA =>
      refine q_aload_n d20_0 rfl ?_
      refine q_v0 d20_1 rfl rfl hG.1.2.1.1 (Nat.le_of_ble_eq_true rfl) (c21t hG hv hkd (by decide) ?_)
      refine q_istore_n d20_4 (by decide) rfl ?_
      refine q_iload_n d20_5 rfl ?_
      refine q_iconst (x := (-1)) d20_6 rfl ?_
      refine ic_eq 22 d20_7 (by decide) (fun h7 => (False.elim (nI_m1 (by omega) h7))) (fun h7 => ?_)
      refine q_aload_n d20_10 rfl ?_
      refine q_getr (c := 3) (f := 6) d20_11 ⟨rfl, rfl⟩ hG.1.2.1.1 hG.2.2.2.2.2.1 ?_
      refine q_getv (c := 1) (f := 6) d20_14 ⟨rfl, by decide⟩ (hG.1.pr hG.2.1).1 hG.2.2.2.2.2.2.1 ?_
      refine q_bipush (x := nI 12) d20_17 rfl ?_
      refine nc_lt 28 d20_19 (by decide) (by omega) (by omega) (fun h19 => ?_) (fun h19 => ?_)
      · refine q_aload_n d20_28 rfl ?_
        refine q_v0 d20_29 rfl rfl hG.1.2.1.1 (Nat.le_of_ble_eq_true rfl) (c16 hG.1.2.1 hG.2.2.1 hG.2.2.2.1.2.2 (by omega) (fun M1 hk f1 => ?_))
        have hG1 := hG.ad hk f1
        have hv1 : yQv n b (pAd n b K.1, K.2) := ⟨(pAd_v hv.1 hG.b).1, hv.2⟩
        have hSt := hG1.1.st
        have g1 : Fi (FG c) M M1 := f1.mono FK_G
        refine q_getst d20_32 rfl ?_
        refine q_iload_n d20_35 rfl ?_
        refine n_ialds d20_36 ⟨by decide, hSt.2.1⟩ (by omega) (by decide) ((hSt.2.2.2 1).trans (by decide : zAo 1 = nI 1)) ?_
        refine n0_le 47 d20_37 (by decide) (by decide) (fun q => absurd q (by decide)) (fun _ => ?_)
        refine q_aload_n d20_40 rfl ?_
        refine q_v0 d20_41 rfl rfl hG1.1.2.1.1 (Nat.le_of_ble_eq_true rfl) (c25e hG1 hv1 eA (fun M2 hB f2 => ?_))
        have hSt := hB.1.st
        have hf : fA ≤ 120 := by rw [pAc_f eA]; exact Nat.le_trans hv1.f h120
        have g2 := g1.trans f2
        refine q_goto 48 d20_44 (by decide) ?_
        refine q_istore_n d20_48 (by decide) rfl ?_
        refine q_getst d20_49 rfl ?_
        refine q_iload_n d20_52 rfl ?_
        refine n_ialds d20_53 ⟨by decide, hSt.2.1⟩ (by omega) (by decide) ((hSt.2.2.2 1).trans (by decide : zAo 1 = nI 1)) ?_
        refine q_iconstN (z := 1) d20_54 ?_
        refine nc_le 65 d20_55 (by decide) (by decide) (by decide) (fun _ => ?_) (fun q => absurd q (by decide))
        refine q_iconst (x := (-1)) d20_65 rfl ?_
        refine q_istore d20_66 (by decide) rfl ?_
        refine q_iload_n d20_68 rfl ?_
        refine q_s1 d20_69 (Or.inr rfl) rfl (Nat.le_of_ble_eq_true rfl) (c27 (by decide) ?_)
        refine n0_eq 82 d20_72 (by decide) (by decide) (fun q => absurd q (by decide)) (fun _ => ?_)
        refine q_aload_n d20_75 rfl ?_
        refine q_v0 d20_76 rfl rfl hB.1.2.1.1 (Nat.le_of_ble_eq_true rfl) (c28f hB hf ?_)
        refine q_goto 83 d20_79 (by decide) ?_
        refine q_istore d20_83 (by decide) rfl ?_
        refine q_aload_n d20_85 rfl ?_
        refine q_getv (c := 3) (f := 5) d20_86 ⟨rfl, by decide⟩ hB.1.2.1.1 hB.2.2.2.1 ?_
        refine q_iconst (x := (-1)) d20_89 rfl ?_
        refine ic_ne 110 d20_90 (by decide) (fun h90 => ?_) (fun h90 => (False.elim (nI_m1 (by omega) h90)))
        refine q_iconstN (z := 0) d20_110 ?_
        refine q_iret d20_111 rfl ?_
        exact kb _ _ _ (by unfold pSt; simp only [hkd]; rw [if_neg (by omega)]; unfold pA1 pA2 pA3; simp [eA]) hB g2
      · refine q_aload_n d20_22 rfl ?_
        refine q_v0 d20_23 rfl rfl hG.1.2.1.1 (Nat.le_of_ble_eq_true rfl) (c24 hG hv (fun M1 hB f1 => ?_))
        refine q_iconstN (z := 0) d20_26 ?_
        refine q_iret d20_27 rfl ?_
        exact kb _ _ _ (by unfold pSt; simp only [hkd]; rw [if_pos (by omega)]) hB f1
    | ok rA =>
      obtain ⟨aA, kA⟩ := rA
      cases eN : pNu n b kA with
      | error fN =>
        refine q_aload_n d20_0 rfl ?_
        refine q_v0 d20_1 rfl rfl hG.1.2.1.1 (Nat.le_of_ble_eq_true rfl) (c21t hG hv hkd (by decide) ?_)
        refine q_istore_n d20_4 (by decide) rfl ?_
        refine q_iload_n d20_5 rfl ?_
        refine q_iconst (x := (-1)) d20_6 rfl ?_
        refine ic_eq 22 d20_7 (by decide) (fun h7 => (False.elim (nI_m1 (by omega) h7))) (fun h7 => ?_)
        refine q_aload_n d20_10 rfl ?_
        refine q_getr (c := 3) (f := 6) d20_11 ⟨rfl, rfl⟩ hG.1.2.1.1 hG.2.2.2.2.2.1 ?_
        refine q_getv (c := 1) (f := 6) d20_14 ⟨rfl, by decide⟩ (hG.1.pr hG.2.1).1 hG.2.2.2.2.2.2.1 ?_
        refine q_bipush (x := nI 12) d20_17 rfl ?_
        refine nc_lt 28 d20_19 (by decide) (by omega) (by omega) (fun h19 => ?_) (fun h19 => ?_)
        · refine q_aload_n d20_28 rfl ?_
          refine q_v0 d20_29 rfl rfl hG.1.2.1.1 (Nat.le_of_ble_eq_true rfl) (c16 hG.1.2.1 hG.2.2.1 hG.2.2.2.1.2.2 (by omega) (fun M1 hk f1 => ?_))
          have hG1 := hG.ad hk f1
          have hv1 : yQv n b (pAd n b K.1, K.2) := ⟨(pAd_v hv.1 hG.b).1, hv.2⟩
          have hSt := hG1.1.st
          have g1 : Fi (FG c) M M1 := f1.mono FK_G
          refine q_getst d20_32 rfl ?_
          refine q_iload_n d20_35 rfl ?_
          refine n_ialds d20_36 ⟨by decide, hSt.2.1⟩ (by omega) (by decide) ((hSt.2.2.2 1).trans (by decide : zAo 1 = nI 1)) ?_
          refine n0_le 47 d20_37 (by decide) (by decide) (fun q => absurd q (by decide)) (fun _ => ?_)
          refine q_aload_n d20_40 rfl ?_
          refine q_v0 d20_41 rfl rfl hG1.1.2.1.1 (Nat.le_of_ble_eq_true rfl) (c25t hG1 hv1 eA (fun M2 hG2 f2 => ?_))
          have hv2 : yQv n b (kA, K.2) := ⟨by rw [pAc_k eA]; exact (pAd_v hv1.1 hG.b).1, hv.2⟩
          have hSt := hG2.1.st
          have g2 := g1.trans f2
          refine q_goto 48 d20_44 (by decide) ?_
          refine q_istore_n d20_48 (by decide) rfl ?_
          refine q_getst d20_49 rfl ?_
          refine q_iload_n d20_52 rfl ?_
          refine n_ialds d20_53 ⟨by decide, hSt.2.1⟩ (by omega) (by decide) ((hSt.2.2.2 1).trans (by decide : zAo 1 = nI 1)) ?_
          refine q_iconstN (z := 1) d20_54 ?_
          refine nc_le 65 d20_55 (by decide) (by decide) (by decide) (fun _ => ?_) (fun q => absurd q (by decide))
          refine q_iconst (x := (-1)) d20_65 rfl ?_
          refine q_istore d20_66 (by decide) rfl ?_
          refine q_iload_n d20_68 rfl ?_
          refine q_s1 d20_69 (Or.inr rfl) rfl (Nat.le_of_ble_eq_true rfl) (c27 (by decide) ?_)
          refine n0_eq 82 d20_72 (by decide) (by decide) (fun q => absurd q (by decide)) (fun _ => ?_)
          refine q_aload_n d20_75 rfl ?_
          refine q_v0 d20_76 rfl rfl hG2.1.2.1.1 (Nat.le_of_ble_eq_true rfl) (c28e hG2 hv2 eN (fun M3 hB f3 => ?_))
          have hSt := hB.1.st
          have hf : fN ≤ 120 := by rw [(pNu_f eN).2]; exact Nat.le_trans hv2.f h120
          have g3 := g2.trans f3
          refine q_goto 83 d20_79 (by decide) ?_
          refine q_istore d20_83 (by decide) rfl ?_
          refine q_aload_n d20_85 rfl ?_
          refine q_getv (c := 3) (f := 5) d20_86 ⟨rfl, by decide⟩ hB.1.2.1.1 hB.2.2.2.1 ?_
          refine q_iconst (x := (-1)) d20_89 rfl ?_
          refine ic_ne 110 d20_90 (by decide) (fun h90 => ?_) (fun h90 => (False.elim (nI_m1 (by omega) h90)))
          refine q_iconstN (z := 0) d20_110 ?_
          refine q_iret d20_111 rfl ?_
          exact kb _ _ _ (by unfold pSt; simp only [hkd]; rw [if_neg (by omega)]; unfold pA1 pA2 pA3; simp [eA, eN]) hB g3
        · refine q_aload_n d20_22 rfl ?_
          refine q_v0 d20_23 rfl rfl hG.1.2.1.1 (Nat.le_of_ble_eq_true rfl) (c24 hG hv (fun M1 hB f1 => ?_))
          refine q_iconstN (z := 0) d20_26 ?_
          refine q_iret d20_27 rfl ?_
          exact kb _ _ _ (by unfold pSt; simp only [hkd]; rw [if_pos (by omega)]) hB f1
      | ok rN =>
        obtain ⟨aN, kN⟩ := rN
        refine q_aload_n d20_0 rfl ?_
        refine q_v0 d20_1 rfl rfl hG.1.2.1.1 (Nat.le_of_ble_eq_true rfl) (c21t hG hv hkd (by decide) ?_)
        refine q_istore_n d20_4 (by decide) rfl ?_
        refine q_iload_n d20_5 rfl ?_
        refine q_iconst (x := (-1)) d20_6 rfl ?_
        refine ic_eq 22 d20_7 (by decide) (fun h7 => (False.elim (nI_m1 (by omega) h7))) (fun h7 => ?_)
        refine q_aload_n d20_10 rfl ?_
        refine q_getr (c := 3) (f := 6) d20_11 ⟨rfl, rfl⟩ hG.1.2.1.1 hG.2.2.2.2.2.1 ?_
        refine q_getv (c := 1) (f := 6) d20_14 ⟨rfl, by decide⟩ (hG.1.pr hG.2.1).1 hG.2.2.2.2.2.2.1 ?_
        refine q_bipush (x := nI 12) d20_17 rfl ?_
        refine nc_lt 28 d20_19 (by decide) (by omega) (by omega) (fun h19 => ?_) (fun h19 => ?_)
        · refine q_aload_n d20_28 rfl ?_
          refine q_v0 d20_29 rfl rfl hG.1.2.1.1 (Nat.le_of_ble_eq_true rfl) (c16 hG.1.2.1 hG.2.2.1 hG.2.2.2.1.2.2 (by omega) (fun M1 hk f1 => ?_))
          have hG1 := hG.ad hk f1
          have hv1 : yQv n b (pAd n b K.1, K.2) := ⟨(pAd_v hv.1 hG.b).1, hv.2⟩
          have hSt := hG1.1.st
          have g1 : Fi (FG c) M M1 := f1.mono FK_G
          refine q_getst d20_32 rfl ?_
          refine q_iload_n d20_35 rfl ?_
          refine n_ialds d20_36 ⟨by decide, hSt.2.1⟩ (by omega) (by decide) ((hSt.2.2.2 1).trans (by decide : zAo 1 = nI 1)) ?_
          refine n0_le 47 d20_37 (by decide) (by decide) (fun q => absurd q (by decide)) (fun _ => ?_)
          refine q_aload_n d20_40 rfl ?_
          refine q_v0 d20_41 rfl rfl hG1.1.2.1.1 (Nat.le_of_ble_eq_true rfl) (c25t hG1 hv1 eA (fun M2 hG2 f2 => ?_))
          have hv2 : yQv n b (kA, K.2) := ⟨by rw [pAc_k eA]; exact (pAd_v hv1.1 hG.b).1, hv.2⟩
          have hSt := hG2.1.st
          have g2 := g1.trans f2
          refine q_goto 48 d20_44 (by decide) ?_
          refine q_istore_n d20_48 (by decide) rfl ?_
          refine q_getst d20_49 rfl ?_
          refine q_iload_n d20_52 rfl ?_
          refine n_ialds d20_53 ⟨by decide, hSt.2.1⟩ (by omega) (by decide) ((hSt.2.2.2 1).trans (by decide : zAo 1 = nI 1)) ?_
          refine q_iconstN (z := 1) d20_54 ?_
          refine nc_le 65 d20_55 (by decide) (by decide) (by decide) (fun _ => ?_) (fun q => absurd q (by decide))
          refine q_iconst (x := (-1)) d20_65 rfl ?_
          refine q_istore d20_66 (by decide) rfl ?_
          refine q_iload_n d20_68 rfl ?_
          refine q_s1 d20_69 (Or.inr rfl) rfl (Nat.le_of_ble_eq_true rfl) (c27 (by decide) ?_)
          refine n0_eq 82 d20_72 (by decide) (by decide) (fun q => absurd q (by decide)) (fun _ => ?_)
          refine q_aload_n d20_75 rfl ?_
          refine q_v0 d20_76 rfl rfl hG2.1.2.1.1 (Nat.le_of_ble_eq_true rfl) (c28t hG2 hv2 eN (fun M3 hG3 f3 => ?_))
          have hv3 : yQv n b (kN, K.2) := ⟨by rw [(pNu_k eN).2.2]; exact (pAd_v hv2.1 hG.b).1, hv.2⟩
          have hSt := hG3.1.st
          have g3 := g2.trans f3
          refine q_goto 83 d20_79 (by decide) ?_
          refine q_istore d20_83 (by decide) rfl ?_
          refine q_aload_n d20_85 rfl ?_
          refine q_getv (c := 3) (f := 5) d20_86 ⟨rfl, by decide⟩ hG3.1.2.1.1 hG3.2.2.2.2.1 ?_
          refine q_iconst (x := (-1)) d20_89 rfl ?_
          refine ic_ne 110 d20_90 (by decide) (fun h90 => (False.elim (h90 rfl))) (fun h90 => ?_)
          refine q_aload_n d20_93 rfl ?_
          refine q_getr (c := 3) (f := 6) d20_94 ⟨rfl, rfl⟩ hG3.1.2.1.1 hG3.2.2.2.2.2.1 ?_
          refine q_iload_n d20_97 rfl ?_
          refine q_iload_n d20_98 rfl ?_
          refine q_iload d20_99 rfl ?_
          refine q_iload d20_101 rfl ?_
          refine q_iload_n d20_103 rfl ?_
          refine q_v5 d20_104 rfl rfl (hG3.1.pr hG3.2.1).1 (Nat.le_of_ble_eq_true rfl) (c29 (hG3.1.pr hG3.2.1) hG3.2.2.2.2.2.2 h19 (fun M9 hr9 f9 => ?_))
          refine q_goto 111 d20_107 (by decide) ?_
          refine q_iret d20_111 rfl ?_
          have f9' : Fi (FG c) M3 M9 := f9.mono (fun _ _ q => Or.inr ⟨q.1, by have := q.2; omega⟩)
          have hG9 : GR M9 c n b (kN, pAp K.2 1 (nI aA) (-1) (nI aN) ah) := ⟨f9.sc hG3.1 (fun a k ha q => by have := q.1; omega), hG3.2.1, RTp_fi hG3.2.2.1 f9.fr ⟨fun q => by have := q.1; omega, fun q e => by have := e.1; omega⟩, RK_fi hG3.2.2.2.1 f9.fr ⟨fun q => by have := q.1; omega, fun q => by have := q.1; omega, fun q => by have := q.1; omega⟩, (f9.1 _ _ (fun q => by have := q.1; omega)).trans hG3.2.2.2.2.1, (f9.r _ _).trans hG3.2.2.2.2.2.1, hr9⟩
          exact k _ _ _ (by unfold pSt; simp only [hkd]; rw [if_neg (by omega)]; unfold pA1 pA2 pA3; simp [eA, eN]) hG9 (g3.trans f9')
        · refine q_aload_n d20_22 rfl ?_
          refine q_v0 d20_23 rfl rfl hG.1.2.1.1 (Nat.le_of_ble_eq_true rfl) (c24 hG hv (fun M1 hB f1 => ?_))
          refine q_iconstN (z := 0) d20_26 ?_
          refine q_iret d20_27 rfl ?_
          exact kb _ _ _ (by unfold pSt; simp only [hkd]; rw [if_pos (by omega)]) hB f1
  · skip
    cases eA : pAc n b (pAd n b K.1) with
    | error fA =>
      refine q_aload_n d20_0 rfl ?_
      refine q_v0 d20_1 rfl rfl hG.1.2.1.1 (Nat.le_of_ble_eq_true rfl) (c21t hG hv hkd (by decide) ?_)
      refine q_istore_n d20_4 (by decide) rfl ?_
      refine q_iload_n d20_5 rfl ?_
      refine q_iconst (x := (-1)) d20_6 rfl ?_
      refine ic_eq 22 d20_7 (by decide) (fun h7 => (False.elim (nI_m1 (by omega) h7))) (fun h7 => ?_)
      refine q_aload_n d20_10 rfl ?_
      refine q_getr (c := 3) (f := 6) d20_11 ⟨rfl, rfl⟩ hG.1.2.1.1 hG.2.2.2.2.2.1 ?_
      refine q_getv (c := 1) (f := 6) d20_14 ⟨rfl, by decide⟩ (hG.1.pr hG.2.1).1 hG.2.2.2.2.2.2.1 ?_
      refine q_bipush (x := nI 12) d20_17 rfl ?_
      refine nc_lt 28 d20_19 (by decide) (by omega) (by omega) (fun h19 => ?_) (fun h19 => ?_)
      · refine q_aload_n d20_28 rfl ?_
        refine q_v0 d20_29 rfl rfl hG.1.2.1.1 (Nat.le_of_ble_eq_true rfl) (c16 hG.1.2.1 hG.2.2.1 hG.2.2.2.1.2.2 (by omega) (fun M1 hk f1 => ?_))
        have hG1 := hG.ad hk f1
        have hv1 : yQv n b (pAd n b K.1, K.2) := ⟨(pAd_v hv.1 hG.b).1, hv.2⟩
        have hSt := hG1.1.st
        have g1 : Fi (FG c) M M1 := f1.mono FK_G
        refine q_getst d20_32 rfl ?_
        refine q_iload_n d20_35 rfl ?_
        refine n_ialds d20_36 ⟨by decide, hSt.2.1⟩ (by omega) (by decide) ((hSt.2.2.2 2).trans (by decide : zAo 2 = nI 2)) ?_
        refine n0_le 47 d20_37 (by decide) (by decide) (fun q => absurd q (by decide)) (fun _ => ?_)
        refine q_aload_n d20_40 rfl ?_
        refine q_v0 d20_41 rfl rfl hG1.1.2.1.1 (Nat.le_of_ble_eq_true rfl) (c25e hG1 hv1 eA (fun M2 hB f2 => ?_))
        have hSt := hB.1.st
        have hf : fA ≤ 120 := by rw [pAc_f eA]; exact Nat.le_trans hv1.f h120
        have g2 := g1.trans f2
        refine q_goto 48 d20_44 (by decide) ?_
        refine q_istore_n d20_48 (by decide) rfl ?_
        refine q_getst d20_49 rfl ?_
        refine q_iload_n d20_52 rfl ?_
        refine n_ialds d20_53 ⟨by decide, hSt.2.1⟩ (by omega) (by decide) ((hSt.2.2.2 2).trans (by decide : zAo 2 = nI 2)) ?_
        refine q_iconstN (z := 1) d20_54 ?_
        refine nc_le 65 d20_55 (by decide) (by decide) (by decide) (fun q => absurd q (by decide)) (fun _ => ?_)
        refine q_aload_n d20_58 rfl ?_
        refine q_v0 d20_59 rfl rfl hB.1.2.1.1 (Nat.le_of_ble_eq_true rfl) (c25f hB hf ?_)
        refine q_goto 66 d20_62 (by decide) ?_
        refine q_istore d20_66 (by decide) rfl ?_
        refine q_iload_n d20_68 rfl ?_
        refine q_s1 d20_69 (Or.inr rfl) rfl (Nat.le_of_ble_eq_true rfl) (c27 (by decide) ?_)
        refine n0_eq 82 d20_72 (by decide) (by decide) (fun q => absurd q (by decide)) (fun _ => ?_)
        refine q_aload_n d20_75 rfl ?_
        refine q_v0 d20_76 rfl rfl hB.1.2.1.1 (Nat.le_of_ble_eq_true rfl) (c28f hB hf ?_)
        refine q_goto 83 d20_79 (by decide) ?_
        refine q_istore d20_83 (by decide) rfl ?_
        refine q_aload_n d20_85 rfl ?_
        refine q_getv (c := 3) (f := 5) d20_86 ⟨rfl, by decide⟩ hB.1.2.1.1 hB.2.2.2.1 ?_
        refine q_iconst (x := (-1)) d20_89 rfl ?_
        refine ic_ne 110 d20_90 (by decide) (fun h90 => ?_) (fun h90 => (False.elim (nI_m1 (by omega) h90)))
        refine q_iconstN (z := 0) d20_110 ?_
        refine q_iret d20_111 rfl ?_
        exact kb _ _ _ (by unfold pSt; simp only [hkd]; rw [if_neg (by omega)]; unfold pA1 pA2 pA3; simp [eA]) hB g2
      · refine q_aload_n d20_22 rfl ?_
        refine q_v0 d20_23 rfl rfl hG.1.2.1.1 (Nat.le_of_ble_eq_true rfl) (c24 hG hv (fun M1 hB f1 => ?_))
        refine q_iconstN (z := 0) d20_26 ?_
        refine q_iret d20_27 rfl ?_
        exact kb _ _ _ (by unfold pSt; simp only [hkd]; rw [if_pos (by omega)]) hB f1
    | ok rA =>
      obtain ⟨aA, kA⟩ := rA
      cases eB : pAc n b kA with
      | error fB =>
        refine q_aload_n d20_0 rfl ?_
        refine q_v0 d20_1 rfl rfl hG.1.2.1.1 (Nat.le_of_ble_eq_true rfl) (c21t hG hv hkd (by decide) ?_)
        refine q_istore_n d20_4 (by decide) rfl ?_
        refine q_iload_n d20_5 rfl ?_
        refine q_iconst (x := (-1)) d20_6 rfl ?_
        refine ic_eq 22 d20_7 (by decide) (fun h7 => (False.elim (nI_m1 (by omega) h7))) (fun h7 => ?_)
        refine q_aload_n d20_10 rfl ?_
        refine q_getr (c := 3) (f := 6) d20_11 ⟨rfl, rfl⟩ hG.1.2.1.1 hG.2.2.2.2.2.1 ?_
        refine q_getv (c := 1) (f := 6) d20_14 ⟨rfl, by decide⟩ (hG.1.pr hG.2.1).1 hG.2.2.2.2.2.2.1 ?_
        refine q_bipush (x := nI 12) d20_17 rfl ?_
        refine nc_lt 28 d20_19 (by decide) (by omega) (by omega) (fun h19 => ?_) (fun h19 => ?_)
        · refine q_aload_n d20_28 rfl ?_
          refine q_v0 d20_29 rfl rfl hG.1.2.1.1 (Nat.le_of_ble_eq_true rfl) (c16 hG.1.2.1 hG.2.2.1 hG.2.2.2.1.2.2 (by omega) (fun M1 hk f1 => ?_))
          have hG1 := hG.ad hk f1
          have hv1 : yQv n b (pAd n b K.1, K.2) := ⟨(pAd_v hv.1 hG.b).1, hv.2⟩
          have hSt := hG1.1.st
          have g1 : Fi (FG c) M M1 := f1.mono FK_G
          refine q_getst d20_32 rfl ?_
          refine q_iload_n d20_35 rfl ?_
          refine n_ialds d20_36 ⟨by decide, hSt.2.1⟩ (by omega) (by decide) ((hSt.2.2.2 2).trans (by decide : zAo 2 = nI 2)) ?_
          refine n0_le 47 d20_37 (by decide) (by decide) (fun q => absurd q (by decide)) (fun _ => ?_)
          refine q_aload_n d20_40 rfl ?_
          refine q_v0 d20_41 rfl rfl hG1.1.2.1.1 (Nat.le_of_ble_eq_true rfl) (c25t hG1 hv1 eA (fun M2 hG2 f2 => ?_))
          have hv2 : yQv n b (kA, K.2) := ⟨by rw [pAc_k eA]; exact (pAd_v hv1.1 hG.b).1, hv.2⟩
          have hSt := hG2.1.st
          have g2 := g1.trans f2
          refine q_goto 48 d20_44 (by decide) ?_
          refine q_istore_n d20_48 (by decide) rfl ?_
          refine q_getst d20_49 rfl ?_
          refine q_iload_n d20_52 rfl ?_
          refine n_ialds d20_53 ⟨by decide, hSt.2.1⟩ (by omega) (by decide) ((hSt.2.2.2 2).trans (by decide : zAo 2 = nI 2)) ?_
          refine q_iconstN (z := 1) d20_54 ?_
          refine nc_le 65 d20_55 (by decide) (by decide) (by decide) (fun q => absurd q (by decide)) (fun _ => ?_)
          refine q_aload_n d20_58 rfl ?_
          refine q_v0 d20_59 rfl rfl hG2.1.2.1.1 (Nat.le_of_ble_eq_true rfl) (c25e hG2 hv2 eB (fun M3 hB f3 => ?_))
          have hSt := hB.1.st
          have hf : fB ≤ 120 := by rw [pAc_f eB]; exact Nat.le_trans hv2.f h120
          have g3 := g2.trans f3
          refine q_goto 66 d20_62 (by decide) ?_
          refine q_istore d20_66 (by decide) rfl ?_
          refine q_iload_n d20_68 rfl ?_
          refine q_s1 d20_69 (Or.inr rfl) rfl (Nat.le_of_ble_eq_true rfl) (c27 (by decide) ?_)
          refine n0_eq 82 d20_72 (by decide) (by decide) (fun q => absurd q (by decide)) (fun _ => ?_)
          refine q_aload_n d20_75 rfl ?_
          refine q_v0 d20_76 rfl rfl hB.1.2.1.1 (Nat.le_of_ble_eq_true rfl) (c28f hB hf ?_)
          refine q_goto 83 d20_79 (by decide) ?_
          refine q_istore d20_83 (by decide) rfl ?_
          refine q_aload_n d20_85 rfl ?_
          refine q_getv (c := 3) (f := 5) d20_86 ⟨rfl, by decide⟩ hB.1.2.1.1 hB.2.2.2.1 ?_
          refine q_iconst (x := (-1)) d20_89 rfl ?_
          refine ic_ne 110 d20_90 (by decide) (fun h90 => ?_) (fun h90 => (False.elim (nI_m1 (by omega) h90)))
          refine q_iconstN (z := 0) d20_110 ?_
          refine q_iret d20_111 rfl ?_
          exact kb _ _ _ (by unfold pSt; simp only [hkd]; rw [if_neg (by omega)]; unfold pA1 pA2 pA3; simp [eA, eB]) hB g3
        · refine q_aload_n d20_22 rfl ?_
          refine q_v0 d20_23 rfl rfl hG.1.2.1.1 (Nat.le_of_ble_eq_true rfl) (c24 hG hv (fun M1 hB f1 => ?_))
          refine q_iconstN (z := 0) d20_26 ?_
          refine q_iret d20_27 rfl ?_
          exact kb _ _ _ (by unfold pSt; simp only [hkd]; rw [if_pos (by omega)]) hB f1
      | ok rB =>
        obtain ⟨aB, kB⟩ := rB
        cases eN : pNu n b kB with
        | error fN =>
          refine q_aload_n d20_0 rfl ?_
          refine q_v0 d20_1 rfl rfl hG.1.2.1.1 (Nat.le_of_ble_eq_true rfl) (c21t hG hv hkd (by decide) ?_)
          refine q_istore_n d20_4 (by decide) rfl ?_
          refine q_iload_n d20_5 rfl ?_
          refine q_iconst (x := (-1)) d20_6 rfl ?_
          refine ic_eq 22 d20_7 (by decide) (fun h7 => (False.elim (nI_m1 (by omega) h7))) (fun h7 => ?_)
          refine q_aload_n d20_10 rfl ?_
          refine q_getr (c := 3) (f := 6) d20_11 ⟨rfl, rfl⟩ hG.1.2.1.1 hG.2.2.2.2.2.1 ?_
          refine q_getv (c := 1) (f := 6) d20_14 ⟨rfl, by decide⟩ (hG.1.pr hG.2.1).1 hG.2.2.2.2.2.2.1 ?_
          refine q_bipush (x := nI 12) d20_17 rfl ?_
          refine nc_lt 28 d20_19 (by decide) (by omega) (by omega) (fun h19 => ?_) (fun h19 => ?_)
          · refine q_aload_n d20_28 rfl ?_
            refine q_v0 d20_29 rfl rfl hG.1.2.1.1 (Nat.le_of_ble_eq_true rfl) (c16 hG.1.2.1 hG.2.2.1 hG.2.2.2.1.2.2 (by omega) (fun M1 hk f1 => ?_))
            have hG1 := hG.ad hk f1
            have hv1 : yQv n b (pAd n b K.1, K.2) := ⟨(pAd_v hv.1 hG.b).1, hv.2⟩
            have hSt := hG1.1.st
            have g1 : Fi (FG c) M M1 := f1.mono FK_G
            refine q_getst d20_32 rfl ?_
            refine q_iload_n d20_35 rfl ?_
            refine n_ialds d20_36 ⟨by decide, hSt.2.1⟩ (by omega) (by decide) ((hSt.2.2.2 2).trans (by decide : zAo 2 = nI 2)) ?_
            refine n0_le 47 d20_37 (by decide) (by decide) (fun q => absurd q (by decide)) (fun _ => ?_)
            refine q_aload_n d20_40 rfl ?_
            refine q_v0 d20_41 rfl rfl hG1.1.2.1.1 (Nat.le_of_ble_eq_true rfl) (c25t hG1 hv1 eA (fun M2 hG2 f2 => ?_))
            have hv2 : yQv n b (kA, K.2) := ⟨by rw [pAc_k eA]; exact (pAd_v hv1.1 hG.b).1, hv.2⟩
            have hSt := hG2.1.st
            have g2 := g1.trans f2
            refine q_goto 48 d20_44 (by decide) ?_
            refine q_istore_n d20_48 (by decide) rfl ?_
            refine q_getst d20_49 rfl ?_
            refine q_iload_n d20_52 rfl ?_
            refine n_ialds d20_53 ⟨by decide, hSt.2.1⟩ (by omega) (by decide) ((hSt.2.2.2 2).trans (by decide : zAo 2 = nI 2)) ?_
            refine q_iconstN (z := 1) d20_54 ?_
            refine nc_le 65 d20_55 (by decide) (by decide) (by decide) (fun q => absurd q (by decide)) (fun _ => ?_)
            refine q_aload_n d20_58 rfl ?_
            refine q_v0 d20_59 rfl rfl hG2.1.2.1.1 (Nat.le_of_ble_eq_true rfl) (c25t hG2 hv2 eB (fun M3 hG3 f3 => ?_))
            have hv3 : yQv n b (kB, K.2) := ⟨by rw [pAc_k eB]; exact (pAd_v hv2.1 hG.b).1, hv.2⟩
            have hSt := hG3.1.st
            have g3 := g2.trans f3
            refine q_goto 66 d20_62 (by decide) ?_
            refine q_istore d20_66 (by decide) rfl ?_
            refine q_iload_n d20_68 rfl ?_
            refine q_s1 d20_69 (Or.inr rfl) rfl (Nat.le_of_ble_eq_true rfl) (c27 (by decide) ?_)
            refine n0_eq 82 d20_72 (by decide) (by decide) (fun q => absurd q (by decide)) (fun _ => ?_)
            refine q_aload_n d20_75 rfl ?_
            refine q_v0 d20_76 rfl rfl hG3.1.2.1.1 (Nat.le_of_ble_eq_true rfl) (c28e hG3 hv3 eN (fun M4 hB f4 => ?_))
            have hSt := hB.1.st
            have hf : fN ≤ 120 := by rw [(pNu_f eN).2]; exact Nat.le_trans hv3.f h120
            have g4 := g3.trans f4
            refine q_goto 83 d20_79 (by decide) ?_
            refine q_istore d20_83 (by decide) rfl ?_
            refine q_aload_n d20_85 rfl ?_
            refine q_getv (c := 3) (f := 5) d20_86 ⟨rfl, by decide⟩ hB.1.2.1.1 hB.2.2.2.1 ?_
            refine q_iconst (x := (-1)) d20_89 rfl ?_
            refine ic_ne 110 d20_90 (by decide) (fun h90 => ?_) (fun h90 => (False.elim (nI_m1 (by omega) h90)))
            refine q_iconstN (z := 0) d20_110 ?_
            refine q_iret d20_111 rfl ?_
            exact kb _ _ _ (by unfold pSt; simp only [hkd]; rw [if_neg (by omega)]; unfold pA1 pA2 pA3; simp [eA, eB, eN]) hB g4
          · refine q_aload_n d20_22 rfl ?_
            refine q_v0 d20_23 rfl rfl hG.1.2.1.1 (Nat.le_of_ble_eq_true rfl) (c24 hG hv (fun M1 hB f1 => ?_))
            refine q_iconstN (z := 0) d20_26 ?_
            refine q_iret d20_27 rfl ?_
            exact kb _ _ _ (by unfold pSt; simp only [hkd]; rw [if_pos (by omega)]) hB f1
        | ok rN =>
          obtain ⟨aN, kN⟩ := rN
          refine q_aload_n d20_0 rfl ?_
          refine q_v0 d20_1 rfl rfl hG.1.2.1.1 (Nat.le_of_ble_eq_true rfl) (c21t hG hv hkd (by decide) ?_)
          refine q_istore_n d20_4 (by decide) rfl ?_
          refine q_iload_n d20_5 rfl ?_
          refine q_iconst (x := (-1)) d20_6 rfl ?_
          refine ic_eq 22 d20_7 (by decide) (fun h7 => (False.elim (nI_m1 (by omega) h7))) (fun h7 => ?_)
          refine q_aload_n d20_10 rfl ?_
          refine q_getr (c := 3) (f := 6) d20_11 ⟨rfl, rfl⟩ hG.1.2.1.1 hG.2.2.2.2.2.1 ?_
          refine q_getv (c := 1) (f := 6) d20_14 ⟨rfl, by decide⟩ (hG.1.pr hG.2.1).1 hG.2.2.2.2.2.2.1 ?_
          refine q_bipush (x := nI 12) d20_17 rfl ?_
          refine nc_lt 28 d20_19 (by decide) (by omega) (by omega) (fun h19 => ?_) (fun h19 => ?_)
          · refine q_aload_n d20_28 rfl ?_
            refine q_v0 d20_29 rfl rfl hG.1.2.1.1 (Nat.le_of_ble_eq_true rfl) (c16 hG.1.2.1 hG.2.2.1 hG.2.2.2.1.2.2 (by omega) (fun M1 hk f1 => ?_))
            have hG1 := hG.ad hk f1
            have hv1 : yQv n b (pAd n b K.1, K.2) := ⟨(pAd_v hv.1 hG.b).1, hv.2⟩
            have hSt := hG1.1.st
            have g1 : Fi (FG c) M M1 := f1.mono FK_G
            refine q_getst d20_32 rfl ?_
            refine q_iload_n d20_35 rfl ?_
            refine n_ialds d20_36 ⟨by decide, hSt.2.1⟩ (by omega) (by decide) ((hSt.2.2.2 2).trans (by decide : zAo 2 = nI 2)) ?_
            refine n0_le 47 d20_37 (by decide) (by decide) (fun q => absurd q (by decide)) (fun _ => ?_)
            refine q_aload_n d20_40 rfl ?_
            refine q_v0 d20_41 rfl rfl hG1.1.2.1.1 (Nat.le_of_ble_eq_true rfl) (c25t hG1 hv1 eA (fun M2 hG2 f2 => ?_))
            have hv2 : yQv n b (kA, K.2) := ⟨by rw [pAc_k eA]; exact (pAd_v hv1.1 hG.b).1, hv.2⟩
            have hSt := hG2.1.st
            have g2 := g1.trans f2
            refine q_goto 48 d20_44 (by decide) ?_
            refine q_istore_n d20_48 (by decide) rfl ?_
            refine q_getst d20_49 rfl ?_
            refine q_iload_n d20_52 rfl ?_
            refine n_ialds d20_53 ⟨by decide, hSt.2.1⟩ (by omega) (by decide) ((hSt.2.2.2 2).trans (by decide : zAo 2 = nI 2)) ?_
            refine q_iconstN (z := 1) d20_54 ?_
            refine nc_le 65 d20_55 (by decide) (by decide) (by decide) (fun q => absurd q (by decide)) (fun _ => ?_)
            refine q_aload_n d20_58 rfl ?_
            refine q_v0 d20_59 rfl rfl hG2.1.2.1.1 (Nat.le_of_ble_eq_true rfl) (c25t hG2 hv2 eB (fun M3 hG3 f3 => ?_))
            have hv3 : yQv n b (kB, K.2) := ⟨by rw [pAc_k eB]; exact (pAd_v hv2.1 hG.b).1, hv.2⟩
            have hSt := hG3.1.st
            have g3 := g2.trans f3
            refine q_goto 66 d20_62 (by decide) ?_
            refine q_istore d20_66 (by decide) rfl ?_
            refine q_iload_n d20_68 rfl ?_
            refine q_s1 d20_69 (Or.inr rfl) rfl (Nat.le_of_ble_eq_true rfl) (c27 (by decide) ?_)
            refine n0_eq 82 d20_72 (by decide) (by decide) (fun q => absurd q (by decide)) (fun _ => ?_)
            refine q_aload_n d20_75 rfl ?_
            refine q_v0 d20_76 rfl rfl hG3.1.2.1.1 (Nat.le_of_ble_eq_true rfl) (c28t hG3 hv3 eN (fun M4 hG4 f4 => ?_))
            have hv4 : yQv n b (kN, K.2) := ⟨by rw [(pNu_k eN).2.2]; exact (pAd_v hv3.1 hG.b).1, hv.2⟩
            have hSt := hG4.1.st
            have g4 := g3.trans f4
            refine q_goto 83 d20_79 (by decide) ?_
            refine q_istore d20_83 (by decide) rfl ?_
            refine q_aload_n d20_85 rfl ?_
            refine q_getv (c := 3) (f := 5) d20_86 ⟨rfl, by decide⟩ hG4.1.2.1.1 hG4.2.2.2.2.1 ?_
            refine q_iconst (x := (-1)) d20_89 rfl ?_
            refine ic_ne 110 d20_90 (by decide) (fun h90 => (False.elim (h90 rfl))) (fun h90 => ?_)
            refine q_aload_n d20_93 rfl ?_
            refine q_getr (c := 3) (f := 6) d20_94 ⟨rfl, rfl⟩ hG4.1.2.1.1 hG4.2.2.2.2.2.1 ?_
            refine q_iload_n d20_97 rfl ?_
            refine q_iload_n d20_98 rfl ?_
            refine q_iload d20_99 rfl ?_
            refine q_iload d20_101 rfl ?_
            refine q_iload_n d20_103 rfl ?_
            refine q_v5 d20_104 rfl rfl (hG4.1.pr hG4.2.1).1 (Nat.le_of_ble_eq_true rfl) (c29 (hG4.1.pr hG4.2.1) hG4.2.2.2.2.2.2 h19 (fun M9 hr9 f9 => ?_))
            refine q_goto 111 d20_107 (by decide) ?_
            refine q_iret d20_111 rfl ?_
            have f9' : Fi (FG c) M4 M9 := f9.mono (fun _ _ q => Or.inr ⟨q.1, by have := q.2; omega⟩)
            have hG9 : GR M9 c n b (kN, pAp K.2 2 (nI aA) (nI aB) (nI aN) ah) := ⟨f9.sc hG4.1 (fun a k ha q => by have := q.1; omega), hG4.2.1, RTp_fi hG4.2.2.1 f9.fr ⟨fun q => by have := q.1; omega, fun q e => by have := e.1; omega⟩, RK_fi hG4.2.2.2.1 f9.fr ⟨fun q => by have := q.1; omega, fun q => by have := q.1; omega, fun q => by have := q.1; omega⟩, (f9.1 _ _ (fun q => by have := q.1; omega)).trans hG4.2.2.2.2.1, (f9.r _ _).trans hG4.2.2.2.2.2.1, hr9⟩
            exact k _ _ _ (by unfold pSt; simp only [hkd]; rw [if_neg (by omega)]; unfold pA1 pA2 pA3; simp [eA, eB, eN]) hG9 (g4.trans f9')
          · refine q_aload_n d20_22 rfl ?_
            refine q_v0 d20_23 rfl rfl hG.1.2.1.1 (Nat.le_of_ble_eq_true rfl) (c24 hG hv (fun M1 hB f1 => ?_))
            refine q_iconstN (z := 0) d20_26 ?_
            refine q_iret d20_27 rfl ?_
            exact kb _ _ _ (by unfold pSt; simp only [hkd]; rw [if_pos (by omega)]) hB f1
  · skip
    cases eA : pAc n b (pAd n b K.1) with
    | error fA =>
      refine q_aload_n d20_0 rfl ?_
      refine q_v0 d20_1 rfl rfl hG.1.2.1.1 (Nat.le_of_ble_eq_true rfl) (c21t hG hv hkd (by decide) ?_)
      refine q_istore_n d20_4 (by decide) rfl ?_
      refine q_iload_n d20_5 rfl ?_
      refine q_iconst (x := (-1)) d20_6 rfl ?_
      refine ic_eq 22 d20_7 (by decide) (fun h7 => (False.elim (nI_m1 (by omega) h7))) (fun h7 => ?_)
      refine q_aload_n d20_10 rfl ?_
      refine q_getr (c := 3) (f := 6) d20_11 ⟨rfl, rfl⟩ hG.1.2.1.1 hG.2.2.2.2.2.1 ?_
      refine q_getv (c := 1) (f := 6) d20_14 ⟨rfl, by decide⟩ (hG.1.pr hG.2.1).1 hG.2.2.2.2.2.2.1 ?_
      refine q_bipush (x := nI 12) d20_17 rfl ?_
      refine nc_lt 28 d20_19 (by decide) (by omega) (by omega) (fun h19 => ?_) (fun h19 => ?_)
      · refine q_aload_n d20_28 rfl ?_
        refine q_v0 d20_29 rfl rfl hG.1.2.1.1 (Nat.le_of_ble_eq_true rfl) (c16 hG.1.2.1 hG.2.2.1 hG.2.2.2.1.2.2 (by omega) (fun M1 hk f1 => ?_))
        have hG1 := hG.ad hk f1
        have hv1 : yQv n b (pAd n b K.1, K.2) := ⟨(pAd_v hv.1 hG.b).1, hv.2⟩
        have hSt := hG1.1.st
        have g1 : Fi (FG c) M M1 := f1.mono FK_G
        refine q_getst d20_32 rfl ?_
        refine q_iload_n d20_35 rfl ?_
        refine n_ialds d20_36 ⟨by decide, hSt.2.1⟩ (by omega) (by decide) ((hSt.2.2.2 3).trans (by decide : zAo 3 = nI 1)) ?_
        refine n0_le 47 d20_37 (by decide) (by decide) (fun q => absurd q (by decide)) (fun _ => ?_)
        refine q_aload_n d20_40 rfl ?_
        refine q_v0 d20_41 rfl rfl hG1.1.2.1.1 (Nat.le_of_ble_eq_true rfl) (c25e hG1 hv1 eA (fun M2 hB f2 => ?_))
        have hSt := hB.1.st
        have hf : fA ≤ 120 := by rw [pAc_f eA]; exact Nat.le_trans hv1.f h120
        have g2 := g1.trans f2
        refine q_goto 48 d20_44 (by decide) ?_
        refine q_istore_n d20_48 (by decide) rfl ?_
        refine q_getst d20_49 rfl ?_
        refine q_iload_n d20_52 rfl ?_
        refine n_ialds d20_53 ⟨by decide, hSt.2.1⟩ (by omega) (by decide) ((hSt.2.2.2 3).trans (by decide : zAo 3 = nI 1)) ?_
        refine q_iconstN (z := 1) d20_54 ?_
        refine nc_le 65 d20_55 (by decide) (by decide) (by decide) (fun _ => ?_) (fun q => absurd q (by decide))
        refine q_iconst (x := (-1)) d20_65 rfl ?_
        refine q_istore d20_66 (by decide) rfl ?_
        refine q_iload_n d20_68 rfl ?_
        refine q_s1 d20_69 (Or.inr rfl) rfl (Nat.le_of_ble_eq_true rfl) (c27 (by decide) ?_)
        refine n0_eq 82 d20_72 (by decide) (by decide) (fun q => absurd q (by decide)) (fun _ => ?_)
        refine q_aload_n d20_75 rfl ?_
        refine q_v0 d20_76 rfl rfl hB.1.2.1.1 (Nat.le_of_ble_eq_true rfl) (c28f hB hf ?_)
        refine q_goto 83 d20_79 (by decide) ?_
        refine q_istore d20_83 (by decide) rfl ?_
        refine q_aload_n d20_85 rfl ?_
        refine q_getv (c := 3) (f := 5) d20_86 ⟨rfl, by decide⟩ hB.1.2.1.1 hB.2.2.2.1 ?_
        refine q_iconst (x := (-1)) d20_89 rfl ?_
        refine ic_ne 110 d20_90 (by decide) (fun h90 => ?_) (fun h90 => (False.elim (nI_m1 (by omega) h90)))
        refine q_iconstN (z := 0) d20_110 ?_
        refine q_iret d20_111 rfl ?_
        exact kb _ _ _ (by unfold pSt; simp only [hkd]; rw [if_neg (by omega)]; unfold pA1 pA2 pA3; simp [eA]) hB g2
      · refine q_aload_n d20_22 rfl ?_
        refine q_v0 d20_23 rfl rfl hG.1.2.1.1 (Nat.le_of_ble_eq_true rfl) (c24 hG hv (fun M1 hB f1 => ?_))
        refine q_iconstN (z := 0) d20_26 ?_
        refine q_iret d20_27 rfl ?_
        exact kb _ _ _ (by unfold pSt; simp only [hkd]; rw [if_pos (by omega)]) hB f1
    | ok rA =>
      obtain ⟨aA, kA⟩ := rA
      cases eN : pNu n b kA with
      | error fN =>
        refine q_aload_n d20_0 rfl ?_
        refine q_v0 d20_1 rfl rfl hG.1.2.1.1 (Nat.le_of_ble_eq_true rfl) (c21t hG hv hkd (by decide) ?_)
        refine q_istore_n d20_4 (by decide) rfl ?_
        refine q_iload_n d20_5 rfl ?_
        refine q_iconst (x := (-1)) d20_6 rfl ?_
        refine ic_eq 22 d20_7 (by decide) (fun h7 => (False.elim (nI_m1 (by omega) h7))) (fun h7 => ?_)
        refine q_aload_n d20_10 rfl ?_
        refine q_getr (c := 3) (f := 6) d20_11 ⟨rfl, rfl⟩ hG.1.2.1.1 hG.2.2.2.2.2.1 ?_
        refine q_getv (c := 1) (f := 6) d20_14 ⟨rfl, by decide⟩ (hG.1.pr hG.2.1).1 hG.2.2.2.2.2.2.1 ?_
        refine q_bipush (x := nI 12) d20_17 rfl ?_
        refine nc_lt 28 d20_19 (by decide) (by omega) (by omega) (fun h19 => ?_) (fun h19 => ?_)
        · refine q_aload_n d20_28 rfl ?_
          refine q_v0 d20_29 rfl rfl hG.1.2.1.1 (Nat.le_of_ble_eq_true rfl) (c16 hG.1.2.1 hG.2.2.1 hG.2.2.2.1.2.2 (by omega) (fun M1 hk f1 => ?_))
          have hG1 := hG.ad hk f1
          have hv1 : yQv n b (pAd n b K.1, K.2) := ⟨(pAd_v hv.1 hG.b).1, hv.2⟩
          have hSt := hG1.1.st
          have g1 : Fi (FG c) M M1 := f1.mono FK_G
          refine q_getst d20_32 rfl ?_
          refine q_iload_n d20_35 rfl ?_
          refine n_ialds d20_36 ⟨by decide, hSt.2.1⟩ (by omega) (by decide) ((hSt.2.2.2 3).trans (by decide : zAo 3 = nI 1)) ?_
          refine n0_le 47 d20_37 (by decide) (by decide) (fun q => absurd q (by decide)) (fun _ => ?_)
          refine q_aload_n d20_40 rfl ?_
          refine q_v0 d20_41 rfl rfl hG1.1.2.1.1 (Nat.le_of_ble_eq_true rfl) (c25t hG1 hv1 eA (fun M2 hG2 f2 => ?_))
          have hv2 : yQv n b (kA, K.2) := ⟨by rw [pAc_k eA]; exact (pAd_v hv1.1 hG.b).1, hv.2⟩
          have hSt := hG2.1.st
          have g2 := g1.trans f2
          refine q_goto 48 d20_44 (by decide) ?_
          refine q_istore_n d20_48 (by decide) rfl ?_
          refine q_getst d20_49 rfl ?_
          refine q_iload_n d20_52 rfl ?_
          refine n_ialds d20_53 ⟨by decide, hSt.2.1⟩ (by omega) (by decide) ((hSt.2.2.2 3).trans (by decide : zAo 3 = nI 1)) ?_
          refine q_iconstN (z := 1) d20_54 ?_
          refine nc_le 65 d20_55 (by decide) (by decide) (by decide) (fun _ => ?_) (fun q => absurd q (by decide))
          refine q_iconst (x := (-1)) d20_65 rfl ?_
          refine q_istore d20_66 (by decide) rfl ?_
          refine q_iload_n d20_68 rfl ?_
          refine q_s1 d20_69 (Or.inr rfl) rfl (Nat.le_of_ble_eq_true rfl) (c27 (by decide) ?_)
          refine n0_eq 82 d20_72 (by decide) (by decide) (fun q => absurd q (by decide)) (fun _ => ?_)
          refine q_aload_n d20_75 rfl ?_
          refine q_v0 d20_76 rfl rfl hG2.1.2.1.1 (Nat.le_of_ble_eq_true rfl) (c28e hG2 hv2 eN (fun M3 hB f3 => ?_))
          have hSt := hB.1.st
          have hf : fN ≤ 120 := by rw [(pNu_f eN).2]; exact Nat.le_trans hv2.f h120
          have g3 := g2.trans f3
          refine q_goto 83 d20_79 (by decide) ?_
          refine q_istore d20_83 (by decide) rfl ?_
          refine q_aload_n d20_85 rfl ?_
          refine q_getv (c := 3) (f := 5) d20_86 ⟨rfl, by decide⟩ hB.1.2.1.1 hB.2.2.2.1 ?_
          refine q_iconst (x := (-1)) d20_89 rfl ?_
          refine ic_ne 110 d20_90 (by decide) (fun h90 => ?_) (fun h90 => (False.elim (nI_m1 (by omega) h90)))
          refine q_iconstN (z := 0) d20_110 ?_
          refine q_iret d20_111 rfl ?_
          exact kb _ _ _ (by unfold pSt; simp only [hkd]; rw [if_neg (by omega)]; unfold pA1 pA2 pA3; simp [eA, eN]) hB g3
        · refine q_aload_n d20_22 rfl ?_
          refine q_v0 d20_23 rfl rfl hG.1.2.1.1 (Nat.le_of_ble_eq_true rfl) (c24 hG hv (fun M1 hB f1 => ?_))
          refine q_iconstN (z := 0) d20_26 ?_
          refine q_iret d20_27 rfl ?_
          exact kb _ _ _ (by unfold pSt; simp only [hkd]; rw [if_pos (by omega)]) hB f1
      | ok rN =>
        obtain ⟨aN, kN⟩ := rN
        refine q_aload_n d20_0 rfl ?_
        refine q_v0 d20_1 rfl rfl hG.1.2.1.1 (Nat.le_of_ble_eq_true rfl) (c21t hG hv hkd (by decide) ?_)
        refine q_istore_n d20_4 (by decide) rfl ?_
        refine q_iload_n d20_5 rfl ?_
        refine q_iconst (x := (-1)) d20_6 rfl ?_
        refine ic_eq 22 d20_7 (by decide) (fun h7 => (False.elim (nI_m1 (by omega) h7))) (fun h7 => ?_)
        refine q_aload_n d20_10 rfl ?_
        refine q_getr (c := 3) (f := 6) d20_11 ⟨rfl, rfl⟩ hG.1.2.1.1 hG.2.2.2.2.2.1 ?_
        refine q_getv (c := 1) (f := 6) d20_14 ⟨rfl, by decide⟩ (hG.1.pr hG.2.1).1 hG.2.2.2.2.2.2.1 ?_
        refine q_bipush (x := nI 12) d20_17 rfl ?_
        refine nc_lt 28 d20_19 (by decide) (by omega) (by omega) (fun h19 => ?_) (fun h19 => ?_)
        · refine q_aload_n d20_28 rfl ?_
          refine q_v0 d20_29 rfl rfl hG.1.2.1.1 (Nat.le_of_ble_eq_true rfl) (c16 hG.1.2.1 hG.2.2.1 hG.2.2.2.1.2.2 (by omega) (fun M1 hk f1 => ?_))
          have hG1 := hG.ad hk f1
          have hv1 : yQv n b (pAd n b K.1, K.2) := ⟨(pAd_v hv.1 hG.b).1, hv.2⟩
          have hSt := hG1.1.st
          have g1 : Fi (FG c) M M1 := f1.mono FK_G
          refine q_getst d20_32 rfl ?_
          refine q_iload_n d20_35 rfl ?_
          refine n_ialds d20_36 ⟨by decide, hSt.2.1⟩ (by omega) (by decide) ((hSt.2.2.2 3).trans (by decide : zAo 3 = nI 1)) ?_
          refine n0_le 47 d20_37 (by decide) (by decide) (fun q => absurd q (by decide)) (fun _ => ?_)
          refine q_aload_n d20_40 rfl ?_
          refine q_v0 d20_41 rfl rfl hG1.1.2.1.1 (Nat.le_of_ble_eq_true rfl) (c25t hG1 hv1 eA (fun M2 hG2 f2 => ?_))
          have hv2 : yQv n b (kA, K.2) := ⟨by rw [pAc_k eA]; exact (pAd_v hv1.1 hG.b).1, hv.2⟩
          have hSt := hG2.1.st
          have g2 := g1.trans f2
          refine q_goto 48 d20_44 (by decide) ?_
          refine q_istore_n d20_48 (by decide) rfl ?_
          refine q_getst d20_49 rfl ?_
          refine q_iload_n d20_52 rfl ?_
          refine n_ialds d20_53 ⟨by decide, hSt.2.1⟩ (by omega) (by decide) ((hSt.2.2.2 3).trans (by decide : zAo 3 = nI 1)) ?_
          refine q_iconstN (z := 1) d20_54 ?_
          refine nc_le 65 d20_55 (by decide) (by decide) (by decide) (fun _ => ?_) (fun q => absurd q (by decide))
          refine q_iconst (x := (-1)) d20_65 rfl ?_
          refine q_istore d20_66 (by decide) rfl ?_
          refine q_iload_n d20_68 rfl ?_
          refine q_s1 d20_69 (Or.inr rfl) rfl (Nat.le_of_ble_eq_true rfl) (c27 (by decide) ?_)
          refine n0_eq 82 d20_72 (by decide) (by decide) (fun q => absurd q (by decide)) (fun _ => ?_)
          refine q_aload_n d20_75 rfl ?_
          refine q_v0 d20_76 rfl rfl hG2.1.2.1.1 (Nat.le_of_ble_eq_true rfl) (c28t hG2 hv2 eN (fun M3 hG3 f3 => ?_))
          have hv3 : yQv n b (kN, K.2) := ⟨by rw [(pNu_k eN).2.2]; exact (pAd_v hv2.1 hG.b).1, hv.2⟩
          have hSt := hG3.1.st
          have g3 := g2.trans f3
          refine q_goto 83 d20_79 (by decide) ?_
          refine q_istore d20_83 (by decide) rfl ?_
          refine q_aload_n d20_85 rfl ?_
          refine q_getv (c := 3) (f := 5) d20_86 ⟨rfl, by decide⟩ hG3.1.2.1.1 hG3.2.2.2.2.1 ?_
          refine q_iconst (x := (-1)) d20_89 rfl ?_
          refine ic_ne 110 d20_90 (by decide) (fun h90 => (False.elim (h90 rfl))) (fun h90 => ?_)
          refine q_aload_n d20_93 rfl ?_
          refine q_getr (c := 3) (f := 6) d20_94 ⟨rfl, rfl⟩ hG3.1.2.1.1 hG3.2.2.2.2.2.1 ?_
          refine q_iload_n d20_97 rfl ?_
          refine q_iload_n d20_98 rfl ?_
          refine q_iload d20_99 rfl ?_
          refine q_iload d20_101 rfl ?_
          refine q_iload_n d20_103 rfl ?_
          refine q_v5 d20_104 rfl rfl (hG3.1.pr hG3.2.1).1 (Nat.le_of_ble_eq_true rfl) (c29 (hG3.1.pr hG3.2.1) hG3.2.2.2.2.2.2 h19 (fun M9 hr9 f9 => ?_))
          refine q_goto 111 d20_107 (by decide) ?_
          refine q_iret d20_111 rfl ?_
          have f9' : Fi (FG c) M3 M9 := f9.mono (fun _ _ q => Or.inr ⟨q.1, by have := q.2; omega⟩)
          have hG9 : GR M9 c n b (kN, pAp K.2 3 (nI aA) (-1) (nI aN) ah) := ⟨f9.sc hG3.1 (fun a k ha q => by have := q.1; omega), hG3.2.1, RTp_fi hG3.2.2.1 f9.fr ⟨fun q => by have := q.1; omega, fun q e => by have := e.1; omega⟩, RK_fi hG3.2.2.2.1 f9.fr ⟨fun q => by have := q.1; omega, fun q => by have := q.1; omega, fun q => by have := q.1; omega⟩, (f9.1 _ _ (fun q => by have := q.1; omega)).trans hG3.2.2.2.2.1, (f9.r _ _).trans hG3.2.2.2.2.2.1, hr9⟩
          exact k _ _ _ (by unfold pSt; simp only [hkd]; rw [if_neg (by omega)]; unfold pA1 pA2 pA3; simp [eA, eN]) hG9 (g3.trans f9')
        · refine q_aload_n d20_22 rfl ?_
          refine q_v0 d20_23 rfl rfl hG.1.2.1.1 (Nat.le_of_ble_eq_true rfl) (c24 hG hv (fun M1 hB f1 => ?_))
          refine q_iconstN (z := 0) d20_26 ?_
          refine q_iret d20_27 rfl ?_
          exact kb _ _ _ (by unfold pSt; simp only [hkd]; rw [if_pos (by omega)]) hB f1
  · skip
    cases eA : pAc n b (pAd n b K.1) with
    | error fA =>
      refine q_aload_n d20_0 rfl ?_
      refine q_v0 d20_1 rfl rfl hG.1.2.1.1 (Nat.le_of_ble_eq_true rfl) (c21t hG hv hkd (by decide) ?_)
      refine q_istore_n d20_4 (by decide) rfl ?_
      refine q_iload_n d20_5 rfl ?_
      refine q_iconst (x := (-1)) d20_6 rfl ?_
      refine ic_eq 22 d20_7 (by decide) (fun h7 => (False.elim (nI_m1 (by omega) h7))) (fun h7 => ?_)
      refine q_aload_n d20_10 rfl ?_
      refine q_getr (c := 3) (f := 6) d20_11 ⟨rfl, rfl⟩ hG.1.2.1.1 hG.2.2.2.2.2.1 ?_
      refine q_getv (c := 1) (f := 6) d20_14 ⟨rfl, by decide⟩ (hG.1.pr hG.2.1).1 hG.2.2.2.2.2.2.1 ?_
      refine q_bipush (x := nI 12) d20_17 rfl ?_
      refine nc_lt 28 d20_19 (by decide) (by omega) (by omega) (fun h19 => ?_) (fun h19 => ?_)
      · refine q_aload_n d20_28 rfl ?_
        refine q_v0 d20_29 rfl rfl hG.1.2.1.1 (Nat.le_of_ble_eq_true rfl) (c16 hG.1.2.1 hG.2.2.1 hG.2.2.2.1.2.2 (by omega) (fun M1 hk f1 => ?_))
        have hG1 := hG.ad hk f1
        have hv1 : yQv n b (pAd n b K.1, K.2) := ⟨(pAd_v hv.1 hG.b).1, hv.2⟩
        have hSt := hG1.1.st
        have g1 : Fi (FG c) M M1 := f1.mono FK_G
        refine q_getst d20_32 rfl ?_
        refine q_iload_n d20_35 rfl ?_
        refine n_ialds d20_36 ⟨by decide, hSt.2.1⟩ (by omega) (by decide) ((hSt.2.2.2 4).trans (by decide : zAo 4 = nI 2)) ?_
        refine n0_le 47 d20_37 (by decide) (by decide) (fun q => absurd q (by decide)) (fun _ => ?_)
        refine q_aload_n d20_40 rfl ?_
        refine q_v0 d20_41 rfl rfl hG1.1.2.1.1 (Nat.le_of_ble_eq_true rfl) (c25e hG1 hv1 eA (fun M2 hB f2 => ?_))
        have hSt := hB.1.st
        have hf : fA ≤ 120 := by rw [pAc_f eA]; exact Nat.le_trans hv1.f h120
        have g2 := g1.trans f2
        refine q_goto 48 d20_44 (by decide) ?_
        refine q_istore_n d20_48 (by decide) rfl ?_
        refine q_getst d20_49 rfl ?_
        refine q_iload_n d20_52 rfl ?_
        refine n_ialds d20_53 ⟨by decide, hSt.2.1⟩ (by omega) (by decide) ((hSt.2.2.2 4).trans (by decide : zAo 4 = nI 2)) ?_
        refine q_iconstN (z := 1) d20_54 ?_
        refine nc_le 65 d20_55 (by decide) (by decide) (by decide) (fun q => absurd q (by decide)) (fun _ => ?_)
        refine q_aload_n d20_58 rfl ?_
        refine q_v0 d20_59 rfl rfl hB.1.2.1.1 (Nat.le_of_ble_eq_true rfl) (c25f hB hf ?_)
        refine q_goto 66 d20_62 (by decide) ?_
        refine q_istore d20_66 (by decide) rfl ?_
        refine q_iload_n d20_68 rfl ?_
        refine q_s1 d20_69 (Or.inr rfl) rfl (Nat.le_of_ble_eq_true rfl) (c27 (by decide) ?_)
        refine n0_eq 82 d20_72 (by decide) (by decide) (fun _ => ?_) (fun q => absurd q (by decide))
        refine q_iconst (x := (-1)) d20_82 rfl ?_
        refine q_istore d20_83 (by decide) rfl ?_
        refine q_aload_n d20_85 rfl ?_
        refine q_getv (c := 3) (f := 5) d20_86 ⟨rfl, by decide⟩ hB.1.2.1.1 hB.2.2.2.1 ?_
        refine q_iconst (x := (-1)) d20_89 rfl ?_
        refine ic_ne 110 d20_90 (by decide) (fun h90 => ?_) (fun h90 => (False.elim (nI_m1 (by omega) h90)))
        refine q_iconstN (z := 0) d20_110 ?_
        refine q_iret d20_111 rfl ?_
        exact kb _ _ _ (by unfold pSt; simp only [hkd]; rw [if_neg (by omega)]; unfold pA1 pA2 pA3; simp [eA]) hB g2
      · refine q_aload_n d20_22 rfl ?_
        refine q_v0 d20_23 rfl rfl hG.1.2.1.1 (Nat.le_of_ble_eq_true rfl) (c24 hG hv (fun M1 hB f1 => ?_))
        refine q_iconstN (z := 0) d20_26 ?_
        refine q_iret d20_27 rfl ?_
        exact kb _ _ _ (by unfold pSt; simp only [hkd]; rw [if_pos (by omega)]) hB f1
    | ok rA =>
      obtain ⟨aA, kA⟩ := rA
      cases eB : pAc n b kA with
      | error fB =>
        refine q_aload_n d20_0 rfl ?_
        refine q_v0 d20_1 rfl rfl hG.1.2.1.1 (Nat.le_of_ble_eq_true rfl) (c21t hG hv hkd (by decide) ?_)
        refine q_istore_n d20_4 (by decide) rfl ?_
        refine q_iload_n d20_5 rfl ?_
        refine q_iconst (x := (-1)) d20_6 rfl ?_
        refine ic_eq 22 d20_7 (by decide) (fun h7 => (False.elim (nI_m1 (by omega) h7))) (fun h7 => ?_)
        refine q_aload_n d20_10 rfl ?_
        refine q_getr (c := 3) (f := 6) d20_11 ⟨rfl, rfl⟩ hG.1.2.1.1 hG.2.2.2.2.2.1 ?_
        refine q_getv (c := 1) (f := 6) d20_14 ⟨rfl, by decide⟩ (hG.1.pr hG.2.1).1 hG.2.2.2.2.2.2.1 ?_
        refine q_bipush (x := nI 12) d20_17 rfl ?_
        refine nc_lt 28 d20_19 (by decide) (by omega) (by omega) (fun h19 => ?_) (fun h19 => ?_)
        · refine q_aload_n d20_28 rfl ?_
          refine q_v0 d20_29 rfl rfl hG.1.2.1.1 (Nat.le_of_ble_eq_true rfl) (c16 hG.1.2.1 hG.2.2.1 hG.2.2.2.1.2.2 (by omega) (fun M1 hk f1 => ?_))
          have hG1 := hG.ad hk f1
          have hv1 : yQv n b (pAd n b K.1, K.2) := ⟨(pAd_v hv.1 hG.b).1, hv.2⟩
          have hSt := hG1.1.st
          have g1 : Fi (FG c) M M1 := f1.mono FK_G
          refine q_getst d20_32 rfl ?_
          refine q_iload_n d20_35 rfl ?_
          refine n_ialds d20_36 ⟨by decide, hSt.2.1⟩ (by omega) (by decide) ((hSt.2.2.2 4).trans (by decide : zAo 4 = nI 2)) ?_
          refine n0_le 47 d20_37 (by decide) (by decide) (fun q => absurd q (by decide)) (fun _ => ?_)
          refine q_aload_n d20_40 rfl ?_
          refine q_v0 d20_41 rfl rfl hG1.1.2.1.1 (Nat.le_of_ble_eq_true rfl) (c25t hG1 hv1 eA (fun M2 hG2 f2 => ?_))
          have hv2 : yQv n b (kA, K.2) := ⟨by rw [pAc_k eA]; exact (pAd_v hv1.1 hG.b).1, hv.2⟩
          have hSt := hG2.1.st
          have g2 := g1.trans f2
          refine q_goto 48 d20_44 (by decide) ?_
          refine q_istore_n d20_48 (by decide) rfl ?_
          refine q_getst d20_49 rfl ?_
          refine q_iload_n d20_52 rfl ?_
          refine n_ialds d20_53 ⟨by decide, hSt.2.1⟩ (by omega) (by decide) ((hSt.2.2.2 4).trans (by decide : zAo 4 = nI 2)) ?_
          refine q_iconstN (z := 1) d20_54 ?_
          refine nc_le 65 d20_55 (by decide) (by decide) (by decide) (fun q => absurd q (by decide)) (fun _ => ?_)
          refine q_aload_n d20_58 rfl ?_
          refine q_v0 d20_59 rfl rfl hG2.1.2.1.1 (Nat.le_of_ble_eq_true rfl) (c25e hG2 hv2 eB (fun M3 hB f3 => ?_))
          have hSt := hB.1.st
          have hf : fB ≤ 120 := by rw [pAc_f eB]; exact Nat.le_trans hv2.f h120
          have g3 := g2.trans f3
          refine q_goto 66 d20_62 (by decide) ?_
          refine q_istore d20_66 (by decide) rfl ?_
          refine q_iload_n d20_68 rfl ?_
          refine q_s1 d20_69 (Or.inr rfl) rfl (Nat.le_of_ble_eq_true rfl) (c27 (by decide) ?_)
          refine n0_eq 82 d20_72 (by decide) (by decide) (fun _ => ?_) (fun q => absurd q (by decide))
          refine q_iconst (x := (-1)) d20_82 rfl ?_
          refine q_istore d20_83 (by decide) rfl ?_
          refine q_aload_n d20_85 rfl ?_
          refine q_getv (c := 3) (f := 5) d20_86 ⟨rfl, by decide⟩ hB.1.2.1.1 hB.2.2.2.1 ?_
          refine q_iconst (x := (-1)) d20_89 rfl ?_
          refine ic_ne 110 d20_90 (by decide) (fun h90 => ?_) (fun h90 => (False.elim (nI_m1 (by omega) h90)))
          refine q_iconstN (z := 0) d20_110 ?_
          refine q_iret d20_111 rfl ?_
          exact kb _ _ _ (by unfold pSt; simp only [hkd]; rw [if_neg (by omega)]; unfold pA1 pA2 pA3; simp [eA, eB]) hB g3
        · refine q_aload_n d20_22 rfl ?_
          refine q_v0 d20_23 rfl rfl hG.1.2.1.1 (Nat.le_of_ble_eq_true rfl) (c24 hG hv (fun M1 hB f1 => ?_))
          refine q_iconstN (z := 0) d20_26 ?_
          refine q_iret d20_27 rfl ?_
          exact kb _ _ _ (by unfold pSt; simp only [hkd]; rw [if_pos (by omega)]) hB f1
      | ok rB =>
        obtain ⟨aB, kB⟩ := rB
        refine q_aload_n d20_0 rfl ?_
        refine q_v0 d20_1 rfl rfl hG.1.2.1.1 (Nat.le_of_ble_eq_true rfl) (c21t hG hv hkd (by decide) ?_)
        refine q_istore_n d20_4 (by decide) rfl ?_
        refine q_iload_n d20_5 rfl ?_
        refine q_iconst (x := (-1)) d20_6 rfl ?_
        refine ic_eq 22 d20_7 (by decide) (fun h7 => (False.elim (nI_m1 (by omega) h7))) (fun h7 => ?_)
        refine q_aload_n d20_10 rfl ?_
        refine q_getr (c := 3) (f := 6) d20_11 ⟨rfl, rfl⟩ hG.1.2.1.1 hG.2.2.2.2.2.1 ?_
        refine q_getv (c := 1) (f := 6) d20_14 ⟨rfl, by decide⟩ (hG.1.pr hG.2.1).1 hG.2.2.2.2.2.2.1 ?_
        refine q_bipush (x := nI 12) d20_17 rfl ?_
        refine nc_lt 28 d20_19 (by decide) (by omega) (by omega) (fun h19 => ?_) (fun h19 => ?_)
        · refine q_aload_n d20_28 rfl ?_
          refine q_v0 d20_29 rfl rfl hG.1.2.1.1 (Nat.le_of_ble_eq_true rfl) (c16 hG.1.2.1 hG.2.2.1 hG.2.2.2.1.2.2 (by omega) (fun M1 hk f1 => ?_))
          have hG1 := hG.ad hk f1
          have hv1 : yQv n b (pAd n b K.1, K.2) := ⟨(pAd_v hv.1 hG.b).1, hv.2⟩
          have hSt := hG1.1.st
          have g1 : Fi (FG c) M M1 := f1.mono FK_G
          refine q_getst d20_32 rfl ?_
          refine q_iload_n d20_35 rfl ?_
          refine n_ialds d20_36 ⟨by decide, hSt.2.1⟩ (by omega) (by decide) ((hSt.2.2.2 4).trans (by decide : zAo 4 = nI 2)) ?_
          refine n0_le 47 d20_37 (by decide) (by decide) (fun q => absurd q (by decide)) (fun _ => ?_)
          refine q_aload_n d20_40 rfl ?_
          refine q_v0 d20_41 rfl rfl hG1.1.2.1.1 (Nat.le_of_ble_eq_true rfl) (c25t hG1 hv1 eA (fun M2 hG2 f2 => ?_))
          have hv2 : yQv n b (kA, K.2) := ⟨by rw [pAc_k eA]; exact (pAd_v hv1.1 hG.b).1, hv.2⟩
          have hSt := hG2.1.st
          have g2 := g1.trans f2
          refine q_goto 48 d20_44 (by decide) ?_
          refine q_istore_n d20_48 (by decide) rfl ?_
          refine q_getst d20_49 rfl ?_
          refine q_iload_n d20_52 rfl ?_
          refine n_ialds d20_53 ⟨by decide, hSt.2.1⟩ (by omega) (by decide) ((hSt.2.2.2 4).trans (by decide : zAo 4 = nI 2)) ?_
          refine q_iconstN (z := 1) d20_54 ?_
          refine nc_le 65 d20_55 (by decide) (by decide) (by decide) (fun q => absurd q (by decide)) (fun _ => ?_)
          refine q_aload_n d20_58 rfl ?_
          refine q_v0 d20_59 rfl rfl hG2.1.2.1.1 (Nat.le_of_ble_eq_true rfl) (c25t hG2 hv2 eB (fun M3 hG3 f3 => ?_))
          have hv3 : yQv n b (kB, K.2) := ⟨by rw [pAc_k eB]; exact (pAd_v hv2.1 hG.b).1, hv.2⟩
          have hSt := hG3.1.st
          have g3 := g2.trans f3
          refine q_goto 66 d20_62 (by decide) ?_
          refine q_istore d20_66 (by decide) rfl ?_
          refine q_iload_n d20_68 rfl ?_
          refine q_s1 d20_69 (Or.inr rfl) rfl (Nat.le_of_ble_eq_true rfl) (c27 (by decide) ?_)
          refine n0_eq 82 d20_72 (by decide) (by decide) (fun _ => ?_) (fun q => absurd q (by decide))
          refine q_iconst (x := (-1)) d20_82 rfl ?_
          refine q_istore d20_83 (by decide) rfl ?_
          refine q_aload_n d20_85 rfl ?_
          refine q_getv (c := 3) (f := 5) d20_86 ⟨rfl, by decide⟩ hG3.1.2.1.1 hG3.2.2.2.2.1 ?_
          refine q_iconst (x := (-1)) d20_89 rfl ?_
          refine ic_ne 110 d20_90 (by decide) (fun h90 => (False.elim (h90 rfl))) (fun h90 => ?_)
          refine q_aload_n d20_93 rfl ?_
          refine q_getr (c := 3) (f := 6) d20_94 ⟨rfl, rfl⟩ hG3.1.2.1.1 hG3.2.2.2.2.2.1 ?_
          refine q_iload_n d20_97 rfl ?_
          refine q_iload_n d20_98 rfl ?_
          refine q_iload d20_99 rfl ?_
          refine q_iload d20_101 rfl ?_
          refine q_iload_n d20_103 rfl ?_
          refine q_v5 d20_104 rfl rfl (hG3.1.pr hG3.2.1).1 (Nat.le_of_ble_eq_true rfl) (c29 (hG3.1.pr hG3.2.1) hG3.2.2.2.2.2.2 h19 (fun M9 hr9 f9 => ?_))
          refine q_goto 111 d20_107 (by decide) ?_
          refine q_iret d20_111 rfl ?_
          have f9' : Fi (FG c) M3 M9 := f9.mono (fun _ _ q => Or.inr ⟨q.1, by have := q.2; omega⟩)
          have hG9 : GR M9 c n b (kB, pAp K.2 4 (nI aA) (nI aB) (-1) ah) := ⟨f9.sc hG3.1 (fun a k ha q => by have := q.1; omega), hG3.2.1, RTp_fi hG3.2.2.1 f9.fr ⟨fun q => by have := q.1; omega, fun q e => by have := e.1; omega⟩, RK_fi hG3.2.2.2.1 f9.fr ⟨fun q => by have := q.1; omega, fun q => by have := q.1; omega, fun q => by have := q.1; omega⟩, (f9.1 _ _ (fun q => by have := q.1; omega)).trans hG3.2.2.2.2.1, (f9.r _ _).trans hG3.2.2.2.2.2.1, hr9⟩
          exact k _ _ _ (by unfold pSt; simp only [hkd]; rw [if_neg (by omega)]; unfold pA1 pA2 pA3; simp [eA, eB]) hG9 (g3.trans f9')
        · refine q_aload_n d20_22 rfl ?_
          refine q_v0 d20_23 rfl rfl hG.1.2.1.1 (Nat.le_of_ble_eq_true rfl) (c24 hG hv (fun M1 hB f1 => ?_))
          refine q_iconstN (z := 0) d20_26 ?_
          refine q_iret d20_27 rfl ?_
          exact kb _ _ _ (by unfold pSt; simp only [hkd]; rw [if_pos (by omega)]) hB f1
  · skip
    refine q_aload_n d20_0 rfl ?_
    refine q_v0 d20_1 rfl rfl hG.1.2.1.1 (Nat.le_of_ble_eq_true rfl) (c21t hG hv hkd (by decide) ?_)
    refine q_istore_n d20_4 (by decide) rfl ?_
    refine q_iload_n d20_5 rfl ?_
    refine q_iconst (x := (-1)) d20_6 rfl ?_
    refine ic_eq 22 d20_7 (by decide) (fun h7 => (False.elim (nI_m1 (by omega) h7))) (fun h7 => ?_)
    refine q_aload_n d20_10 rfl ?_
    refine q_getr (c := 3) (f := 6) d20_11 ⟨rfl, rfl⟩ hG.1.2.1.1 hG.2.2.2.2.2.1 ?_
    refine q_getv (c := 1) (f := 6) d20_14 ⟨rfl, by decide⟩ (hG.1.pr hG.2.1).1 hG.2.2.2.2.2.2.1 ?_
    refine q_bipush (x := nI 12) d20_17 rfl ?_
    refine nc_lt 28 d20_19 (by decide) (by omega) (by omega) (fun h19 => ?_) (fun h19 => ?_)
    · refine q_aload_n d20_28 rfl ?_
      refine q_v0 d20_29 rfl rfl hG.1.2.1.1 (Nat.le_of_ble_eq_true rfl) (c16 hG.1.2.1 hG.2.2.1 hG.2.2.2.1.2.2 (by omega) (fun M1 hk f1 => ?_))
      have hG1 := hG.ad hk f1
      have hv1 : yQv n b (pAd n b K.1, K.2) := ⟨(pAd_v hv.1 hG.b).1, hv.2⟩
      have hSt := hG1.1.st
      have g1 : Fi (FG c) M M1 := f1.mono FK_G
      refine q_getst d20_32 rfl ?_
      refine q_iload_n d20_35 rfl ?_
      refine n_ialds d20_36 ⟨by decide, hSt.2.1⟩ (by omega) (by decide) ((hSt.2.2.2 5).trans (by decide : zAo 5 = nI 0)) ?_
      refine n0_le 47 d20_37 (by decide) (by decide) (fun _ => ?_) (fun q => absurd q (by decide))
      refine q_iconst (x := (-1)) d20_47 rfl ?_
      refine q_istore_n d20_48 (by decide) rfl ?_
      refine q_getst d20_49 rfl ?_
      refine q_iload_n d20_52 rfl ?_
      refine n_ialds d20_53 ⟨by decide, hSt.2.1⟩ (by omega) (by decide) ((hSt.2.2.2 5).trans (by decide : zAo 5 = nI 0)) ?_
      refine q_iconstN (z := 1) d20_54 ?_
      refine nc_le 65 d20_55 (by decide) (by decide) (by decide) (fun _ => ?_) (fun q => absurd q (by decide))
      refine q_iconst (x := (-1)) d20_65 rfl ?_
      refine q_istore d20_66 (by decide) rfl ?_
      refine q_iload_n d20_68 rfl ?_
      refine q_s1 d20_69 (Or.inr rfl) rfl (Nat.le_of_ble_eq_true rfl) (c27 (by decide) ?_)
      refine n0_eq 82 d20_72 (by decide) (by decide) (fun _ => ?_) (fun q => absurd q (by decide))
      refine q_iconst (x := (-1)) d20_82 rfl ?_
      refine q_istore d20_83 (by decide) rfl ?_
      refine q_aload_n d20_85 rfl ?_
      refine q_getv (c := 3) (f := 5) d20_86 ⟨rfl, by decide⟩ hG1.1.2.1.1 hG1.2.2.2.2.1 ?_
      refine q_iconst (x := (-1)) d20_89 rfl ?_
      refine ic_ne 110 d20_90 (by decide) (fun h90 => (False.elim (h90 rfl))) (fun h90 => ?_)
      refine q_aload_n d20_93 rfl ?_
      refine q_getr (c := 3) (f := 6) d20_94 ⟨rfl, rfl⟩ hG1.1.2.1.1 hG1.2.2.2.2.2.1 ?_
      refine q_iload_n d20_97 rfl ?_
      refine q_iload_n d20_98 rfl ?_
      refine q_iload d20_99 rfl ?_
      refine q_iload d20_101 rfl ?_
      refine q_iload_n d20_103 rfl ?_
      refine q_v5 d20_104 rfl rfl (hG1.1.pr hG1.2.1).1 (Nat.le_of_ble_eq_true rfl) (c29 (hG1.1.pr hG1.2.1) hG1.2.2.2.2.2.2 h19 (fun M9 hr9 f9 => ?_))
      refine q_goto 111 d20_107 (by decide) ?_
      refine q_iret d20_111 rfl ?_
      have f9' : Fi (FG c) M1 M9 := f9.mono (fun _ _ q => Or.inr ⟨q.1, by have := q.2; omega⟩)
      have hG9 : GR M9 c n b ((pAd n b K.1), pAp K.2 5 (-1) (-1) (-1) ah) := ⟨f9.sc hG1.1 (fun a k ha q => by have := q.1; omega), hG1.2.1, RTp_fi hG1.2.2.1 f9.fr ⟨fun q => by have := q.1; omega, fun q e => by have := e.1; omega⟩, RK_fi hG1.2.2.2.1 f9.fr ⟨fun q => by have := q.1; omega, fun q => by have := q.1; omega, fun q => by have := q.1; omega⟩, (f9.1 _ _ (fun q => by have := q.1; omega)).trans hG1.2.2.2.2.1, (f9.r _ _).trans hG1.2.2.2.2.2.1, hr9⟩
      exact k _ _ _ (by unfold pSt; simp only [hkd]; rw [if_neg (by omega)]; unfold pA1 pA2 pA3; simp []) hG9 (g1.trans f9')
    · refine q_aload_n d20_22 rfl ?_
      refine q_v0 d20_23 rfl rfl hG.1.2.1.1 (Nat.le_of_ble_eq_true rfl) (c24 hG hv (fun M1 hB f1 => ?_))
      refine q_iconstN (z := 0) d20_26 ?_
      refine q_iret d20_27 rfl ?_
      exact kb _ _ _ (by unfold pSt; simp only [hkd]; rw [if_pos (by omega)]) hB f1
  · skip
    refine q_aload_n d20_0 rfl ?_
    refine q_v0 d20_1 rfl rfl hG.1.2.1.1 (Nat.le_of_ble_eq_true rfl) (c21n hG hv hkd ?_)
    refine q_istore_n d20_4 (by decide) rfl ?_
    refine q_iload_n d20_5 rfl ?_
    refine q_iconst (x := (-1)) d20_6 rfl ?_
    refine ic_eq 22 d20_7 (by decide) (fun h7 => ?_) (fun h7 => (False.elim (h7 rfl)))
    refine q_aload_n d20_22 rfl ?_
    refine q_v0 d20_23 rfl rfl hG.1.2.1.1 (Nat.le_of_ble_eq_true rfl) (c24 hG hv (fun M1 hB f1 => ?_))
    refine q_iconstN (z := 0) d20_26 ?_
    refine q_iret d20_27 rfl ?_
    exact kb _ _ _ (by unfold pSt; simp only []; exact if_pos (Or.inl hkd)) hB f1
/-! ===== contracts: parts and lines are read ===== -/
theorem d18_0 : decode (zB 18) 0 = .ok (.aload_n 0, 1) := (congrArg (fun c => decode c 0) zeq18).trans (by decide +kernel)
theorem d18_1 : decode (zB 18) 1 = .ok (.iload_n 1, 1) := (congrArg (fun c => decode c 1) zeq18).trans (by decide +kernel)
theorem d18_2 : decode (zB 18) 2 = .ok (.iload_n 2, 1) := (congrArg (fun c => decode c 2) zeq18).trans (by decide +kernel)
theorem d18_3 : decode (zB 18) 3 = .ok (.invokevirtual 59, 3) := (congrArg (fun c => decode c 3) zeq18).trans (by decide +kernel)
theorem d18_6 : decode (zB 18) 6 = .ok (.istore_n 3, 1) := (congrArg (fun c => decode c 6) zeq18).trans (by decide +kernel)
theorem d18_7 : decode (zB 18) 7 = .ok (.iconst 0, 1) := (congrArg (fun c => decode c 7) zeq18).trans (by decide +kernel)
theorem d18_8 : decode (zB 18) 8 = .ok (.istore 4, 2) := (congrArg (fun c => decode c 8) zeq18).trans (by decide +kernel)
theorem d18_10 : decode (zB 18) 10 = .ok (.iload 4, 2) := (congrArg (fun c => decode c 10) zeq18).trans (by decide +kernel)
theorem d18_12 : decode (zB 18) 12 = .ok (.bipush 120, 2) := (congrArg (fun c => decode c 12) zeq18).trans (by decide +kernel)
theorem d18_14 : decode (zB 18) 14 = .ok (.if_icmp .ge 41, 3) := (congrArg (fun c => decode c 14) zeq18).trans (by decide +kernel)
theorem d18_17 : decode (zB 18) 17 = .ok (.aload_n 0, 1) := (congrArg (fun c => decode c 17) zeq18).trans (by decide +kernel)
theorem d18_18 : decode (zB 18) 18 = .ok (.getfield 31, 3) := (congrArg (fun c => decode c 18) zeq18).trans (by decide +kernel)
theorem d18_21 : decode (zB 18) 21 = .ok (.iconst (-1), 1) := (congrArg (fun c => decode c 21) zeq18).trans (by decide +kernel)
theorem d18_22 : decode (zB 18) 22 = .ok (.if_icmp .ne 33, 3) := (congrArg (fun c => decode c 22) zeq18).trans (by decide +kernel)
theorem d18_25 : decode (zB 18) 25 = .ok (.aload_n 0, 1) := (congrArg (fun c => decode c 25) zeq18).trans (by decide +kernel)
theorem d18_26 : decode (zB 18) 26 = .ok (.getfield 41, 3) := (congrArg (fun c => decode c 26) zeq18).trans (by decide +kernel)
theorem d18_29 : decode (zB 18) 29 = .ok (.bipush 59, 2) := (congrArg (fun c => decode c 29) zeq18).trans (by decide +kernel)
theorem d18_31 : decode (zB 18) 31 = .ok (.if_icmp .ne 24, 3) := (congrArg (fun c => decode c 31) zeq18).trans (by decide +kernel)
theorem d18_34 : decode (zB 18) 34 = .ok (.aload_n 0, 1) := (congrArg (fun c => decode c 34) zeq18).trans (by decide +kernel)
theorem d18_35 : decode (zB 18) 35 = .ok (.invokevirtual 34, 3) := (congrArg (fun c => decode c 35) zeq18).trans (by decide +kernel)
theorem d18_38 : decode (zB 18) 38 = .ok (.iload_n 3, 1) := (congrArg (fun c => decode c 38) zeq18).trans (by decide +kernel)
theorem d18_39 : decode (zB 18) 39 = .ok (.aload_n 0, 1) := (congrArg (fun c => decode c 39) zeq18).trans (by decide +kernel)
theorem d18_40 : decode (zB 18) 40 = .ok (.iload_n 1, 1) := (congrArg (fun c => decode c 40) zeq18).trans (by decide +kernel)
theorem d18_41 : decode (zB 18) 41 = .ok (.iload_n 3, 1) := (congrArg (fun c => decode c 41) zeq18).trans (by decide +kernel)
theorem d18_42 : decode (zB 18) 42 = .ok (.ior, 1) := (congrArg (fun c => decode c 42) zeq18).trans (by decide +kernel)
theorem d18_43 : decode (zB 18) 43 = .ok (.iload_n 2, 1) := (congrArg (fun c => decode c 43) zeq18).trans (by decide +kernel)
theorem d18_44 : decode (zB 18) 44 = .ok (.invokevirtual 59, 3) := (congrArg (fun c => decode c 44) zeq18).trans (by decide +kernel)
theorem d18_47 : decode (zB 18) 47 = .ok (.ior, 1) := (congrArg (fun c => decode c 47) zeq18).trans (by decide +kernel)
theorem d18_48 : decode (zB 18) 48 = .ok (.istore_n 3, 1) := (congrArg (fun c => decode c 48) zeq18).trans (by decide +kernel)
theorem d18_49 : decode (zB 18) 49 = .ok (.iinc 4 1, 3) := (congrArg (fun c => decode c 49) zeq18).trans (by decide +kernel)
theorem d18_52 : decode (zB 18) 52 = .ok (.goto (-42), 3) := (congrArg (fun c => decode c 52) zeq18).trans (by decide +kernel)
theorem d18_55 : decode (zB 18) 55 = .ok (.iload_n 3, 1) := (congrArg (fun c => decode c 55) zeq18).trans (by decide +kernel)
theorem d18_56 : decode (zB 18) 56 = .ok (.ireturn, 1) := (congrArg (fun c => decode c 56) zeq18).trans (by decide +kernel)
theorem d19_0 : decode (zB 19) 0 = .ok (.aload_n 0, 1) := (congrArg (fun c => decode c 0) zeq19).trans (by decide +kernel)
theorem d19_1 : decode (zB 19) 1 = .ok (.getfield 31, 3) := (congrArg (fun c => decode c 1) zeq19).trans (by decide +kernel)
theorem d19_4 : decode (zB 19) 4 = .ok (.iconst (-1), 1) := (congrArg (fun c => decode c 4) zeq19).trans (by decide +kernel)
theorem d19_5 : decode (zB 19) 5 = .ok (.if_icmp .ne 17, 3) := (congrArg (fun c => decode c 5) zeq19).trans (by decide +kernel)
theorem d19_8 : decode (zB 19) 8 = .ok (.aload_n 0, 1) := (congrArg (fun c => decode c 8) zeq19).trans (by decide +kernel)
theorem d19_9 : decode (zB 19) 9 = .ok (.getfield 41, 3) := (congrArg (fun c => decode c 9) zeq19).trans (by decide +kernel)
theorem d19_12 : decode (zB 19) 12 = .ok (.iconst 1, 1) := (congrArg (fun c => decode c 12) zeq19).trans (by decide +kernel)
theorem d19_13 : decode (zB 19) 13 = .ok (.if_icmp .ne 9, 3) := (congrArg (fun c => decode c 13) zeq19).trans (by decide +kernel)
theorem d19_16 : decode (zB 19) 16 = .ok (.aload_n 0, 1) := (congrArg (fun c => decode c 16) zeq19).trans (by decide +kernel)
theorem d19_17 : decode (zB 19) 17 = .ok (.iload_n 1, 1) := (congrArg (fun c => decode c 17) zeq19).trans (by decide +kernel)
theorem d19_18 : decode (zB 19) 18 = .ok (.invokevirtual 62, 3) := (congrArg (fun c => decode c 18) zeq19).trans (by decide +kernel)
theorem d19_21 : decode (zB 19) 21 = .ok (.ireturn, 1) := (congrArg (fun c => decode c 21) zeq19).trans (by decide +kernel)
theorem d19_22 : decode (zB 19) 22 = .ok (.aload_n 0, 1) := (congrArg (fun c => decode c 22) zeq19).trans (by decide +kernel)
theorem d19_23 : decode (zB 19) 23 = .ok (.getfield 31, 3) := (congrArg (fun c => decode c 23) zeq19).trans (by decide +kernel)
theorem d19_26 : decode (zB 19) 26 = .ok (.iconst (-1), 1) := (congrArg (fun c => decode c 26) zeq19).trans (by decide +kernel)
theorem d19_27 : decode (zB 19) 27 = .ok (.if_icmp .ne 26, 3) := (congrArg (fun c => decode c 27) zeq19).trans (by decide +kernel)
theorem d19_30 : decode (zB 19) 30 = .ok (.aload_n 0, 1) := (congrArg (fun c => decode c 30) zeq19).trans (by decide +kernel)
theorem d19_31 : decode (zB 19) 31 = .ok (.getfield 41, 3) := (congrArg (fun c => decode c 31) zeq19).trans (by decide +kernel)
theorem d19_34 : decode (zB 19) 34 = .ok (.bipush 123, 2) := (congrArg (fun c => decode c 34) zeq19).trans (by decide +kernel)
theorem d19_36 : decode (zB 19) 36 = .ok (.if_icmp .ne 17, 3) := (congrArg (fun c => decode c 36) zeq19).trans (by decide +kernel)
theorem d19_39 : decode (zB 19) 39 = .ok (.iload_n 2, 1) := (congrArg (fun c => decode c 39) zeq19).trans (by decide +kernel)
theorem d19_40 : decode (zB 19) 40 = .ok (.iconst 3, 1) := (congrArg (fun c => decode c 40) zeq19).trans (by decide +kernel)
theorem d19_41 : decode (zB 19) 41 = .ok (.if_icmp .ge 12, 3) := (congrArg (fun c => decode c 41) zeq19).trans (by decide +kernel)
theorem d19_44 : decode (zB 19) 44 = .ok (.aload_n 0, 1) := (congrArg (fun c => decode c 44) zeq19).trans (by decide +kernel)
theorem d19_45 : decode (zB 19) 45 = .ok (.iload_n 1, 1) := (congrArg (fun c => decode c 45) zeq19).trans (by decide +kernel)
theorem d19_46 : decode (zB 19) 46 = .ok (.iload_n 2, 1) := (congrArg (fun c => decode c 46) zeq19).trans (by decide +kernel)
theorem d19_47 : decode (zB 19) 47 = .ok (.iconst 1, 1) := (congrArg (fun c => decode c 47) zeq19).trans (by decide +kernel)
theorem d19_48 : decode (zB 19) 48 = .ok (.iadd, 1) := (congrArg (fun c => decode c 48) zeq19).trans (by decide +kernel)
theorem d19_49 : decode (zB 19) 49 = .ok (.invokevirtual 66, 3) := (congrArg (fun c => decode c 49) zeq19).trans (by decide +kernel)
theorem d19_52 : decode (zB 19) 52 = .ok (.ireturn, 1) := (congrArg (fun c => decode c 52) zeq19).trans (by decide +kernel)
theorem d19_53 : decode (zB 19) 53 = .ok (.aload_n 0, 1) := (congrArg (fun c => decode c 53) zeq19).trans (by decide +kernel)
theorem d19_54 : decode (zB 19) 54 = .ok (.getfield 31, 3) := (congrArg (fun c => decode c 54) zeq19).trans (by decide +kernel)
theorem d19_57 : decode (zB 19) 57 = .ok (.iconst (-1), 1) := (congrArg (fun c => decode c 57) zeq19).trans (by decide +kernel)
theorem d19_58 : decode (zB 19) 58 = .ok (.if_icmp .ne 41, 3) := (congrArg (fun c => decode c 58) zeq19).trans (by decide +kernel)
theorem d19_61 : decode (zB 19) 61 = .ok (.aload_n 0, 1) := (congrArg (fun c => decode c 61) zeq19).trans (by decide +kernel)
theorem d19_62 : decode (zB 19) 62 = .ok (.getfield 41, 3) := (congrArg (fun c => decode c 62) zeq19).trans (by decide +kernel)
theorem d19_65 : decode (zB 19) 65 = .ok (.bipush 33, 2) := (congrArg (fun c => decode c 65) zeq19).trans (by decide +kernel)
theorem d19_67 : decode (zB 19) 67 = .ok (.if_icmp .ne 32, 3) := (congrArg (fun c => decode c 67) zeq19).trans (by decide +kernel)
theorem d19_70 : decode (zB 19) 70 = .ok (.iload_n 2, 1) := (congrArg (fun c => decode c 70) zeq19).trans (by decide +kernel)
theorem d19_71 : decode (zB 19) 71 = .ok (.ifCond .ne 28, 3) := (congrArg (fun c => decode c 71) zeq19).trans (by decide +kernel)
theorem d19_74 : decode (zB 19) 74 = .ok (.aload_n 0, 1) := (congrArg (fun c => decode c 74) zeq19).trans (by decide +kernel)
theorem d19_75 : decode (zB 19) 75 = .ok (.getfield 19, 3) := (congrArg (fun c => decode c 75) zeq19).trans (by decide +kernel)
theorem d19_78 : decode (zB 19) 78 = .ok (.getfield 69, 3) := (congrArg (fun c => decode c 78) zeq19).trans (by decide +kernel)
theorem d19_81 : decode (zB 19) 81 = .ok (.iconst (-1), 1) := (congrArg (fun c => decode c 81) zeq19).trans (by decide +kernel)
theorem d19_82 : decode (zB 19) 82 = .ok (.if_icmp .ne 17, 3) := (congrArg (fun c => decode c 82) zeq19).trans (by decide +kernel)
theorem d19_85 : decode (zB 19) 85 = .ok (.aload_n 0, 1) := (congrArg (fun c => decode c 85) zeq19).trans (by decide +kernel)
theorem d19_86 : decode (zB 19) 86 = .ok (.getfield 19, 3) := (congrArg (fun c => decode c 86) zeq19).trans (by decide +kernel)
theorem d19_89 : decode (zB 19) 89 = .ok (.iload_n 1, 1) := (congrArg (fun c => decode c 89) zeq19).trans (by decide +kernel)
theorem d19_90 : decode (zB 19) 90 = .ok (.putfield 69, 3) := (congrArg (fun c => decode c 90) zeq19).trans (by decide +kernel)
theorem d19_93 : decode (zB 19) 93 = .ok (.aload_n 0, 1) := (congrArg (fun c => decode c 93) zeq19).trans (by decide +kernel)
theorem d19_94 : decode (zB 19) 94 = .ok (.invokevirtual 34, 3) := (congrArg (fun c => decode c 94) zeq19).trans (by decide +kernel)
theorem d19_97 : decode (zB 19) 97 = .ok (.iconst 0, 1) := (congrArg (fun c => decode c 97) zeq19).trans (by decide +kernel)
theorem d19_98 : decode (zB 19) 98 = .ok (.ireturn, 1) := (congrArg (fun c => decode c 98) zeq19).trans (by decide +kernel)
theorem d19_99 : decode (zB 19) 99 = .ok (.aload_n 0, 1) := (congrArg (fun c => decode c 99) zeq19).trans (by decide +kernel)
theorem d19_100 : decode (zB 19) 100 = .ok (.invokevirtual 44, 3) := (congrArg (fun c => decode c 100) zeq19).trans (by decide +kernel)
theorem d19_103 : decode (zB 19) 103 = .ok (.iconst 0, 1) := (congrArg (fun c => decode c 103) zeq19).trans (by decide +kernel)
theorem d19_104 : decode (zB 19) 104 = .ok (.ireturn, 1) := (congrArg (fun c => decode c 104) zeq19).trans (by decide +kernel)
theorem c19f {d : Nat} {M : zM} {Q : Option Value → zM → Prop} {c n f : Nat} {b : Nat → Nat} {x z : Int32} (hB : BR M c n b f) (hf : f ≤ 120) (k : Q (some (.int (nI 0))) M) : qC (d + 2) 19 [.ref 17, .int x, .int z] M Q := by
  refine qC_of (by decide) (Nat.le_of_ble_eq_true rfl) ?_
  refine q_aload_n d19_0 rfl ?_
  refine q_getv (c := 3) (f := 5) d19_1 ⟨rfl, by decide⟩ hB.1.2.1.1 hB.2.2.2.1 ?_
  refine q_iconst (x := (-1)) d19_4 rfl ?_
  refine ic_ne 22 d19_5 (by decide) (fun h5 => ?_) (fun h5 => (False.elim (nI_m1 (by omega) h5)))
  refine q_aload_n d19_22 rfl ?_
  refine q_getv (c := 3) (f := 5) d19_23 ⟨rfl, by decide⟩ hB.1.2.1.1 hB.2.2.2.1 ?_
  refine q_iconst (x := (-1)) d19_26 rfl ?_
  refine ic_ne 53 d19_27 (by decide) (fun h27 => ?_) (fun h27 => (False.elim (nI_m1 (by omega) h27)))
  refine q_aload_n d19_53 rfl ?_
  refine q_getv (c := 3) (f := 5) d19_54 ⟨rfl, by decide⟩ hB.1.2.1.1 hB.2.2.2.1 ?_
  refine q_iconst (x := (-1)) d19_57 rfl ?_
  refine ic_ne 99 d19_58 (by decide) (fun h58 => ?_) (fun h58 => (False.elim (nI_m1 (by omega) h58)))
  refine q_aload_n d19_99 rfl ?_
  refine q_v0 d19_100 rfl rfl hB.1.2.1.1 (Nat.le_of_ble_eq_true rfl) (c24f hB hf ?_)
  refine q_iconstN (z := 0) d19_103 ?_
  refine q_iret d19_104 rfl ?_
  exact k
theorem c18f {d : Nat} {M : zM} {Q : Option Value → zM → Prop} {c n f : Nat} {b : Nat → Nat} {x z : Int32} (hB : BR M c n b f) (hf : f ≤ 120) (k : Q (some (.int (nI 0))) M) : qC (d + 3) 18 [.ref 17, .int x, .int z] M Q := by
  refine qC_of (by decide) (Nat.le_of_ble_eq_true rfl) ?_
  refine q_aload_n d18_0 rfl ?_
  refine q_iload_n d18_1 rfl ?_
  refine q_iload_n d18_2 rfl ?_
  refine q_v2 d18_3 rfl rfl hB.1.2.1.1 (Nat.le_of_ble_eq_true rfl) (c19f hB hf ?_)
  refine q_istore_n d18_6 (by decide) rfl ?_
  refine q_iconstN (z := 0) d18_7 ?_
  refine q_istore d18_8 (by decide) rfl ?_
  refine q_iload d18_10 rfl ?_
  refine q_bipush (x := nI 120) d18_12 rfl ?_
  refine nc_ge 55 d18_14 (by decide) (by decide) (by decide) (fun q => absurd q (by decide)) (fun _ => ?_)
  refine q_aload_n d18_17 rfl ?_
  refine q_getv (c := 3) (f := 5) d18_18 ⟨rfl, by decide⟩ hB.1.2.1.1 hB.2.2.2.1 ?_
  refine q_iconst (x := (-1)) d18_21 rfl ?_
  refine ic_ne 55 d18_22 (by decide) (fun h22 => ?_) (fun h22 => (False.elim (nI_m1 (by omega) h22)))
  refine q_iload_n d18_55 rfl ?_
  refine q_iret d18_56 rfl ?_
  exact k
def tq (m : Nat) : Bool := m == 3
def cOut (Q : Option Value → zM → Prop) (M : zM) (c n : Nat) (b : Nat → Nat) (R : Except Nat (Nat × yQ)) : Prop := match R with
  | .error f => ∀ v M', BR M' c n b f → Fi (FG c) M M' → Q (some (.int v)) M'
  | .ok (o, K1) => ∀ M', GR M' c n b K1 → Fi (FG c) M M' → Q (some (.int (nI o))) M'
theorem cOut_e {Q : Option Value → zM → Prop} {M : zM} {c n f : Nat} {b : Nat → Nat} {R : Except Nat (Nat × yQ)} (e : R = .error f) (h : ∀ v M', BR M' c n b f → Fi (FG c) M M' → Q (some (.int v)) M') : cOut Q M c n b R := by subst e; exact h
theorem cOut_o {Q : Option Value → zM → Prop} {M : zM} {c n o : Nat} {b : Nat → Nat} {K1 : yQ} {R : Except Nat (Nat × yQ)} (e : R = .ok (o, K1)) (h : ∀ M', GR M' c n b K1 → Fi (FG c) M M' → Q (some (.int (nI o))) M') : cOut Q M c n b R := by subst e; exact h
def cLN (m : Nat) : Prop := ∀ (d : Nat) (M : zM) (Q : Option Value → zM → Prop) (K : yQ) (ah c n : Nat) (b : Nat → Nat), GR M c n b K → yQv n b K → ah < 2 ^ tn K.2 → cOut Q M c n b (pLd n b m (tq m) ah K) → qC (d + 3 * m + 12) 18 [.ref 17, .int (nI ah), .int (nI (3 - m))] M Q
def cBR (m : Nat) : Prop := ∀ (d : Nat) (M : zM) (Q : Option Value → zM → Prop) (K : yQ) (ah c n : Nat) (b : Nat → Nat), GR M c n b K → yQv n b K → ah < 2 ^ tn K.2 → cOut Q M c n b (pBr n b (pLd n b m false) ah K) → qC (d + 3 * m + 13) 30 [.ref 17, .int (nI ah), .int (nI (3 - m))] M Q
/-- what a part may have within braces -/
def pB0 (n : Nat) (b : Nat → Nat) (m : Nat) : pFn := match m with
  | 0 => fun _ Q => .error Q.1.2.1
  | m + 1 => pBr n b (pLd n b m false)
theorem pLd_eq (n : Nat) (b : Nat → Nat) (m : Nat) (top : Bool) : pLd n b m top = pLn n b (pPt n b (pB0 n b m) top) := by cases m <;> rfl
theorem pB0_v {n : Nat} {b : Nat → Nat} (hb : ∀ i, i < n → b i < 256) (m : Nat) : pOK n b (pB0 n b m) := by
  cases m with
  | zero => exact fun _ Q hQ _ => hQ.f
  | succ m => exact pBr_v hb (pLd_v hb m false)
def cPT (m : Nat) : Prop := ∀ (d : Nat) (M : zM) (Q : Option Value → zM → Prop) (K : yQ) (ah c n : Nat) (b : Nat → Nat), GR M c n b K → yQv n b K → ah < 2 ^ tn K.2 → cOut Q M c n b (pPt n b (pB0 n b m) (tq m) ah K) → qC (d + 3 * m + 11) 19 [.ref 17, .int (nI ah), .int (nI (3 - m))] M Q
theorem GR.pi {M : zM} {c n ah : Nat} {b : Nat → Nat} {K : yQ} (h : GR M c n b K) : GR (zwi M (20 + 7 * c) 7 (nI ah)) c n b (K.1, pPi K.2 ah) := by
  have f : Fi (fun a k => a = 20 + 7 * c ∧ k = 7) M (zwi M (20 + 7 * c) 7 (nI ah)) := (Fi.refl _ _).wi ⟨rfl, rfl⟩
  obtain ⟨h1, h2, h3⟩ := h.2.2.2.2.2.2
  exact ⟨SC_wi h.1 (by omega), h.2.1, RTp_fi h.2.2.1 f.fr ⟨by omega, fun q => by omega⟩, RK_fi h.2.2.2.1 f.fr ⟨by omega, by omega, by omega⟩, (f.1 _ _ (by omega)).trans h.2.2.2.2.1, h.2.2.2.2.2.1, (f.1 _ _ (by omega)).trans h1, wi_s _ _ _ _, fun q hq => ⟨(f.1 _ _ (by omega)).trans (h3 q hq).1, (f.1 _ _ (by omega)).trans (h3 q hq).2.1, (f.1 _ _ (by omega)).trans (h3 q hq).2.2.1, (f.1 _ _ (by omega)).trans (h3 q hq).2.2.2.1, (f.1 _ _ (by omega)).trans (h3 q hq).2.2.2.2⟩⟩
theorem cOut_ret {Q Q' : Option Value → zM → Prop} {M : zM} {c n : Nat} {b : Nat → Nat} {R : Except Nat (Nat × yQ)} (h : cOut Q M c n b R) (hq : ∀ (v : Int32) M', Q (some (.int v)) M' → Q' (some (.int v)) M') : cOut Q' M c n b R := by
  cases R with
  | error f => exact fun v M' g f1 => hq _ _ (h v M' g f1)
  | ok r => exact fun M' g f1 => hq _ _ (h M' g f1)
theorem c19_0 : cPT 0 := by
  intro d M Q K ah c n b hG hv hah hk
  refine qC_of (d := d + 3 * 0 + 10) (by decide) (Nat.le_of_ble_eq_true rfl) ?_
  have h120 := hG.2.2.1.1
  have hk1 := hv.1.1.1
  have hk2 := hv.1.1.2.1
  have hk3 := hv.1.1.2.2.1
  by_cases ht : K.1.1 = 1
  · rw [show pPt n b (pB0 n b 0) (tq 0) ah K = pSt n b ah K from if_pos ht] at hk
    refine q_aload_n d19_0 rfl ?_
    refine q_getv (c := 3) (f := 5) d19_1 ⟨rfl, by decide⟩ hG.1.2.1.1 hG.2.2.2.2.1 ?_
    refine q_iconst (x := (-1)) d19_4 rfl ?_
    refine ic_ne 22 d19_5 (by decide) (fun h5 => (False.elim (h5 rfl))) (fun h5 => ?_)
    refine q_aload_n d19_8 rfl ?_
    refine q_getv (c := 3) (f := 3) d19_9 ⟨rfl, by decide⟩ hG.1.2.1.1 hG.2.2.2.1.1 ?_
    refine q_iconstN (z := 1) d19_12 ?_
    refine nc_ne 22 d19_13 (by decide) (by omega) (by omega) (fun h13 => (False.elim (h13 ht))) (fun h13 => ?_)
    refine q_aload_n d19_16 rfl ?_
    refine q_iload_n d19_17 rfl ?_
    exact q_v1 d19_18 rfl rfl hG.1.2.1.1 (Nat.le_of_ble_eq_true rfl) (c20 hG hv (fun o K1 M1 e hG1 f1 => (q_iret d19_21 rfl (by rw [e] at hk; exact hk M1 hG1 f1))) (fun f v M1 e hB f1 => (q_iret d19_21 rfl (by rw [e] at hk; exact hk v M1 hB f1))))
  · by_cases hb : K.1.1 = 123
    · rw [show pPt n b (pB0 n b 0) (tq 0) ah K = .error K.1.2.1 from (if_neg ht).trans (if_pos hb)] at hk
      refine q_aload_n d19_0 rfl ?_
      refine q_getv (c := 3) (f := 5) d19_1 ⟨rfl, by decide⟩ hG.1.2.1.1 hG.2.2.2.2.1 ?_
      refine q_iconst (x := (-1)) d19_4 rfl ?_
      refine ic_ne 22 d19_5 (by decide) (fun h5 => (False.elim (h5 rfl))) (fun h5 => ?_)
      refine q_aload_n d19_8 rfl ?_
      refine q_getv (c := 3) (f := 3) d19_9 ⟨rfl, by decide⟩ hG.1.2.1.1 hG.2.2.2.1.1 ?_
      refine q_iconstN (z := 1) d19_12 ?_
      refine nc_ne 22 d19_13 (by decide) (by omega) (by omega) (fun h13 => ?_) (fun h13 => (False.elim (ht h13)))
      refine q_aload_n d19_22 rfl ?_
      refine q_getv (c := 3) (f := 5) d19_23 ⟨rfl, by decide⟩ hG.1.2.1.1 hG.2.2.2.2.1 ?_
      refine q_iconst (x := (-1)) d19_26 rfl ?_
      refine ic_ne 53 d19_27 (by decide) (fun h27 => (False.elim (h27 rfl))) (fun h27 => ?_)
      refine q_aload_n d19_30 rfl ?_
      refine q_getv (c := 3) (f := 3) d19_31 ⟨rfl, by decide⟩ hG.1.2.1.1 hG.2.2.2.1.1 ?_
      refine q_bipush (x := nI 123) d19_34 rfl ?_
      refine nc_ne 53 d19_36 (by decide) (by omega) (by omega) (fun h36 => (False.elim (h36 hb))) (fun h36 => ?_)
      refine q_iload_n d19_39 rfl ?_
      refine q_iconstN (z := 3) d19_40 ?_
      refine nc_ge 53 d19_41 (by decide) (by omega) (by omega) (fun h41 => ?_) (fun h41 => (False.elim (by omega)))
      refine q_aload_n d19_53 rfl ?_
      refine q_getv (c := 3) (f := 5) d19_54 ⟨rfl, by decide⟩ hG.1.2.1.1 hG.2.2.2.2.1 ?_
      refine q_iconst (x := (-1)) d19_57 rfl ?_
      refine ic_ne 99 d19_58 (by decide) (fun h58 => (False.elim (h58 rfl))) (fun h58 => ?_)
      refine q_aload_n d19_61 rfl ?_
      refine q_getv (c := 3) (f := 3) d19_62 ⟨rfl, by decide⟩ hG.1.2.1.1 hG.2.2.2.1.1 ?_
      refine q_bipush (x := nI 33) d19_65 rfl ?_
      refine nc_ne 99 d19_67 (by decide) (by omega) (by omega) (fun h67 => ?_) (fun h67 => (False.elim (by omega)))
      refine q_aload_n d19_99 rfl ?_
      refine q_v0 d19_100 rfl rfl hG.1.2.1.1 (Nat.le_of_ble_eq_true rfl) (c24 hG hv (fun M1 hB f1 => ?_))
      refine q_iconstN (z := 0) d19_103 ?_
      refine q_iret d19_104 rfl ?_
      exact hk _ _ hB f1
    · by_cases hp : K.1.1 = 33 ∧ tq 0 = true ∧ tp K.2 = -1
      · have hz : 3 = 0 := by have := hp.2.1; unfold tq at this; simp only [beq_iff_eq] at this; omega
        rw [show pPt n b (pB0 n b 0) (tq 0) ah K = .ok (0, (pAd n b K.1, pPi K.2 ah)) from (if_neg ht).trans ((if_neg hb).trans (if_pos hp))] at hk
        refine q_aload_n d19_0 rfl ?_
        refine q_getv (c := 3) (f := 5) d19_1 ⟨rfl, by decide⟩ hG.1.2.1.1 hG.2.2.2.2.1 ?_
        refine q_iconst (x := (-1)) d19_4 rfl ?_
        refine ic_ne 22 d19_5 (by decide) (fun h5 => (False.elim (h5 rfl))) (fun h5 => ?_)
        refine q_aload_n d19_8 rfl ?_
        refine q_getv (c := 3) (f := 3) d19_9 ⟨rfl, by decide⟩ hG.1.2.1.1 hG.2.2.2.1.1 ?_
        refine q_iconstN (z := 1) d19_12 ?_
        refine nc_ne 22 d19_13 (by decide) (by omega) (by omega) (fun h13 => ?_) (fun h13 => (False.elim (ht h13)))
        refine q_aload_n d19_22 rfl ?_
        refine q_getv (c := 3) (f := 5) d19_23 ⟨rfl, by decide⟩ hG.1.2.1.1 hG.2.2.2.2.1 ?_
        refine q_iconst (x := (-1)) d19_26 rfl ?_
        refine ic_ne 53 d19_27 (by decide) (fun h27 => (False.elim (h27 rfl))) (fun h27 => ?_)
        refine q_aload_n d19_30 rfl ?_
        refine q_getv (c := 3) (f := 3) d19_31 ⟨rfl, by decide⟩ hG.1.2.1.1 hG.2.2.2.1.1 ?_
        refine q_bipush (x := nI 123) d19_34 rfl ?_
        refine nc_ne 53 d19_36 (by decide) (by omega) (by omega) (fun h36 => ?_) (fun h36 => (False.elim (hb h36)))
        refine q_aload_n d19_53 rfl ?_
        refine q_getv (c := 3) (f := 5) d19_54 ⟨rfl, by decide⟩ hG.1.2.1.1 hG.2.2.2.2.1 ?_
        refine q_iconst (x := (-1)) d19_57 rfl ?_
        refine ic_ne 99 d19_58 (by decide) (fun h58 => (False.elim (h58 rfl))) (fun h58 => ?_)
        refine q_aload_n d19_61 rfl ?_
        refine q_getv (c := 3) (f := 3) d19_62 ⟨rfl, by decide⟩ hG.1.2.1.1 hG.2.2.2.1.1 ?_
        refine q_bipush (x := nI 33) d19_65 rfl ?_
        refine nc_ne 99 d19_67 (by decide) (by omega) (by omega) (fun h67 => (False.elim (h67 hp.1))) (fun h67 => ?_)
        refine q_iload_n d19_70 rfl ?_
        refine n0_ne 99 d19_71 (by decide) (by omega) (fun h71 => (False.elim (h71 hz))) (fun h71 => ?_)
        refine q_aload_n d19_74 rfl ?_
        refine q_getr (c := 3) (f := 6) d19_75 ⟨rfl, rfl⟩ hG.1.2.1.1 hG.2.2.2.2.2.1 ?_
        refine q_getv (c := 1) (f := 7) d19_78 ⟨rfl, by decide⟩ (hG.1.pr hG.2.1).1 hG.2.2.2.2.2.2.2.1 ?_
        refine q_iconst (x := (-1)) d19_81 rfl ?_
        refine ic_ne 99 d19_82 (by decide) (fun h82 => (False.elim (h82 hp.2.2))) (fun h82 => ?_)
        refine q_aload_n d19_85 rfl ?_
        refine q_getr (c := 3) (f := 6) d19_86 ⟨rfl, rfl⟩ hG.1.2.1.1 hG.2.2.2.2.2.1 ?_
        refine q_iload_n d19_89 rfl ?_
        refine q_puti (c := 1) (f := 7) d19_90 ⟨rfl, rfl, by decide⟩ (hG.1.pr hG.2.1).1 ?_
        have f1p : Fi (FG c) M (zwi M (20 + 7 * c) 7 (nI ah)) := (Fi.refl _ _).wi (Or.inr ⟨by omega, by omega⟩)
        have hG2 : GR (zwi M (20 + 7 * c) 7 (nI ah)) c n b (K.1, pPi K.2 ah) := hG.pi
        refine q_aload_n d19_93 rfl ?_
        refine q_v0 d19_94 rfl rfl hG.1.2.1.1 (Nat.le_of_ble_eq_true rfl) (c16 hG2.1.2.1 hG2.2.2.1 hG2.2.2.2.1.2.2 (by omega) (fun M1 hk1 f1 => ?_))
        refine q_iconstN (z := 0) d19_97 ?_
        refine q_iret d19_98 rfl ?_
        exact hk _ (hG2.ad hk1 f1) (f1p.trans (f1.mono FK_G))
      · rw [show pPt n b (pB0 n b 0) (tq 0) ah K = .error K.1.2.1 from (if_neg ht).trans ((if_neg hb).trans (if_neg hp))] at hk
        refine q_aload_n d19_0 rfl ?_
        refine q_getv (c := 3) (f := 5) d19_1 ⟨rfl, by decide⟩ hG.1.2.1.1 hG.2.2.2.2.1 ?_
        refine q_iconst (x := (-1)) d19_4 rfl ?_
        refine ic_ne 22 d19_5 (by decide) (fun h5 => (False.elim (h5 rfl))) (fun h5 => ?_)
        refine q_aload_n d19_8 rfl ?_
        refine q_getv (c := 3) (f := 3) d19_9 ⟨rfl, by decide⟩ hG.1.2.1.1 hG.2.2.2.1.1 ?_
        refine q_iconstN (z := 1) d19_12 ?_
        refine nc_ne 22 d19_13 (by decide) (by omega) (by omega) (fun h13 => ?_) (fun h13 => (False.elim (ht h13)))
        refine q_aload_n d19_22 rfl ?_
        refine q_getv (c := 3) (f := 5) d19_23 ⟨rfl, by decide⟩ hG.1.2.1.1 hG.2.2.2.2.1 ?_
        refine q_iconst (x := (-1)) d19_26 rfl ?_
        refine ic_ne 53 d19_27 (by decide) (fun h27 => (False.elim (h27 rfl))) (fun h27 => ?_)
        refine q_aload_n d19_30 rfl ?_
        refine q_getv (c := 3) (f := 3) d19_31 ⟨rfl, by decide⟩ hG.1.2.1.1 hG.2.2.2.1.1 ?_
        refine q_bipush (x := nI 123) d19_34 rfl ?_
        refine nc_ne 53 d19_36 (by decide) (by omega) (by omega) (fun h36 => ?_) (fun h36 => (False.elim (hb h36)))
        refine q_aload_n d19_53 rfl ?_
        refine q_getv (c := 3) (f := 5) d19_54 ⟨rfl, by decide⟩ hG.1.2.1.1 hG.2.2.2.2.1 ?_
        refine q_iconst (x := (-1)) d19_57 rfl ?_
        refine ic_ne 99 d19_58 (by decide) (fun h58 => (False.elim (h58 rfl))) (fun h58 => ?_)
        refine q_aload_n d19_61 rfl ?_
        refine q_getv (c := 3) (f := 3) d19_62 ⟨rfl, by decide⟩ hG.1.2.1.1 hG.2.2.2.1.1 ?_
        refine q_bipush (x := nI 33) d19_65 rfl ?_
        refine nc_ne 99 d19_67 (by decide) (by omega) (by omega) (fun h67 => ?_) (fun h67 => ?_)
        · refine q_aload_n d19_99 rfl ?_
          refine q_v0 d19_100 rfl rfl hG.1.2.1.1 (Nat.le_of_ble_eq_true rfl) (c24 hG hv (fun M1 hB f1 => ?_))
          refine q_iconstN (z := 0) d19_103 ?_
          refine q_iret d19_104 rfl ?_
          exact hk _ _ hB f1
        · refine q_iload_n d19_70 rfl ?_
          refine n0_ne 99 d19_71 (by decide) (by omega) (fun h71 => ?_) (fun h71 => ?_)
          · refine q_aload_n d19_99 rfl ?_
            refine q_v0 d19_100 rfl rfl hG.1.2.1.1 (Nat.le_of_ble_eq_true rfl) (c24 hG hv (fun M1 hB f1 => ?_))
            refine q_iconstN (z := 0) d19_103 ?_
            refine q_iret d19_104 rfl ?_
            exact hk _ _ hB f1
          · refine q_aload_n d19_74 rfl ?_
            refine q_getr (c := 3) (f := 6) d19_75 ⟨rfl, rfl⟩ hG.1.2.1.1 hG.2.2.2.2.2.1 ?_
            refine q_getv (c := 1) (f := 7) d19_78 ⟨rfl, by decide⟩ (hG.1.pr hG.2.1).1 hG.2.2.2.2.2.2.2.1 ?_
            refine q_iconst (x := (-1)) d19_81 rfl ?_
            refine ic_ne 99 d19_82 (by decide) (fun h82 => ?_) (fun h82 => (False.elim (hp ⟨h67, by unfold tq; rw [beq_iff_eq]; omega, h82⟩)))
            refine q_aload_n d19_99 rfl ?_
            refine q_v0 d19_100 rfl rfl hG.1.2.1.1 (Nat.le_of_ble_eq_true rfl) (c24 hG hv (fun M1 hB f1 => ?_))
            refine q_iconstN (z := 0) d19_103 ?_
            refine q_iret d19_104 rfl ?_
            exact hk _ _ hB f1
theorem c19_S (m : Nat) (hm2 : m ≤ 2) (hBr : cBR m) : cPT (m + 1) := by
  intro d M Q K ah c n b hG hv hah hk
  rw [show d + 3 * (m + 1) + 11 = d + 3 * m + 13 + 1 by omega]
  refine qC_of (by decide) (Nat.le_of_ble_eq_true rfl) ?_
  have h120 := hG.2.2.1.1
  have hk1 := hv.1.1.1
  have hk2 := hv.1.1.2.1
  have hk3 := hv.1.1.2.2.1
  by_cases ht : K.1.1 = 1
  · rw [show pPt n b (pB0 n b (m + 1)) (tq (m + 1)) ah K = pSt n b ah K from if_pos ht] at hk
    refine q_aload_n d19_0 rfl ?_
    refine q_getv (c := 3) (f := 5) d19_1 ⟨rfl, by decide⟩ hG.1.2.1.1 hG.2.2.2.2.1 ?_
    refine q_iconst (x := (-1)) d19_4 rfl ?_
    refine ic_ne 22 d19_5 (by decide) (fun h5 => (False.elim (h5 rfl))) (fun h5 => ?_)
    refine q_aload_n d19_8 rfl ?_
    refine q_getv (c := 3) (f := 3) d19_9 ⟨rfl, by decide⟩ hG.1.2.1.1 hG.2.2.2.1.1 ?_
    refine q_iconstN (z := 1) d19_12 ?_
    refine nc_ne 22 d19_13 (by decide) (by omega) (by omega) (fun h13 => (False.elim (h13 ht))) (fun h13 => ?_)
    refine q_aload_n d19_16 rfl ?_
    refine q_iload_n d19_17 rfl ?_
    exact q_v1 d19_18 rfl rfl hG.1.2.1.1 (Nat.le_of_ble_eq_true rfl) (c20 hG hv (fun o K1 M1 e hG1 f1 => (q_iret d19_21 rfl (by rw [e] at hk; exact hk M1 hG1 f1))) (fun f v M1 e hB f1 => (q_iret d19_21 rfl (by rw [e] at hk; exact hk v M1 hB f1))))
  · by_cases hb : K.1.1 = 123
    · rw [show pPt n b (pB0 n b (m + 1)) (tq (m + 1)) ah K = pBr n b (pLd n b m false) ah K from (if_neg ht).trans (if_pos hb)] at hk
      refine q_aload_n d19_0 rfl ?_
      refine q_getv (c := 3) (f := 5) d19_1 ⟨rfl, by decide⟩ hG.1.2.1.1 hG.2.2.2.2.1 ?_
      refine q_iconst (x := (-1)) d19_4 rfl ?_
      refine ic_ne 22 d19_5 (by decide) (fun h5 => (False.elim (h5 rfl))) (fun h5 => ?_)
      refine q_aload_n d19_8 rfl ?_
      refine q_getv (c := 3) (f := 3) d19_9 ⟨rfl, by decide⟩ hG.1.2.1.1 hG.2.2.2.1.1 ?_
      refine q_iconstN (z := 1) d19_12 ?_
      refine nc_ne 22 d19_13 (by decide) (by omega) (by omega) (fun h13 => ?_) (fun h13 => (False.elim (ht h13)))
      refine q_aload_n d19_22 rfl ?_
      refine q_getv (c := 3) (f := 5) d19_23 ⟨rfl, by decide⟩ hG.1.2.1.1 hG.2.2.2.2.1 ?_
      refine q_iconst (x := (-1)) d19_26 rfl ?_
      refine ic_ne 53 d19_27 (by decide) (fun h27 => (False.elim (h27 rfl))) (fun h27 => ?_)
      refine q_aload_n d19_30 rfl ?_
      refine q_getv (c := 3) (f := 3) d19_31 ⟨rfl, by decide⟩ hG.1.2.1.1 hG.2.2.2.1.1 ?_
      refine q_bipush (x := nI 123) d19_34 rfl ?_
      refine nc_ne 53 d19_36 (by decide) (by omega) (by omega) (fun h36 => (False.elim (h36 hb))) (fun h36 => ?_)
      refine q_iload_n d19_39 rfl ?_
      refine q_iconstN (z := 3) d19_40 ?_
      refine nc_ge 53 d19_41 (by decide) (by omega) (by omega) (fun h41 => (False.elim (by omega))) (fun h41 => ?_)
      refine q_aload_n d19_44 rfl ?_
      refine q_iload_n d19_45 rfl ?_
      refine q_iload_n d19_46 rfl ?_
      refine q_iconstN (z := 1) d19_47 ?_
      refine n_iadd d19_48 ?_
      rw [show 3 - (m + 1) + 1 = 3 - m by omega]
      refine q_v2 d19_49 rfl rfl hG.1.2.1.1 (Nat.le_of_ble_eq_true rfl) (hBr _ _ _ _ _ _ _ _ hG hv hah ?_)
      exact cOut_ret hk (fun v M1 q => q_iret d19_52 rfl q)
    · by_cases hp : K.1.1 = 33 ∧ tq (m + 1) = true ∧ tp K.2 = -1
      · have hz : (3 - (m + 1)) = 0 := by have := hp.2.1; unfold tq at this; simp only [beq_iff_eq] at this; omega
        rw [show pPt n b (pB0 n b (m + 1)) (tq (m + 1)) ah K = .ok (0, (pAd n b K.1, pPi K.2 ah)) from (if_neg ht).trans ((if_neg hb).trans (if_pos hp))] at hk
        refine q_aload_n d19_0 rfl ?_
        refine q_getv (c := 3) (f := 5) d19_1 ⟨rfl, by decide⟩ hG.1.2.1.1 hG.2.2.2.2.1 ?_
        refine q_iconst (x := (-1)) d19_4 rfl ?_
        refine ic_ne 22 d19_5 (by decide) (fun h5 => (False.elim (h5 rfl))) (fun h5 => ?_)
        refine q_aload_n d19_8 rfl ?_
        refine q_getv (c := 3) (f := 3) d19_9 ⟨rfl, by decide⟩ hG.1.2.1.1 hG.2.2.2.1.1 ?_
        refine q_iconstN (z := 1) d19_12 ?_
        refine nc_ne 22 d19_13 (by decide) (by omega) (by omega) (fun h13 => ?_) (fun h13 => (False.elim (ht h13)))
        refine q_aload_n d19_22 rfl ?_
        refine q_getv (c := 3) (f := 5) d19_23 ⟨rfl, by decide⟩ hG.1.2.1.1 hG.2.2.2.2.1 ?_
        refine q_iconst (x := (-1)) d19_26 rfl ?_
        refine ic_ne 53 d19_27 (by decide) (fun h27 => (False.elim (h27 rfl))) (fun h27 => ?_)
        refine q_aload_n d19_30 rfl ?_
        refine q_getv (c := 3) (f := 3) d19_31 ⟨rfl, by decide⟩ hG.1.2.1.1 hG.2.2.2.1.1 ?_
        refine q_bipush (x := nI 123) d19_34 rfl ?_
        refine nc_ne 53 d19_36 (by decide) (by omega) (by omega) (fun h36 => ?_) (fun h36 => (False.elim (hb h36)))
        refine q_aload_n d19_53 rfl ?_
        refine q_getv (c := 3) (f := 5) d19_54 ⟨rfl, by decide⟩ hG.1.2.1.1 hG.2.2.2.2.1 ?_
        refine q_iconst (x := (-1)) d19_57 rfl ?_
        refine ic_ne 99 d19_58 (by decide) (fun h58 => (False.elim (h58 rfl))) (fun h58 => ?_)
        refine q_aload_n d19_61 rfl ?_
        refine q_getv (c := 3) (f := 3) d19_62 ⟨rfl, by decide⟩ hG.1.2.1.1 hG.2.2.2.1.1 ?_
        refine q_bipush (x := nI 33) d19_65 rfl ?_
        refine nc_ne 99 d19_67 (by decide) (by omega) (by omega) (fun h67 => (False.elim (h67 hp.1))) (fun h67 => ?_)
        refine q_iload_n d19_70 rfl ?_
        refine n0_ne 99 d19_71 (by decide) (by omega) (fun h71 => (False.elim (h71 hz))) (fun h71 => ?_)
        refine q_aload_n d19_74 rfl ?_
        refine q_getr (c := 3) (f := 6) d19_75 ⟨rfl, rfl⟩ hG.1.2.1.1 hG.2.2.2.2.2.1 ?_
        refine q_getv (c := 1) (f := 7) d19_78 ⟨rfl, by decide⟩ (hG.1.pr hG.2.1).1 hG.2.2.2.2.2.2.2.1 ?_
        refine q_iconst (x := (-1)) d19_81 rfl ?_
        refine ic_ne 99 d19_82 (by decide) (fun h82 => (False.elim (h82 hp.2.2))) (fun h82 => ?_)
        refine q_aload_n d19_85 rfl ?_
        refine q_getr (c := 3) (f := 6) d19_86 ⟨rfl, rfl⟩ hG.1.2.1.1 hG.2.2.2.2.2.1 ?_
        refine q_iload_n d19_89 rfl ?_
        refine q_puti (c := 1) (f := 7) d19_90 ⟨rfl, rfl, by decide⟩ (hG.1.pr hG.2.1).1 ?_
        have f1p : Fi (FG c) M (zwi M (20 + 7 * c) 7 (nI ah)) := (Fi.refl _ _).wi (Or.inr ⟨by omega, by omega⟩)
        have hG2 : GR (zwi M (20 + 7 * c) 7 (nI ah)) c n b (K.1, pPi K.2 ah) := hG.pi
        refine q_aload_n d19_93 rfl ?_
        refine q_v0 d19_94 rfl rfl hG.1.2.1.1 (Nat.le_of_ble_eq_true rfl) (c16 hG2.1.2.1 hG2.2.2.1 hG2.2.2.2.1.2.2 (by omega) (fun M1 hk1 f1 => ?_))
        refine q_iconstN (z := 0) d19_97 ?_
        refine q_iret d19_98 rfl ?_
        exact hk _ (hG2.ad hk1 f1) (f1p.trans (f1.mono FK_G))
      · rw [show pPt n b (pB0 n b (m + 1)) (tq (m + 1)) ah K = .error K.1.2.1 from (if_neg ht).trans ((if_neg hb).trans (if_neg hp))] at hk
        refine q_aload_n d19_0 rfl ?_
        refine q_getv (c := 3) (f := 5) d19_1 ⟨rfl, by decide⟩ hG.1.2.1.1 hG.2.2.2.2.1 ?_
        refine q_iconst (x := (-1)) d19_4 rfl ?_
        refine ic_ne 22 d19_5 (by decide) (fun h5 => (False.elim (h5 rfl))) (fun h5 => ?_)
        refine q_aload_n d19_8 rfl ?_
        refine q_getv (c := 3) (f := 3) d19_9 ⟨rfl, by decide⟩ hG.1.2.1.1 hG.2.2.2.1.1 ?_
        refine q_iconstN (z := 1) d19_12 ?_
        refine nc_ne 22 d19_13 (by decide) (by omega) (by omega) (fun h13 => ?_) (fun h13 => (False.elim (ht h13)))
        refine q_aload_n d19_22 rfl ?_
        refine q_getv (c := 3) (f := 5) d19_23 ⟨rfl, by decide⟩ hG.1.2.1.1 hG.2.2.2.2.1 ?_
        refine q_iconst (x := (-1)) d19_26 rfl ?_
        refine ic_ne 53 d19_27 (by decide) (fun h27 => (False.elim (h27 rfl))) (fun h27 => ?_)
        refine q_aload_n d19_30 rfl ?_
        refine q_getv (c := 3) (f := 3) d19_31 ⟨rfl, by decide⟩ hG.1.2.1.1 hG.2.2.2.1.1 ?_
        refine q_bipush (x := nI 123) d19_34 rfl ?_
        refine nc_ne 53 d19_36 (by decide) (by omega) (by omega) (fun h36 => ?_) (fun h36 => (False.elim (hb h36)))
        refine q_aload_n d19_53 rfl ?_
        refine q_getv (c := 3) (f := 5) d19_54 ⟨rfl, by decide⟩ hG.1.2.1.1 hG.2.2.2.2.1 ?_
        refine q_iconst (x := (-1)) d19_57 rfl ?_
        refine ic_ne 99 d19_58 (by decide) (fun h58 => (False.elim (h58 rfl))) (fun h58 => ?_)
        refine q_aload_n d19_61 rfl ?_
        refine q_getv (c := 3) (f := 3) d19_62 ⟨rfl, by decide⟩ hG.1.2.1.1 hG.2.2.2.1.1 ?_
        refine q_bipush (x := nI 33) d19_65 rfl ?_
        refine nc_ne 99 d19_67 (by decide) (by omega) (by omega) (fun h67 => ?_) (fun h67 => ?_)
        · refine q_aload_n d19_99 rfl ?_
          refine q_v0 d19_100 rfl rfl hG.1.2.1.1 (Nat.le_of_ble_eq_true rfl) (c24 hG hv (fun M1 hB f1 => ?_))
          refine q_iconstN (z := 0) d19_103 ?_
          refine q_iret d19_104 rfl ?_
          exact hk _ _ hB f1
        · refine q_iload_n d19_70 rfl ?_
          refine n0_ne 99 d19_71 (by decide) (by omega) (fun h71 => ?_) (fun h71 => ?_)
          · refine q_aload_n d19_99 rfl ?_
            refine q_v0 d19_100 rfl rfl hG.1.2.1.1 (Nat.le_of_ble_eq_true rfl) (c24 hG hv (fun M1 hB f1 => ?_))
            refine q_iconstN (z := 0) d19_103 ?_
            refine q_iret d19_104 rfl ?_
            exact hk _ _ hB f1
          · refine q_aload_n d19_74 rfl ?_
            refine q_getr (c := 3) (f := 6) d19_75 ⟨rfl, rfl⟩ hG.1.2.1.1 hG.2.2.2.2.2.1 ?_
            refine q_getv (c := 1) (f := 7) d19_78 ⟨rfl, by decide⟩ (hG.1.pr hG.2.1).1 hG.2.2.2.2.2.2.2.1 ?_
            refine q_iconst (x := (-1)) d19_81 rfl ?_
            refine ic_ne 99 d19_82 (by decide) (fun h82 => ?_) (fun h82 => (False.elim (hp ⟨h67, by unfold tq; rw [beq_iff_eq]; omega, h82⟩)))
            refine q_aload_n d19_99 rfl ?_
            refine q_v0 d19_100 rfl rfl hG.1.2.1.1 (Nat.le_of_ble_eq_true rfl) (c24 hG hv (fun M1 hB f1 => ?_))
            refine q_iconstN (z := 0) d19_103 ?_
            refine q_iret d19_104 rfl ?_
            exact hk _ _ hB f1
theorem pRe_no {n ah r own : Nat} {b : Nat → Nat} {pt : pFn} {K : yQ} (h : ¬ K.1.1 = 59) : pRe n b pt ah r own K = .ok (own, K) := by
  cases r with
  | zero => rfl
  | succ r => rw [pRe, if_neg h]
theorem pRe_er {n ah r own f : Nat} {b : Nat → Nat} {pt : pFn} {K : yQ} (h : K.1.1 = 59) (e : pt (ah ||| own) (pAd n b K.1, K.2) = .error f) : pRe n b pt ah (r + 1) own K = .error f := by
  rw [pRe, if_pos h, e]
theorem pRe_ok {n ah r own o : Nat} {b : Nat → Nat} {pt : pFn} {K K2 : yQ} (h : K.1.1 = 59) (e : pt (ah ||| own) (pAd n b K.1, K.2) = .ok (o, K2)) : pRe n b pt ah (r + 1) own K = pRe n b pt ah r (own ||| o) K2 := by
  rw [pRe, if_pos h, e]
theorem l18b {d : Nat} {M : zM} {Q : Option Value → zM → Prop} {c n f : Nat} {b : Nat → Nat} {x z : Int32} (hB : BR M c n b f) (hf : f ≤ 120) (k : ∀ v M', M' = M → Q (some (.int v)) M') : ∀ (r i : Nat) (v : Int32), i ≤ 121 → 121 ≤ i + r → qW (zEv (d + 1)) 18 Q 10 [(0, .ref 17), (1, .int x), (2, .int z), (3, .int v), (4, .int (nI i))] [] M := by
  intro r i v h1 h2
  by_cases hi : i < 120
  · skip
    refine q_iload d18_10 rfl ?_
    refine q_bipush (x := nI 120) d18_12 rfl ?_
    refine nc_ge 55 d18_14 (by decide) (by omega) (by omega) (fun h14 => ?_) (fun h14 => ?_)
    · refine q_iload_n d18_55 rfl ?_
      refine q_iret d18_56 rfl ?_
      exact k _ _ rfl
    · refine q_aload_n d18_17 rfl ?_
      refine q_getv (c := 3) (f := 5) d18_18 ⟨rfl, by decide⟩ hB.1.2.1.1 hB.2.2.2.1 ?_
      refine q_iconst (x := (-1)) d18_21 rfl ?_
      refine ic_ne 55 d18_22 (by decide) (fun h22 => ?_) (fun h22 => (False.elim (nI_m1 (by omega) h22)))
      refine q_iload_n d18_55 rfl ?_
      refine q_iret d18_56 rfl ?_
      exact k _ _ rfl
  · skip
    refine q_iload d18_10 rfl ?_
    refine q_bipush (x := nI 120) d18_12 rfl ?_
    refine nc_ge 55 d18_14 (by decide) (by omega) (by omega) (fun h14 => ?_) (fun h14 => ?_)
    · refine q_iload_n d18_55 rfl ?_
      refine q_iret d18_56 rfl ?_
      exact k _ _ rfl
    · refine q_aload_n d18_17 rfl ?_
      refine q_getv (c := 3) (f := 5) d18_18 ⟨rfl, by decide⟩ hB.1.2.1.1 hB.2.2.2.1 ?_
      refine q_iconst (x := (-1)) d18_21 rfl ?_
      refine ic_ne 55 d18_22 (by decide) (fun h22 => ?_) (fun h22 => (False.elim (nI_m1 (by omega) h22)))
      refine q_iload_n d18_55 rfl ?_
      refine q_iret d18_56 rfl ?_
      exact k _ _ rfl
theorem l18 {d m : Nat} {Q : Option Value → zM → Prop} {M0 : zM} {ah c n : Nat} {b : Nat → Nat} {R : Except Nat (Nat × yQ)} (hP : cPT m) (hk : cOut Q M0 c n b R) : ∀ (r i own : Nat) (K1 : yQ) (M1 : zM), i ≤ 120 → 120 < i + r → GR M1 c n b K1 → yQv n b K1 → ah < 2 ^ tn K1.2 → own < 2 ^ tn K1.2 → Fi (FG c) M0 M1 → pRe n b (pPt n b (pB0 n b m) (tq m)) ah (120 - i) own K1 = R →
    qW (zEv (d + 3 * m + 11)) 18 Q 10 [(0, .ref 17), (1, .int (nI ah)), (2, .int (nI (3 - m))), (3, .int (nI own)), (4, .int (nI i))] [] M1 := by
  intro r
  induction r with
  | zero => intros; omega
  | succ r ih =>
    intro i own K1 M1 h1 h2 hG1 hv1 hah hown hF hR
    have h120 := hG1.2.2.1.1
    have hk1 := hv1.1.1.1
    have hk2 := hv1.1.1.2.1
    have hk3 := hv1.1.1.2.2.1
    by_cases hi : i < 120
    · by_cases ht : K1.1.1 = 59
      · cases e : pPt n b (pB0 n b m) (tq m) (ah ||| own) (pAd n b K1.1, K1.2) with
        | error f =>
        refine q_iload d18_10 rfl ?_
        refine q_bipush (x := nI 120) d18_12 rfl ?_
        refine nc_ge 55 d18_14 (by decide) (by omega) (by omega) (fun h14 => (False.elim (by omega))) (fun h14 => ?_)
        refine q_aload_n d18_17 rfl ?_
        refine q_getv (c := 3) (f := 5) d18_18 ⟨rfl, by decide⟩ hG1.1.2.1.1 hG1.2.2.2.2.1 ?_
        refine q_iconst (x := (-1)) d18_21 rfl ?_
        refine ic_ne 55 d18_22 (by decide) (fun h22 => (False.elim (h22 rfl))) (fun h22 => ?_)
        refine q_aload_n d18_25 rfl ?_
        refine q_getv (c := 3) (f := 3) d18_26 ⟨rfl, by decide⟩ hG1.1.2.1.1 hG1.2.2.2.1.1 ?_
        refine q_bipush (x := nI 59) d18_29 rfl ?_
        refine nc_ne 55 d18_31 (by decide) (by omega) (by omega) (fun h31 => (False.elim (h31 ht))) (fun h31 => ?_)
        refine q_aload_n d18_34 rfl ?_
        refine q_v0 d18_35 rfl rfl hG1.1.2.1.1 (Nat.le_of_ble_eq_true rfl) (c16 hG1.1.2.1 hG1.2.2.1 hG1.2.2.2.1.2.2 (by omega) (fun M2 hk2 f2 => ?_))
        have hG2 := hG1.ad hk2 f2
        have g2 : Fi (FG c) M0 M2 := hF.trans (f2.mono FK_G)
        have hv2 : yQv n b (pAd n b K1.1, K1.2) := ⟨(pAd_v hv1.1 hG1.b).1, hv1.2⟩
        refine q_iload_n d18_38 rfl ?_
        refine q_aload_n d18_39 rfl ?_
        refine q_iload_n d18_40 rfl ?_
        refine q_iload_n d18_41 rfl ?_
        refine n_ior d18_42 ?_
        refine q_iload_n d18_43 rfl ?_
        refine q_v2 d18_44 rfl rfl hG2.1.2.1.1 (Nat.le_of_ble_eq_true rfl) (hP _ _ _ _ _ _ _ _ hG2 hv2 (or_lt hah hown) (cOut_e e (fun v M3 hB3 f3 => ?_)))
        refine q_ior d18_47 ?_
        refine q_istore_n d18_48 (by decide) rfl ?_
        refine n_iinc 1 d18_49 (by decide) rfl rfl ?_
        refine q_goto 10 d18_52 (by decide) ?_
        refine qW_srt rfl rfl ?_
        rw [show 120 - i = (120 - (i + 1)) + 1 by omega, pRe_er ht e] at hR
        subst hR
        have hf : f ≤ 120 := by have h9 := pPt_v (top := tq m) hG1.b (pB0_v hG1.b m) (ah ||| own) (pAd n b K1.1, K1.2) hv2 (or_lt hah hown); rw [e] at h9; exact Nat.le_trans h9 h120
        exact l18b hB3 hf (fun v M9 e9 => by subst e9; exact hk v _ hB3 (g2.trans f3)) (121) (i + 1) _ (by omega) (by omega)
        | ok r2 =>
          obtain ⟨o, K2⟩ := r2
          refine q_iload d18_10 rfl ?_
          refine q_bipush (x := nI 120) d18_12 rfl ?_
          refine nc_ge 55 d18_14 (by decide) (by omega) (by omega) (fun h14 => (False.elim (by omega))) (fun h14 => ?_)
          refine q_aload_n d18_17 rfl ?_
          refine q_getv (c := 3) (f := 5) d18_18 ⟨rfl, by decide⟩ hG1.1.2.1.1 hG1.2.2.2.2.1 ?_
          refine q_iconst (x := (-1)) d18_21 rfl ?_
          refine ic_ne 55 d18_22 (by decide) (fun h22 => (False.elim (h22 rfl))) (fun h22 => ?_)
          refine q_aload_n d18_25 rfl ?_
          refine q_getv (c := 3) (f := 3) d18_26 ⟨rfl, by decide⟩ hG1.1.2.1.1 hG1.2.2.2.1.1 ?_
          refine q_bipush (x := nI 59) d18_29 rfl ?_
          refine nc_ne 55 d18_31 (by decide) (by omega) (by omega) (fun h31 => (False.elim (h31 ht))) (fun h31 => ?_)
          refine q_aload_n d18_34 rfl ?_
          refine q_v0 d18_35 rfl rfl hG1.1.2.1.1 (Nat.le_of_ble_eq_true rfl) (c16 hG1.1.2.1 hG1.2.2.1 hG1.2.2.2.1.2.2 (by omega) (fun M2 hk2 f2 => ?_))
          have hG2 := hG1.ad hk2 f2
          have g2 : Fi (FG c) M0 M2 := hF.trans (f2.mono FK_G)
          have hv2 : yQv n b (pAd n b K1.1, K1.2) := ⟨(pAd_v hv1.1 hG1.b).1, hv1.2⟩
          refine q_iload_n d18_38 rfl ?_
          refine q_aload_n d18_39 rfl ?_
          refine q_iload_n d18_40 rfl ?_
          refine q_iload_n d18_41 rfl ?_
          refine n_ior d18_42 ?_
          refine q_iload_n d18_43 rfl ?_
          refine q_v2 d18_44 rfl rfl hG2.1.2.1.1 (Nat.le_of_ble_eq_true rfl) (hP _ _ _ _ _ _ _ _ hG2 hv2 (or_lt hah hown) (cOut_o e (fun M3 hG3 f3 => ?_)))
          refine n_ior d18_47 ?_
          refine q_istore_n d18_48 (by decide) rfl ?_
          refine n_iinc 1 d18_49 (by decide) rfl rfl ?_
          refine q_goto 10 d18_52 (by decide) ?_
          refine qW_srt rfl rfl ?_
          rw [show 120 - i = (120 - (i + 1)) + 1 by omega, pRe_ok ht e] at hR
          have h9 := pPt_v (top := tq m) hG1.b (pB0_v hG1.b m) (ah ||| own) (pAd n b K1.1, K1.2) hv2 (or_lt hah hown)
          rw [e] at h9
          obtain ⟨p1, p2, p3, p4, p5⟩ := h9
          have p2 : tn K1.2 ≤ tn K2.2 := p2
          have hw : 2 ^ tn K1.2 ≤ 2 ^ tn K2.2 := Nat.pow_le_pow_right (by omega) p2
          exact ih (i + 1) _ _ _ (by omega) (by omega) hG3 p1 (by omega) (or_lt (by omega) p3) (g2.trans f3) hR
      · skip
        refine q_iload d18_10 rfl ?_
        refine q_bipush (x := nI 120) d18_12 rfl ?_
        refine nc_ge 55 d18_14 (by decide) (by omega) (by omega) (fun h14 => ?_) (fun h14 => ?_)
        · refine q_iload_n d18_55 rfl ?_
          refine q_iret d18_56 rfl ?_
          rw [pRe_no ht] at hR
          subst hR
          exact hk _ hG1 hF
        · refine q_aload_n d18_17 rfl ?_
          refine q_getv (c := 3) (f := 5) d18_18 ⟨rfl, by decide⟩ hG1.1.2.1.1 hG1.2.2.2.2.1 ?_
          refine q_iconst (x := (-1)) d18_21 rfl ?_
          refine ic_ne 55 d18_22 (by decide) (fun h22 => (False.elim (h22 rfl))) (fun h22 => ?_)
          refine q_aload_n d18_25 rfl ?_
          refine q_getv (c := 3) (f := 3) d18_26 ⟨rfl, by decide⟩ hG1.1.2.1.1 hG1.2.2.2.1.1 ?_
          refine q_bipush (x := nI 59) d18_29 rfl ?_
          refine nc_ne 55 d18_31 (by decide) (by omega) (by omega) (fun h31 => ?_) (fun h31 => (False.elim (ht h31)))
          refine q_iload_n d18_55 rfl ?_
          refine q_iret d18_56 rfl ?_
          rw [pRe_no ht] at hR
          subst hR
          exact hk _ hG1 hF
    · skip
      refine q_iload d18_10 rfl ?_
      refine q_bipush (x := nI 120) d18_12 rfl ?_
      refine nc_ge 55 d18_14 (by decide) (by omega) (by omega) (fun h14 => ?_) (fun h14 => (False.elim (by omega)))
      refine q_iload_n d18_55 rfl ?_
      refine q_iret d18_56 rfl ?_
      rw [show 120 - i = 0 by omega, pRe] at hR
      subst hR
      exact hk _ hG1 hF
theorem c18_of (m : Nat) (hP : cPT m) : cLN m := by
  intro d M Q K ah c n b hG hv hah hk
  refine qC_of (d := d + 3 * m + 11) (by decide) (Nat.le_of_ble_eq_true rfl) ?_
  have h120 := hG.2.2.1.1
  have hk1 := hv.1.1.1
  have hk2 := hv.1.1.2.1
  have hk3 := hv.1.1.2.2.1
  rw [pLd_eq] at hk
  unfold pLn at hk
  cases e : pPt n b (pB0 n b m) (tq m) ah K with
  | error f =>
    rw [e] at hk
    simp only [] at hk
    refine q_aload_n d18_0 rfl ?_
    refine q_iload_n d18_1 rfl ?_
    refine q_iload_n d18_2 rfl ?_
    refine q_v2 d18_3 rfl rfl hG.1.2.1.1 (Nat.le_of_ble_eq_true rfl) (hP _ _ _ _ _ _ _ _ hG hv hah (cOut_e e (fun v M3 hB3 f3 => ?_)))
    refine q_istore_n d18_6 (by decide) rfl ?_
    refine q_iconstN (z := 0) d18_7 ?_
    refine q_istore d18_8 (by decide) rfl ?_
    refine qW_srt rfl rfl ?_
    have hf : f ≤ 120 := by have h9 := pPt_v (top := tq m) hG.b (pB0_v hG.b m) ah K hv hah; rw [e] at h9; exact Nat.le_trans h9 h120
    exact l18b hB3 hf (fun v M9 e9 => by subst e9; exact hk v _ hB3 f3) 121 0 _ (by omega) (by omega)
  | ok r =>
    obtain ⟨o, K2⟩ := r
    rw [e] at hk
    simp only [] at hk
    refine q_aload_n d18_0 rfl ?_
    refine q_iload_n d18_1 rfl ?_
    refine q_iload_n d18_2 rfl ?_
    refine q_v2 d18_3 rfl rfl hG.1.2.1.1 (Nat.le_of_ble_eq_true rfl) (hP _ _ _ _ _ _ _ _ hG hv hah (cOut_o e (fun M3 hG3 f3 => ?_)))
    refine q_istore_n d18_6 (by decide) rfl ?_
    refine q_iconstN (z := 0) d18_7 ?_
    refine q_istore d18_8 (by decide) rfl ?_
    refine qW_srt rfl rfl ?_
    have h9 := pPt_v (top := tq m) hG.b (pB0_v hG.b m) ah K hv hah
    rw [e] at h9
    obtain ⟨p1, p2, p3, p4, p5⟩ := h9
    have hw : 2 ^ tn K.2 ≤ 2 ^ tn K2.2 := Nat.pow_le_pow_right (by omega) p2
    exact l18 hP hk 121 0 _ _ _ (by omega) (by omega) hG3 p1 (by omega) p3 f3 rfl
/-! ===== contracts: branches are read ===== -/
theorem d30_0 : decode (zB 30) 0 = .ok (.aload_n 0, 1) := (congrArg (fun c => decode c 0) zeq30).trans (by decide +kernel)
theorem d30_1 : decode (zB 30) 1 = .ok (.invokevirtual 34, 3) := (congrArg (fun c => decode c 1) zeq30).trans (by decide +kernel)
theorem d30_4 : decode (zB 30) 4 = .ok (.aload_n 0, 1) := (congrArg (fun c => decode c 4) zeq30).trans (by decide +kernel)
theorem d30_5 : decode (zB 30) 5 = .ok (.iload_n 1, 1) := (congrArg (fun c => decode c 5) zeq30).trans (by decide +kernel)
theorem d30_6 : decode (zB 30) 6 = .ok (.iload_n 2, 1) := (congrArg (fun c => decode c 6) zeq30).trans (by decide +kernel)
theorem d30_7 : decode (zB 30) 7 = .ok (.invokevirtual 37, 3) := (congrArg (fun c => decode c 7) zeq30).trans (by decide +kernel)
theorem d30_10 : decode (zB 30) 10 = .ok (.istore_n 3, 1) := (congrArg (fun c => decode c 10) zeq30).trans (by decide +kernel)
theorem d30_11 : decode (zB 30) 11 = .ok (.aload_n 0, 1) := (congrArg (fun c => decode c 11) zeq30).trans (by decide +kernel)
theorem d30_12 : decode (zB 30) 12 = .ok (.bipush 124, 2) := (congrArg (fun c => decode c 12) zeq30).trans (by decide +kernel)
theorem d30_14 : decode (zB 30) 14 = .ok (.invokevirtual 72, 3) := (congrArg (fun c => decode c 14) zeq30).trans (by decide +kernel)
theorem d30_17 : decode (zB 30) 17 = .ok (.iload_n 3, 1) := (congrArg (fun c => decode c 17) zeq30).trans (by decide +kernel)
theorem d30_18 : decode (zB 30) 18 = .ok (.aload_n 0, 1) := (congrArg (fun c => decode c 18) zeq30).trans (by decide +kernel)
theorem d30_19 : decode (zB 30) 19 = .ok (.iload_n 1, 1) := (congrArg (fun c => decode c 19) zeq30).trans (by decide +kernel)
theorem d30_20 : decode (zB 30) 20 = .ok (.iload_n 2, 1) := (congrArg (fun c => decode c 20) zeq30).trans (by decide +kernel)
theorem d30_21 : decode (zB 30) 21 = .ok (.invokevirtual 37, 3) := (congrArg (fun c => decode c 21) zeq30).trans (by decide +kernel)
theorem d30_24 : decode (zB 30) 24 = .ok (.ior, 1) := (congrArg (fun c => decode c 24) zeq30).trans (by decide +kernel)
theorem d30_25 : decode (zB 30) 25 = .ok (.istore_n 3, 1) := (congrArg (fun c => decode c 25) zeq30).trans (by decide +kernel)
theorem d30_26 : decode (zB 30) 26 = .ok (.aload_n 0, 1) := (congrArg (fun c => decode c 26) zeq30).trans (by decide +kernel)
theorem d30_27 : decode (zB 30) 27 = .ok (.getfield 31, 3) := (congrArg (fun c => decode c 27) zeq30).trans (by decide +kernel)
theorem d30_30 : decode (zB 30) 30 = .ok (.iconst (-1), 1) := (congrArg (fun c => decode c 30) zeq30).trans (by decide +kernel)
theorem d30_31 : decode (zB 30) 31 = .ok (.if_icmp .ne 25, 3) := (congrArg (fun c => decode c 31) zeq30).trans (by decide +kernel)
theorem d30_34 : decode (zB 30) 34 = .ok (.aload_n 0, 1) := (congrArg (fun c => decode c 34) zeq30).trans (by decide +kernel)
theorem d30_35 : decode (zB 30) 35 = .ok (.getfield 41, 3) := (congrArg (fun c => decode c 35) zeq30).trans (by decide +kernel)
theorem d30_38 : decode (zB 30) 38 = .ok (.bipush 124, 2) := (congrArg (fun c => decode c 38) zeq30).trans (by decide +kernel)
theorem d30_40 : decode (zB 30) 40 = .ok (.if_icmp .ne 16, 3) := (congrArg (fun c => decode c 40) zeq30).trans (by decide +kernel)
theorem d30_43 : decode (zB 30) 43 = .ok (.aload_n 0, 1) := (congrArg (fun c => decode c 43) zeq30).trans (by decide +kernel)
theorem d30_44 : decode (zB 30) 44 = .ok (.invokevirtual 34, 3) := (congrArg (fun c => decode c 44) zeq30).trans (by decide +kernel)
theorem d30_47 : decode (zB 30) 47 = .ok (.iload_n 3, 1) := (congrArg (fun c => decode c 47) zeq30).trans (by decide +kernel)
theorem d30_48 : decode (zB 30) 48 = .ok (.aload_n 0, 1) := (congrArg (fun c => decode c 48) zeq30).trans (by decide +kernel)
theorem d30_49 : decode (zB 30) 49 = .ok (.iload_n 1, 1) := (congrArg (fun c => decode c 49) zeq30).trans (by decide +kernel)
theorem d30_50 : decode (zB 30) 50 = .ok (.iload_n 2, 1) := (congrArg (fun c => decode c 50) zeq30).trans (by decide +kernel)
theorem d30_51 : decode (zB 30) 51 = .ok (.invokevirtual 37, 3) := (congrArg (fun c => decode c 51) zeq30).trans (by decide +kernel)
theorem d30_54 : decode (zB 30) 54 = .ok (.ior, 1) := (congrArg (fun c => decode c 54) zeq30).trans (by decide +kernel)
theorem d30_55 : decode (zB 30) 55 = .ok (.istore_n 3, 1) := (congrArg (fun c => decode c 55) zeq30).trans (by decide +kernel)
theorem d30_56 : decode (zB 30) 56 = .ok (.aload_n 0, 1) := (congrArg (fun c => decode c 56) zeq30).trans (by decide +kernel)
theorem d30_57 : decode (zB 30) 57 = .ok (.bipush 125, 2) := (congrArg (fun c => decode c 57) zeq30).trans (by decide +kernel)
theorem d30_59 : decode (zB 30) 59 = .ok (.invokevirtual 72, 3) := (congrArg (fun c => decode c 59) zeq30).trans (by decide +kernel)
theorem d30_62 : decode (zB 30) 62 = .ok (.iload_n 3, 1) := (congrArg (fun c => decode c 62) zeq30).trans (by decide +kernel)
theorem d30_63 : decode (zB 30) 63 = .ok (.ireturn, 1) := (congrArg (fun c => decode c 63) zeq30).trans (by decide +kernel)
theorem c31y {d c n ch : Nat} {M : zM} {Q : Option Value → zM → Prop} {b : Nat → Nat} {K : yQ} (hG : GR M c n b K) (hv : yQv n b K) (t : K.1.1 = ch) (k : ∀ M', GR M' c n b (pAd n b K.1, K.2) → Fi (FG c) M M' → Q none M') : qC (d + 3) 31 [.ref 17, .int (nI ch)] M Q := by
  subst t; exact c31t hG hv k
theorem cOut_x {Q : Option Value → zM → Prop} {M : zM} {c n f : Nat} {b : Nat → Nat} {R : Except Nat (Nat × yQ)} (h : cOut Q M c n b R) (e : R = .error f) : ∀ v M', BR M' c n b f → Fi (FG c) M M' → Q (some (.int v)) M' := by subst e; exact h
theorem cOut_y {Q : Option Value → zM → Prop} {M : zM} {c n o : Nat} {b : Nat → Nat} {K1 : yQ} {R : Except Nat (Nat × yQ)} (h : cOut Q M c n b R) (e : R = .ok (o, K1)) : ∀ M', GR M' c n b K1 → Fi (FG c) M M' → Q (some (.int (nI o))) M' := by subst e; exact h
theorem c30_of (m : Nat) (hm : m ≤ 2) (hL : cLN m) : cBR m := by
  intro d M Q K ah c n b hG hv hah hk
  refine qC_of (d := d + 3 * m + 12) (by decide) (Nat.le_of_ble_eq_true rfl) ?_
  have h120 := hG.2.2.1.1
  have hk1 := hv.1.1.1
  have hk2 := hv.1.1.2.1
  have hk3 := hv.1.1.2.2.1
  have hq : tq m = false := by unfold tq; exact beq_false_of_ne (by omega)
  have hbb := hG.b
  have hva : yQv n b (pAd n b K.1, K.2) := ⟨(pAd_v hv.1 hbb).1, hv.2⟩
  have qL1 := pLd_v hbb m false ah (pAd n b K.1, K.2) hva hah
  cases eL1 : pLd n b m false ah (pAd n b K.1, K.2) with
  | error w =>
    rw [eL1] at qL1
    have wL1 : w ≤ n := qL1
    refine q_aload_n d30_0 rfl ?_
    refine q_v0 d30_1 rfl rfl hG.1.2.1.1 (Nat.le_of_ble_eq_true rfl) (c16 hG.1.2.1 hG.2.2.1 hG.2.2.2.1.2.2 (by omega) (fun M1 hk1 f1 => ?_))
    have hG1 := hG.ad hk1 f1
    have g1 : Fi (FG c) M M1 := f1.mono FK_G
    refine q_aload_n d30_4 rfl ?_
    refine q_iload_n d30_5 rfl ?_
    refine q_iload_n d30_6 rfl ?_
    refine q_v2 d30_7 rfl rfl hG1.1.2.1.1 (Nat.le_of_ble_eq_true rfl) (hL _ _ _ _ _ _ _ _ hG1 hva hah (cOut_e (by rw [hq]; exact eL1) (fun vL1 M2 hB f2 => ?_)))
    have g2 := g1.trans f2
    have hf := Nat.le_trans wL1 h120
    refine q_istore_n d30_10 (by decide) rfl ?_
    refine q_aload_n d30_11 rfl ?_
    refine q_bipush (x := nI 124) d30_12 rfl ?_
    refine q_v1 d30_14 rfl rfl hB.1.2.1.1 (Nat.le_of_ble_eq_true rfl) (c31f hB hf ?_)
    refine q_iload_n d30_17 rfl ?_
    refine q_aload_n d30_18 rfl ?_
    refine q_iload_n d30_19 rfl ?_
    refine q_iload_n d30_20 rfl ?_
    refine q_v2 d30_21 rfl rfl hB.1.2.1.1 (Nat.le_of_ble_eq_true rfl) (c18f hB hf ?_)
    refine q_ior d30_24 ?_
    refine q_istore_n d30_25 (by decide) rfl ?_
    refine q_aload_n d30_26 rfl ?_
    refine q_getv (c := 3) (f := 5) d30_27 ⟨rfl, by decide⟩ hB.1.2.1.1 hB.2.2.2.1 ?_
    refine q_iconst (x := (-1)) d30_30 rfl ?_
    refine ic_ne 56 d30_31 (by decide) (fun h31 => ?_) (fun h31 => (False.elim (nI_m1 (by omega) h31)))
    refine q_aload_n d30_56 rfl ?_
    refine q_bipush (x := nI 125) d30_57 rfl ?_
    refine q_v1 d30_59 rfl rfl hB.1.2.1.1 (Nat.le_of_ble_eq_true rfl) (c31f hB hf ?_)
    refine q_iload_n d30_62 rfl ?_
    refine q_iret d30_63 rfl ?_
    exact cOut_x hk (by unfold pBr pEx pB3; simp [eL1]) _ _ hB g2
  | ok r =>
    obtain ⟨o1, Kb⟩ := r
    rw [eL1] at qL1
    have hvb : yQv n b Kb := qL1.1
    have hnb := qL1.2.1
    have hpb : 2 ^ tn (pAd n b K.1, K.2).2 ≤ 2 ^ tn Kb.2 := Nat.pow_le_pow_right (by omega) hnb
    have h0_b := hvb.1.1.1; have h1_b := hvb.1.1.2.1; have h2_b := hvb.1.1.2.2.1
    by_cases tX1 : Kb.1.1 = 124
    · skip
      have hvc : yQv n b (pAd n b Kb.1, Kb.2) := ⟨(pAd_v hvb.1 hbb).1, hvb.2⟩
      have hahc : ah < 2 ^ tn (pAd n b Kb.1, Kb.2).2 := by show ah < 2 ^ tn Kb.2; have hpb : 2 ^ tn K.2 ≤ 2 ^ tn Kb.2 := hpb; omega
      have qL2 := pLd_v hbb m false ah (pAd n b Kb.1, Kb.2) hvc hahc
      cases eL2 : pLd n b m false ah (pAd n b Kb.1, Kb.2) with
      | error w =>
        rw [eL2] at qL2
        have wL2 : w ≤ n := qL2
        refine q_aload_n d30_0 rfl ?_
        refine q_v0 d30_1 rfl rfl hG.1.2.1.1 (Nat.le_of_ble_eq_true rfl) (c16 hG.1.2.1 hG.2.2.1 hG.2.2.2.1.2.2 (by omega) (fun M1 hk1 f1 => ?_))
        have hG1 := hG.ad hk1 f1
        have g1 : Fi (FG c) M M1 := f1.mono FK_G
        refine q_aload_n d30_4 rfl ?_
        refine q_iload_n d30_5 rfl ?_
        refine q_iload_n d30_6 rfl ?_
        refine q_v2 d30_7 rfl rfl hG1.1.2.1.1 (Nat.le_of_ble_eq_true rfl) (hL _ _ _ _ _ _ _ _ hG1 hva hah (cOut_o (by rw [hq]; exact eL1) (fun M2 hG2 f2 => ?_)))
        have g2 := g1.trans f2
        refine q_istore_n d30_10 (by decide) rfl ?_
        refine q_aload_n d30_11 rfl ?_
        refine q_bipush (x := nI 124) d30_12 rfl ?_
        refine q_v1 d30_14 rfl rfl hG2.1.2.1.1 (Nat.le_of_ble_eq_true rfl) (c31y hG2 hvb tX1 (fun M3 hG3 f3 => ?_))
        have g3 := g2.trans f3
        refine q_iload_n d30_17 rfl ?_
        refine q_aload_n d30_18 rfl ?_
        refine q_iload_n d30_19 rfl ?_
        refine q_iload_n d30_20 rfl ?_
        refine q_v2 d30_21 rfl rfl hG3.1.2.1.1 (Nat.le_of_ble_eq_true rfl) (hL _ _ _ _ _ _ _ _ hG3 hvc hahc (cOut_e (by rw [hq]; exact eL2) (fun vL2 M4 hB f4 => ?_)))
        have g4 := g3.trans f4
        have hf := Nat.le_trans wL2 h120
        refine q_ior d30_24 ?_
        refine q_istore_n d30_25 (by decide) rfl ?_
        refine q_aload_n d30_26 rfl ?_
        refine q_getv (c := 3) (f := 5) d30_27 ⟨rfl, by decide⟩ hB.1.2.1.1 hB.2.2.2.1 ?_
        refine q_iconst (x := (-1)) d30_30 rfl ?_
        refine ic_ne 56 d30_31 (by decide) (fun h31 => ?_) (fun h31 => (False.elim (nI_m1 (by omega) h31)))
        refine q_aload_n d30_56 rfl ?_
        refine q_bipush (x := nI 125) d30_57 rfl ?_
        refine q_v1 d30_59 rfl rfl hB.1.2.1.1 (Nat.le_of_ble_eq_true rfl) (c31f hB hf ?_)
        refine q_iload_n d30_62 rfl ?_
        refine q_iret d30_63 rfl ?_
        exact cOut_x hk (by unfold pBr pEx pB3; simp [eL1, tX1, eL2]) _ _ hB g4
      | ok r =>
        obtain ⟨o2, Kd⟩ := r
        rw [eL2] at qL2
        have hvd : yQv n b Kd := qL2.1
        have hnd := qL2.2.1
        have hpd : 2 ^ tn (pAd n b Kb.1, Kb.2).2 ≤ 2 ^ tn Kd.2 := Nat.pow_le_pow_right (by omega) hnd
        have h0_d := hvd.1.1.1; have h1_d := hvd.1.1.2.1; have h2_d := hvd.1.1.2.2.1
        have hpd : 2 ^ tn Kb.2 ≤ 2 ^ tn Kd.2 := hpd
        have hpb : 2 ^ tn K.2 ≤ 2 ^ tn Kb.2 := hpb
        by_cases tT3 : Kd.1.1 = 124
        · have hve : yQv n b (pAd n b Kd.1, Kd.2) := ⟨(pAd_v hvd.1 hbb).1, hvd.2⟩
          have hahe : ah < 2 ^ tn (pAd n b Kd.1, Kd.2).2 := by show ah < 2 ^ tn Kd.2; omega
          have qL3 := pLd_v hbb m false ah (pAd n b Kd.1, Kd.2) hve hahe
          cases eL3 : pLd n b m false ah (pAd n b Kd.1, Kd.2) with
          | error w =>
            rw [eL3] at qL3
            have wL3 : w ≤ n := qL3
            refine q_aload_n d30_0 rfl ?_
            refine q_v0 d30_1 rfl rfl hG.1.2.1.1 (Nat.le_of_ble_eq_true rfl) (c16 hG.1.2.1 hG.2.2.1 hG.2.2.2.1.2.2 (by omega) (fun M1 hk1 f1 => ?_))
            have hG1 := hG.ad hk1 f1
            have g1 : Fi (FG c) M M1 := f1.mono FK_G
            refine q_aload_n d30_4 rfl ?_
            refine q_iload_n d30_5 rfl ?_
            refine q_iload_n d30_6 rfl ?_
            refine q_v2 d30_7 rfl rfl hG1.1.2.1.1 (Nat.le_of_ble_eq_true rfl) (hL _ _ _ _ _ _ _ _ hG1 hva hah (cOut_o (by rw [hq]; exact eL1) (fun M2 hG2 f2 => ?_)))
            have g2 := g1.trans f2
            refine q_istore_n d30_10 (by decide) rfl ?_
            refine q_aload_n d30_11 rfl ?_
            refine q_bipush (x := nI 124) d30_12 rfl ?_
            refine q_v1 d30_14 rfl rfl hG2.1.2.1.1 (Nat.le_of_ble_eq_true rfl) (c31y hG2 hvb tX1 (fun M3 hG3 f3 => ?_))
            have g3 := g2.trans f3
            refine q_iload_n d30_17 rfl ?_
            refine q_aload_n d30_18 rfl ?_
            refine q_iload_n d30_19 rfl ?_
            refine q_iload_n d30_20 rfl ?_
            refine q_v2 d30_21 rfl rfl hG3.1.2.1.1 (Nat.le_of_ble_eq_true rfl) (hL _ _ _ _ _ _ _ _ hG3 hvc hahc (cOut_o (by rw [hq]; exact eL2) (fun M4 hG4 f4 => ?_)))
            have g4 := g3.trans f4
            refine n_ior d30_24 ?_
            refine q_istore_n d30_25 (by decide) rfl ?_
            refine q_aload_n d30_26 rfl ?_
            refine q_getv (c := 3) (f := 5) d30_27 ⟨rfl, by decide⟩ hG4.1.2.1.1 hG4.2.2.2.2.1 ?_
            refine q_iconst (x := (-1)) d30_30 rfl ?_
            refine ic_ne 56 d30_31 (by decide) (fun h31 => (False.elim (h31 rfl))) (fun h31 => ?_)
            refine q_aload_n d30_34 rfl ?_
            refine q_getv (c := 3) (f := 3) d30_35 ⟨rfl, by decide⟩ hG4.1.2.1.1 hG4.2.2.2.1.1 ?_
            refine q_bipush (x := nI 124) d30_38 rfl ?_
            refine nc_ne 56 d30_40 (by decide) (by omega) (by omega) (fun h40 => (False.elim (h40 tT3))) (fun h40 => ?_)
            refine q_aload_n d30_43 rfl ?_
            refine q_v0 d30_44 rfl rfl hG4.1.2.1.1 (Nat.le_of_ble_eq_true rfl) (c16 hG4.1.2.1 hG4.2.2.1 hG4.2.2.2.1.2.2 (by omega) (fun M5 hk5 f5 => ?_))
            have hG5 := hG4.ad hk5 f5
            have g5 := g4.trans (f5.mono FK_G)
            refine q_iload_n d30_47 rfl ?_
            refine q_aload_n d30_48 rfl ?_
            refine q_iload_n d30_49 rfl ?_
            refine q_iload_n d30_50 rfl ?_
            refine q_v2 d30_51 rfl rfl hG5.1.2.1.1 (Nat.le_of_ble_eq_true rfl) (hL _ _ _ _ _ _ _ _ hG5 hve hahe (cOut_e (by rw [hq]; exact eL3) (fun vL3 M6 hB f6 => ?_)))
            have g6 := g5.trans f6
            have hf := Nat.le_trans wL3 h120
            refine q_ior d30_54 ?_
            refine q_istore_n d30_55 (by decide) rfl ?_
            refine q_aload_n d30_56 rfl ?_
            refine q_bipush (x := nI 125) d30_57 rfl ?_
            refine q_v1 d30_59 rfl rfl hB.1.2.1.1 (Nat.le_of_ble_eq_true rfl) (c31f hB hf ?_)
            refine q_iload_n d30_62 rfl ?_
            refine q_iret d30_63 rfl ?_
            exact cOut_x hk (by unfold pBr pEx pB3; simp [eL1, tX1, eL2, tT3, eL3]) _ _ hB g6
          | ok r =>
            obtain ⟨o3, Kf⟩ := r
            rw [eL3] at qL3
            have hvf : yQv n b Kf := qL3.1
            have hnf := qL3.2.1
            have hpf : 2 ^ tn (pAd n b Kd.1, Kd.2).2 ≤ 2 ^ tn Kf.2 := Nat.pow_le_pow_right (by omega) hnf
            have h0_f := hvf.1.1.1; have h1_f := hvf.1.1.2.1; have h2_f := hvf.1.1.2.2.1
            by_cases tX2 : Kf.1.1 = 125
            · skip
              refine q_aload_n d30_0 rfl ?_
              refine q_v0 d30_1 rfl rfl hG.1.2.1.1 (Nat.le_of_ble_eq_true rfl) (c16 hG.1.2.1 hG.2.2.1 hG.2.2.2.1.2.2 (by omega) (fun M1 hk1 f1 => ?_))
              have hG1 := hG.ad hk1 f1
              have g1 : Fi (FG c) M M1 := f1.mono FK_G
              refine q_aload_n d30_4 rfl ?_
              refine q_iload_n d30_5 rfl ?_
              refine q_iload_n d30_6 rfl ?_
              refine q_v2 d30_7 rfl rfl hG1.1.2.1.1 (Nat.le_of_ble_eq_true rfl) (hL _ _ _ _ _ _ _ _ hG1 hva hah (cOut_o (by rw [hq]; exact eL1) (fun M2 hG2 f2 => ?_)))
              have g2 := g1.trans f2
              refine q_istore_n d30_10 (by decide) rfl ?_
              refine q_aload_n d30_11 rfl ?_
              refine q_bipush (x := nI 124) d30_12 rfl ?_
              refine q_v1 d30_14 rfl rfl hG2.1.2.1.1 (Nat.le_of_ble_eq_true rfl) (c31y hG2 hvb tX1 (fun M3 hG3 f3 => ?_))
              have g3 := g2.trans f3
              refine q_iload_n d30_17 rfl ?_
              refine q_aload_n d30_18 rfl ?_
              refine q_iload_n d30_19 rfl ?_
              refine q_iload_n d30_20 rfl ?_
              refine q_v2 d30_21 rfl rfl hG3.1.2.1.1 (Nat.le_of_ble_eq_true rfl) (hL _ _ _ _ _ _ _ _ hG3 hvc hahc (cOut_o (by rw [hq]; exact eL2) (fun M4 hG4 f4 => ?_)))
              have g4 := g3.trans f4
              refine n_ior d30_24 ?_
              refine q_istore_n d30_25 (by decide) rfl ?_
              refine q_aload_n d30_26 rfl ?_
              refine q_getv (c := 3) (f := 5) d30_27 ⟨rfl, by decide⟩ hG4.1.2.1.1 hG4.2.2.2.2.1 ?_
              refine q_iconst (x := (-1)) d30_30 rfl ?_
              refine ic_ne 56 d30_31 (by decide) (fun h31 => (False.elim (h31 rfl))) (fun h31 => ?_)
              refine q_aload_n d30_34 rfl ?_
              refine q_getv (c := 3) (f := 3) d30_35 ⟨rfl, by decide⟩ hG4.1.2.1.1 hG4.2.2.2.1.1 ?_
              refine q_bipush (x := nI 124) d30_38 rfl ?_
              refine nc_ne 56 d30_40 (by decide) (by omega) (by omega) (fun h40 => (False.elim (h40 tT3))) (fun h40 => ?_)
              refine q_aload_n d30_43 rfl ?_
              refine q_v0 d30_44 rfl rfl hG4.1.2.1.1 (Nat.le_of_ble_eq_true rfl) (c16 hG4.1.2.1 hG4.2.2.1 hG4.2.2.2.1.2.2 (by omega) (fun M5 hk5 f5 => ?_))
              have hG5 := hG4.ad hk5 f5
              have g5 := g4.trans (f5.mono FK_G)
              refine q_iload_n d30_47 rfl ?_
              refine q_aload_n d30_48 rfl ?_
              refine q_iload_n d30_49 rfl ?_
              refine q_iload_n d30_50 rfl ?_
              refine q_v2 d30_51 rfl rfl hG5.1.2.1.1 (Nat.le_of_ble_eq_true rfl) (hL _ _ _ _ _ _ _ _ hG5 hve hahe (cOut_o (by rw [hq]; exact eL3) (fun M6 hG6 f6 => ?_)))
              have g6 := g5.trans f6
              refine n_ior d30_54 ?_
              refine q_istore_n d30_55 (by decide) rfl ?_
              refine q_aload_n d30_56 rfl ?_
              refine q_bipush (x := nI 125) d30_57 rfl ?_
              refine q_v1 d30_59 rfl rfl hG6.1.2.1.1 (Nat.le_of_ble_eq_true rfl) (c31y hG6 hvf tX2 (fun M7 hG7 f7 => ?_))
              have g7 := g6.trans f7
              refine q_iload_n d30_62 rfl ?_
              refine q_iret d30_63 rfl ?_
              exact cOut_y hk (by unfold pBr pEx pB3; simp [eL1, tX1, eL2, tT3, eL3, tX2]) _ hG7 g7
            · skip
              refine q_aload_n d30_0 rfl ?_
              refine q_v0 d30_1 rfl rfl hG.1.2.1.1 (Nat.le_of_ble_eq_true rfl) (c16 hG.1.2.1 hG.2.2.1 hG.2.2.2.1.2.2 (by omega) (fun M1 hk1 f1 => ?_))
              have hG1 := hG.ad hk1 f1
              have g1 : Fi (FG c) M M1 := f1.mono FK_G
              refine q_aload_n d30_4 rfl ?_
              refine q_iload_n d30_5 rfl ?_
              refine q_iload_n d30_6 rfl ?_
              refine q_v2 d30_7 rfl rfl hG1.1.2.1.1 (Nat.le_of_ble_eq_true rfl) (hL _ _ _ _ _ _ _ _ hG1 hva hah (cOut_o (by rw [hq]; exact eL1) (fun M2 hG2 f2 => ?_)))
              have g2 := g1.trans f2
              refine q_istore_n d30_10 (by decide) rfl ?_
              refine q_aload_n d30_11 rfl ?_
              refine q_bipush (x := nI 124) d30_12 rfl ?_
              refine q_v1 d30_14 rfl rfl hG2.1.2.1.1 (Nat.le_of_ble_eq_true rfl) (c31y hG2 hvb tX1 (fun M3 hG3 f3 => ?_))
              have g3 := g2.trans f3
              refine q_iload_n d30_17 rfl ?_
              refine q_aload_n d30_18 rfl ?_
              refine q_iload_n d30_19 rfl ?_
              refine q_iload_n d30_20 rfl ?_
              refine q_v2 d30_21 rfl rfl hG3.1.2.1.1 (Nat.le_of_ble_eq_true rfl) (hL _ _ _ _ _ _ _ _ hG3 hvc hahc (cOut_o (by rw [hq]; exact eL2) (fun M4 hG4 f4 => ?_)))
              have g4 := g3.trans f4
              refine n_ior d30_24 ?_
              refine q_istore_n d30_25 (by decide) rfl ?_
              refine q_aload_n d30_26 rfl ?_
              refine q_getv (c := 3) (f := 5) d30_27 ⟨rfl, by decide⟩ hG4.1.2.1.1 hG4.2.2.2.2.1 ?_
              refine q_iconst (x := (-1)) d30_30 rfl ?_
              refine ic_ne 56 d30_31 (by decide) (fun h31 => (False.elim (h31 rfl))) (fun h31 => ?_)
              refine q_aload_n d30_34 rfl ?_
              refine q_getv (c := 3) (f := 3) d30_35 ⟨rfl, by decide⟩ hG4.1.2.1.1 hG4.2.2.2.1.1 ?_
              refine q_bipush (x := nI 124) d30_38 rfl ?_
              refine nc_ne 56 d30_40 (by decide) (by omega) (by omega) (fun h40 => (False.elim (h40 tT3))) (fun h40 => ?_)
              refine q_aload_n d30_43 rfl ?_
              refine q_v0 d30_44 rfl rfl hG4.1.2.1.1 (Nat.le_of_ble_eq_true rfl) (c16 hG4.1.2.1 hG4.2.2.1 hG4.2.2.2.1.2.2 (by omega) (fun M5 hk5 f5 => ?_))
              have hG5 := hG4.ad hk5 f5
              have g5 := g4.trans (f5.mono FK_G)
              refine q_iload_n d30_47 rfl ?_
              refine q_aload_n d30_48 rfl ?_
              refine q_iload_n d30_49 rfl ?_
              refine q_iload_n d30_50 rfl ?_
              refine q_v2 d30_51 rfl rfl hG5.1.2.1.1 (Nat.le_of_ble_eq_true rfl) (hL _ _ _ _ _ _ _ _ hG5 hve hahe (cOut_o (by rw [hq]; exact eL3) (fun M6 hG6 f6 => ?_)))
              have g6 := g5.trans f6
              refine n_ior d30_54 ?_
              refine q_istore_n d30_55 (by decide) rfl ?_
              refine q_aload_n d30_56 rfl ?_
              refine q_bipush (x := nI 125) d30_57 rfl ?_
              refine q_v1 d30_59 rfl rfl hG6.1.2.1.1 (Nat.le_of_ble_eq_true rfl) (c31n hG6 hvf (by decide) tX2 (fun M7 hB f7 => ?_))
              have g7 := g6.trans f7
              have hf := Nat.le_trans hvf.f h120
              refine q_iload_n d30_62 rfl ?_
              refine q_iret d30_63 rfl ?_
              exact cOut_x hk (by unfold pBr pEx pB3; simp [eL1, tX1, eL2, tT3, eL3, tX2]) _ _ hB g7
        · skip
          by_cases tX2 : Kd.1.1 = 125
          · skip
            refine q_aload_n d30_0 rfl ?_
            refine q_v0 d30_1 rfl rfl hG.1.2.1.1 (Nat.le_of_ble_eq_true rfl) (c16 hG.1.2.1 hG.2.2.1 hG.2.2.2.1.2.2 (by omega) (fun M1 hk1 f1 => ?_))
            have hG1 := hG.ad hk1 f1
            have g1 : Fi (FG c) M M1 := f1.mono FK_G
            refine q_aload_n d30_4 rfl ?_
            refine q_iload_n d30_5 rfl ?_
            refine q_iload_n d30_6 rfl ?_
            refine q_v2 d30_7 rfl rfl hG1.1.2.1.1 (Nat.le_of_ble_eq_true rfl) (hL _ _ _ _ _ _ _ _ hG1 hva hah (cOut_o (by rw [hq]; exact eL1) (fun M2 hG2 f2 => ?_)))
            have g2 := g1.trans f2
            refine q_istore_n d30_10 (by decide) rfl ?_
            refine q_aload_n d30_11 rfl ?_
            refine q_bipush (x := nI 124) d30_12 rfl ?_
            refine q_v1 d30_14 rfl rfl hG2.1.2.1.1 (Nat.le_of_ble_eq_true rfl) (c31y hG2 hvb tX1 (fun M3 hG3 f3 => ?_))
            have g3 := g2.trans f3
            refine q_iload_n d30_17 rfl ?_
            refine q_aload_n d30_18 rfl ?_
            refine q_iload_n d30_19 rfl ?_
            refine q_iload_n d30_20 rfl ?_
            refine q_v2 d30_21 rfl rfl hG3.1.2.1.1 (Nat.le_of_ble_eq_true rfl) (hL _ _ _ _ _ _ _ _ hG3 hvc hahc (cOut_o (by rw [hq]; exact eL2) (fun M4 hG4 f4 => ?_)))
            have g4 := g3.trans f4
            refine n_ior d30_24 ?_
            refine q_istore_n d30_25 (by decide) rfl ?_
            refine q_aload_n d30_26 rfl ?_
            refine q_getv (c := 3) (f := 5) d30_27 ⟨rfl, by decide⟩ hG4.1.2.1.1 hG4.2.2.2.2.1 ?_
            refine q_iconst (x := (-1)) d30_30 rfl ?_
            refine ic_ne 56 d30_31 (by decide) (fun h31 => (False.elim (h31 rfl))) (fun h31 => ?_)
            refine q_aload_n d30_34 rfl ?_
            refine q_getv (c := 3) (f := 3) d30_35 ⟨rfl, by decide⟩ hG4.1.2.1.1 hG4.2.2.2.1.1 ?_
            refine q_bipush (x := nI 124) d30_38 rfl ?_
            refine nc_ne 56 d30_40 (by decide) (by omega) (by omega) (fun h40 => ?_) (fun h40 => (False.elim (tT3 h40)))
            refine q_aload_n d30_56 rfl ?_
            refine q_bipush (x := nI 125) d30_57 rfl ?_
            refine q_v1 d30_59 rfl rfl hG4.1.2.1.1 (Nat.le_of_ble_eq_true rfl) (c31y hG4 hvd tX2 (fun M5 hG5 f5 => ?_))
            have g5 := g4.trans f5
            refine q_iload_n d30_62 rfl ?_
            refine q_iret d30_63 rfl ?_
            exact cOut_y hk (by unfold pBr pEx pB3; simp [eL1, tX1, eL2, tT3, tX2]) _ hG5 g5
          · skip
            refine q_aload_n d30_0 rfl ?_
            refine q_v0 d30_1 rfl rfl hG.1.2.1.1 (Nat.le_of_ble_eq_true rfl) (c16 hG.1.2.1 hG.2.2.1 hG.2.2.2.1.2.2 (by omega) (fun M1 hk1 f1 => ?_))
            have hG1 := hG.ad hk1 f1
            have g1 : Fi (FG c) M M1 := f1.mono FK_G
            refine q_aload_n d30_4 rfl ?_
            refine q_iload_n d30_5 rfl ?_
            refine q_iload_n d30_6 rfl ?_
            refine q_v2 d30_7 rfl rfl hG1.1.2.1.1 (Nat.le_of_ble_eq_true rfl) (hL _ _ _ _ _ _ _ _ hG1 hva hah (cOut_o (by rw [hq]; exact eL1) (fun M2 hG2 f2 => ?_)))
            have g2 := g1.trans f2
            refine q_istore_n d30_10 (by decide) rfl ?_
            refine q_aload_n d30_11 rfl ?_
            refine q_bipush (x := nI 124) d30_12 rfl ?_
            refine q_v1 d30_14 rfl rfl hG2.1.2.1.1 (Nat.le_of_ble_eq_true rfl) (c31y hG2 hvb tX1 (fun M3 hG3 f3 => ?_))
            have g3 := g2.trans f3
            refine q_iload_n d30_17 rfl ?_
            refine q_aload_n d30_18 rfl ?_
            refine q_iload_n d30_19 rfl ?_
            refine q_iload_n d30_20 rfl ?_
            refine q_v2 d30_21 rfl rfl hG3.1.2.1.1 (Nat.le_of_ble_eq_true rfl) (hL _ _ _ _ _ _ _ _ hG3 hvc hahc (cOut_o (by rw [hq]; exact eL2) (fun M4 hG4 f4 => ?_)))
            have g4 := g3.trans f4
            refine n_ior d30_24 ?_
            refine q_istore_n d30_25 (by decide) rfl ?_
            refine q_aload_n d30_26 rfl ?_
            refine q_getv (c := 3) (f := 5) d30_27 ⟨rfl, by decide⟩ hG4.1.2.1.1 hG4.2.2.2.2.1 ?_
            refine q_iconst (x := (-1)) d30_30 rfl ?_
            refine ic_ne 56 d30_31 (by decide) (fun h31 => (False.elim (h31 rfl))) (fun h31 => ?_)
            refine q_aload_n d30_34 rfl ?_
            refine q_getv (c := 3) (f := 3) d30_35 ⟨rfl, by decide⟩ hG4.1.2.1.1 hG4.2.2.2.1.1 ?_
            refine q_bipush (x := nI 124) d30_38 rfl ?_
            refine nc_ne 56 d30_40 (by decide) (by omega) (by omega) (fun h40 => ?_) (fun h40 => (False.elim (tT3 h40)))
            refine q_aload_n d30_56 rfl ?_
            refine q_bipush (x := nI 125) d30_57 rfl ?_
            refine q_v1 d30_59 rfl rfl hG4.1.2.1.1 (Nat.le_of_ble_eq_true rfl) (c31n hG4 hvd (by decide) tX2 (fun M5 hB f5 => ?_))
            have g5 := g4.trans f5
            have hf := Nat.le_trans hvd.f h120
            refine q_iload_n d30_62 rfl ?_
            refine q_iret d30_63 rfl ?_
            exact cOut_x hk (by unfold pBr pEx pB3; simp [eL1, tX1, eL2, tT3, tX2]) _ _ hB g5
    · skip
      refine q_aload_n d30_0 rfl ?_
      refine q_v0 d30_1 rfl rfl hG.1.2.1.1 (Nat.le_of_ble_eq_true rfl) (c16 hG.1.2.1 hG.2.2.1 hG.2.2.2.1.2.2 (by omega) (fun M1 hk1 f1 => ?_))
      have hG1 := hG.ad hk1 f1
      have g1 : Fi (FG c) M M1 := f1.mono FK_G
      refine q_aload_n d30_4 rfl ?_
      refine q_iload_n d30_5 rfl ?_
      refine q_iload_n d30_6 rfl ?_
      refine q_v2 d30_7 rfl rfl hG1.1.2.1.1 (Nat.le_of_ble_eq_true rfl) (hL _ _ _ _ _ _ _ _ hG1 hva hah (cOut_o (by rw [hq]; exact eL1) (fun M2 hG2 f2 => ?_)))
      have g2 := g1.trans f2
      refine q_istore_n d30_10 (by decide) rfl ?_
      refine q_aload_n d30_11 rfl ?_
      refine q_bipush (x := nI 124) d30_12 rfl ?_
      refine q_v1 d30_14 rfl rfl hG2.1.2.1.1 (Nat.le_of_ble_eq_true rfl) (c31n hG2 hvb (by decide) tX1 (fun M3 hB f3 => ?_))
      have g3 := g2.trans f3
      have hf := Nat.le_trans hvb.f h120
      refine q_iload_n d30_17 rfl ?_
      refine q_aload_n d30_18 rfl ?_
      refine q_iload_n d30_19 rfl ?_
      refine q_iload_n d30_20 rfl ?_
      refine q_v2 d30_21 rfl rfl hB.1.2.1.1 (Nat.le_of_ble_eq_true rfl) (c18f hB hf ?_)
      refine n_ior d30_24 ?_
      refine q_istore_n d30_25 (by decide) rfl ?_
      refine q_aload_n d30_26 rfl ?_
      refine q_getv (c := 3) (f := 5) d30_27 ⟨rfl, by decide⟩ hB.1.2.1.1 hB.2.2.2.1 ?_
      refine q_iconst (x := (-1)) d30_30 rfl ?_
      refine ic_ne 56 d30_31 (by decide) (fun h31 => ?_) (fun h31 => (False.elim (nI_m1 (by omega) h31)))
      refine q_aload_n d30_56 rfl ?_
      refine q_bipush (x := nI 125) d30_57 rfl ?_
      refine q_v1 d30_59 rfl rfl hB.1.2.1.1 (Nat.le_of_ble_eq_true rfl) (c31f hB hf ?_)
      refine q_iload_n d30_62 rfl ?_
      refine q_iret d30_63 rfl ?_
      exact cOut_x hk (by unfold pBr pEx pB3; simp [eL1, tX1]) _ _ hB g3
theorem cLN_0 : cLN 0 := c18_of 0 c19_0
theorem cLN_1 : cLN 1 := c18_of 1 (c19_S 0 (by omega) (c30_of 0 (by omega) cLN_0))
theorem cLN_2 : cLN 2 := c18_of 2 (c19_S 1 (by omega) (c30_of 1 (by omega) cLN_1))
theorem cLN_3 : cLN 3 := c18_of 3 (c19_S 2 (by omega) (c30_of 2 (by omega) cLN_2))
theorem d14_0 : decode (zB 14) 0 = .ok (.aload_n 1, 1) := (congrArg (fun c => decode c 0) zeq14).trans (by decide +kernel)
theorem d14_1 : decode (zB 14) 1 = .ok (.ifnonnull 8, 3) := (congrArg (fun c => decode c 1) zeq14).trans (by decide +kernel)
theorem d14_4 : decode (zB 14) 4 = .ok (.aload_n 0, 1) := (congrArg (fun c => decode c 4) zeq14).trans (by decide +kernel)
theorem d14_5 : decode (zB 14) 5 = .ok (.getfield 15, 3) := (congrArg (fun c => decode c 5) zeq14).trans (by decide +kernel)
theorem d14_8 : decode (zB 14) 8 = .ok (.ireturn, 1) := (congrArg (fun c => decode c 8) zeq14).trans (by decide +kernel)
theorem d14_9 : decode (zB 14) 9 = .ok (.aload_n 0, 1) := (congrArg (fun c => decode c 9) zeq14).trans (by decide +kernel)
theorem d14_10 : decode (zB 14) 10 = .ok (.aload_n 1, 1) := (congrArg (fun c => decode c 10) zeq14).trans (by decide +kernel)
theorem d14_11 : decode (zB 14) 11 = .ok (.putfield 19, 3) := (congrArg (fun c => decode c 11) zeq14).trans (by decide +kernel)
theorem d14_14 : decode (zB 14) 14 = .ok (.aload_n 0, 1) := (congrArg (fun c => decode c 14) zeq14).trans (by decide +kernel)
theorem d14_15 : decode (zB 14) 15 = .ok (.getfield 19, 3) := (congrArg (fun c => decode c 15) zeq14).trans (by decide +kernel)
theorem d14_18 : decode (zB 14) 18 = .ok (.invokevirtual 23, 3) := (congrArg (fun c => decode c 18) zeq14).trans (by decide +kernel)
theorem d14_21 : decode (zB 14) 21 = .ok (.aload_n 0, 1) := (congrArg (fun c => decode c 21) zeq14).trans (by decide +kernel)
theorem d14_22 : decode (zB 14) 22 = .ok (.iconst 0, 1) := (congrArg (fun c => decode c 22) zeq14).trans (by decide +kernel)
theorem d14_23 : decode (zB 14) 23 = .ok (.putfield 28, 3) := (congrArg (fun c => decode c 23) zeq14).trans (by decide +kernel)
theorem d14_26 : decode (zB 14) 26 = .ok (.aload_n 0, 1) := (congrArg (fun c => decode c 26) zeq14).trans (by decide +kernel)
theorem d14_27 : decode (zB 14) 27 = .ok (.iconst (-1), 1) := (congrArg (fun c => decode c 27) zeq14).trans (by decide +kernel)
theorem d14_28 : decode (zB 14) 28 = .ok (.putfield 31, 3) := (congrArg (fun c => decode c 28) zeq14).trans (by decide +kernel)
theorem d14_31 : decode (zB 14) 31 = .ok (.aload_n 0, 1) := (congrArg (fun c => decode c 31) zeq14).trans (by decide +kernel)
theorem d14_32 : decode (zB 14) 32 = .ok (.invokevirtual 34, 3) := (congrArg (fun c => decode c 32) zeq14).trans (by decide +kernel)
theorem d14_35 : decode (zB 14) 35 = .ok (.aload_n 0, 1) := (congrArg (fun c => decode c 35) zeq14).trans (by decide +kernel)
theorem d14_36 : decode (zB 14) 36 = .ok (.iconst 0, 1) := (congrArg (fun c => decode c 36) zeq14).trans (by decide +kernel)
theorem d14_37 : decode (zB 14) 37 = .ok (.iconst 0, 1) := (congrArg (fun c => decode c 37) zeq14).trans (by decide +kernel)
theorem d14_38 : decode (zB 14) 38 = .ok (.invokevirtual 37, 3) := (congrArg (fun c => decode c 38) zeq14).trans (by decide +kernel)
theorem d14_41 : decode (zB 14) 41 = .ok (.pop, 1) := (congrArg (fun c => decode c 41) zeq14).trans (by decide +kernel)
theorem d14_42 : decode (zB 14) 42 = .ok (.aload_n 0, 1) := (congrArg (fun c => decode c 42) zeq14).trans (by decide +kernel)
theorem d14_43 : decode (zB 14) 43 = .ok (.getfield 41, 3) := (congrArg (fun c => decode c 43) zeq14).trans (by decide +kernel)
theorem d14_46 : decode (zB 14) 46 = .ok (.ifCond .eq 7, 3) := (congrArg (fun c => decode c 46) zeq14).trans (by decide +kernel)
theorem d14_49 : decode (zB 14) 49 = .ok (.aload_n 0, 1) := (congrArg (fun c => decode c 49) zeq14).trans (by decide +kernel)
theorem d14_50 : decode (zB 14) 50 = .ok (.invokevirtual 44, 3) := (congrArg (fun c => decode c 50) zeq14).trans (by decide +kernel)
theorem d14_53 : decode (zB 14) 53 = .ok (.aload_n 0, 1) := (congrArg (fun c => decode c 53) zeq14).trans (by decide +kernel)
theorem d14_54 : decode (zB 14) 54 = .ok (.getfield 31, 3) := (congrArg (fun c => decode c 54) zeq14).trans (by decide +kernel)
theorem d14_57 : decode (zB 14) 57 = .ok (.iconst (-1), 1) := (congrArg (fun c => decode c 57) zeq14).trans (by decide +kernel)
theorem d14_58 : decode (zB 14) 58 = .ok (.if_icmp .ne 21, 3) := (congrArg (fun c => decode c 58) zeq14).trans (by decide +kernel)
theorem d14_61 : decode (zB 14) 61 = .ok (.aload_n 0, 1) := (congrArg (fun c => decode c 61) zeq14).trans (by decide +kernel)
theorem d14_62 : decode (zB 14) 62 = .ok (.getfield 19, 3) := (congrArg (fun c => decode c 62) zeq14).trans (by decide +kernel)
theorem d14_65 : decode (zB 14) 65 = .ok (.getfield 47, 3) := (congrArg (fun c => decode c 65) zeq14).trans (by decide +kernel)
theorem d14_68 : decode (zB 14) 68 = .ok (.ifCond .ne 11, 3) := (congrArg (fun c => decode c 68) zeq14).trans (by decide +kernel)
theorem d14_71 : decode (zB 14) 71 = .ok (.aload_n 0, 1) := (congrArg (fun c => decode c 71) zeq14).trans (by decide +kernel)
theorem d14_72 : decode (zB 14) 72 = .ok (.aload_n 0, 1) := (congrArg (fun c => decode c 72) zeq14).trans (by decide +kernel)
theorem d14_73 : decode (zB 14) 73 = .ok (.getfield 15, 3) := (congrArg (fun c => decode c 73) zeq14).trans (by decide +kernel)
theorem d14_76 : decode (zB 14) 76 = .ok (.putfield 31, 3) := (congrArg (fun c => decode c 76) zeq14).trans (by decide +kernel)
theorem d14_79 : decode (zB 14) 79 = .ok (.aload_n 0, 1) := (congrArg (fun c => decode c 79) zeq14).trans (by decide +kernel)
theorem d14_80 : decode (zB 14) 80 = .ok (.getfield 31, 3) := (congrArg (fun c => decode c 80) zeq14).trans (by decide +kernel)
theorem d14_83 : decode (zB 14) 83 = .ok (.ireturn, 1) := (congrArg (fun c => decode c 83) zeq14).trans (by decide +kernel)
def FR (c : Nat) : Nat → Nat → Prop := fun a k => (a = 17 ∧ k ≠ 0 ∧ k ≠ 1) ∨ (20 + 7 * c ≤ a ∧ a < 27 + 7 * c)
theorem FG_R {c : Nat} : ∀ a k, FG c a k → FR c a k := fun a k q => by
  rcases q with q | q
  · exact Or.inl ⟨q.1, by have := q.2; omega, by have := q.2; omega⟩
  · exact Or.inr q
theorem c14 {d : Nat} {M : zM} {Q : Option Value → zM → Prop} {c n : Nat} {b : Nat → Nat} (hS : SC M) (hc : c < 6) (ht : RTp M n b) (k : ∀ T M', pTx n b = .ok T → RP M' (20 + 7 * c) T → Fr (FR c) M M' → SC M' → Q (some (.int (-1))) M') (kb : ∀ f M', pTx n b = .error f → f ≤ n → Fr (FR c) M M' → SC M' → Q (some (.int (nI f))) M') : qC (d + 22) 14 [.ref 17, .ref (20 + 7 * c)] M Q := by
  refine qC_of (d := d + 21) (by decide) (Nat.le_of_ble_eq_true rfl) ?_
  have h120 := ht.1
  have hs := hS.2.1
  have hbb : ∀ i, i < n → b i < 256 := fun i hi => (ht.2.2 i hi).2
  have h0 := ltk_v (Nat.zero_le n) hbb
  have hp0 := pLd_v hbb 3 true 0 (ltk n b 0, yT0) ⟨h0.1, OKB_0⟩ (by show 0 < 2 ^ 0; decide)
  cases e : pLd n b 3 true 0 (ltk n b 0, yT0) with
  | error f =>
    rw [e] at hp0
    have hp0 : f ≤ n := hp0
    refine q_aload_n d14_0 rfl ?_
    refine q_ifnonnull (r := some _) 9 d14_1 (by decide) (fun _ => ?_) (fun q => absurd q (Option.some_ne_none _))
    refine q_aload_n d14_9 rfl ?_
    refine q_aload_n d14_10 rfl ?_
    refine q_putr (r := some ((20 + 7 * c))) (c := 3) (f := 6) d14_11 ⟨rfl, rfl, by decide⟩ hs.1 ?_
    refine q_aload_n d14_14 rfl ?_
    refine q_getr (c := 3) (f := 6) d14_15 ⟨rfl, rfl⟩ hs.1 wr_s ?_
    refine q_v0 d14_18 rfl rfl (hS.pr hc).1 (Nat.le_of_ble_eq_true rfl) (c15 ((SC_wr hS (Or.inl ⟨rfl, rfl⟩)).pr hc) ?_)
    refine q_aload_n d14_21 rfl ?_
    refine q_iconstN (z := 0) d14_22 ?_
    refine q_puti (c := 3) (f := 2) d14_23 ⟨rfl, rfl, by decide⟩ hs.1 ?_
    refine q_aload_n d14_26 rfl ?_
    refine q_iconst (x := (-1)) d14_27 rfl ?_
    refine q_puti (c := 3) (f := 5) d14_28 ⟨rfl, rfl, by decide⟩ hs.1 ?_
    obtain ⟨M1, hM1⟩ : ∃ M1, M1 = zwi (zwi (zwi (zwi (zwr M 17 6 (some (20 + 7 * c))) (20 + 7 * c) 6 (nI 0)) (20 + 7 * c) 7 (-1)) 17 2 (nI 0)) 17 5 (-1) := ⟨_, rfl⟩
    rw [← hM1]
    have fr1 : Fr (FR c) M M1 := by subst hM1; exact (((((Fr.refl _ _).wr (Or.inl ⟨rfl, by omega, by omega⟩)).wi (Or.inr ⟨by omega, by omega⟩)).wi (Or.inr ⟨by omega, by omega⟩)).wi (Or.inl ⟨rfl, by omega, by omega⟩)).wi (Or.inl ⟨rfl, by omega, by omega⟩)
    have sc1 : SC M1 := by subst hM1; exact SC_wi (SC_wi (SC_wi (SC_wi (SC_wr hS (Or.inl ⟨rfl, rfl⟩)) (by omega)) (by omega)) (by omega)) (by omega)
    have ht1 : RTp M1 n b := RTp_fi ht fr1 ⟨fun q => by unfold FR at q; omega, fun k q => by unfold FR at q; omega⟩
    have hf1 : zi M1 17 5 = -1 := by subst hM1; exact wi_s _ _ _ _
    have hp1 : zi M1 17 2 = nI 0 := by subst hM1; rw [wi_n (Or.inr (by decide)), wi_s]
    have hr1 : zr M1 17 6 = some (20 + 7 * c) := by subst hM1; exact wr_s
    have hP1 : RP M1 (20 + 7 * c) yT0 := by subst hM1; exact ⟨by rw [wi_n (Or.inl (by omega)), wi_n (Or.inl (by omega)), wi_n (Or.inr (by decide)), wi_s]; rfl, by rw [wi_n (Or.inl (by omega)), wi_n (Or.inl (by omega)), wi_s]; rfl, fun k hk => absurd hk (Nat.not_lt_zero _)⟩
    refine q_aload_n d14_31 rfl ?_
    refine q_v0 d14_32 rfl rfl sc1.2.1.1 (Nat.le_of_ble_eq_true rfl) (c16 sc1.2.1 ht1 hp1 (by omega) (fun M2 hk2 f2 => ?_))
    have hG2 : GR M2 c n b (ltk n b 0, yT0) := ⟨f2.sc sc1 (fun a k ha q => by have := q.1; omega), hc, RTp_fi ht1 f2.fr FK_t, hk2, (f2.1 _ _ (by unfold FK; omega)).trans hf1, (f2.r _ _).trans hr1, RP_fr hP1 f2.fr (fun a k h1 h2 q => by have := q.1; omega)⟩
    have hv2 : yQv n b (ltk n b 0, yT0) := ⟨h0.1, OKB_0⟩
    have g2 : Fr (FR c) M M2 := fr1.trans (f2.fr.mono (fun a k q => FG_R a k (FK_G a k q)))
    refine q_aload_n d14_35 rfl ?_
    refine q_iconstN (z := 0) d14_36 ?_
    refine q_iconstN (z := 0) d14_37 ?_
    refine q_v2 d14_38 rfl rfl hG2.1.2.1.1 (Nat.le_of_ble_eq_true rfl) (cLN_3 _ _ _ _ _ _ _ _ hG2 hv2 (by show 0 < 2 ^ 0; decide) (cOut_e e (fun v M3 hB f3 => ?_)))
    have hf : f ≤ 120 := Nat.le_trans hp0 h120
    have g3 := g2.trans (f3.fr.mono FG_R)
    refine q_pop d14_41 rfl ?_
    refine q_aload_n d14_42 rfl ?_
    refine q_getv (c := 3) (f := 3) d14_43 ⟨rfl, by decide⟩ hB.1.2.1.1 rfl ?_
    refine i0_eq 53 d14_46 (by decide) (fun h46 => ?_) (fun h46 => ?_)
    · refine q_aload_n d14_53 rfl ?_
      refine q_getv (c := 3) (f := 5) d14_54 ⟨rfl, by decide⟩ hB.1.2.1.1 hB.2.2.2.1 ?_
      refine q_iconst (x := (-1)) d14_57 rfl ?_
      refine ic_ne 79 d14_58 (by decide) (fun h58 => ?_) (fun h58 => (False.elim (nI_m1 (by omega) h58)))
      refine q_aload_n d14_79 rfl ?_
      refine q_getv (c := 3) (f := 5) d14_80 ⟨rfl, by decide⟩ hB.1.2.1.1 hB.2.2.2.1 ?_
      refine q_iret d14_83 rfl ?_
      exact kb _ _ (by unfold pTx; rw [e]) hp0 g3 hB.1
    · refine q_aload_n d14_49 rfl ?_
      refine q_v0 d14_50 rfl rfl hB.1.2.1.1 (Nat.le_of_ble_eq_true rfl) (c24f hB hf ?_)
      refine q_aload_n d14_53 rfl ?_
      refine q_getv (c := 3) (f := 5) d14_54 ⟨rfl, by decide⟩ hB.1.2.1.1 hB.2.2.2.1 ?_
      refine q_iconst (x := (-1)) d14_57 rfl ?_
      refine ic_ne 79 d14_58 (by decide) (fun h58 => ?_) (fun h58 => (False.elim (nI_m1 (by omega) h58)))
      refine q_aload_n d14_79 rfl ?_
      refine q_getv (c := 3) (f := 5) d14_80 ⟨rfl, by decide⟩ hB.1.2.1.1 hB.2.2.2.1 ?_
      refine q_iret d14_83 rfl ?_
      exact kb _ _ (by unfold pTx; rw [e]) hp0 g3 hB.1
  | ok r =>
    obtain ⟨o, K1⟩ := r
    rw [e] at hp0
    by_cases ht0 : K1.1.1 ≠ 0
    · skip
      refine q_aload_n d14_0 rfl ?_
      refine q_ifnonnull (r := some _) 9 d14_1 (by decide) (fun _ => ?_) (fun q => absurd q (Option.some_ne_none _))
      refine q_aload_n d14_9 rfl ?_
      refine q_aload_n d14_10 rfl ?_
      refine q_putr (r := some ((20 + 7 * c))) (c := 3) (f := 6) d14_11 ⟨rfl, rfl, by decide⟩ hs.1 ?_
      refine q_aload_n d14_14 rfl ?_
      refine q_getr (c := 3) (f := 6) d14_15 ⟨rfl, rfl⟩ hs.1 wr_s ?_
      refine q_v0 d14_18 rfl rfl (hS.pr hc).1 (Nat.le_of_ble_eq_true rfl) (c15 ((SC_wr hS (Or.inl ⟨rfl, rfl⟩)).pr hc) ?_)
      refine q_aload_n d14_21 rfl ?_
      refine q_iconstN (z := 0) d14_22 ?_
      refine q_puti (c := 3) (f := 2) d14_23 ⟨rfl, rfl, by decide⟩ hs.1 ?_
      refine q_aload_n d14_26 rfl ?_
      refine q_iconst (x := (-1)) d14_27 rfl ?_
      refine q_puti (c := 3) (f := 5) d14_28 ⟨rfl, rfl, by decide⟩ hs.1 ?_
      obtain ⟨M1, hM1⟩ : ∃ M1, M1 = zwi (zwi (zwi (zwi (zwr M 17 6 (some (20 + 7 * c))) (20 + 7 * c) 6 (nI 0)) (20 + 7 * c) 7 (-1)) 17 2 (nI 0)) 17 5 (-1) := ⟨_, rfl⟩
      rw [← hM1]
      have fr1 : Fr (FR c) M M1 := by subst hM1; exact (((((Fr.refl _ _).wr (Or.inl ⟨rfl, by omega, by omega⟩)).wi (Or.inr ⟨by omega, by omega⟩)).wi (Or.inr ⟨by omega, by omega⟩)).wi (Or.inl ⟨rfl, by omega, by omega⟩)).wi (Or.inl ⟨rfl, by omega, by omega⟩)
      have sc1 : SC M1 := by subst hM1; exact SC_wi (SC_wi (SC_wi (SC_wi (SC_wr hS (Or.inl ⟨rfl, rfl⟩)) (by omega)) (by omega)) (by omega)) (by omega)
      have ht1 : RTp M1 n b := RTp_fi ht fr1 ⟨fun q => by unfold FR at q; omega, fun k q => by unfold FR at q; omega⟩
      have hf1 : zi M1 17 5 = -1 := by subst hM1; exact wi_s _ _ _ _
      have hp1 : zi M1 17 2 = nI 0 := by subst hM1; rw [wi_n (Or.inr (by decide)), wi_s]
      have hr1 : zr M1 17 6 = some (20 + 7 * c) := by subst hM1; exact wr_s
      have hP1 : RP M1 (20 + 7 * c) yT0 := by subst hM1; exact ⟨by rw [wi_n (Or.inl (by omega)), wi_n (Or.inl (by omega)), wi_n (Or.inr (by decide)), wi_s]; rfl, by rw [wi_n (Or.inl (by omega)), wi_n (Or.inl (by omega)), wi_s]; rfl, fun k hk => absurd hk (Nat.not_lt_zero _)⟩
      refine q_aload_n d14_31 rfl ?_
      refine q_v0 d14_32 rfl rfl sc1.2.1.1 (Nat.le_of_ble_eq_true rfl) (c16 sc1.2.1 ht1 hp1 (by omega) (fun M2 hk2 f2 => ?_))
      have hG2 : GR M2 c n b (ltk n b 0, yT0) := ⟨f2.sc sc1 (fun a k ha q => by have := q.1; omega), hc, RTp_fi ht1 f2.fr FK_t, hk2, (f2.1 _ _ (by unfold FK; omega)).trans hf1, (f2.r _ _).trans hr1, RP_fr hP1 f2.fr (fun a k h1 h2 q => by have := q.1; omega)⟩
      have hv2 : yQv n b (ltk n b 0, yT0) := ⟨h0.1, OKB_0⟩
      have g2 : Fr (FR c) M M2 := fr1.trans (f2.fr.mono (fun a k q => FG_R a k (FK_G a k q)))
      refine q_aload_n d14_35 rfl ?_
      refine q_iconstN (z := 0) d14_36 ?_
      refine q_iconstN (z := 0) d14_37 ?_
      refine q_v2 d14_38 rfl rfl hG2.1.2.1.1 (Nat.le_of_ble_eq_true rfl) (cLN_3 _ _ _ _ _ _ _ _ hG2 hv2 (by show 0 < 2 ^ 0; decide) (cOut_o e (fun M3 hG3 f3 => ?_)))
      have g3 := g2.trans (f3.fr.mono FG_R)
      have hv3 : yQv n b K1 := hp0.1
      have hk3 := hv3.1.1.2.2.1
      have htn := hv3.2.1
      refine q_pop d14_41 rfl ?_
      refine q_aload_n d14_42 rfl ?_
      refine q_getv (c := 3) (f := 3) d14_43 ⟨rfl, by decide⟩ hG3.1.2.1.1 hG3.2.2.2.1.1 ?_
      refine n0_eq 53 d14_46 (by decide) (by omega) (fun h46 => (False.elim (ht0 h46))) (fun h46 => ?_)
      refine q_aload_n d14_49 rfl ?_
      refine q_v0 d14_50 rfl rfl hG3.1.2.1.1 (Nat.le_of_ble_eq_true rfl) (c24 hG3 hv3 (fun M4 hB f4 => ?_))
      have hf := Nat.le_trans hv3.f h120
      have g4 := g3.trans (f4.fr.mono FG_R)
      refine q_aload_n d14_53 rfl ?_
      refine q_getv (c := 3) (f := 5) d14_54 ⟨rfl, by decide⟩ hB.1.2.1.1 hB.2.2.2.1 ?_
      refine q_iconst (x := (-1)) d14_57 rfl ?_
      refine ic_ne 79 d14_58 (by decide) (fun h58 => ?_) (fun h58 => (False.elim (nI_m1 (by omega) h58)))
      refine q_aload_n d14_79 rfl ?_
      refine q_getv (c := 3) (f := 5) d14_80 ⟨rfl, by decide⟩ hB.1.2.1.1 hB.2.2.2.1 ?_
      refine q_iret d14_83 rfl ?_
      exact kb _ _ (by unfold pTx; rw [e]; simp only []; exact if_pos ht0) hv3.f g4 hB.1
    · by_cases he0 : tn K1.2 = 0
      · skip
        refine q_aload_n d14_0 rfl ?_
        refine q_ifnonnull (r := some _) 9 d14_1 (by decide) (fun _ => ?_) (fun q => absurd q (Option.some_ne_none _))
        refine q_aload_n d14_9 rfl ?_
        refine q_aload_n d14_10 rfl ?_
        refine q_putr (r := some ((20 + 7 * c))) (c := 3) (f := 6) d14_11 ⟨rfl, rfl, by decide⟩ hs.1 ?_
        refine q_aload_n d14_14 rfl ?_
        refine q_getr (c := 3) (f := 6) d14_15 ⟨rfl, rfl⟩ hs.1 wr_s ?_
        refine q_v0 d14_18 rfl rfl (hS.pr hc).1 (Nat.le_of_ble_eq_true rfl) (c15 ((SC_wr hS (Or.inl ⟨rfl, rfl⟩)).pr hc) ?_)
        refine q_aload_n d14_21 rfl ?_
        refine q_iconstN (z := 0) d14_22 ?_
        refine q_puti (c := 3) (f := 2) d14_23 ⟨rfl, rfl, by decide⟩ hs.1 ?_
        refine q_aload_n d14_26 rfl ?_
        refine q_iconst (x := (-1)) d14_27 rfl ?_
        refine q_puti (c := 3) (f := 5) d14_28 ⟨rfl, rfl, by decide⟩ hs.1 ?_
        obtain ⟨M1, hM1⟩ : ∃ M1, M1 = zwi (zwi (zwi (zwi (zwr M 17 6 (some (20 + 7 * c))) (20 + 7 * c) 6 (nI 0)) (20 + 7 * c) 7 (-1)) 17 2 (nI 0)) 17 5 (-1) := ⟨_, rfl⟩
        rw [← hM1]
        have fr1 : Fr (FR c) M M1 := by subst hM1; exact (((((Fr.refl _ _).wr (Or.inl ⟨rfl, by omega, by omega⟩)).wi (Or.inr ⟨by omega, by omega⟩)).wi (Or.inr ⟨by omega, by omega⟩)).wi (Or.inl ⟨rfl, by omega, by omega⟩)).wi (Or.inl ⟨rfl, by omega, by omega⟩)
        have sc1 : SC M1 := by subst hM1; exact SC_wi (SC_wi (SC_wi (SC_wi (SC_wr hS (Or.inl ⟨rfl, rfl⟩)) (by omega)) (by omega)) (by omega)) (by omega)
        have ht1 : RTp M1 n b := RTp_fi ht fr1 ⟨fun q => by unfold FR at q; omega, fun k q => by unfold FR at q; omega⟩
        have hf1 : zi M1 17 5 = -1 := by subst hM1; exact wi_s _ _ _ _
        have hp1 : zi M1 17 2 = nI 0 := by subst hM1; rw [wi_n (Or.inr (by decide)), wi_s]
        have hr1 : zr M1 17 6 = some (20 + 7 * c) := by subst hM1; exact wr_s
        have hP1 : RP M1 (20 + 7 * c) yT0 := by subst hM1; exact ⟨by rw [wi_n (Or.inl (by omega)), wi_n (Or.inl (by omega)), wi_n (Or.inr (by decide)), wi_s]; rfl, by rw [wi_n (Or.inl (by omega)), wi_n (Or.inl (by omega)), wi_s]; rfl, fun k hk => absurd hk (Nat.not_lt_zero _)⟩
        refine q_aload_n d14_31 rfl ?_
        refine q_v0 d14_32 rfl rfl sc1.2.1.1 (Nat.le_of_ble_eq_true rfl) (c16 sc1.2.1 ht1 hp1 (by omega) (fun M2 hk2 f2 => ?_))
        have hG2 : GR M2 c n b (ltk n b 0, yT0) := ⟨f2.sc sc1 (fun a k ha q => by have := q.1; omega), hc, RTp_fi ht1 f2.fr FK_t, hk2, (f2.1 _ _ (by unfold FK; omega)).trans hf1, (f2.r _ _).trans hr1, RP_fr hP1 f2.fr (fun a k h1 h2 q => by have := q.1; omega)⟩
        have hv2 : yQv n b (ltk n b 0, yT0) := ⟨h0.1, OKB_0⟩
        have g2 : Fr (FR c) M M2 := fr1.trans (f2.fr.mono (fun a k q => FG_R a k (FK_G a k q)))
        refine q_aload_n d14_35 rfl ?_
        refine q_iconstN (z := 0) d14_36 ?_
        refine q_iconstN (z := 0) d14_37 ?_
        refine q_v2 d14_38 rfl rfl hG2.1.2.1.1 (Nat.le_of_ble_eq_true rfl) (cLN_3 _ _ _ _ _ _ _ _ hG2 hv2 (by show 0 < 2 ^ 0; decide) (cOut_o e (fun M3 hG3 f3 => ?_)))
        have g3 := g2.trans (f3.fr.mono FG_R)
        have hv3 : yQv n b K1 := hp0.1
        have hk3 := hv3.1.1.2.2.1
        have htn := hv3.2.1
        refine q_pop d14_41 rfl ?_
        refine q_aload_n d14_42 rfl ?_
        refine q_getv (c := 3) (f := 3) d14_43 ⟨rfl, by decide⟩ hG3.1.2.1.1 hG3.2.2.2.1.1 ?_
        refine n0_eq 53 d14_46 (by decide) (by omega) (fun h46 => ?_) (fun h46 => (False.elim (ht0 h46)))
        refine q_aload_n d14_53 rfl ?_
        refine q_getv (c := 3) (f := 5) d14_54 ⟨rfl, by decide⟩ hG3.1.2.1.1 hG3.2.2.2.2.1 ?_
        refine q_iconst (x := (-1)) d14_57 rfl ?_
        refine ic_ne 79 d14_58 (by decide) (fun h58 => (False.elim (h58 rfl))) (fun h58 => ?_)
        refine q_aload_n d14_61 rfl ?_
        refine q_getr (c := 3) (f := 6) d14_62 ⟨rfl, rfl⟩ hG3.1.2.1.1 hG3.2.2.2.2.2.1 ?_
        refine q_getv (c := 1) (f := 6) d14_65 ⟨rfl, by decide⟩ (hG3.1.pr hG3.2.1).1 hG3.2.2.2.2.2.2.1 ?_
        refine n0_ne 79 d14_68 (by decide) (by omega) (fun h68 => (False.elim (h68 he0))) (fun h68 => ?_)
        refine q_aload_n d14_71 rfl ?_
        refine q_aload_n d14_72 rfl ?_
        refine q_getv (c := 3) (f := 1) d14_73 ⟨rfl, by decide⟩ hG3.1.2.1.1 hG3.2.2.1.2.1 ?_
        refine q_puti (c := 3) (f := 5) d14_76 ⟨rfl, rfl, by decide⟩ hG3.1.2.1.1 ?_
        refine q_aload_n d14_79 rfl ?_
        refine q_getv (c := 3) (f := 5) d14_80 ⟨rfl, by decide⟩ hG3.1.2.1.1 (wi_s _ _ _ _) ?_
        refine q_iret d14_83 rfl ?_
        exact kb _ _ (by unfold pTx; rw [e]; simp only []; rw [if_neg ht0, if_pos he0]) (Nat.le_refl n) (g3.wi (Or.inl ⟨rfl, by omega, by omega⟩)) (SC_wi hG3.1 (by omega))
      · skip
        refine q_aload_n d14_0 rfl ?_
        refine q_ifnonnull (r := some _) 9 d14_1 (by decide) (fun _ => ?_) (fun q => absurd q (Option.some_ne_none _))
        refine q_aload_n d14_9 rfl ?_
        refine q_aload_n d14_10 rfl ?_
        refine q_putr (r := some ((20 + 7 * c))) (c := 3) (f := 6) d14_11 ⟨rfl, rfl, by decide⟩ hs.1 ?_
        refine q_aload_n d14_14 rfl ?_
        refine q_getr (c := 3) (f := 6) d14_15 ⟨rfl, rfl⟩ hs.1 wr_s ?_
        refine q_v0 d14_18 rfl rfl (hS.pr hc).1 (Nat.le_of_ble_eq_true rfl) (c15 ((SC_wr hS (Or.inl ⟨rfl, rfl⟩)).pr hc) ?_)
        refine q_aload_n d14_21 rfl ?_
        refine q_iconstN (z := 0) d14_22 ?_
        refine q_puti (c := 3) (f := 2) d14_23 ⟨rfl, rfl, by decide⟩ hs.1 ?_
        refine q_aload_n d14_26 rfl ?_
        refine q_iconst (x := (-1)) d14_27 rfl ?_
        refine q_puti (c := 3) (f := 5) d14_28 ⟨rfl, rfl, by decide⟩ hs.1 ?_
        obtain ⟨M1, hM1⟩ : ∃ M1, M1 = zwi (zwi (zwi (zwi (zwr M 17 6 (some (20 + 7 * c))) (20 + 7 * c) 6 (nI 0)) (20 + 7 * c) 7 (-1)) 17 2 (nI 0)) 17 5 (-1) := ⟨_, rfl⟩
        rw [← hM1]
        have fr1 : Fr (FR c) M M1 := by subst hM1; exact (((((Fr.refl _ _).wr (Or.inl ⟨rfl, by omega, by omega⟩)).wi (Or.inr ⟨by omega, by omega⟩)).wi (Or.inr ⟨by omega, by omega⟩)).wi (Or.inl ⟨rfl, by omega, by omega⟩)).wi (Or.inl ⟨rfl, by omega, by omega⟩)
        have sc1 : SC M1 := by subst hM1; exact SC_wi (SC_wi (SC_wi (SC_wi (SC_wr hS (Or.inl ⟨rfl, rfl⟩)) (by omega)) (by omega)) (by omega)) (by omega)
        have ht1 : RTp M1 n b := RTp_fi ht fr1 ⟨fun q => by unfold FR at q; omega, fun k q => by unfold FR at q; omega⟩
        have hf1 : zi M1 17 5 = -1 := by subst hM1; exact wi_s _ _ _ _
        have hp1 : zi M1 17 2 = nI 0 := by subst hM1; rw [wi_n (Or.inr (by decide)), wi_s]
        have hr1 : zr M1 17 6 = some (20 + 7 * c) := by subst hM1; exact wr_s
        have hP1 : RP M1 (20 + 7 * c) yT0 := by subst hM1; exact ⟨by rw [wi_n (Or.inl (by omega)), wi_n (Or.inl (by omega)), wi_n (Or.inr (by decide)), wi_s]; rfl, by rw [wi_n (Or.inl (by omega)), wi_n (Or.inl (by omega)), wi_s]; rfl, fun k hk => absurd hk (Nat.not_lt_zero _)⟩
        refine q_aload_n d14_31 rfl ?_
        refine q_v0 d14_32 rfl rfl sc1.2.1.1 (Nat.le_of_ble_eq_true rfl) (c16 sc1.2.1 ht1 hp1 (by omega) (fun M2 hk2 f2 => ?_))
        have hG2 : GR M2 c n b (ltk n b 0, yT0) := ⟨f2.sc sc1 (fun a k ha q => by have := q.1; omega), hc, RTp_fi ht1 f2.fr FK_t, hk2, (f2.1 _ _ (by unfold FK; omega)).trans hf1, (f2.r _ _).trans hr1, RP_fr hP1 f2.fr (fun a k h1 h2 q => by have := q.1; omega)⟩
        have hv2 : yQv n b (ltk n b 0, yT0) := ⟨h0.1, OKB_0⟩
        have g2 : Fr (FR c) M M2 := fr1.trans (f2.fr.mono (fun a k q => FG_R a k (FK_G a k q)))
        refine q_aload_n d14_35 rfl ?_
        refine q_iconstN (z := 0) d14_36 ?_
        refine q_iconstN (z := 0) d14_37 ?_
        refine q_v2 d14_38 rfl rfl hG2.1.2.1.1 (Nat.le_of_ble_eq_true rfl) (cLN_3 _ _ _ _ _ _ _ _ hG2 hv2 (by show 0 < 2 ^ 0; decide) (cOut_o e (fun M3 hG3 f3 => ?_)))
        have g3 := g2.trans (f3.fr.mono FG_R)
        have hv3 : yQv n b K1 := hp0.1
        have hk3 := hv3.1.1.2.2.1
        have htn := hv3.2.1
        refine q_pop d14_41 rfl ?_
        refine q_aload_n d14_42 rfl ?_
        refine q_getv (c := 3) (f := 3) d14_43 ⟨rfl, by decide⟩ hG3.1.2.1.1 hG3.2.2.2.1.1 ?_
        refine n0_eq 53 d14_46 (by decide) (by omega) (fun h46 => ?_) (fun h46 => (False.elim (ht0 h46)))
        refine q_aload_n d14_53 rfl ?_
        refine q_getv (c := 3) (f := 5) d14_54 ⟨rfl, by decide⟩ hG3.1.2.1.1 hG3.2.2.2.2.1 ?_
        refine q_iconst (x := (-1)) d14_57 rfl ?_
        refine ic_ne 79 d14_58 (by decide) (fun h58 => (False.elim (h58 rfl))) (fun h58 => ?_)
        refine q_aload_n d14_61 rfl ?_
        refine q_getr (c := 3) (f := 6) d14_62 ⟨rfl, rfl⟩ hG3.1.2.1.1 hG3.2.2.2.2.2.1 ?_
        refine q_getv (c := 1) (f := 6) d14_65 ⟨rfl, by decide⟩ (hG3.1.pr hG3.2.1).1 hG3.2.2.2.2.2.2.1 ?_
        refine n0_ne 79 d14_68 (by decide) (by omega) (fun h68 => ?_) (fun h68 => (False.elim (he0 h68)))
        refine q_aload_n d14_79 rfl ?_
        refine q_getv (c := 3) (f := 5) d14_80 ⟨rfl, by decide⟩ hG3.1.2.1.1 hG3.2.2.2.2.1 ?_
        refine q_iret d14_83 rfl ?_
        exact k _ _ (by unfold pTx; rw [e]; simp only []; rw [if_neg ht0, if_neg he0]) hG3.2.2.2.2.2.2 g3 hG3.1
/-! ===== what the calls answer, and what becomes of the desk ===== -/
/-- texts (how many, which), the tape (how many bytes, which), the world, the log, the sheets (sort, size) -/
abbrev yD : Type := Nat × (Nat → yT) × Nat × (Nat → Nat) × yW × List yL × (Nat → Int32 × Nat)
def dc (D : yD) : Nat := D.1
def dT (D : yD) : Nat → yT := D.2.1
def dn (D : yD) : Nat := D.2.2.1
def db (D : yD) : Nat → Nat := D.2.2.2.1
def dW (D : yD) : yW := D.2.2.2.2.1
def dL (D : yD) : List yL := D.2.2.2.2.2.1
def dR (D : yD) : Nat → Int32 × Nat := D.2.2.2.2.2.2
def dtS (D : yD) (n : Nat) (b : Nat → Nat) : yD := (D.1, D.2.1, n, b, D.2.2.2.2)
def dwS (D : yD) (W : yW) (L : List yL) : yD := (D.1, D.2.1, D.2.2.1, D.2.2.2.1, W, L, D.2.2.2.2.2.2)
def drS (D : yD) (R : Nat → Int32 × Nat) : yD := (D.1, D.2.1, D.2.2.1, D.2.2.2.1, D.2.2.2.2.1, D.2.2.2.2.2.1, R)
def dX (D : yD) : yX := (dW D, some (dL D))
def dS (D : yD) (s : Nat) : yS := (dW D).2 s
/-- a number of a row, else refused -/
def oz {α : Type} (x : Int32) (n : Nat) (no : α) (f : Nat → α) : α := match zix x n with
  | none => no
  | some k => f k
theorem oz_n {α : Type} {x : Int32} {n : Nat} {no : α} {f : Nat → α} (h : zix x n = none) : oz x n no f = no := by unfold oz; rw [h]
theorem oz_s {α : Type} {x : Int32} {n k : Nat} {no : α} {f : Nat → α} (h : zix x n = some k) : oz x n no f = f k := by unfold oz; rw [h]
/-- texts -/
def yby (k : Nat) (a b c e f : Nat) : Nat := if k = 0 then a else if k = 1 then b else if k = 2 then c else if k = 3 then e else f
def yfd (D : yD) (k a b c e f : Nat) : yD := dtS D (dn D + k) (fun i => if dn D ≤ i ∧ i < dn D + k then yby (i - dn D) a b c e f else db D i)
def sFeed (D : yD) (x a b c e f : Int32) : Int32 × yD := oz x 6 (-2, D) (fun k => if k = 0 then (-2, D) else oz a 256 (-2, D) (fun a => oz b 256 (-2, D) (fun b => oz c 256 (-2, D) (fun c => oz e 256 (-2, D) (fun e => oz f 256 (-2, D) (fun f =>
  if 120 < dn D + k then (-4, D) else (nI (dn D + k), yfd D k a b c e f)))))))
def sText (D : yD) : Int32 × yD := if 6 ≤ dc D then (-4, D) else match pTx (dn D) (db D) with
  | .error f => (-100 - nI f, dtS D 0 (db D))
  | .ok T => (nI (dc D), (dc D + 1, yu (dT D) (dc D) T, 0, D.2.2.2))
def sShape (D : yD) (x w : Int32) : Int32 := oz x (dc D) (-2) (fun t => oz w 6 (-2) (fun w =>
  if w = 0 then nI (tn (dT D t)) else if w = 1 then nI (ylo (dT D t) (tn (dT D t))) else if w = 2 then nI (ywf (dT D t) (tn (dT D t)) 0 (2 ^ tn (dT D t) - 1)) else if w = 3 then nI (ycl (dT D t) (tn (dT D t))) else if w = 4 then tp (dT D t) else nI (yrk (dT D t) (tn (dT D t)) 0 0 (dW D).1.1)))
def sOrders (D : yD) (x : Int32) : Int64 := oz x (dc D) (-2) (fun t => yg (dT D t) (2 ^ tn (dT D t) - 1))
def sStep (D : yD) (x y w : Int32) : Int32 := oz x (dc D) (-2) (fun t => oz y (tn (dT D t)) (-2) (fun i => oz w 6 (-2) (fun w =>
  if w = 0 then nI (tk (dT D t) i) else if w = 1 then tf (dT D t) i else if w = 2 then ts (dT D t) i else if w = 3 then tu (dT D t) i else if w = 4 then nI (ta (dT D t) i) else nI (ybd (dT D t) i))))
def yundr (kd k : Nat) : Bool := k == 0 || k == kd || (k == 1 && kd == 3) || (k == 2 && kd == 4)
def sTaken (D : yD) (x y z : Int32) : Int32 := oz x (dc D) (-2) (fun t => oz y (tn (dT D t)) (-2) (fun i => oz z 6 (-2) (fun k => if yundr (tk (dT D t) i) k then nI (tk (dT D t) i) else -13)))
/-- sagas -/
def sBegin (D : yD) (x y : Int32) : Int32 × yD := oz x 3 (-2, D) (fun s => oz y (dc D) (-2, D) (fun t =>
  if gt (dS D s) = 1 ∨ gt (dS D s) = 2 then (-3, D) else if 240 ≤ (dL D).length then (-4, D) else (nI (tn (dT D t)), dwS D ((dW D).1, yu (dW D).2 s (ySt t)) (dL D ++ [(0, s, t)]))))
def yms (D : yD) (s : Nat) : Nat := if gt (dS D s) = 0 then 12 else tn (dT D (gx (dS D s)))
def sPlan (D : yD) (x y o z : Int32) : Int32 × yD := oz x 3 (-2, D) (fun s => oz y (yms D s) (-2, D) (fun i => oz o 2 (-2, D) (fun o => oz z 10 (-2, D) (fun z =>
  if gt (dS D s) = 0 then (-3, D) else if o = 0 then (gp (dS D s) i, dwS D ((dW D).1, yu (dW D).2 s (gpS (dS D s) (yu (gp (dS D s)) i (nI z)))) (dL D)) else (gq (dS D s) i, dwS D ((dW D).1, yu (dW D).2 s (gqS (dS D s) (yu (gq (dS D s)) i (nI z)))) (dL D))))))
def dnm (D : yD) : Nat → Nat → Int32 := yNm (dT D) (dW D)
def dlg (X : yX) : List yL := match X.2 with
  | none => []
  | some l => l
def sTick (D : yD) : Int32 × yD := if 190 < (dL D).length then (-4, D) else (nI ((dlg (yti (dT D) (dnm D) (dX D))).length - (dL D).length), dwS D (yti (dT D) (dnm D) (dX D)).1 (dlg (yti (dT D) (dnm D) (dX D))))
def sTold (D : yD) (x w : Int32) : Int32 := oz x 3 (-2) (fun s => oz w 8 (-2) (fun w =>
  if w = 0 then nI (gt (dS D s)) else if w = 1 then txt (dS D s) else if w = 2 then nI (gm (dS D s) 1) else if w = 3 then nI (gm (dS D s) 2) else if w = 4 then nI (gm (dS D s) 3) else
  if w = 5 then (if gt (dS D s) = 1 then nI (yfr (dT D (gx (dS D s))) (dS D s)) else nI 0) else if w = 6 then (if gt (dS D s) = 0 then nI 0 else bI (ypa (dT D (gx (dS D s))) (gm (dS D s) 1))) else ylast (go (dS D s))))
def sWhy (D : yD) (x y : Int32) : Int32 := oz x 3 (-2) (fun s => oz y (yms D s) (-2) (fun i => if gt (dS D s) = 0 then -3 else gw (dS D s) i))
def sSet (D : yD) (x y : Int32) : Int32 × yD := oz x 6 (-2, D) (fun a => oz y 10000 (-2, D) (fun v => if 240 ≤ (dL D).length then (-4, D) else ((dW D).1.1 a, dwS D ((yu (dW D).1.1 a (nI v), (dW D).1.2), (dW D).2) (dL D ++ [(6, a, v)]))))
/-- the log -/
def sLine (D : yD) (x w : Int32) : Int32 := oz w 3 (-2) (fun w => oz x (dL D).length (-12) (fun k => if w = 0 then nI ((dL D).getD k (0, 0, 0)).1 else if w = 1 then nI ((dL D).getD k (0, 0, 0)).2.1 else nI ((dL D).getD k (0, 0, 0)).2.2))
/-- what replay() and run() are asked of a world -/
def yvw (W : yW) (m : Nat) : Int32 := if m < 6 then W.1.1 m else if m = 6 then W.1.2.1 else if m = 7 then W.1.2.2 else if m < 20 then nI (gt (W.2 (m % 10))) else if m < 30 then nI (gm (W.2 (m % 10)) 1) else if m < 40 then nI (gm (W.2 (m % 10)) 2) else nI (gm (W.2 (m % 10)) 3)
def ov (w : Int32) (f : Nat → Int32) : Int32 := match yvx w with
  | none => -2
  | some m => f m
def sReplay (D : yD) (x w : Int32) : Int32 := oz x ((dL D).length + 1) (-2) (fun n => ov w (fun m => yvw (yre (dT D) ((dL D).take n)) m))
def sBreaks (D : yD) (x : Int32) : Int32 × yD := oz x ((dL D).length + 1) (-2, D) (fun n => (nI ((dL D).length - n), dwS D (yre (dT D) ((dL D).take n)) ((dL D).take n)))
/-- in thought -/
def sRun (D : yD) (x w : Int32) : Int32 := oz x 61 (-2) (fun n => ov w (fun m => yvw (ytn (dT D) (dnm D) n (dW D, none)).1 m))
/-- till a saga is over: behind how many ticks, and the world then -/
def yov60 (T : Nat → yT) (nm : Nat → Nat → Int32) (s : Nat) : Nat → Nat → yX → Nat × yX
  | 0, t, X => (t, X)
  | r + 1, t, X => if gt (yxs X s) < 3 then yov60 T nm s r (t + 1) (yti T nm X) else (t, X)
def sEnds (D : yD) (x w : Int32) : Int32 := oz x 3 (-2) (fun s => oz w 3 (-2) (fun w => if gt (dS D s) = 0 then -3 else
  let E := yov60 (dT D) (dnm D) s 60 0 (dW D, none)
  if w = 0 then (if gt (yxs E.2 s) < 3 then -1 else nI E.1) else if w = 1 then nI (gt (yxs E.2 s)) else ybc (nI (gm (yxs E.2 s) 3))))
def yzn (z : Int32) : Int32 := z * 1103515245 + 12345
def yzs (z : Int32) : Nat → Int32
  | 0 => z
  | k + 1 => yzn (yzs z k)
def yzp (z : Int32) : Int32 := if ush z (nI 9) - ush z (nI 9) / nI 4 * nI 4 = nI 0 then nI 1 else nI 0
/-- DRAWN by a seed -/
def ydw (D : yD) (s : Nat) (z : Int32) : yX :=
  let X := ydp 3 (dW D, none)
  yss X s (gpS (yxs X s) (fun i => if i < tn (dT D (gx (dS D s))) then yzp (yzs z (i + 1)) else 0))
def ydn (D : yD) (s : Nat) (z : Int32) : Nat := gt (yxs (ytn (dT D) (dnm D) 40 (ydw D s z)) s)
def sDrawn (D : yD) (x z : Int32) : Int32 := oz x 3 (-2) (fun s => if gt (dS D s) = 0 then -3 else nI (ydn D s z))
def ycn (D : yD) (s : Nat) (z : Int32) : Nat → Nat
  | 0 => 0
  | i + 1 => ycn D s z i + (if ydn D s (z + nI i) = 3 then 1 else 0)
def sChance (D : yD) (x z y w : Int32) : Int32 := oz x 3 (-2) (fun s => oz y 21 (-2) (fun m => if m = 0 then -2 else oz w 2 (-2) (fun w => if gt (dS D s) = 0 then -3 else
  if w = 0 then nI (ycn D s z m / Nat.gcd (ycn D s z m) m) else nI (m / Nat.gcd (ycn D s z m) m))))
/-- what was told -/
def sFilm (D : yD) (x y z : Int32) : Int32 × yD := oz x 4 (-2, D) (fun h => oz y 6 (-2, D) (fun _ => oz z 21 (-2, D) (fun n => (nI n, drS D (yu (dR D) h (nI 1, n))))))
def sCount (D : yD) (w : Int32) : Int32 := oz w 16 (-2) (fun w => if w = 0 then nI (dc D) else if w = 1 then nI (dn D) else if w = 2 then nI (dL D).length else if w = 3 then nI (yact (dW D) 3) else if w = 4 then (dW D).1.2.1 else if w = 5 then (dW D).1.2.2 else if w < 10 then -2 else (dW D).1.1 (w - 10))
/-- the host -/
def sSheet (D : yD) (x y z : Int32) : Int32 × yD := oz x 4 (-2, D) (fun h => if y = -1 then (nI 1, drS D (yu (dR D) h (-1, 0))) else oz y 2 (-2, D) (fun o => if nI 40 < z then (-2, D) else if z < nI 0 then (-14, D) else (nI 1, drS D (yu (dR D) h (nI o, z.toNatClampNeg)))))
def sCell (D : yD) (x y : Int32) : Int32 := oz x 4 (-2) (fun h => if (dR D h).1 = -1 then -11 else oz y (dR D h).2 (-12) (fun _ => nI 1))
def ycp (i j n : Int32) (a b : Nat) : Bool := decide (0 ≤ n.toInt ∧ 0 ≤ i.toInt ∧ 0 ≤ j.toInt ∧ i.toInt + n.toInt ≤ a ∧ j.toInt + n.toInt ≤ b)
def sCopy (D : yD) (x i y j n : Int32) : Int32 := oz x 4 (-2) (fun h => oz y 4 (-2) (fun q => if (dR D h).1 = -1 ∨ (dR D q).1 = -1 then -11 else if (dR D h).1 ≠ (dR D q).1 then -13 else if ycp i j n (dR D h).2 (dR D q).2 then n else -12))
/-! what holds of a desk -/
/-- the same, but for plans and reasons -/
def yCo (W W' : yW) : Prop := W.1 = W'.1 ∧ ∀ s, s < 3 → gt (W.2 s) = gt (W'.2 s) ∧ (gt (W.2 s) ≠ 0 → gx (W.2 s) = gx (W'.2 s)) ∧ gd (W.2 s) = gd (W'.2 s) ∧ go (W.2 s) = go (W'.2 s) ∧ (∀ k, gd (W.2 s) k = 1 → gb (W.2 s) k = gb (W'.2 s) k) ∧ gf (W.2 s) = gf (W'.2 s)
def OKD (D : yD) : Prop := OKW (dT D) (dc D) (dW D) ∧ (dL D).length ≤ 240 ∧ yva (dT D) (dc D) (dL D) ∧ yCo (dW D) (yre (dT D) (dL D)) ∧ (∀ i, i < 4 → (dR D i).2 ≤ 40 ∧ ((dR D i).1 = -1 ∨ (dR D i).1 = nI 0 ∨ (dR D i).1 = nI 1))
/-- the class's cells are that desk -/
def RC (M : zM) (D : yD) : Prop := CN M 62 66 67 62 (dT D) (dc D) (dX D) ∧ zi M 16 2 = nI (dc D) ∧ RTp M (dn D) (db D) ∧ ∀ i, i < 4 → zi M (127 + 2 * i) 0 = (dR D i).1 ∧ zi M (127 + 2 * i) 1 = nI (dR D i).2
/-- what the class's calls leave -/
def Fc (M M' : zM) : Prop := (∀ a k, (a < 16 ∨ 136 ≤ a) → zi M' a k = zi M a k ∧ zr M' a k = zr M a k) ∧ zk M' = zk M ∧ zn M' = zn M ∧ zs M' = zs M
theorem Fc.refl (M : zM) : Fc M M := ⟨fun _ _ _ => ⟨rfl, rfl⟩, rfl, rfl, rfl⟩
theorem Fc.trans {M M' M'' : zM} (h : Fc M M') (g : Fc M' M'') : Fc M M'' := ⟨fun a k q => ⟨(g.1 a k q).1.trans (h.1 a k q).1, (g.1 a k q).2.trans (h.1 a k q).2⟩, g.2.1.trans h.2.1, g.2.2.1.trans h.2.2.1, g.2.2.2.trans h.2.2.2⟩
theorem Fr.c {S : Nat → Nat → Prop} {M M' : zM} (h : Fr S M M') (hs : ∀ a k, (a < 16 ∨ 136 ≤ a) → ¬ S a k) : Fc M M' := ⟨fun a k q => h.1 a k (hs a k q), h.2.2.1, h.2.2.2.1, h.2.2.2.2⟩
theorem Fl.c {b : Nat} {M M' : zM} (h : Fl b M M') : Fc M M' := ⟨fun a k _ => ⟨h.i a k, h.r a k⟩, funext h.k, congrArg (fun q => q.2.1) h.2.2.1, congrArg (fun q => q.2.2) h.2.2.1⟩
/-- the class's cells outside of the worlds -/
theorem RC.fr {M M' : zM} {S : Nat → Nat → Prop} {D : yD} (h : RC M D) (hS : SC M') (f : Fr S M M') (hs : (∀ k, ¬ S 16 k) ∧ ¬ S 17 1 ∧ (∀ a k, 18 ≤ a → a < 94 → ¬ S a k) ∧ ∀ a k, 126 ≤ a → a < 136 → ¬ S a k) : RC M' D := by
  obtain ⟨⟨h1, h2, h3, h4, h5⟩, h6, h7, h8⟩ := h
  refine ⟨⟨hS, h2, RTx_fr h3 h4.1.1 f (fun b k a1 a2 => hs.2.2.1 b k (by omega) (by omega)), h4, ⟨RPu_fr h5.1 f (fun b k a1 a2 => hs.2.2.1 b k (by omega) (by omega)), fun s hs3 => RS_fr (h5.2.1 s hs3) f (fun b k a1 a2 => hs.2.2.1 b k (by omega) (by omega)), RJ_fr h5.2.2 f (fun b k a1 a2 => hs.2.2.1 b k (by omega) (by omega))⟩⟩,
    (f.i (hs.1 2)).trans h6, RTp_fi h7 f ⟨hs.2.1, fun k => hs.2.2.1 18 k (by omega) (by omega)⟩, fun i hi => ⟨(f.i (hs.2.2.2 _ _ (by omega) (by omega))).trans (h8 i hi).1, (f.i (hs.2.2.2 _ _ (by omega) (by omega))).trans (h8 i hi).2⟩⟩
/-! ===== the calls of the class: texts, counts ===== -/
theorem d33_0 : decode (zB 33) 0 = .ok (.iload_n 1, 1) := (congrArg (fun c => decode c 0) zeq33).trans (by decide +kernel)
theorem d33_1 : decode (zB 33) 1 = .ok (.iconst 0, 1) := (congrArg (fun c => decode c 1) zeq33).trans (by decide +kernel)
theorem d33_2 : decode (zB 33) 2 = .ok (.aload_n 0, 1) := (congrArg (fun c => decode c 2) zeq33).trans (by decide +kernel)
theorem d33_3 : decode (zB 33) 3 = .ok (.getfield 70, 3) := (congrArg (fun c => decode c 3) zeq33).trans (by decide +kernel)
theorem d33_6 : decode (zB 33) 6 = .ok (.iconst 1, 1) := (congrArg (fun c => decode c 6) zeq33).trans (by decide +kernel)
theorem d33_7 : decode (zB 33) 7 = .ok (.isub, 1) := (congrArg (fun c => decode c 7) zeq33).trans (by decide +kernel)
theorem d33_8 : decode (zB 33) 8 = .ok (.invokestatic 55, 3) := (congrArg (fun c => decode c 8) zeq33).trans (by decide +kernel)
theorem d33_11 : decode (zB 33) 11 = .ok (.ireturn, 1) := (congrArg (fun c => decode c 11) zeq33).trans (by decide +kernel)
theorem c33 {d : Nat} {M : zM} {Q : Option Value → zM → Prop} {D : yD} {x : Int32} (hR : RC M D) (k : Q (some (.int (bI (zix x (dc D)).isSome))) M) : qC (d + 2) 33 [.ref 16, .int x] M Q := by
  have hc6 := hR.1.2.2.2.1.1.1
  refine qC_of (by decide) (Nat.le_of_ble_eq_true rfl) ?_
  refine q_iload_n d33_0 rfl ?_
  refine q_iconstN (z := 0) d33_1 ?_
  refine q_aload_n d33_2 rfl ?_
  refine q_getv (c := 7) (f := 2) d33_3 ⟨rfl, by decide⟩ hR.1.1.1.1 hR.2.1 ?_
  refine q_iconstN (z := 1) d33_6 ?_
  refine q_isub d33_7 ?_
  refine q_s3 d33_8 (Or.inl rfl) rfl (Nat.le_of_ble_eq_true rfl) (c10s (by omega) ?_)
  refine b_ret d33_11 rfl ?_
  exact k
theorem c33t {d t : Nat} {M : zM} {Q : Option Value → zM → Prop} {D : yD} (hR : RC M D) (h : t < dc D) (k : Q (some (.int (nI 1))) M) : qC (d + 2) 33 [.ref 16, .int (nI t)] M Q := c33 hR (by rw [zix_in h (by have := hR.1.2.2.2.1.1.1; omega)]; exact k)
theorem c33f {d : Nat} {M : zM} {Q : Option Value → zM → Prop} {D : yD} {x : Int32} (hR : RC M D) (h : zix x (dc D) = none) (k : Q (some (.int (nI 0))) M) : qC (d + 2) 33 [.ref 16, .int x] M Q := c33 hR (by rw [h]; exact k)
theorem d58_0 : decode (zB 58) 0 = .ok (.iload_n 0, 1) := (congrArg (fun c => decode c 0) zeq58).trans (by decide +kernel)
theorem d58_1 : decode (zB 58) 1 = .ok (.istore_n 2, 1) := (congrArg (fun c => decode c 1) zeq58).trans (by decide +kernel)
theorem d58_2 : decode (zB 58) 2 = .ok (.iconst 0, 1) := (congrArg (fun c => decode c 2) zeq58).trans (by decide +kernel)
theorem d58_3 : decode (zB 58) 3 = .ok (.istore_n 3, 1) := (congrArg (fun c => decode c 3) zeq58).trans (by decide +kernel)
theorem d58_4 : decode (zB 58) 4 = .ok (.iload_n 3, 1) := (congrArg (fun c => decode c 4) zeq58).trans (by decide +kernel)
theorem d58_5 : decode (zB 58) 5 = .ok (.bipush 6, 2) := (congrArg (fun c => decode c 5) zeq58).trans (by decide +kernel)
theorem d58_7 : decode (zB 58) 7 = .ok (.if_icmp .ge 31, 3) := (congrArg (fun c => decode c 7) zeq58).trans (by decide +kernel)
theorem d58_10 : decode (zB 58) 10 = .ok (.iload_n 2, 1) := (congrArg (fun c => decode c 10) zeq58).trans (by decide +kernel)
theorem d58_11 : decode (zB 58) 11 = .ok (.iconst 0, 1) := (congrArg (fun c => decode c 11) zeq58).trans (by decide +kernel)
theorem d58_12 : decode (zB 58) 12 = .ok (.iconst 5, 1) := (congrArg (fun c => decode c 12) zeq58).trans (by decide +kernel)
theorem d58_13 : decode (zB 58) 13 = .ok (.invokestatic 55, 3) := (congrArg (fun c => decode c 13) zeq58).trans (by decide +kernel)
theorem d58_16 : decode (zB 58) 16 = .ok (.ifCond .eq 22, 3) := (congrArg (fun c => decode c 16) zeq58).trans (by decide +kernel)
theorem d58_19 : decode (zB 58) 19 = .ok (.iload_n 2, 1) := (congrArg (fun c => decode c 19) zeq58).trans (by decide +kernel)
theorem d58_20 : decode (zB 58) 20 = .ok (.iload_n 1, 1) := (congrArg (fun c => decode c 20) zeq58).trans (by decide +kernel)
theorem d58_21 : decode (zB 58) 21 = .ok (.if_icmp .ne 5, 3) := (congrArg (fun c => decode c 21) zeq58).trans (by decide +kernel)
theorem d58_24 : decode (zB 58) 24 = .ok (.iconst 1, 1) := (congrArg (fun c => decode c 24) zeq58).trans (by decide +kernel)
theorem d58_25 : decode (zB 58) 25 = .ok (.ireturn, 1) := (congrArg (fun c => decode c 25) zeq58).trans (by decide +kernel)
theorem d58_26 : decode (zB 58) 26 = .ok (.getstatic 300, 3) := (congrArg (fun c => decode c 26) zeq58).trans (by decide +kernel)
theorem d58_29 : decode (zB 58) 29 = .ok (.iload_n 2, 1) := (congrArg (fun c => decode c 29) zeq58).trans (by decide +kernel)
theorem d58_30 : decode (zB 58) 30 = .ok (.iaload, 1) := (congrArg (fun c => decode c 30) zeq58).trans (by decide +kernel)
theorem d58_31 : decode (zB 58) 31 = .ok (.istore_n 2, 1) := (congrArg (fun c => decode c 31) zeq58).trans (by decide +kernel)
theorem d58_32 : decode (zB 58) 32 = .ok (.iinc 3 1, 3) := (congrArg (fun c => decode c 32) zeq58).trans (by decide +kernel)
theorem d58_35 : decode (zB 58) 35 = .ok (.goto (-31), 3) := (congrArg (fun c => decode c 35) zeq58).trans (by decide +kernel)
theorem d58_38 : decode (zB 58) 38 = .ok (.iconst 0, 1) := (congrArg (fun c => decode c 38) zeq58).trans (by decide +kernel)
theorem d58_39 : decode (zB 58) 39 = .ok (.ireturn, 1) := (congrArg (fun c => decode c 39) zeq58).trans (by decide +kernel)
theorem c58 {d : Nat} {M : zM} {Q : Option Value → zM → Prop} {kd j : Nat} (hS : SC M) (hk : kd < 6) (hj : j < 6) (k : Q (some (.int (bI (yundr kd j)))) M) : qC (d + 2) 58 [.int (nI kd), .int (nI j)] M Q := by
  have hst := hS.st
  refine qC_of (by decide) (Nat.le_of_ble_eq_true rfl) ?_
  rcases (show kd = 0 ∨ kd = 1 ∨ kd = 2 ∨ kd = 3 ∨ kd = 4 ∨ kd = 5 by omega) with rfl | rfl | rfl | rfl | rfl | rfl
  · refine q_iload_n d58_0 rfl ?_
    refine q_istore_n d58_1 (by decide) rfl ?_
    refine q_iconstN (z := 0) d58_2 ?_
    refine q_istore_n d58_3 (by decide) rfl ?_
    refine q_iload_n d58_4 rfl ?_
    refine q_bipush (x := nI 6) d58_5 rfl ?_
    refine nc_ge 38 d58_7 (by decide) (by decide) (by decide) (fun q => absurd q (by decide)) (fun _ => ?_)
    refine q_iload_n d58_10 rfl ?_
    refine q_iconstN (z := 0) d58_11 ?_
    refine q_iconstN (z := 5) d58_12 ?_
    refine q_s3 d58_13 (Or.inl rfl) rfl (Nat.le_of_ble_eq_true rfl) (c10t ⟨by decide, by decide⟩ (by decide) ?_)
    refine n0_eq 38 d58_16 (by decide) (by decide) (fun q => absurd q (by decide)) (fun _ => ?_)
    refine q_iload_n d58_19 rfl ?_
    refine q_iload_n d58_20 rfl ?_
    refine nc_ne 26 d58_21 (by decide) (by omega) (by omega) (fun h21 => ?_) (fun h21 => ?_)
    · refine q_getst d58_26 rfl ?_
      refine q_iload_n d58_29 rfl ?_
      refine n_ialds d58_30 ⟨by decide, hst.1⟩ (by omega) (by decide) ((hst.2.2.1 0).trans (by decide : zUn 0 = -1)) ?_
      refine q_istore_n d58_31 (by decide) rfl ?_
      refine n_iinc 1 d58_32 (by decide) rfl rfl ?_
      refine q_goto 4 d58_35 (by decide) ?_
      refine q_iload_n d58_4 rfl ?_
      refine q_bipush (x := nI 6) d58_5 rfl ?_
      refine nc_ge 38 d58_7 (by decide) (by decide) (by decide) (fun q => absurd q (by decide)) (fun _ => ?_)
      refine q_iload_n d58_10 rfl ?_
      refine q_iconstN (z := 0) d58_11 ?_
      refine q_iconstN (z := 5) d58_12 ?_
      refine q_s3 d58_13 (Or.inl rfl) rfl (Nat.le_of_ble_eq_true rfl) (c10f (by decide) (by decide) (by decide) ?_)
      refine n0_eq 38 d58_16 (by decide) (by decide) (fun _ => ?_) (fun q => absurd q (by decide))
      refine q_iconstN (z := 0) d58_38 ?_
      refine q_zret d58_39 rfl (by decide) ?_
      exact bK0 k (by unfold yundr; simp; omega)
    · refine q_iconstN (z := 1) d58_24 ?_
      refine q_zret d58_25 rfl (by decide) ?_
      exact bK1 k (by unfold yundr; simp; omega)
  · refine q_iload_n d58_0 rfl ?_
    refine q_istore_n d58_1 (by decide) rfl ?_
    refine q_iconstN (z := 0) d58_2 ?_
    refine q_istore_n d58_3 (by decide) rfl ?_
    refine q_iload_n d58_4 rfl ?_
    refine q_bipush (x := nI 6) d58_5 rfl ?_
    refine nc_ge 38 d58_7 (by decide) (by decide) (by decide) (fun q => absurd q (by decide)) (fun _ => ?_)
    refine q_iload_n d58_10 rfl ?_
    refine q_iconstN (z := 0) d58_11 ?_
    refine q_iconstN (z := 5) d58_12 ?_
    refine q_s3 d58_13 (Or.inl rfl) rfl (Nat.le_of_ble_eq_true rfl) (c10t ⟨by decide, by decide⟩ (by decide) ?_)
    refine n0_eq 38 d58_16 (by decide) (by decide) (fun q => absurd q (by decide)) (fun _ => ?_)
    refine q_iload_n d58_19 rfl ?_
    refine q_iload_n d58_20 rfl ?_
    refine nc_ne 26 d58_21 (by decide) (by omega) (by omega) (fun h21 => ?_) (fun h21 => ?_)
    · refine q_getst d58_26 rfl ?_
      refine q_iload_n d58_29 rfl ?_
      refine n_ialds d58_30 ⟨by decide, hst.1⟩ (by omega) (by decide) ((hst.2.2.1 1).trans (by decide : zUn 1 = nI 0)) ?_
      refine q_istore_n d58_31 (by decide) rfl ?_
      refine n_iinc 1 d58_32 (by decide) rfl rfl ?_
      refine q_goto 4 d58_35 (by decide) ?_
      refine q_iload_n d58_4 rfl ?_
      refine q_bipush (x := nI 6) d58_5 rfl ?_
      refine nc_ge 38 d58_7 (by decide) (by decide) (by decide) (fun q => absurd q (by decide)) (fun _ => ?_)
      refine q_iload_n d58_10 rfl ?_
      refine q_iconstN (z := 0) d58_11 ?_
      refine q_iconstN (z := 5) d58_12 ?_
      refine q_s3 d58_13 (Or.inl rfl) rfl (Nat.le_of_ble_eq_true rfl) (c10t ⟨by decide, by decide⟩ (by decide) ?_)
      refine n0_eq 38 d58_16 (by decide) (by decide) (fun q => absurd q (by decide)) (fun _ => ?_)
      refine q_iload_n d58_19 rfl ?_
      refine q_iload_n d58_20 rfl ?_
      refine nc_ne 26 d58_21 (by decide) (by omega) (by omega) (fun h21 => ?_) (fun h21 => ?_)
      · refine q_getst d58_26 rfl ?_
        refine q_iload_n d58_29 rfl ?_
        refine n_ialds d58_30 ⟨by decide, hst.1⟩ (by omega) (by decide) ((hst.2.2.1 0).trans (by decide : zUn 0 = -1)) ?_
        refine q_istore_n d58_31 (by decide) rfl ?_
        refine n_iinc 1 d58_32 (by decide) rfl rfl ?_
        refine q_goto 4 d58_35 (by decide) ?_
        refine q_iload_n d58_4 rfl ?_
        refine q_bipush (x := nI 6) d58_5 rfl ?_
        refine nc_ge 38 d58_7 (by decide) (by decide) (by decide) (fun q => absurd q (by decide)) (fun _ => ?_)
        refine q_iload_n d58_10 rfl ?_
        refine q_iconstN (z := 0) d58_11 ?_
        refine q_iconstN (z := 5) d58_12 ?_
        refine q_s3 d58_13 (Or.inl rfl) rfl (Nat.le_of_ble_eq_true rfl) (c10f (by decide) (by decide) (by decide) ?_)
        refine n0_eq 38 d58_16 (by decide) (by decide) (fun _ => ?_) (fun q => absurd q (by decide))
        refine q_iconstN (z := 0) d58_38 ?_
        refine q_zret d58_39 rfl (by decide) ?_
        exact bK0 k (by unfold yundr; simp; omega)
      · refine q_iconstN (z := 1) d58_24 ?_
        refine q_zret d58_25 rfl (by decide) ?_
        exact bK1 k (by unfold yundr; simp; omega)
    · refine q_iconstN (z := 1) d58_24 ?_
      refine q_zret d58_25 rfl (by decide) ?_
      exact bK1 k (by unfold yundr; simp; omega)
  · refine q_iload_n d58_0 rfl ?_
    refine q_istore_n d58_1 (by decide) rfl ?_
    refine q_iconstN (z := 0) d58_2 ?_
    refine q_istore_n d58_3 (by decide) rfl ?_
    refine q_iload_n d58_4 rfl ?_
    refine q_bipush (x := nI 6) d58_5 rfl ?_
    refine nc_ge 38 d58_7 (by decide) (by decide) (by decide) (fun q => absurd q (by decide)) (fun _ => ?_)
    refine q_iload_n d58_10 rfl ?_
    refine q_iconstN (z := 0) d58_11 ?_
    refine q_iconstN (z := 5) d58_12 ?_
    refine q_s3 d58_13 (Or.inl rfl) rfl (Nat.le_of_ble_eq_true rfl) (c10t ⟨by decide, by decide⟩ (by decide) ?_)
    refine n0_eq 38 d58_16 (by decide) (by decide) (fun q => absurd q (by decide)) (fun _ => ?_)
    refine q_iload_n d58_19 rfl ?_
    refine q_iload_n d58_20 rfl ?_
    refine nc_ne 26 d58_21 (by decide) (by omega) (by omega) (fun h21 => ?_) (fun h21 => ?_)
    · refine q_getst d58_26 rfl ?_
      refine q_iload_n d58_29 rfl ?_
      refine n_ialds d58_30 ⟨by decide, hst.1⟩ (by omega) (by decide) ((hst.2.2.1 2).trans (by decide : zUn 2 = nI 0)) ?_
      refine q_istore_n d58_31 (by decide) rfl ?_
      refine n_iinc 1 d58_32 (by decide) rfl rfl ?_
      refine q_goto 4 d58_35 (by decide) ?_
      refine q_iload_n d58_4 rfl ?_
      refine q_bipush (x := nI 6) d58_5 rfl ?_
      refine nc_ge 38 d58_7 (by decide) (by decide) (by decide) (fun q => absurd q (by decide)) (fun _ => ?_)
      refine q_iload_n d58_10 rfl ?_
      refine q_iconstN (z := 0) d58_11 ?_
      refine q_iconstN (z := 5) d58_12 ?_
      refine q_s3 d58_13 (Or.inl rfl) rfl (Nat.le_of_ble_eq_true rfl) (c10t ⟨by decide, by decide⟩ (by decide) ?_)
      refine n0_eq 38 d58_16 (by decide) (by decide) (fun q => absurd q (by decide)) (fun _ => ?_)
      refine q_iload_n d58_19 rfl ?_
      refine q_iload_n d58_20 rfl ?_
      refine nc_ne 26 d58_21 (by decide) (by omega) (by omega) (fun h21 => ?_) (fun h21 => ?_)
      · refine q_getst d58_26 rfl ?_
        refine q_iload_n d58_29 rfl ?_
        refine n_ialds d58_30 ⟨by decide, hst.1⟩ (by omega) (by decide) ((hst.2.2.1 0).trans (by decide : zUn 0 = -1)) ?_
        refine q_istore_n d58_31 (by decide) rfl ?_
        refine n_iinc 1 d58_32 (by decide) rfl rfl ?_
        refine q_goto 4 d58_35 (by decide) ?_
        refine q_iload_n d58_4 rfl ?_
        refine q_bipush (x := nI 6) d58_5 rfl ?_
        refine nc_ge 38 d58_7 (by decide) (by decide) (by decide) (fun q => absurd q (by decide)) (fun _ => ?_)
        refine q_iload_n d58_10 rfl ?_
        refine q_iconstN (z := 0) d58_11 ?_
        refine q_iconstN (z := 5) d58_12 ?_
        refine q_s3 d58_13 (Or.inl rfl) rfl (Nat.le_of_ble_eq_true rfl) (c10f (by decide) (by decide) (by decide) ?_)
        refine n0_eq 38 d58_16 (by decide) (by decide) (fun _ => ?_) (fun q => absurd q (by decide))
        refine q_iconstN (z := 0) d58_38 ?_
        refine q_zret d58_39 rfl (by decide) ?_
        exact bK0 k (by unfold yundr; simp; omega)
      · refine q_iconstN (z := 1) d58_24 ?_
        refine q_zret d58_25 rfl (by decide) ?_
        exact bK1 k (by unfold yundr; simp; omega)
    · refine q_iconstN (z := 1) d58_24 ?_
      refine q_zret d58_25 rfl (by decide) ?_
      exact bK1 k (by unfold yundr; simp; omega)
  · refine q_iload_n d58_0 rfl ?_
    refine q_istore_n d58_1 (by decide) rfl ?_
    refine q_iconstN (z := 0) d58_2 ?_
    refine q_istore_n d58_3 (by decide) rfl ?_
    refine q_iload_n d58_4 rfl ?_
    refine q_bipush (x := nI 6) d58_5 rfl ?_
    refine nc_ge 38 d58_7 (by decide) (by decide) (by decide) (fun q => absurd q (by decide)) (fun _ => ?_)
    refine q_iload_n d58_10 rfl ?_
    refine q_iconstN (z := 0) d58_11 ?_
    refine q_iconstN (z := 5) d58_12 ?_
    refine q_s3 d58_13 (Or.inl rfl) rfl (Nat.le_of_ble_eq_true rfl) (c10t ⟨by decide, by decide⟩ (by decide) ?_)
    refine n0_eq 38 d58_16 (by decide) (by decide) (fun q => absurd q (by decide)) (fun _ => ?_)
    refine q_iload_n d58_19 rfl ?_
    refine q_iload_n d58_20 rfl ?_
    refine nc_ne 26 d58_21 (by decide) (by omega) (by omega) (fun h21 => ?_) (fun h21 => ?_)
    · refine q_getst d58_26 rfl ?_
      refine q_iload_n d58_29 rfl ?_
      refine n_ialds d58_30 ⟨by decide, hst.1⟩ (by omega) (by decide) ((hst.2.2.1 3).trans (by decide : zUn 3 = nI 1)) ?_
      refine q_istore_n d58_31 (by decide) rfl ?_
      refine n_iinc 1 d58_32 (by decide) rfl rfl ?_
      refine q_goto 4 d58_35 (by decide) ?_
      refine q_iload_n d58_4 rfl ?_
      refine q_bipush (x := nI 6) d58_5 rfl ?_
      refine nc_ge 38 d58_7 (by decide) (by decide) (by decide) (fun q => absurd q (by decide)) (fun _ => ?_)
      refine q_iload_n d58_10 rfl ?_
      refine q_iconstN (z := 0) d58_11 ?_
      refine q_iconstN (z := 5) d58_12 ?_
      refine q_s3 d58_13 (Or.inl rfl) rfl (Nat.le_of_ble_eq_true rfl) (c10t ⟨by decide, by decide⟩ (by decide) ?_)
      refine n0_eq 38 d58_16 (by decide) (by decide) (fun q => absurd q (by decide)) (fun _ => ?_)
      refine q_iload_n d58_19 rfl ?_
      refine q_iload_n d58_20 rfl ?_
      refine nc_ne 26 d58_21 (by decide) (by omega) (by omega) (fun h21 => ?_) (fun h21 => ?_)
      · refine q_getst d58_26 rfl ?_
        refine q_iload_n d58_29 rfl ?_
        refine n_ialds d58_30 ⟨by decide, hst.1⟩ (by omega) (by decide) ((hst.2.2.1 1).trans (by decide : zUn 1 = nI 0)) ?_
        refine q_istore_n d58_31 (by decide) rfl ?_
        refine n_iinc 1 d58_32 (by decide) rfl rfl ?_
        refine q_goto 4 d58_35 (by decide) ?_
        refine q_iload_n d58_4 rfl ?_
        refine q_bipush (x := nI 6) d58_5 rfl ?_
        refine nc_ge 38 d58_7 (by decide) (by decide) (by decide) (fun q => absurd q (by decide)) (fun _ => ?_)
        refine q_iload_n d58_10 rfl ?_
        refine q_iconstN (z := 0) d58_11 ?_
        refine q_iconstN (z := 5) d58_12 ?_
        refine q_s3 d58_13 (Or.inl rfl) rfl (Nat.le_of_ble_eq_true rfl) (c10t ⟨by decide, by decide⟩ (by decide) ?_)
        refine n0_eq 38 d58_16 (by decide) (by decide) (fun q => absurd q (by decide)) (fun _ => ?_)
        refine q_iload_n d58_19 rfl ?_
        refine q_iload_n d58_20 rfl ?_
        refine nc_ne 26 d58_21 (by decide) (by omega) (by omega) (fun h21 => ?_) (fun h21 => ?_)
        · refine q_getst d58_26 rfl ?_
          refine q_iload_n d58_29 rfl ?_
          refine n_ialds d58_30 ⟨by decide, hst.1⟩ (by omega) (by decide) ((hst.2.2.1 0).trans (by decide : zUn 0 = -1)) ?_
          refine q_istore_n d58_31 (by decide) rfl ?_
          refine n_iinc 1 d58_32 (by decide) rfl rfl ?_
          refine q_goto 4 d58_35 (by decide) ?_
          refine q_iload_n d58_4 rfl ?_
          refine q_bipush (x := nI 6) d58_5 rfl ?_
          refine nc_ge 38 d58_7 (by decide) (by decide) (by decide) (fun q => absurd q (by decide)) (fun _ => ?_)
          refine q_iload_n d58_10 rfl ?_
          refine q_iconstN (z := 0) d58_11 ?_
          refine q_iconstN (z := 5) d58_12 ?_
          refine q_s3 d58_13 (Or.inl rfl) rfl (Nat.le_of_ble_eq_true rfl) (c10f (by decide) (by decide) (by decide) ?_)
          refine n0_eq 38 d58_16 (by decide) (by decide) (fun _ => ?_) (fun q => absurd q (by decide))
          refine q_iconstN (z := 0) d58_38 ?_
          refine q_zret d58_39 rfl (by decide) ?_
          exact bK0 k (by unfold yundr; simp; omega)
        · refine q_iconstN (z := 1) d58_24 ?_
          refine q_zret d58_25 rfl (by decide) ?_
          exact bK1 k (by unfold yundr; simp; omega)
      · refine q_iconstN (z := 1) d58_24 ?_
        refine q_zret d58_25 rfl (by decide) ?_
        exact bK1 k (by unfold yundr; simp; omega)
    · refine q_iconstN (z := 1) d58_24 ?_
      refine q_zret d58_25 rfl (by decide) ?_
      exact bK1 k (by unfold yundr; simp; omega)
  · refine q_iload_n d58_0 rfl ?_
    refine q_istore_n d58_1 (by decide) rfl ?_
    refine q_iconstN (z := 0) d58_2 ?_
    refine q_istore_n d58_3 (by decide) rfl ?_
    refine q_iload_n d58_4 rfl ?_
    refine q_bipush (x := nI 6) d58_5 rfl ?_
    refine nc_ge 38 d58_7 (by decide) (by decide) (by decide) (fun q => absurd q (by decide)) (fun _ => ?_)
    refine q_iload_n d58_10 rfl ?_
    refine q_iconstN (z := 0) d58_11 ?_
    refine q_iconstN (z := 5) d58_12 ?_
    refine q_s3 d58_13 (Or.inl rfl) rfl (Nat.le_of_ble_eq_true rfl) (c10t ⟨by decide, by decide⟩ (by decide) ?_)
    refine n0_eq 38 d58_16 (by decide) (by decide) (fun q => absurd q (by decide)) (fun _ => ?_)
    refine q_iload_n d58_19 rfl ?_
    refine q_iload_n d58_20 rfl ?_
    refine nc_ne 26 d58_21 (by decide) (by omega) (by omega) (fun h21 => ?_) (fun h21 => ?_)
    · refine q_getst d58_26 rfl ?_
      refine q_iload_n d58_29 rfl ?_
      refine n_ialds d58_30 ⟨by decide, hst.1⟩ (by omega) (by decide) ((hst.2.2.1 4).trans (by decide : zUn 4 = nI 2)) ?_
      refine q_istore_n d58_31 (by decide) rfl ?_
      refine n_iinc 1 d58_32 (by decide) rfl rfl ?_
      refine q_goto 4 d58_35 (by decide) ?_
      refine q_iload_n d58_4 rfl ?_
      refine q_bipush (x := nI 6) d58_5 rfl ?_
      refine nc_ge 38 d58_7 (by decide) (by decide) (by decide) (fun q => absurd q (by decide)) (fun _ => ?_)
      refine q_iload_n d58_10 rfl ?_
      refine q_iconstN (z := 0) d58_11 ?_
      refine q_iconstN (z := 5) d58_12 ?_
      refine q_s3 d58_13 (Or.inl rfl) rfl (Nat.le_of_ble_eq_true rfl) (c10t ⟨by decide, by decide⟩ (by decide) ?_)
      refine n0_eq 38 d58_16 (by decide) (by decide) (fun q => absurd q (by decide)) (fun _ => ?_)
      refine q_iload_n d58_19 rfl ?_
      refine q_iload_n d58_20 rfl ?_
      refine nc_ne 26 d58_21 (by decide) (by omega) (by omega) (fun h21 => ?_) (fun h21 => ?_)
      · refine q_getst d58_26 rfl ?_
        refine q_iload_n d58_29 rfl ?_
        refine n_ialds d58_30 ⟨by decide, hst.1⟩ (by omega) (by decide) ((hst.2.2.1 2).trans (by decide : zUn 2 = nI 0)) ?_
        refine q_istore_n d58_31 (by decide) rfl ?_
        refine n_iinc 1 d58_32 (by decide) rfl rfl ?_
        refine q_goto 4 d58_35 (by decide) ?_
        refine q_iload_n d58_4 rfl ?_
        refine q_bipush (x := nI 6) d58_5 rfl ?_
        refine nc_ge 38 d58_7 (by decide) (by decide) (by decide) (fun q => absurd q (by decide)) (fun _ => ?_)
        refine q_iload_n d58_10 rfl ?_
        refine q_iconstN (z := 0) d58_11 ?_
        refine q_iconstN (z := 5) d58_12 ?_
        refine q_s3 d58_13 (Or.inl rfl) rfl (Nat.le_of_ble_eq_true rfl) (c10t ⟨by decide, by decide⟩ (by decide) ?_)
        refine n0_eq 38 d58_16 (by decide) (by decide) (fun q => absurd q (by decide)) (fun _ => ?_)
        refine q_iload_n d58_19 rfl ?_
        refine q_iload_n d58_20 rfl ?_
        refine nc_ne 26 d58_21 (by decide) (by omega) (by omega) (fun h21 => ?_) (fun h21 => ?_)
        · refine q_getst d58_26 rfl ?_
          refine q_iload_n d58_29 rfl ?_
          refine n_ialds d58_30 ⟨by decide, hst.1⟩ (by omega) (by decide) ((hst.2.2.1 0).trans (by decide : zUn 0 = -1)) ?_
          refine q_istore_n d58_31 (by decide) rfl ?_
          refine n_iinc 1 d58_32 (by decide) rfl rfl ?_
          refine q_goto 4 d58_35 (by decide) ?_
          refine q_iload_n d58_4 rfl ?_
          refine q_bipush (x := nI 6) d58_5 rfl ?_
          refine nc_ge 38 d58_7 (by decide) (by decide) (by decide) (fun q => absurd q (by decide)) (fun _ => ?_)
          refine q_iload_n d58_10 rfl ?_
          refine q_iconstN (z := 0) d58_11 ?_
          refine q_iconstN (z := 5) d58_12 ?_
          refine q_s3 d58_13 (Or.inl rfl) rfl (Nat.le_of_ble_eq_true rfl) (c10f (by decide) (by decide) (by decide) ?_)
          refine n0_eq 38 d58_16 (by decide) (by decide) (fun _ => ?_) (fun q => absurd q (by decide))
          refine q_iconstN (z := 0) d58_38 ?_
          refine q_zret d58_39 rfl (by decide) ?_
          exact bK0 k (by unfold yundr; simp; omega)
        · refine q_iconstN (z := 1) d58_24 ?_
          refine q_zret d58_25 rfl (by decide) ?_
          exact bK1 k (by unfold yundr; simp; omega)
      · refine q_iconstN (z := 1) d58_24 ?_
        refine q_zret d58_25 rfl (by decide) ?_
        exact bK1 k (by unfold yundr; simp; omega)
    · refine q_iconstN (z := 1) d58_24 ?_
      refine q_zret d58_25 rfl (by decide) ?_
      exact bK1 k (by unfold yundr; simp; omega)
  · refine q_iload_n d58_0 rfl ?_
    refine q_istore_n d58_1 (by decide) rfl ?_
    refine q_iconstN (z := 0) d58_2 ?_
    refine q_istore_n d58_3 (by decide) rfl ?_
    refine q_iload_n d58_4 rfl ?_
    refine q_bipush (x := nI 6) d58_5 rfl ?_
    refine nc_ge 38 d58_7 (by decide) (by decide) (by decide) (fun q => absurd q (by decide)) (fun _ => ?_)
    refine q_iload_n d58_10 rfl ?_
    refine q_iconstN (z := 0) d58_11 ?_
    refine q_iconstN (z := 5) d58_12 ?_
    refine q_s3 d58_13 (Or.inl rfl) rfl (Nat.le_of_ble_eq_true rfl) (c10t ⟨by decide, by decide⟩ (by decide) ?_)
    refine n0_eq 38 d58_16 (by decide) (by decide) (fun q => absurd q (by decide)) (fun _ => ?_)
    refine q_iload_n d58_19 rfl ?_
    refine q_iload_n d58_20 rfl ?_
    refine nc_ne 26 d58_21 (by decide) (by omega) (by omega) (fun h21 => ?_) (fun h21 => ?_)
    · refine q_getst d58_26 rfl ?_
      refine q_iload_n d58_29 rfl ?_
      refine n_ialds d58_30 ⟨by decide, hst.1⟩ (by omega) (by decide) ((hst.2.2.1 5).trans (by decide : zUn 5 = nI 0)) ?_
      refine q_istore_n d58_31 (by decide) rfl ?_
      refine n_iinc 1 d58_32 (by decide) rfl rfl ?_
      refine q_goto 4 d58_35 (by decide) ?_
      refine q_iload_n d58_4 rfl ?_
      refine q_bipush (x := nI 6) d58_5 rfl ?_
      refine nc_ge 38 d58_7 (by decide) (by decide) (by decide) (fun q => absurd q (by decide)) (fun _ => ?_)
      refine q_iload_n d58_10 rfl ?_
      refine q_iconstN (z := 0) d58_11 ?_
      refine q_iconstN (z := 5) d58_12 ?_
      refine q_s3 d58_13 (Or.inl rfl) rfl (Nat.le_of_ble_eq_true rfl) (c10t ⟨by decide, by decide⟩ (by decide) ?_)
      refine n0_eq 38 d58_16 (by decide) (by decide) (fun q => absurd q (by decide)) (fun _ => ?_)
      refine q_iload_n d58_19 rfl ?_
      refine q_iload_n d58_20 rfl ?_
      refine nc_ne 26 d58_21 (by decide) (by omega) (by omega) (fun h21 => ?_) (fun h21 => ?_)
      · refine q_getst d58_26 rfl ?_
        refine q_iload_n d58_29 rfl ?_
        refine n_ialds d58_30 ⟨by decide, hst.1⟩ (by omega) (by decide) ((hst.2.2.1 0).trans (by decide : zUn 0 = -1)) ?_
        refine q_istore_n d58_31 (by decide) rfl ?_
        refine n_iinc 1 d58_32 (by decide) rfl rfl ?_
        refine q_goto 4 d58_35 (by decide) ?_
        refine q_iload_n d58_4 rfl ?_
        refine q_bipush (x := nI 6) d58_5 rfl ?_
        refine nc_ge 38 d58_7 (by decide) (by decide) (by decide) (fun q => absurd q (by decide)) (fun _ => ?_)
        refine q_iload_n d58_10 rfl ?_
        refine q_iconstN (z := 0) d58_11 ?_
        refine q_iconstN (z := 5) d58_12 ?_
        refine q_s3 d58_13 (Or.inl rfl) rfl (Nat.le_of_ble_eq_true rfl) (c10f (by decide) (by decide) (by decide) ?_)
        refine n0_eq 38 d58_16 (by decide) (by decide) (fun _ => ?_) (fun q => absurd q (by decide))
        refine q_iconstN (z := 0) d58_38 ?_
        refine q_zret d58_39 rfl (by decide) ?_
        exact bK0 k (by unfold yundr; simp; omega)
      · refine q_iconstN (z := 1) d58_24 ?_
        refine q_zret d58_25 rfl (by decide) ?_
        exact bK1 k (by unfold yundr; simp; omega)
    · refine q_iconstN (z := 1) d58_24 ?_
      refine q_zret d58_25 rfl (by decide) ?_
      exact bK1 k (by unfold yundr; simp; omega)
theorem zix_sw {x : Int32} {n : Nat} (h : zix x n = none) : x.toInt < 0 ∨ ((n : Int) - 1) < x.toInt := by
  have := zix_none h
  omega
theorem c47f {d a : Nat} {M : zM} {Q : Option Value → zM → Prop} {T : yT} {x : Int32} (hp : SPr M a) (hr : RP M a T) (hn : tn T ≤ 12) (h : zix x (tn T) = none) (k : Q (some (.int (nI 0))) M) : qC (d + 1) 47 [.ref a, .int x] M Q := c47 hp hr hn (by rw [h]; exact k)
theorem d56_0 : decode (zB 56) 0 = .ok (.aload_n 0, 1) := (congrArg (fun c => decode c 0) zeq56).trans (by decide +kernel)
theorem d56_1 : decode (zB 56) 1 = .ok (.iload_n 1, 1) := (congrArg (fun c => decode c 1) zeq56).trans (by decide +kernel)
theorem d56_2 : decode (zB 56) 2 = .ok (.invokevirtual 77, 3) := (congrArg (fun c => decode c 2) zeq56).trans (by decide +kernel)
theorem d56_5 : decode (zB 56) 5 = .ok (.ifCond .eq 16, 3) := (congrArg (fun c => decode c 5) zeq56).trans (by decide +kernel)
theorem d56_8 : decode (zB 56) 8 = .ok (.aload_n 0, 1) := (congrArg (fun c => decode c 8) zeq56).trans (by decide +kernel)
theorem d56_9 : decode (zB 56) 9 = .ok (.getfield 18, 3) := (congrArg (fun c => decode c 9) zeq56).trans (by decide +kernel)
theorem d56_12 : decode (zB 56) 12 = .ok (.iload_n 1, 1) := (congrArg (fun c => decode c 12) zeq56).trans (by decide +kernel)
theorem d56_13 : decode (zB 56) 13 = .ok (.aaload, 1) := (congrArg (fun c => decode c 13) zeq56).trans (by decide +kernel)
theorem d56_14 : decode (zB 56) 14 = .ok (.iload_n 2, 1) := (congrArg (fun c => decode c 14) zeq56).trans (by decide +kernel)
theorem d56_15 : decode (zB 56) 15 = .ok (.invokevirtual 114, 3) := (congrArg (fun c => decode c 15) zeq56).trans (by decide +kernel)
theorem d56_18 : decode (zB 56) 18 = .ok (.ifCond .ne 6, 3) := (congrArg (fun c => decode c 18) zeq56).trans (by decide +kernel)
theorem d56_21 : decode (zB 56) 21 = .ok (.bipush (-2), 2) := (congrArg (fun c => decode c 21) zeq56).trans (by decide +kernel)
theorem d56_23 : decode (zB 56) 23 = .ok (.ireturn, 1) := (congrArg (fun c => decode c 23) zeq56).trans (by decide +kernel)
theorem d56_24 : decode (zB 56) 24 = .ok (.aload_n 0, 1) := (congrArg (fun c => decode c 24) zeq56).trans (by decide +kernel)
theorem d56_25 : decode (zB 56) 25 = .ok (.getfield 18, 3) := (congrArg (fun c => decode c 25) zeq56).trans (by decide +kernel)
theorem d56_28 : decode (zB 56) 28 = .ok (.iload_n 1, 1) := (congrArg (fun c => decode c 28) zeq56).trans (by decide +kernel)
theorem d56_29 : decode (zB 56) 29 = .ok (.aaload, 1) := (congrArg (fun c => decode c 29) zeq56).trans (by decide +kernel)
theorem d56_30 : decode (zB 56) 30 = .ok (.astore 4, 2) := (congrArg (fun c => decode c 30) zeq56).trans (by decide +kernel)
theorem d56_32 : decode (zB 56) 32 = .ok (.iload_n 3, 1) := (congrArg (fun c => decode c 32) zeq56).trans (by decide +kernel)
theorem d56_33 : decode (zB 56) 33 = .ok (.tableswitch 86 0 5 #[39, 47, 55, 63, 71, 79], 39) := (congrArg (fun c => decode c 33) zeq56).trans (by decide +kernel)
theorem d56_72 : decode (zB 56) 72 = .ok (.aload 4, 2) := (congrArg (fun c => decode c 72) zeq56).trans (by decide +kernel)
theorem d56_74 : decode (zB 56) 74 = .ok (.getfield 117, 3) := (congrArg (fun c => decode c 74) zeq56).trans (by decide +kernel)
theorem d56_77 : decode (zB 56) 77 = .ok (.iload_n 2, 1) := (congrArg (fun c => decode c 77) zeq56).trans (by decide +kernel)
theorem d56_78 : decode (zB 56) 78 = .ok (.iaload, 1) := (congrArg (fun c => decode c 78) zeq56).trans (by decide +kernel)
theorem d56_79 : decode (zB 56) 79 = .ok (.ireturn, 1) := (congrArg (fun c => decode c 79) zeq56).trans (by decide +kernel)
theorem d56_80 : decode (zB 56) 80 = .ok (.aload 4, 2) := (congrArg (fun c => decode c 80) zeq56).trans (by decide +kernel)
theorem d56_82 : decode (zB 56) 82 = .ok (.getfield 121, 3) := (congrArg (fun c => decode c 82) zeq56).trans (by decide +kernel)
theorem d56_85 : decode (zB 56) 85 = .ok (.iload_n 2, 1) := (congrArg (fun c => decode c 85) zeq56).trans (by decide +kernel)
theorem d56_86 : decode (zB 56) 86 = .ok (.iaload, 1) := (congrArg (fun c => decode c 86) zeq56).trans (by decide +kernel)
theorem d56_87 : decode (zB 56) 87 = .ok (.ireturn, 1) := (congrArg (fun c => decode c 87) zeq56).trans (by decide +kernel)
theorem d56_88 : decode (zB 56) 88 = .ok (.aload 4, 2) := (congrArg (fun c => decode c 88) zeq56).trans (by decide +kernel)
theorem d56_90 : decode (zB 56) 90 = .ok (.getfield 124, 3) := (congrArg (fun c => decode c 90) zeq56).trans (by decide +kernel)
theorem d56_93 : decode (zB 56) 93 = .ok (.iload_n 2, 1) := (congrArg (fun c => decode c 93) zeq56).trans (by decide +kernel)
theorem d56_94 : decode (zB 56) 94 = .ok (.iaload, 1) := (congrArg (fun c => decode c 94) zeq56).trans (by decide +kernel)
theorem d56_95 : decode (zB 56) 95 = .ok (.ireturn, 1) := (congrArg (fun c => decode c 95) zeq56).trans (by decide +kernel)
theorem d56_96 : decode (zB 56) 96 = .ok (.aload 4, 2) := (congrArg (fun c => decode c 96) zeq56).trans (by decide +kernel)
theorem d56_98 : decode (zB 56) 98 = .ok (.getfield 127, 3) := (congrArg (fun c => decode c 98) zeq56).trans (by decide +kernel)
theorem d56_101 : decode (zB 56) 101 = .ok (.iload_n 2, 1) := (congrArg (fun c => decode c 101) zeq56).trans (by decide +kernel)
theorem d56_102 : decode (zB 56) 102 = .ok (.iaload, 1) := (congrArg (fun c => decode c 102) zeq56).trans (by decide +kernel)
theorem d56_103 : decode (zB 56) 103 = .ok (.ireturn, 1) := (congrArg (fun c => decode c 103) zeq56).trans (by decide +kernel)
theorem d56_104 : decode (zB 56) 104 = .ok (.aload 4, 2) := (congrArg (fun c => decode c 104) zeq56).trans (by decide +kernel)
theorem d56_106 : decode (zB 56) 106 = .ok (.getfield 130, 3) := (congrArg (fun c => decode c 106) zeq56).trans (by decide +kernel)
theorem d56_109 : decode (zB 56) 109 = .ok (.iload_n 2, 1) := (congrArg (fun c => decode c 109) zeq56).trans (by decide +kernel)
theorem d56_110 : decode (zB 56) 110 = .ok (.iaload, 1) := (congrArg (fun c => decode c 110) zeq56).trans (by decide +kernel)
theorem d56_111 : decode (zB 56) 111 = .ok (.ireturn, 1) := (congrArg (fun c => decode c 111) zeq56).trans (by decide +kernel)
theorem d56_112 : decode (zB 56) 112 = .ok (.aload 4, 2) := (congrArg (fun c => decode c 112) zeq56).trans (by decide +kernel)
theorem d56_114 : decode (zB 56) 114 = .ok (.iload_n 2, 1) := (congrArg (fun c => decode c 114) zeq56).trans (by decide +kernel)
theorem d56_115 : decode (zB 56) 115 = .ok (.invokevirtual 133, 3) := (congrArg (fun c => decode c 115) zeq56).trans (by decide +kernel)
theorem d56_118 : decode (zB 56) 118 = .ok (.ireturn, 1) := (congrArg (fun c => decode c 118) zeq56).trans (by decide +kernel)
theorem d56_119 : decode (zB 56) 119 = .ok (.bipush (-2), 2) := (congrArg (fun c => decode c 119) zeq56).trans (by decide +kernel)
theorem d56_121 : decode (zB 56) 121 = .ok (.ireturn, 1) := (congrArg (fun c => decode c 121) zeq56).trans (by decide +kernel)
theorem p56 {d : Nat} {M : zM} {Q : Option Value → zM → Prop} {D : yD} {x y z : Int32} (hR : RC M D) (hD : OKD D) (k : ∀ M', RC M' D → Fc M M' → Q (some (.int (sStep D x y z))) M') : qC (d + 3) 56 [.ref 16, .int x, .int y, .int z] M Q := by
  refine qC_of (by decide) (Nat.le_of_ble_eq_true rfl) ?_
  have hS := hR.1.1
  have hT := hR.1.2.2.1
  have hO := hR.1.2.2.2.1
  have hRW := hR.1.2.2.2.2
  have hJ : RL M 62 (dL D) := hRW.2.2.2
  have hc6 := hO.1.1
  have h240 := hD.2.1
  have h120 := hR.2.2.1.1
  have hwr := hS.wo (Or.inl ⟨rfl, rfl, rfl, rfl⟩)
  have hwt := hS.wo (Or.inr ⟨rfl, rfl, rfl, rfl⟩)
  have hpr := hS.pu (Or.inl ⟨rfl, rfl, rfl, rfl⟩)
  have hpt := hS.pu (Or.inr ⟨rfl, rfl, rfl, rfl⟩)
  unfold sStep at k
  rcases zix_c x (n := dc D) (by omega) with ⟨t, ht, rfl, et⟩ | ⟨et, nt⟩
  · rw [oz_s et] at k
    have ho := hO.1.2 _ ht
    have hn := ho.n
    rcases zix_c y (n := tn (dT D t)) (by omega) with ⟨i, hi, rfl, ei⟩ | ⟨ei, ni⟩
    · rw [oz_s ei] at k
      rcases zix_c z (n := 6) (by omega) with ⟨w, hw, rfl, ew⟩ | ⟨ew, nw⟩
      · rw [oz_s ew] at k
        rcases (show w = 0 ∨ w = 1 ∨ w = 2 ∨ w = 3 ∨ w = 4 ∨ w = 5 by omega) with rfl | rfl | rfl | rfl | rfl | rfl
        · refine q_aload_n d56_0 rfl ?_
          refine q_iload_n d56_1 rfl ?_
          refine q_v1 d56_2 rfl rfl (hS.1.1) (Nat.le_of_ble_eq_true rfl) (c33t hR (by omega) ?_)
          refine n0_eq 21 d56_5 (by decide) (by decide) (fun q => absurd q (by decide)) (fun _ => ?_)
          refine q_aload_n d56_8 rfl ?_
          refine q_getr (c := 7) (f := 1) d56_9 ⟨rfl, rfl⟩ (hS.1.1) (hS.1.2.2.1) ?_
          refine q_iload_n d56_12 rfl ?_
          refine n_aald d56_13 (hS.1.2.2.2.1) (by decide) (by omega) (by decide) ((hS.1.2.2.2.2.1) _ (by omega)) ?_
          refine q_iload_n d56_14 rfl ?_
          refine q_v1 d56_15 rfl rfl (hS.pr (by omega)).1 (Nat.le_of_ble_eq_true rfl) (c47t (hS.pr (by omega)) (hT _ (by omega)) hn (by omega) ?_)
          refine n0_ne 24 d56_18 (by decide) (by decide) (fun _ => ?_) (fun q => absurd q (by decide))
          refine q_aload_n d56_24 rfl ?_
          refine q_getr (c := 7) (f := 1) d56_25 ⟨rfl, rfl⟩ (hS.1.1) (hS.1.2.2.1) ?_
          refine q_iload_n d56_28 rfl ?_
          refine n_aald d56_29 (hS.1.2.2.2.1) (by decide) (by omega) (by decide) ((hS.1.2.2.2.2.1) _ (by omega)) ?_
          refine q_astore d56_30 (by decide) rfl ?_
          refine q_iload_n d56_32 rfl ?_
          refine n_tsI (39) 72 d56_33 (by decide) (by decide) rfl (by decide) ?_
          refine q_aload d56_72 rfl ?_
          refine q_getr (c := 1) (f := 0) d56_74 ⟨rfl, rfl⟩ (hS.pr (by omega)).1 ((hS.pr (by omega)).2 0 (by decide)).1 ?_
          refine q_iload_n d56_77 rfl ?_
          refine n_iald d56_78 ((hS.pr (by omega)).2 0 (by decide)).2 (by omega) (by decide) ((hT _ (by omega)).2.2 _ (by omega)).1 ?_
          refine q_iret d56_79 rfl ?_
          exact k _ hR (Fc.refl _)
        · refine q_aload_n d56_0 rfl ?_
          refine q_iload_n d56_1 rfl ?_
          refine q_v1 d56_2 rfl rfl (hS.1.1) (Nat.le_of_ble_eq_true rfl) (c33t hR (by omega) ?_)
          refine n0_eq 21 d56_5 (by decide) (by decide) (fun q => absurd q (by decide)) (fun _ => ?_)
          refine q_aload_n d56_8 rfl ?_
          refine q_getr (c := 7) (f := 1) d56_9 ⟨rfl, rfl⟩ (hS.1.1) (hS.1.2.2.1) ?_
          refine q_iload_n d56_12 rfl ?_
          refine n_aald d56_13 (hS.1.2.2.2.1) (by decide) (by omega) (by decide) ((hS.1.2.2.2.2.1) _ (by omega)) ?_
          refine q_iload_n d56_14 rfl ?_
          refine q_v1 d56_15 rfl rfl (hS.pr (by omega)).1 (Nat.le_of_ble_eq_true rfl) (c47t (hS.pr (by omega)) (hT _ (by omega)) hn (by omega) ?_)
          refine n0_ne 24 d56_18 (by decide) (by decide) (fun _ => ?_) (fun q => absurd q (by decide))
          refine q_aload_n d56_24 rfl ?_
          refine q_getr (c := 7) (f := 1) d56_25 ⟨rfl, rfl⟩ (hS.1.1) (hS.1.2.2.1) ?_
          refine q_iload_n d56_28 rfl ?_
          refine n_aald d56_29 (hS.1.2.2.2.1) (by decide) (by omega) (by decide) ((hS.1.2.2.2.2.1) _ (by omega)) ?_
          refine q_astore d56_30 (by decide) rfl ?_
          refine q_iload_n d56_32 rfl ?_
          refine n_tsI (47) 80 d56_33 (by decide) (by decide) rfl (by decide) ?_
          refine q_aload d56_80 rfl ?_
          refine q_getr (c := 1) (f := 1) d56_82 ⟨rfl, rfl⟩ (hS.pr (by omega)).1 ((hS.pr (by omega)).2 1 (by decide)).1 ?_
          refine q_iload_n d56_85 rfl ?_
          refine n_iald d56_86 ((hS.pr (by omega)).2 1 (by decide)).2 (by omega) (by decide) ((hT _ (by omega)).2.2 _ (by omega)).2.1 ?_
          refine q_iret d56_87 rfl ?_
          exact k _ hR (Fc.refl _)
        · refine q_aload_n d56_0 rfl ?_
          refine q_iload_n d56_1 rfl ?_
          refine q_v1 d56_2 rfl rfl (hS.1.1) (Nat.le_of_ble_eq_true rfl) (c33t hR (by omega) ?_)
          refine n0_eq 21 d56_5 (by decide) (by decide) (fun q => absurd q (by decide)) (fun _ => ?_)
          refine q_aload_n d56_8 rfl ?_
          refine q_getr (c := 7) (f := 1) d56_9 ⟨rfl, rfl⟩ (hS.1.1) (hS.1.2.2.1) ?_
          refine q_iload_n d56_12 rfl ?_
          refine n_aald d56_13 (hS.1.2.2.2.1) (by decide) (by omega) (by decide) ((hS.1.2.2.2.2.1) _ (by omega)) ?_
          refine q_iload_n d56_14 rfl ?_
          refine q_v1 d56_15 rfl rfl (hS.pr (by omega)).1 (Nat.le_of_ble_eq_true rfl) (c47t (hS.pr (by omega)) (hT _ (by omega)) hn (by omega) ?_)
          refine n0_ne 24 d56_18 (by decide) (by decide) (fun _ => ?_) (fun q => absurd q (by decide))
          refine q_aload_n d56_24 rfl ?_
          refine q_getr (c := 7) (f := 1) d56_25 ⟨rfl, rfl⟩ (hS.1.1) (hS.1.2.2.1) ?_
          refine q_iload_n d56_28 rfl ?_
          refine n_aald d56_29 (hS.1.2.2.2.1) (by decide) (by omega) (by decide) ((hS.1.2.2.2.2.1) _ (by omega)) ?_
          refine q_astore d56_30 (by decide) rfl ?_
          refine q_iload_n d56_32 rfl ?_
          refine n_tsI (55) 88 d56_33 (by decide) (by decide) rfl (by decide) ?_
          refine q_aload d56_88 rfl ?_
          refine q_getr (c := 1) (f := 2) d56_90 ⟨rfl, rfl⟩ (hS.pr (by omega)).1 ((hS.pr (by omega)).2 2 (by decide)).1 ?_
          refine q_iload_n d56_93 rfl ?_
          refine n_iald d56_94 ((hS.pr (by omega)).2 2 (by decide)).2 (by omega) (by decide) ((hT _ (by omega)).2.2 _ (by omega)).2.2.1 ?_
          refine q_iret d56_95 rfl ?_
          exact k _ hR (Fc.refl _)
        · refine q_aload_n d56_0 rfl ?_
          refine q_iload_n d56_1 rfl ?_
          refine q_v1 d56_2 rfl rfl (hS.1.1) (Nat.le_of_ble_eq_true rfl) (c33t hR (by omega) ?_)
          refine n0_eq 21 d56_5 (by decide) (by decide) (fun q => absurd q (by decide)) (fun _ => ?_)
          refine q_aload_n d56_8 rfl ?_
          refine q_getr (c := 7) (f := 1) d56_9 ⟨rfl, rfl⟩ (hS.1.1) (hS.1.2.2.1) ?_
          refine q_iload_n d56_12 rfl ?_
          refine n_aald d56_13 (hS.1.2.2.2.1) (by decide) (by omega) (by decide) ((hS.1.2.2.2.2.1) _ (by omega)) ?_
          refine q_iload_n d56_14 rfl ?_
          refine q_v1 d56_15 rfl rfl (hS.pr (by omega)).1 (Nat.le_of_ble_eq_true rfl) (c47t (hS.pr (by omega)) (hT _ (by omega)) hn (by omega) ?_)
          refine n0_ne 24 d56_18 (by decide) (by decide) (fun _ => ?_) (fun q => absurd q (by decide))
          refine q_aload_n d56_24 rfl ?_
          refine q_getr (c := 7) (f := 1) d56_25 ⟨rfl, rfl⟩ (hS.1.1) (hS.1.2.2.1) ?_
          refine q_iload_n d56_28 rfl ?_
          refine n_aald d56_29 (hS.1.2.2.2.1) (by decide) (by omega) (by decide) ((hS.1.2.2.2.2.1) _ (by omega)) ?_
          refine q_astore d56_30 (by decide) rfl ?_
          refine q_iload_n d56_32 rfl ?_
          refine n_tsI (63) 96 d56_33 (by decide) (by decide) rfl (by decide) ?_
          refine q_aload d56_96 rfl ?_
          refine q_getr (c := 1) (f := 3) d56_98 ⟨rfl, rfl⟩ (hS.pr (by omega)).1 ((hS.pr (by omega)).2 3 (by decide)).1 ?_
          refine q_iload_n d56_101 rfl ?_
          refine n_iald d56_102 ((hS.pr (by omega)).2 3 (by decide)).2 (by omega) (by decide) ((hT _ (by omega)).2.2 _ (by omega)).2.2.2.1 ?_
          refine q_iret d56_103 rfl ?_
          exact k _ hR (Fc.refl _)
        · refine q_aload_n d56_0 rfl ?_
          refine q_iload_n d56_1 rfl ?_
          refine q_v1 d56_2 rfl rfl (hS.1.1) (Nat.le_of_ble_eq_true rfl) (c33t hR (by omega) ?_)
          refine n0_eq 21 d56_5 (by decide) (by decide) (fun q => absurd q (by decide)) (fun _ => ?_)
          refine q_aload_n d56_8 rfl ?_
          refine q_getr (c := 7) (f := 1) d56_9 ⟨rfl, rfl⟩ (hS.1.1) (hS.1.2.2.1) ?_
          refine q_iload_n d56_12 rfl ?_
          refine n_aald d56_13 (hS.1.2.2.2.1) (by decide) (by omega) (by decide) ((hS.1.2.2.2.2.1) _ (by omega)) ?_
          refine q_iload_n d56_14 rfl ?_
          refine q_v1 d56_15 rfl rfl (hS.pr (by omega)).1 (Nat.le_of_ble_eq_true rfl) (c47t (hS.pr (by omega)) (hT _ (by omega)) hn (by omega) ?_)
          refine n0_ne 24 d56_18 (by decide) (by decide) (fun _ => ?_) (fun q => absurd q (by decide))
          refine q_aload_n d56_24 rfl ?_
          refine q_getr (c := 7) (f := 1) d56_25 ⟨rfl, rfl⟩ (hS.1.1) (hS.1.2.2.1) ?_
          refine q_iload_n d56_28 rfl ?_
          refine n_aald d56_29 (hS.1.2.2.2.1) (by decide) (by omega) (by decide) ((hS.1.2.2.2.2.1) _ (by omega)) ?_
          refine q_astore d56_30 (by decide) rfl ?_
          refine q_iload_n d56_32 rfl ?_
          refine n_tsI (71) 104 d56_33 (by decide) (by decide) rfl (by decide) ?_
          refine q_aload d56_104 rfl ?_
          refine q_getr (c := 1) (f := 4) d56_106 ⟨rfl, rfl⟩ (hS.pr (by omega)).1 ((hS.pr (by omega)).2 4 (by decide)).1 ?_
          refine q_iload_n d56_109 rfl ?_
          refine n_iald d56_110 ((hS.pr (by omega)).2 4 (by decide)).2 (by omega) (by decide) ((hT _ (by omega)).2.2 _ (by omega)).2.2.2.2 ?_
          refine q_iret d56_111 rfl ?_
          exact k _ hR (Fc.refl _)
        · refine q_aload_n d56_0 rfl ?_
          refine q_iload_n d56_1 rfl ?_
          refine q_v1 d56_2 rfl rfl (hS.1.1) (Nat.le_of_ble_eq_true rfl) (c33t hR (by omega) ?_)
          refine n0_eq 21 d56_5 (by decide) (by decide) (fun q => absurd q (by decide)) (fun _ => ?_)
          refine q_aload_n d56_8 rfl ?_
          refine q_getr (c := 7) (f := 1) d56_9 ⟨rfl, rfl⟩ (hS.1.1) (hS.1.2.2.1) ?_
          refine q_iload_n d56_12 rfl ?_
          refine n_aald d56_13 (hS.1.2.2.2.1) (by decide) (by omega) (by decide) ((hS.1.2.2.2.2.1) _ (by omega)) ?_
          refine q_iload_n d56_14 rfl ?_
          refine q_v1 d56_15 rfl rfl (hS.pr (by omega)).1 (Nat.le_of_ble_eq_true rfl) (c47t (hS.pr (by omega)) (hT _ (by omega)) hn (by omega) ?_)
          refine n0_ne 24 d56_18 (by decide) (by decide) (fun _ => ?_) (fun q => absurd q (by decide))
          refine q_aload_n d56_24 rfl ?_
          refine q_getr (c := 7) (f := 1) d56_25 ⟨rfl, rfl⟩ (hS.1.1) (hS.1.2.2.1) ?_
          refine q_iload_n d56_28 rfl ?_
          refine n_aald d56_29 (hS.1.2.2.2.1) (by decide) (by omega) (by decide) ((hS.1.2.2.2.2.1) _ (by omega)) ?_
          refine q_astore d56_30 (by decide) rfl ?_
          refine q_iload_n d56_32 rfl ?_
          refine n_tsI (79) 112 d56_33 (by decide) (by decide) rfl (by decide) ?_
          refine q_aload d56_112 rfl ?_
          refine q_iload_n d56_114 rfl ?_
          refine q_v1 d56_115 rfl rfl (hS.pr (by omega)).1 (Nat.le_of_ble_eq_true rfl) (c39 (hS.pr (by omega)) (hT _ (by omega)) ho (by omega) ?_)
          refine q_iret d56_118 rfl ?_
          exact k _ hR (Fc.refl _)
      · rw [oz_n ew] at k
        refine q_aload_n d56_0 rfl ?_
        refine q_iload_n d56_1 rfl ?_
        refine q_v1 d56_2 rfl rfl (hS.1.1) (Nat.le_of_ble_eq_true rfl) (c33t hR (by omega) ?_)
        refine n0_eq 21 d56_5 (by decide) (by decide) (fun q => absurd q (by decide)) (fun _ => ?_)
        refine q_aload_n d56_8 rfl ?_
        refine q_getr (c := 7) (f := 1) d56_9 ⟨rfl, rfl⟩ (hS.1.1) (hS.1.2.2.1) ?_
        refine q_iload_n d56_12 rfl ?_
        refine n_aald d56_13 (hS.1.2.2.2.1) (by decide) (by omega) (by decide) ((hS.1.2.2.2.2.1) _ (by omega)) ?_
        refine q_iload_n d56_14 rfl ?_
        refine q_v1 d56_15 rfl rfl (hS.pr (by omega)).1 (Nat.le_of_ble_eq_true rfl) (c47t (hS.pr (by omega)) (hT _ (by omega)) hn (by omega) ?_)
        refine n0_ne 24 d56_18 (by decide) (by decide) (fun _ => ?_) (fun q => absurd q (by decide))
        refine q_aload_n d56_24 rfl ?_
        refine q_getr (c := 7) (f := 1) d56_25 ⟨rfl, rfl⟩ (hS.1.1) (hS.1.2.2.1) ?_
        refine q_iload_n d56_28 rfl ?_
        refine n_aald d56_29 (hS.1.2.2.2.1) (by decide) (by omega) (by decide) ((hS.1.2.2.2.2.1) _ (by omega)) ?_
        refine q_astore d56_30 (by decide) rfl ?_
        refine q_iload_n d56_32 rfl ?_
        refine q_tsO 119 d56_33 (zix_sw ew) (by decide) ?_
        refine q_bipush (x := (-2)) d56_119 rfl ?_
        refine q_iret d56_121 rfl ?_
        exact k _ hR (Fc.refl _)
    · rw [oz_n ei] at k
      refine q_aload_n d56_0 rfl ?_
      refine q_iload_n d56_1 rfl ?_
      refine q_v1 d56_2 rfl rfl (hS.1.1) (Nat.le_of_ble_eq_true rfl) (c33t hR (by omega) ?_)
      refine n0_eq 21 d56_5 (by decide) (by decide) (fun q => absurd q (by decide)) (fun _ => ?_)
      refine q_aload_n d56_8 rfl ?_
      refine q_getr (c := 7) (f := 1) d56_9 ⟨rfl, rfl⟩ (hS.1.1) (hS.1.2.2.1) ?_
      refine q_iload_n d56_12 rfl ?_
      refine n_aald d56_13 (hS.1.2.2.2.1) (by decide) (by omega) (by decide) ((hS.1.2.2.2.2.1) _ (by omega)) ?_
      refine q_iload_n d56_14 rfl ?_
      refine q_v1 d56_15 rfl rfl (hS.pr (by omega)).1 (Nat.le_of_ble_eq_true rfl) (c47f (hS.pr (by omega)) (hT _ (by omega)) hn ei ?_)
      refine n0_ne 24 d56_18 (by decide) (by decide) (fun q => absurd q (by decide)) (fun _ => ?_)
      refine q_bipush (x := (-2)) d56_21 rfl ?_
      refine q_iret d56_23 rfl ?_
      exact k _ hR (Fc.refl _)
  · rw [oz_n et] at k
    refine q_aload_n d56_0 rfl ?_
    refine q_iload_n d56_1 rfl ?_
    refine q_v1 d56_2 rfl rfl (hS.1.1) (Nat.le_of_ble_eq_true rfl) (c33f hR et ?_)
    refine n0_eq 21 d56_5 (by decide) (by decide) (fun _ => ?_) (fun q => absurd q (by decide))
    refine q_bipush (x := (-2)) d56_21 rfl ?_
    refine q_iret d56_23 rfl ?_
    exact k _ hR (Fc.refl _)
theorem d57_0 : decode (zB 57) 0 = .ok (.aload_n 0, 1) := (congrArg (fun c => decode c 0) zeq57).trans (by decide +kernel)
theorem d57_1 : decode (zB 57) 1 = .ok (.iload_n 1, 1) := (congrArg (fun c => decode c 1) zeq57).trans (by decide +kernel)
theorem d57_2 : decode (zB 57) 2 = .ok (.invokevirtual 77, 3) := (congrArg (fun c => decode c 2) zeq57).trans (by decide +kernel)
theorem d57_5 : decode (zB 57) 5 = .ok (.ifCond .eq 25, 3) := (congrArg (fun c => decode c 5) zeq57).trans (by decide +kernel)
theorem d57_8 : decode (zB 57) 8 = .ok (.aload_n 0, 1) := (congrArg (fun c => decode c 8) zeq57).trans (by decide +kernel)
theorem d57_9 : decode (zB 57) 9 = .ok (.getfield 18, 3) := (congrArg (fun c => decode c 9) zeq57).trans (by decide +kernel)
theorem d57_12 : decode (zB 57) 12 = .ok (.iload_n 1, 1) := (congrArg (fun c => decode c 12) zeq57).trans (by decide +kernel)
theorem d57_13 : decode (zB 57) 13 = .ok (.aaload, 1) := (congrArg (fun c => decode c 13) zeq57).trans (by decide +kernel)
theorem d57_14 : decode (zB 57) 14 = .ok (.iload_n 2, 1) := (congrArg (fun c => decode c 14) zeq57).trans (by decide +kernel)
theorem d57_15 : decode (zB 57) 15 = .ok (.invokevirtual 114, 3) := (congrArg (fun c => decode c 15) zeq57).trans (by decide +kernel)
theorem d57_18 : decode (zB 57) 18 = .ok (.ifCond .eq 12, 3) := (congrArg (fun c => decode c 18) zeq57).trans (by decide +kernel)
theorem d57_21 : decode (zB 57) 21 = .ok (.iload_n 3, 1) := (congrArg (fun c => decode c 21) zeq57).trans (by decide +kernel)
theorem d57_22 : decode (zB 57) 22 = .ok (.iconst 0, 1) := (congrArg (fun c => decode c 22) zeq57).trans (by decide +kernel)
theorem d57_23 : decode (zB 57) 23 = .ok (.iconst 5, 1) := (congrArg (fun c => decode c 23) zeq57).trans (by decide +kernel)
theorem d57_24 : decode (zB 57) 24 = .ok (.invokestatic 55, 3) := (congrArg (fun c => decode c 24) zeq57).trans (by decide +kernel)
theorem d57_27 : decode (zB 57) 27 = .ok (.ifCond .ne 6, 3) := (congrArg (fun c => decode c 27) zeq57).trans (by decide +kernel)
theorem d57_30 : decode (zB 57) 30 = .ok (.bipush (-2), 2) := (congrArg (fun c => decode c 30) zeq57).trans (by decide +kernel)
theorem d57_32 : decode (zB 57) 32 = .ok (.ireturn, 1) := (congrArg (fun c => decode c 32) zeq57).trans (by decide +kernel)
theorem d57_33 : decode (zB 57) 33 = .ok (.aload_n 0, 1) := (congrArg (fun c => decode c 33) zeq57).trans (by decide +kernel)
theorem d57_34 : decode (zB 57) 34 = .ok (.getfield 18, 3) := (congrArg (fun c => decode c 34) zeq57).trans (by decide +kernel)
theorem d57_37 : decode (zB 57) 37 = .ok (.iload_n 1, 1) := (congrArg (fun c => decode c 37) zeq57).trans (by decide +kernel)
theorem d57_38 : decode (zB 57) 38 = .ok (.aaload, 1) := (congrArg (fun c => decode c 38) zeq57).trans (by decide +kernel)
theorem d57_39 : decode (zB 57) 39 = .ok (.getfield 117, 3) := (congrArg (fun c => decode c 39) zeq57).trans (by decide +kernel)
theorem d57_42 : decode (zB 57) 42 = .ok (.iload_n 2, 1) := (congrArg (fun c => decode c 42) zeq57).trans (by decide +kernel)
theorem d57_43 : decode (zB 57) 43 = .ok (.iaload, 1) := (congrArg (fun c => decode c 43) zeq57).trans (by decide +kernel)
theorem d57_44 : decode (zB 57) 44 = .ok (.istore 4, 2) := (congrArg (fun c => decode c 44) zeq57).trans (by decide +kernel)
theorem d57_46 : decode (zB 57) 46 = .ok (.iload 4, 2) := (congrArg (fun c => decode c 46) zeq57).trans (by decide +kernel)
theorem d57_48 : decode (zB 57) 48 = .ok (.iload_n 3, 1) := (congrArg (fun c => decode c 48) zeq57).trans (by decide +kernel)
theorem d57_49 : decode (zB 57) 49 = .ok (.invokestatic 137, 3) := (congrArg (fun c => decode c 49) zeq57).trans (by decide +kernel)
theorem d57_52 : decode (zB 57) 52 = .ok (.ifCond .eq 8, 3) := (congrArg (fun c => decode c 52) zeq57).trans (by decide +kernel)
theorem d57_55 : decode (zB 57) 55 = .ok (.iload 4, 2) := (congrArg (fun c => decode c 55) zeq57).trans (by decide +kernel)
theorem d57_57 : decode (zB 57) 57 = .ok (.goto 5, 3) := (congrArg (fun c => decode c 57) zeq57).trans (by decide +kernel)
theorem d57_60 : decode (zB 57) 60 = .ok (.bipush (-13), 2) := (congrArg (fun c => decode c 60) zeq57).trans (by decide +kernel)
theorem d57_62 : decode (zB 57) 62 = .ok (.ireturn, 1) := (congrArg (fun c => decode c 62) zeq57).trans (by decide +kernel)
theorem p57 {d : Nat} {M : zM} {Q : Option Value → zM → Prop} {D : yD} {x y z : Int32} (hR : RC M D) (hD : OKD D) (k : ∀ M', RC M' D → Fc M M' → Q (some (.int (sTaken D x y z))) M') : qC (d + 3) 57 [.ref 16, .int x, .int y, .int z] M Q := by
  refine qC_of (by decide) (Nat.le_of_ble_eq_true rfl) ?_
  have hS := hR.1.1
  have hT := hR.1.2.2.1
  have hO := hR.1.2.2.2.1
  have hRW := hR.1.2.2.2.2
  have hJ : RL M 62 (dL D) := hRW.2.2.2
  have hc6 := hO.1.1
  have h240 := hD.2.1
  have h120 := hR.2.2.1.1
  have hwr := hS.wo (Or.inl ⟨rfl, rfl, rfl, rfl⟩)
  have hwt := hS.wo (Or.inr ⟨rfl, rfl, rfl, rfl⟩)
  have hpr := hS.pu (Or.inl ⟨rfl, rfl, rfl, rfl⟩)
  have hpt := hS.pu (Or.inr ⟨rfl, rfl, rfl, rfl⟩)
  unfold sTaken at k
  rcases zix_c x (n := dc D) (by omega) with ⟨t, ht, rfl, et⟩ | ⟨et, nt⟩
  · rw [oz_s et] at k
    have ho := hO.1.2 _ ht
    have hn := ho.n
    rcases zix_c y (n := tn (dT D t)) (by omega) with ⟨i, hi, rfl, ei⟩ | ⟨ei, ni⟩
    · rw [oz_s ei] at k
      rcases zix_c z (n := 6) (by omega) with ⟨w, hw, rfl, ew⟩ | ⟨ew, nw⟩
      · rw [oz_s ew] at k
        refine q_aload_n d57_0 rfl ?_
        refine q_iload_n d57_1 rfl ?_
        refine q_v1 d57_2 rfl rfl (hS.1.1) (Nat.le_of_ble_eq_true rfl) (c33t hR (by omega) ?_)
        refine n0_eq 30 d57_5 (by decide) (by decide) (fun q => absurd q (by decide)) (fun _ => ?_)
        refine q_aload_n d57_8 rfl ?_
        refine q_getr (c := 7) (f := 1) d57_9 ⟨rfl, rfl⟩ (hS.1.1) (hS.1.2.2.1) ?_
        refine q_iload_n d57_12 rfl ?_
        refine n_aald d57_13 (hS.1.2.2.2.1) (by decide) (by omega) (by decide) ((hS.1.2.2.2.2.1) _ (by omega)) ?_
        refine q_iload_n d57_14 rfl ?_
        refine q_v1 d57_15 rfl rfl (hS.pr (by omega)).1 (Nat.le_of_ble_eq_true rfl) (c47t (hS.pr (by omega)) (hT _ (by omega)) hn (by omega) ?_)
        refine n0_eq 30 d57_18 (by decide) (by decide) (fun q => absurd q (by decide)) (fun _ => ?_)
        refine q_iload_n d57_21 rfl ?_
        refine q_iconstN (z := 0) d57_22 ?_
        refine q_iconstN (z := 5) d57_23 ?_
        refine q_s3 d57_24 (Or.inl rfl) rfl (Nat.le_of_ble_eq_true rfl) (c10t ⟨by omega, by omega⟩ (by decide) ?_)
        refine n0_ne 33 d57_27 (by decide) (by decide) (fun _ => ?_) (fun q => absurd q (by decide))
        refine q_aload_n d57_33 rfl ?_
        refine q_getr (c := 7) (f := 1) d57_34 ⟨rfl, rfl⟩ (hS.1.1) (hS.1.2.2.1) ?_
        refine q_iload_n d57_37 rfl ?_
        refine n_aald d57_38 (hS.1.2.2.2.1) (by decide) (by omega) (by decide) ((hS.1.2.2.2.2.1) _ (by omega)) ?_
        refine q_getr (c := 1) (f := 0) d57_39 ⟨rfl, rfl⟩ (hS.pr (by omega)).1 ((hS.pr (by omega)).2 0 (by decide)).1 ?_
        refine q_iload_n d57_42 rfl ?_
        have hk6 := ho.k hi
        refine n_iald d57_43 ((hS.pr (by omega)).2 0 (by decide)).2 (by omega) (by decide) ((hT _ (by omega)).2.2 _ (by omega)).1 ?_
        refine q_istore d57_44 (by decide) rfl ?_
        refine q_iload d57_46 rfl ?_
        refine q_iload_n d57_48 rfl ?_
        refine q_s2 d57_49 (Or.inl rfl) rfl (Nat.le_of_ble_eq_true rfl) (c58 hS (ho.k (by omega)) (by omega) ?_)
        refine b0_eq 60 d57_52 (by decide) (fun h52 => ?_) (fun h52 => ?_)
        · refine q_bipush (x := (-13)) d57_60 rfl ?_
          refine q_iret d57_62 rfl ?_
          first
          | (rw [if_pos h52] at k; exact k _ hR (Fc.refl _))
          | (rw [h52, if_neg (by decide)] at k; exact k _ hR (Fc.refl _))
        · refine q_iload d57_55 rfl ?_
          refine q_goto 62 d57_57 (by decide) ?_
          refine q_iret d57_62 rfl ?_
          first
          | (rw [if_pos h52] at k; exact k _ hR (Fc.refl _))
          | (rw [h52, if_neg (by decide)] at k; exact k _ hR (Fc.refl _))
      · rw [oz_n ew] at k
        refine q_aload_n d57_0 rfl ?_
        refine q_iload_n d57_1 rfl ?_
        refine q_v1 d57_2 rfl rfl (hS.1.1) (Nat.le_of_ble_eq_true rfl) (c33t hR (by omega) ?_)
        refine n0_eq 30 d57_5 (by decide) (by decide) (fun q => absurd q (by decide)) (fun _ => ?_)
        refine q_aload_n d57_8 rfl ?_
        refine q_getr (c := 7) (f := 1) d57_9 ⟨rfl, rfl⟩ (hS.1.1) (hS.1.2.2.1) ?_
        refine q_iload_n d57_12 rfl ?_
        refine n_aald d57_13 (hS.1.2.2.2.1) (by decide) (by omega) (by decide) ((hS.1.2.2.2.2.1) _ (by omega)) ?_
        refine q_iload_n d57_14 rfl ?_
        refine q_v1 d57_15 rfl rfl (hS.pr (by omega)).1 (Nat.le_of_ble_eq_true rfl) (c47t (hS.pr (by omega)) (hT _ (by omega)) hn (by omega) ?_)
        refine n0_eq 30 d57_18 (by decide) (by decide) (fun q => absurd q (by decide)) (fun _ => ?_)
        refine q_iload_n d57_21 rfl ?_
        refine q_iconstN (z := 0) d57_22 ?_
        refine q_iconstN (z := 5) d57_23 ?_
        refine q_s3 d57_24 (Or.inl rfl) rfl (Nat.le_of_ble_eq_true rfl) (c10f (by decide) (by omega) (by decide) ?_)
        refine n0_ne 33 d57_27 (by decide) (by decide) (fun q => absurd q (by decide)) (fun _ => ?_)
        refine q_bipush (x := (-2)) d57_30 rfl ?_
        refine q_iret d57_32 rfl ?_
        exact k _ hR (Fc.refl _)
    · rw [oz_n ei] at k
      refine q_aload_n d57_0 rfl ?_
      refine q_iload_n d57_1 rfl ?_
      refine q_v1 d57_2 rfl rfl (hS.1.1) (Nat.le_of_ble_eq_true rfl) (c33t hR (by omega) ?_)
      refine n0_eq 30 d57_5 (by decide) (by decide) (fun q => absurd q (by decide)) (fun _ => ?_)
      refine q_aload_n d57_8 rfl ?_
      refine q_getr (c := 7) (f := 1) d57_9 ⟨rfl, rfl⟩ (hS.1.1) (hS.1.2.2.1) ?_
      refine q_iload_n d57_12 rfl ?_
      refine n_aald d57_13 (hS.1.2.2.2.1) (by decide) (by omega) (by decide) ((hS.1.2.2.2.2.1) _ (by omega)) ?_
      refine q_iload_n d57_14 rfl ?_
      refine q_v1 d57_15 rfl rfl (hS.pr (by omega)).1 (Nat.le_of_ble_eq_true rfl) (c47f (hS.pr (by omega)) (hT _ (by omega)) hn ei ?_)
      refine n0_eq 30 d57_18 (by decide) (by decide) (fun _ => ?_) (fun q => absurd q (by decide))
      refine q_bipush (x := (-2)) d57_30 rfl ?_
      refine q_iret d57_32 rfl ?_
      exact k _ hR (Fc.refl _)
  · rw [oz_n et] at k
    refine q_aload_n d57_0 rfl ?_
    refine q_iload_n d57_1 rfl ?_
    refine q_v1 d57_2 rfl rfl (hS.1.1) (Nat.le_of_ble_eq_true rfl) (c33f hR et ?_)
    refine n0_eq 30 d57_5 (by decide) (by decide) (fun _ => ?_) (fun q => absurd q (by decide))
    refine q_bipush (x := (-2)) d57_30 rfl ?_
    refine q_iret d57_32 rfl ?_
    exact k _ hR (Fc.refl _)
theorem d123_0 : decode (zB 123) 0 = .ok (.iload_n 1, 1) := (congrArg (fun c => decode c 0) zeq123).trans (by decide +kernel)
theorem d123_1 : decode (zB 123) 1 = .ok (.tableswitch 90 0 5 #[39, 44, 52, 60, 68, 79], 39) := (congrArg (fun c => decode c 1) zeq123).trans (by decide +kernel)
theorem d123_40 : decode (zB 123) 40 = .ok (.aload_n 0, 1) := (congrArg (fun c => decode c 40) zeq123).trans (by decide +kernel)
theorem d123_41 : decode (zB 123) 41 = .ok (.getfield 70, 3) := (congrArg (fun c => decode c 41) zeq123).trans (by decide +kernel)
theorem d123_44 : decode (zB 123) 44 = .ok (.ireturn, 1) := (congrArg (fun c => decode c 44) zeq123).trans (by decide +kernel)
theorem d123_45 : decode (zB 123) 45 = .ok (.aload_n 0, 1) := (congrArg (fun c => decode c 45) zeq123).trans (by decide +kernel)
theorem d123_46 : decode (zB 123) 46 = .ok (.getfield 10, 3) := (congrArg (fun c => decode c 46) zeq123).trans (by decide +kernel)
theorem d123_49 : decode (zB 123) 49 = .ok (.getfield 63, 3) := (congrArg (fun c => decode c 49) zeq123).trans (by decide +kernel)
theorem d123_52 : decode (zB 123) 52 = .ok (.ireturn, 1) := (congrArg (fun c => decode c 52) zeq123).trans (by decide +kernel)
theorem d123_53 : decode (zB 123) 53 = .ok (.aload_n 0, 1) := (congrArg (fun c => decode c 53) zeq123).trans (by decide +kernel)
theorem d123_54 : decode (zB 123) 54 = .ok (.getfield 28, 3) := (congrArg (fun c => decode c 54) zeq123).trans (by decide +kernel)
theorem d123_57 : decode (zB 123) 57 = .ok (.getfield 154, 3) := (congrArg (fun c => decode c 57) zeq123).trans (by decide +kernel)
theorem d123_60 : decode (zB 123) 60 = .ok (.ireturn, 1) := (congrArg (fun c => decode c 60) zeq123).trans (by decide +kernel)
theorem d123_61 : decode (zB 123) 61 = .ok (.aload_n 0, 1) := (congrArg (fun c => decode c 61) zeq123).trans (by decide +kernel)
theorem d123_62 : decode (zB 123) 62 = .ok (.getfield 37, 3) := (congrArg (fun c => decode c 62) zeq123).trans (by decide +kernel)
theorem d123_65 : decode (zB 123) 65 = .ok (.invokevirtual 279, 3) := (congrArg (fun c => decode c 65) zeq123).trans (by decide +kernel)
theorem d123_68 : decode (zB 123) 68 = .ok (.ireturn, 1) := (congrArg (fun c => decode c 68) zeq123).trans (by decide +kernel)
theorem d123_69 : decode (zB 123) 69 = .ok (.aload_n 0, 1) := (congrArg (fun c => decode c 69) zeq123).trans (by decide +kernel)
theorem d123_70 : decode (zB 123) 70 = .ok (.getfield 37, 3) := (congrArg (fun c => decode c 70) zeq123).trans (by decide +kernel)
theorem d123_73 : decode (zB 123) 73 = .ok (.getfield 94, 3) := (congrArg (fun c => decode c 73) zeq123).trans (by decide +kernel)
theorem d123_76 : decode (zB 123) 76 = .ok (.getfield 282, 3) := (congrArg (fun c => decode c 76) zeq123).trans (by decide +kernel)
theorem d123_79 : decode (zB 123) 79 = .ok (.ireturn, 1) := (congrArg (fun c => decode c 79) zeq123).trans (by decide +kernel)
theorem d123_80 : decode (zB 123) 80 = .ok (.aload_n 0, 1) := (congrArg (fun c => decode c 80) zeq123).trans (by decide +kernel)
theorem d123_81 : decode (zB 123) 81 = .ok (.getfield 37, 3) := (congrArg (fun c => decode c 81) zeq123).trans (by decide +kernel)
theorem d123_84 : decode (zB 123) 84 = .ok (.getfield 94, 3) := (congrArg (fun c => decode c 84) zeq123).trans (by decide +kernel)
theorem d123_87 : decode (zB 123) 87 = .ok (.getfield 285, 3) := (congrArg (fun c => decode c 87) zeq123).trans (by decide +kernel)
theorem d123_90 : decode (zB 123) 90 = .ok (.ireturn, 1) := (congrArg (fun c => decode c 90) zeq123).trans (by decide +kernel)
theorem d123_91 : decode (zB 123) 91 = .ok (.iload_n 1, 1) := (congrArg (fun c => decode c 91) zeq123).trans (by decide +kernel)
theorem d123_92 : decode (zB 123) 92 = .ok (.bipush 10, 2) := (congrArg (fun c => decode c 92) zeq123).trans (by decide +kernel)
theorem d123_94 : decode (zB 123) 94 = .ok (.bipush 15, 2) := (congrArg (fun c => decode c 94) zeq123).trans (by decide +kernel)
theorem d123_96 : decode (zB 123) 96 = .ok (.invokestatic 55, 3) := (congrArg (fun c => decode c 96) zeq123).trans (by decide +kernel)
theorem d123_99 : decode (zB 123) 99 = .ok (.ifCond .eq 21, 3) := (congrArg (fun c => decode c 99) zeq123).trans (by decide +kernel)
theorem d123_102 : decode (zB 123) 102 = .ok (.aload_n 0, 1) := (congrArg (fun c => decode c 102) zeq123).trans (by decide +kernel)
theorem d123_103 : decode (zB 123) 103 = .ok (.getfield 37, 3) := (congrArg (fun c => decode c 103) zeq123).trans (by decide +kernel)
theorem d123_106 : decode (zB 123) 106 = .ok (.getfield 94, 3) := (congrArg (fun c => decode c 106) zeq123).trans (by decide +kernel)
theorem d123_109 : decode (zB 123) 109 = .ok (.getfield 205, 3) := (congrArg (fun c => decode c 109) zeq123).trans (by decide +kernel)
theorem d123_112 : decode (zB 123) 112 = .ok (.iload_n 1, 1) := (congrArg (fun c => decode c 112) zeq123).trans (by decide +kernel)
theorem d123_113 : decode (zB 123) 113 = .ok (.bipush 10, 2) := (congrArg (fun c => decode c 113) zeq123).trans (by decide +kernel)
theorem d123_115 : decode (zB 123) 115 = .ok (.isub, 1) := (congrArg (fun c => decode c 115) zeq123).trans (by decide +kernel)
theorem d123_116 : decode (zB 123) 116 = .ok (.iaload, 1) := (congrArg (fun c => decode c 116) zeq123).trans (by decide +kernel)
theorem d123_117 : decode (zB 123) 117 = .ok (.goto 5, 3) := (congrArg (fun c => decode c 117) zeq123).trans (by decide +kernel)
theorem d123_120 : decode (zB 123) 120 = .ok (.bipush (-2), 2) := (congrArg (fun c => decode c 120) zeq123).trans (by decide +kernel)
theorem d123_122 : decode (zB 123) 122 = .ok (.ireturn, 1) := (congrArg (fun c => decode c 122) zeq123).trans (by decide +kernel)
theorem p123 {d : Nat} {M : zM} {Q : Option Value → zM → Prop} {D : yD} {x : Int32} (hR : RC M D) (hD : OKD D) (k : ∀ M', RC M' D → Fc M M' → Q (some (.int (sCount D x))) M') : qC (d + 3) 123 [.ref 16, .int x] M Q := by
  refine qC_of (by decide) (Nat.le_of_ble_eq_true rfl) ?_
  have hS := hR.1.1
  have hT := hR.1.2.2.1
  have hO := hR.1.2.2.2.1
  have hRW := hR.1.2.2.2.2
  have hJ : RL M 62 (dL D) := hRW.2.2.2
  have hc6 := hO.1.1
  have h240 := hD.2.1
  have h120 := hR.2.2.1.1
  have hwr := hS.wo (Or.inl ⟨rfl, rfl, rfl, rfl⟩)
  have hwt := hS.wo (Or.inr ⟨rfl, rfl, rfl, rfl⟩)
  have hpr := hS.pu (Or.inl ⟨rfl, rfl, rfl, rfl⟩)
  have hpt := hS.pu (Or.inr ⟨rfl, rfl, rfl, rfl⟩)
  unfold sCount at k
  rcases zix_c x (n := 16) (by omega) with ⟨w, hw, rfl, ew⟩ | ⟨ew, nw⟩
  · rw [oz_s ew] at k
    by_cases h6 : w < 6
    · rcases (show w = 0 ∨ w = 1 ∨ w = 2 ∨ w = 3 ∨ w = 4 ∨ w = 5 by omega) with rfl | rfl | rfl | rfl | rfl | rfl
      · refine q_iload_n d123_0 rfl ?_
        refine n_tsI (39) 40 d123_1 (by decide) (by decide) rfl (by decide) ?_
        refine q_aload_n d123_40 rfl ?_
        refine q_getv (c := 7) (f := 2) d123_41 ⟨rfl, by decide⟩ (hS.1.1) hR.2.1 ?_
        refine q_iret d123_44 rfl ?_
        exact k _ hR (Fc.refl _)
      · refine q_iload_n d123_0 rfl ?_
        refine n_tsI (44) 45 d123_1 (by decide) (by decide) rfl (by decide) ?_
        refine q_aload_n d123_45 rfl ?_
        refine q_getr (c := 7) (f := 0) d123_46 ⟨rfl, rfl⟩ (hS.1.1) (hS.1.2.1) ?_
        refine q_getv (c := 3) (f := 1) d123_49 ⟨rfl, by decide⟩ hS.2.1.1 hR.2.2.1.2.1 ?_
        refine q_iret d123_52 rfl ?_
        exact k _ hR (Fc.refl _)
      · refine q_iload_n d123_0 rfl ?_
        refine n_tsI (52) 53 d123_1 (by decide) (by decide) rfl (by decide) ?_
        refine q_aload_n d123_53 rfl ?_
        refine q_getr (c := 7) (f := 3) d123_54 ⟨rfl, rfl⟩ (hS.1.1) (hS.1.2.2.2.2.2.1) ?_
        refine q_getv (c := 0) (f := 3) d123_57 ⟨rfl, by decide⟩ hS.2.2.2.1.1 hJ.1 ?_
        refine q_iret d123_60 rfl ?_
        exact k _ hR (Fc.refl _)
      · refine q_iload_n d123_0 rfl ?_
        refine n_tsI (60) 61 d123_1 (by decide) (by decide) rfl (by decide) ?_
        refine q_aload_n d123_61 rfl ?_
        refine q_getr (c := 7) (f := 4) d123_62 ⟨rfl, rfl⟩ (hS.1.1) (hS.1.2.2.2.2.2.2.1) ?_
        refine q_v0 d123_65 rfl rfl hwr.1 (Nat.le_of_ble_eq_true rfl) (c124 hR.1 ?_)
        refine q_iret d123_68 rfl ?_
        exact k _ hR (Fc.refl _)
      · refine q_iload_n d123_0 rfl ?_
        refine n_tsI (68) 69 d123_1 (by decide) (by decide) rfl (by decide) ?_
        refine q_aload_n d123_69 rfl ?_
        refine q_getr (c := 7) (f := 4) d123_70 ⟨rfl, rfl⟩ (hS.1.1) (hS.1.2.2.2.2.2.2.1) ?_
        refine q_getr (c := 6) (f := 2) d123_73 ⟨rfl, rfl⟩ hwr.1 hwr.2.2.2.1 ?_
        refine q_getv (c := 2) (f := 1) d123_76 ⟨rfl, by decide⟩ hpr.1 hRW.1.2.1 ?_
        refine q_iret d123_79 rfl ?_
        exact k _ hR (Fc.refl _)
      · refine q_iload_n d123_0 rfl ?_
        refine n_tsI (79) 80 d123_1 (by decide) (by decide) rfl (by decide) ?_
        refine q_aload_n d123_80 rfl ?_
        refine q_getr (c := 7) (f := 4) d123_81 ⟨rfl, rfl⟩ (hS.1.1) (hS.1.2.2.2.2.2.2.1) ?_
        refine q_getr (c := 6) (f := 2) d123_84 ⟨rfl, rfl⟩ hwr.1 hwr.2.2.2.1 ?_
        refine q_getv (c := 2) (f := 2) d123_87 ⟨rfl, by decide⟩ hpr.1 hRW.1.2.2 ?_
        refine q_iret d123_90 rfl ?_
        exact k _ hR (Fc.refl _)
    · by_cases h10 : w < 10
      · rw [if_neg (by omega), if_neg (by omega), if_neg (by omega), if_neg (by omega), if_neg (by omega), if_neg (by omega), if_pos h10] at k
        refine q_iload_n d123_0 rfl ?_
        refine n_tsO 91 d123_1 (by omega) (Or.inr (by omega)) (by decide) ?_
        refine q_iload_n d123_91 rfl ?_
        refine q_bipush (x := nI 10) d123_92 rfl ?_
        refine q_bipush (x := nI 15) d123_94 rfl ?_
        refine q_s3 d123_96 (Or.inl rfl) rfl (Nat.le_of_ble_eq_true rfl) (c10n (by omega) (by decide) (by omega) (by decide) ?_)
        refine n0_eq 120 d123_99 (by decide) (by decide) (fun _ => ?_) (fun q => absurd q (by decide))
        refine q_bipush (x := (-2)) d123_120 rfl ?_
        refine q_iret d123_122 rfl ?_
        exact k _ hR (Fc.refl _)
      · rw [if_neg (by omega), if_neg (by omega), if_neg (by omega), if_neg (by omega), if_neg (by omega), if_neg (by omega), if_neg h10] at k
        refine q_iload_n d123_0 rfl ?_
        refine n_tsO 91 d123_1 (by omega) (Or.inr (by omega)) (by decide) ?_
        refine q_iload_n d123_91 rfl ?_
        refine q_bipush (x := nI 10) d123_92 rfl ?_
        refine q_bipush (x := nI 15) d123_94 rfl ?_
        refine q_s3 d123_96 (Or.inl rfl) rfl (Nat.le_of_ble_eq_true rfl) (c10t ⟨by omega, by omega⟩ (by decide) ?_)
        refine n0_eq 120 d123_99 (by decide) (by decide) (fun q => absurd q (by decide)) (fun _ => ?_)
        refine q_aload_n d123_102 rfl ?_
        refine q_getr (c := 7) (f := 4) d123_103 ⟨rfl, rfl⟩ (hS.1.1) (hS.1.2.2.2.2.2.2.1) ?_
        refine q_getr (c := 6) (f := 2) d123_106 ⟨rfl, rfl⟩ hwr.1 hwr.2.2.2.1 ?_
        refine q_getr (c := 2) (f := 0) d123_109 ⟨rfl, rfl⟩ hpr.1 hpr.2.1 ?_
        refine q_iload_n d123_112 rfl ?_
        refine q_bipush (x := nI 10) d123_113 rfl ?_
        refine n_isub d123_115 (by omega) ?_
        refine n_iald d123_116 hpr.2.2 (by omega) (by decide) (hRW.1.1 _ (by omega)) ?_
        refine q_goto 122 d123_117 (by decide) ?_
        refine q_iret d123_122 rfl ?_
        exact k _ hR (Fc.refl _)
  · rw [oz_n ew] at k
    refine q_iload_n d123_0 rfl ?_
    refine q_tsO 91 d123_1 (by have := zix_none ew; omega) (by decide) ?_
    refine q_iload_n d123_91 rfl ?_
    refine q_bipush (x := nI 10) d123_92 rfl ?_
    refine q_bipush (x := nI 15) d123_94 rfl ?_
    refine q_s3 d123_96 (Or.inl rfl) rfl (Nat.le_of_ble_eq_true rfl) (c10f (by decide) (by omega) (by decide) ?_)
    refine n0_eq 120 d123_99 (by decide) (by decide) (fun _ => ?_) (fun q => absurd q (by decide))
    refine q_bipush (x := (-2)) d123_120 rfl ?_
    refine q_iret d123_122 rfl ?_
    exact k _ hR (Fc.refl _)
/-! ===== the calls of the class: sheets, shapes ===== -/
theorem RC.fr2 {M M' : zM} {S : Nat → Nat → Prop} {D : yD} (h : RC M D) (hS : SC M') (hT : RTx M' (dT D) (dc D)) (f : Fr S M M') (hs : (∀ k, ¬ S 16 k) ∧ ¬ S 17 1 ∧ (∀ k, ¬ S 18 k) ∧ (∀ a k, 62 ≤ a → a < 94 → ¬ S a k) ∧ ∀ a k, 126 ≤ a → a < 136 → ¬ S a k) : RC M' D := by
  obtain ⟨⟨h1, h2, h3, h4, h5⟩, h6, h7, h8⟩ := h
  refine ⟨⟨hS, h2, hT, h4, ⟨RPu_fr h5.1 f (fun b k a1 a2 => hs.2.2.2.1 b k (by omega) (by omega)), fun s hs3 => RS_fr (h5.2.1 s hs3) f (fun b k a1 a2 => hs.2.2.2.1 b k (by omega) (by omega)), RJ_fr h5.2.2 f (fun b k a1 a2 => hs.2.2.2.1 b k (by omega) (by omega))⟩⟩,
    (f.i (hs.1 2)).trans h6, RTp_fi h7 f ⟨hs.2.1, fun k => hs.2.2.1 k⟩, fun i hi => ⟨(f.i (hs.2.2.2.2 _ _ (by omega) (by omega))).trans (h8 i hi).1, (f.i (hs.2.2.2.2 _ _ (by omega) (by omega))).trans (h8 i hi).2⟩⟩
/-- a sheet's cells change -/
theorem RC.row {M M' : zM} {D : yD} {h : Nat} {so : Int32} {z : Nat} (hR : RC M D) (hh : h < 4) (f : Fi (Fb (127 + 2 * h) (127 + 2 * h + 2)) M M') (h1 : zi M' (127 + 2 * h) 0 = so) (h2 : zi M' (127 + 2 * h) 1 = nI z) : RC M' (drS D (yu (dR D) h (so, z))) := by
  have hS' : SC M' := f.sc hR.1.1 (fun a k ha q => by have := q.1; omega)
  obtain ⟨⟨a1, a2, a3, a4, a5⟩, a6, a7, a8⟩ := hR
  refine ⟨⟨hS', a2, RTx_fr a3 a4.1.1 f.fr (fun b k b1 b2 q => by have := q.1; omega), a4, ⟨RPu_fr a5.1 f.fr (fun b k b1 b2 q => by have := q.1; omega), fun s hs3 => RS_fr (a5.2.1 s hs3) f.fr (fun b k b1 b2 q => by have := q.1; omega), RJ_fr a5.2.2 f.fr (fun b k b1 b2 q => by have := q.1; omega)⟩⟩,
    (f.1 _ _ (fun q => by have := q.1; omega)).trans a6, RTp_fi a7 f.fr ⟨fun q => by have := q.1; omega, fun k q => by have := q.1; omega⟩, fun i hi => ?_⟩
  show zi M' (127 + 2 * i) 0 = (yu (dR D) h (so, z) i).1 ∧ zi M' (127 + 2 * i) 1 = nI (yu (dR D) h (so, z) i).2
  by_cases e : i = h
  · subst e; rw [yu_s]; exact ⟨h1, h2⟩
  · rw [yu_n e]; exact ⟨(f.1 _ _ (fun q => by have := q.1; have := q.2; omega)).trans (a8 i hi).1, (f.1 _ _ (fun q => by have := q.1; have := q.2; omega)).trans (a8 i hi).2⟩
theorem RC.items {M M' : zM} {D : yD} {h : Nat} (hR : RC M D) (hh : h < 4) (f : Fi (fun a _ => a = 127 + 2 * h + 1) M M') : RC M' D := by
  have hS' : SC M' := f.sc hR.1.1 (fun a k ha q => by omega)
  obtain ⟨⟨a1, a2, a3, a4, a5⟩, a6, a7, a8⟩ := hR
  exact ⟨⟨hS', a2, RTx_fr a3 a4.1.1 f.fr (fun b k b1 b2 q => by omega), a4, ⟨RPu_fr a5.1 f.fr (fun b k b1 b2 q => by omega), fun s hs3 => RS_fr (a5.2.1 s hs3) f.fr (fun b k b1 b2 q => by omega), RJ_fr a5.2.2 f.fr (fun b k b1 b2 q => by omega)⟩⟩,
    (f.1 _ _ (fun q => by omega)).trans a6, RTp_fi a7 f.fr ⟨fun q => by omega, fun k q => by omega⟩, fun i hi => ⟨(f.1 _ _ (fun q => by omega)).trans (a8 i hi).1, (f.1 _ _ (fun q => by omega)).trans (a8 i hi).2⟩⟩
theorem RC.lng {M M' : zM} {D : yD} {b : Nat} (hR : RC M D) (f : Fl b M M') : RC M' D := by
  obtain ⟨i, r, l, z⟩ := M
  obtain ⟨i', r', l', z'⟩ := M'
  obtain ⟨e1, e2, e3, -⟩ := f
  have e1 : i' = i := e1
  have e2 : r' = r := e2
  have e3 : z' = z := e3
  subst e1; subst e2; subst e3
  exact hR
theorem c10v {d b : Nat} {M : zM} {Q : Option Value → zM → Prop} (hb : b < 2147483648) (k : Q (some (.int (nI 1))) M) : qC (d + 1) 10 [.int (-1), .int (-1), .int (nI b)] M Q :=
  c10 (fun _ => k) (fun q => absurd ⟨Int32.le_refl _, by rw [Int32.le_iff_toInt_le, nI_toInt hb, show (-1 : Int32).toInt = -1 from rfl]; omega⟩ q)
theorem c10w {d o : Nat} {M : zM} {Q : Option Value → zM → Prop} (ho : o < 2) (k : Q (some (.int (nI 1))) M) : qC (d + 1) 10 [.int (nI o), .int (-1), .int (nI 1)] M Q :=
  c10 (fun _ => k) (fun q => absurd ⟨by rw [Int32.le_iff_toInt_le, nI_toInt (by omega), show (-1 : Int32).toInt = -1 from rfl]; omega, nI_le (by omega) (by omega)⟩ q)
theorem c10x {d : Nat} {M : zM} {Q : Option Value → zM → Prop} {y : Int32} (h1 : ¬ y = -1) (h2 : zix y 2 = none) (k : Q (some (.int (nI 0))) M) : qC (d + 1) 10 [.int y, .int (-1), .int (nI 1)] M Q :=
  c10 (fun q => absurd q (by
    rw [Int32.le_iff_toInt_le, Int32.le_iff_toInt_le, nI_toInt (by omega), show (-1 : Int32).toInt = -1 from rfl]
    have h3 := zix_none h2
    have h4 : y.toInt ≠ -1 := fun e => h1 (Int32.toInt_inj.mp (e.trans rfl))
    omega)) (fun _ => k)
theorem d125_0 : decode (zB 125) 0 = .ok (.iload_n 1, 1) := (congrArg (fun c => decode c 0) zeq125).trans (by decide +kernel)
theorem d125_1 : decode (zB 125) 1 = .ok (.invokestatic 245, 3) := (congrArg (fun c => decode c 1) zeq125).trans (by decide +kernel)
theorem d125_4 : decode (zB 125) 4 = .ok (.ifCond .eq 12, 3) := (congrArg (fun c => decode c 4) zeq125).trans (by decide +kernel)
theorem d125_7 : decode (zB 125) 7 = .ok (.iload_n 2, 1) := (congrArg (fun c => decode c 7) zeq125).trans (by decide +kernel)
theorem d125_8 : decode (zB 125) 8 = .ok (.iconst (-1), 1) := (congrArg (fun c => decode c 8) zeq125).trans (by decide +kernel)
theorem d125_9 : decode (zB 125) 9 = .ok (.iconst 1, 1) := (congrArg (fun c => decode c 9) zeq125).trans (by decide +kernel)
theorem d125_10 : decode (zB 125) 10 = .ok (.invokestatic 55, 3) := (congrArg (fun c => decode c 10) zeq125).trans (by decide +kernel)
theorem d125_13 : decode (zB 125) 13 = .ok (.ifCond .ne 6, 3) := (congrArg (fun c => decode c 13) zeq125).trans (by decide +kernel)
theorem d125_16 : decode (zB 125) 16 = .ok (.bipush (-2), 2) := (congrArg (fun c => decode c 16) zeq125).trans (by decide +kernel)
theorem d125_18 : decode (zB 125) 18 = .ok (.ireturn, 1) := (congrArg (fun c => decode c 18) zeq125).trans (by decide +kernel)
theorem d125_19 : decode (zB 125) 19 = .ok (.iload_n 2, 1) := (congrArg (fun c => decode c 19) zeq125).trans (by decide +kernel)
theorem d125_20 : decode (zB 125) 20 = .ok (.iconst (-1), 1) := (congrArg (fun c => decode c 20) zeq125).trans (by decide +kernel)
theorem d125_21 : decode (zB 125) 21 = .ok (.if_icmp .ne 16, 3) := (congrArg (fun c => decode c 21) zeq125).trans (by decide +kernel)
theorem d125_24 : decode (zB 125) 24 = .ok (.aload_n 0, 1) := (congrArg (fun c => decode c 24) zeq125).trans (by decide +kernel)
theorem d125_25 : decode (zB 125) 25 = .ok (.getfield 46, 3) := (congrArg (fun c => decode c 25) zeq125).trans (by decide +kernel)
theorem d125_28 : decode (zB 125) 28 = .ok (.iload_n 1, 1) := (congrArg (fun c => decode c 28) zeq125).trans (by decide +kernel)
theorem d125_29 : decode (zB 125) 29 = .ok (.aaload, 1) := (congrArg (fun c => decode c 29) zeq125).trans (by decide +kernel)
theorem d125_30 : decode (zB 125) 30 = .ok (.iconst (-1), 1) := (congrArg (fun c => decode c 30) zeq125).trans (by decide +kernel)
theorem d125_31 : decode (zB 125) 31 = .ok (.iconst 0, 1) := (congrArg (fun c => decode c 31) zeq125).trans (by decide +kernel)
theorem d125_32 : decode (zB 125) 32 = .ok (.invokevirtual 272, 3) := (congrArg (fun c => decode c 32) zeq125).trans (by decide +kernel)
theorem d125_35 : decode (zB 125) 35 = .ok (.iconst 1, 1) := (congrArg (fun c => decode c 35) zeq125).trans (by decide +kernel)
theorem d125_36 : decode (zB 125) 36 = .ok (.ireturn, 1) := (congrArg (fun c => decode c 36) zeq125).trans (by decide +kernel)
theorem d125_37 : decode (zB 125) 37 = .ok (.iload_n 3, 1) := (congrArg (fun c => decode c 37) zeq125).trans (by decide +kernel)
theorem d125_38 : decode (zB 125) 38 = .ok (.bipush 40, 2) := (congrArg (fun c => decode c 38) zeq125).trans (by decide +kernel)
theorem d125_40 : decode (zB 125) 40 = .ok (.if_icmp .le 6, 3) := (congrArg (fun c => decode c 40) zeq125).trans (by decide +kernel)
theorem d125_43 : decode (zB 125) 43 = .ok (.bipush (-2), 2) := (congrArg (fun c => decode c 43) zeq125).trans (by decide +kernel)
theorem d125_45 : decode (zB 125) 45 = .ok (.ireturn, 1) := (congrArg (fun c => decode c 45) zeq125).trans (by decide +kernel)
theorem d125_46 : decode (zB 125) 46 = .ok (.iload_n 3, 1) := (congrArg (fun c => decode c 46) zeq125).trans (by decide +kernel)
theorem d125_47 : decode (zB 125) 47 = .ok (.ifCond .ge 6, 3) := (congrArg (fun c => decode c 47) zeq125).trans (by decide +kernel)
theorem d125_50 : decode (zB 125) 50 = .ok (.bipush (-14), 2) := (congrArg (fun c => decode c 50) zeq125).trans (by decide +kernel)
theorem d125_52 : decode (zB 125) 52 = .ok (.ireturn, 1) := (congrArg (fun c => decode c 52) zeq125).trans (by decide +kernel)
theorem d125_53 : decode (zB 125) 53 = .ok (.aload_n 0, 1) := (congrArg (fun c => decode c 53) zeq125).trans (by decide +kernel)
theorem d125_54 : decode (zB 125) 54 = .ok (.getfield 46, 3) := (congrArg (fun c => decode c 54) zeq125).trans (by decide +kernel)
theorem d125_57 : decode (zB 125) 57 = .ok (.iload_n 1, 1) := (congrArg (fun c => decode c 57) zeq125).trans (by decide +kernel)
theorem d125_58 : decode (zB 125) 58 = .ok (.aaload, 1) := (congrArg (fun c => decode c 58) zeq125).trans (by decide +kernel)
theorem d125_59 : decode (zB 125) 59 = .ok (.iload_n 2, 1) := (congrArg (fun c => decode c 59) zeq125).trans (by decide +kernel)
theorem d125_60 : decode (zB 125) 60 = .ok (.iload_n 3, 1) := (congrArg (fun c => decode c 60) zeq125).trans (by decide +kernel)
theorem d125_61 : decode (zB 125) 61 = .ok (.invokevirtual 272, 3) := (congrArg (fun c => decode c 61) zeq125).trans (by decide +kernel)
theorem d125_64 : decode (zB 125) 64 = .ok (.iconst 1, 1) := (congrArg (fun c => decode c 64) zeq125).trans (by decide +kernel)
theorem d125_65 : decode (zB 125) 65 = .ok (.ireturn, 1) := (congrArg (fun c => decode c 65) zeq125).trans (by decide +kernel)
theorem p125 {d : Nat} {M : zM} {Q : Option Value → zM → Prop} {D : yD} {x y z : Int32} (hR : RC M D) (hD : OKD D) (k : ∀ M', RC M' (sSheet D x y z).2 → Fc M M' → Q (some (.int (sSheet D x y z).1)) M') : qC (d + 3) 125 [.ref 16, .int x, .int y, .int z] M Q := by
  refine qC_of (by decide) (Nat.le_of_ble_eq_true rfl) ?_
  have hS := hR.1.1
  have hT := hR.1.2.2.1
  have hO := hR.1.2.2.2.1
  have hRW := hR.1.2.2.2.2
  have hJ : RL M 62 (dL D) := hRW.2.2.2
  have hc6 := hO.1.1
  have h240 := hD.2.1
  have h120 := hR.2.2.1.1
  have hwr := hS.wo (Or.inl ⟨rfl, rfl, rfl, rfl⟩)
  have hwt := hS.wo (Or.inr ⟨rfl, rfl, rfl, rfl⟩)
  have hpr := hS.pu (Or.inl ⟨rfl, rfl, rfl, rfl⟩)
  have hpt := hS.pu (Or.inr ⟨rfl, rfl, rfl, rfl⟩)
  unfold sSheet at k
  rcases zix_c x (n := 4) (by omega) with ⟨h, hh, rfl, eh⟩ | ⟨eh, nh⟩
  · rw [oz_s eh] at k
    by_cases hy : y = -1
    · subst hy
      rw [if_pos rfl] at k
      refine q_iload_n d125_0 rfl ?_
      refine q_s1 d125_1 (Or.inl rfl) rfl (Nat.le_of_ble_eq_true rfl) (c113t (by omega) ?_)
      refine n0_eq 16 d125_4 (by decide) (by decide) (fun q => absurd q (by decide)) (fun _ => ?_)
      refine q_iload_n d125_7 rfl ?_
      refine q_iconst (x := (-1)) d125_8 rfl ?_
      refine q_iconstN (z := 1) d125_9 ?_
      refine q_s3 d125_10 (Or.inl rfl) rfl (Nat.le_of_ble_eq_true rfl) (c10v (by decide) ?_)
      refine n0_ne 19 d125_13 (by decide) (by decide) (fun _ => ?_) (fun q => absurd q (by decide))
      refine q_iload_n d125_19 rfl ?_
      refine q_iconst (x := (-1)) d125_20 rfl ?_
      refine ic_ne 37 d125_21 (by decide) (fun h21 => (False.elim (h21 rfl))) (fun h21 => ?_)
      refine q_aload_n d125_24 rfl ?_
      refine q_getr (c := 7) (f := 6) d125_25 ⟨rfl, rfl⟩ (hS.1.1) (hS.1.2.2.2.2.2.2.2.2.1) ?_
      refine q_iload_n d125_28 rfl ?_
      refine n_aald d125_29 (hS.1.2.2.2.2.2.2.2.2.2.1) (by decide) (by omega) (by decide) ((hS.1.2.2.2.2.2.2.2.2.2.2.1) _ (by omega)) ?_
      refine q_iconst (x := (-1)) d125_30 rfl ?_
      refine q_iconstN (z := 0) d125_31 ?_
      refine q_v2 d125_32 rfl rfl (hS.2.2.2.2.2.2.2.2.2.2.2.1 _ (by omega)).1 (Nat.le_of_ble_eq_true rfl) (c121 (so := -1) (n := 0) (hS.2.2.2.2.2.2.2.2.2.2.2.1 h (by omega)) (by omega) (fun M1 h1 h2 f1 => ?_))
      refine q_iconstN (z := 1) d125_35 ?_
      refine q_iret d125_36 rfl ?_
      exact k _ (hR.row (by omega) f1 h1 h2) (f1.fr.c (fun a q ha e => by have := e.1; have := e.2; omega))
    · rw [if_neg hy] at k
      rcases zix_c y (n := 2) (by omega) with ⟨o, ho, rfl, eo⟩ | ⟨eo, no⟩
      · rw [oz_s eo] at k
        by_cases hz40 : nI 40 < z
        · rw [if_pos hz40] at k
          refine q_iload_n d125_0 rfl ?_
          refine q_s1 d125_1 (Or.inl rfl) rfl (Nat.le_of_ble_eq_true rfl) (c113t (by omega) ?_)
          refine n0_eq 16 d125_4 (by decide) (by decide) (fun q => absurd q (by decide)) (fun _ => ?_)
          refine q_iload_n d125_7 rfl ?_
          refine q_iconst (x := (-1)) d125_8 rfl ?_
          refine q_iconstN (z := 1) d125_9 ?_
          refine q_s3 d125_10 (Or.inl rfl) rfl (Nat.le_of_ble_eq_true rfl) (c10w (by omega) ?_)
          refine n0_ne 19 d125_13 (by decide) (by decide) (fun _ => ?_) (fun q => absurd q (by decide))
          refine q_iload_n d125_19 rfl ?_
          refine q_iconst (x := (-1)) d125_20 rfl ?_
          refine ic_ne 37 d125_21 (by decide) (fun h21 => ?_) (fun h21 => (False.elim (hy h21)))
          refine q_iload_n d125_37 rfl ?_
          refine q_bipush (x := nI 40) d125_38 rfl ?_
          refine ic_le 46 d125_40 (by decide) (fun h40 => (False.elim (Int32.not_lt.mpr h40 hz40))) (fun h40 => ?_)
          refine q_bipush (x := (-2)) d125_43 rfl ?_
          refine q_iret d125_45 rfl ?_
          exact k _ hR (Fc.refl _)
        · rw [if_neg hz40] at k
          by_cases hz0 : z < nI 0
          · rw [if_pos hz0] at k
            refine q_iload_n d125_0 rfl ?_
            refine q_s1 d125_1 (Or.inl rfl) rfl (Nat.le_of_ble_eq_true rfl) (c113t (by omega) ?_)
            refine n0_eq 16 d125_4 (by decide) (by decide) (fun q => absurd q (by decide)) (fun _ => ?_)
            refine q_iload_n d125_7 rfl ?_
            refine q_iconst (x := (-1)) d125_8 rfl ?_
            refine q_iconstN (z := 1) d125_9 ?_
            refine q_s3 d125_10 (Or.inl rfl) rfl (Nat.le_of_ble_eq_true rfl) (c10w (by omega) ?_)
            refine n0_ne 19 d125_13 (by decide) (by decide) (fun _ => ?_) (fun q => absurd q (by decide))
            refine q_iload_n d125_19 rfl ?_
            refine q_iconst (x := (-1)) d125_20 rfl ?_
            refine ic_ne 37 d125_21 (by decide) (fun h21 => ?_) (fun h21 => (False.elim (nI_m1 (by omega) h21)))
            refine q_iload_n d125_37 rfl ?_
            refine q_bipush (x := nI 40) d125_38 rfl ?_
            refine ic_le 46 d125_40 (by decide) (fun h40 => ?_) (fun h40 => (False.elim (h40 (Int32.not_lt.mp hz40))))
            refine q_iload_n d125_46 rfl ?_
            refine i0_ge 53 d125_47 (by decide) (fun h47 => (False.elim (Int32.not_lt.mpr h47 hz0))) (fun h47 => ?_)
            refine q_bipush (x := (-14)) d125_50 rfl ?_
            refine q_iret d125_52 rfl ?_
            exact k _ hR (Fc.refl _)
          · rw [if_neg hz0] at k
            obtain ⟨v, rfl, hv⟩ := nI_two (z := 40) hz0 hz40 (by decide)
            rw [nI_clamp (by omega)] at k
            refine q_iload_n d125_0 rfl ?_
            refine q_s1 d125_1 (Or.inl rfl) rfl (Nat.le_of_ble_eq_true rfl) (c113t (by omega) ?_)
            refine n0_eq 16 d125_4 (by decide) (by decide) (fun q => absurd q (by decide)) (fun _ => ?_)
            refine q_iload_n d125_7 rfl ?_
            refine q_iconst (x := (-1)) d125_8 rfl ?_
            refine q_iconstN (z := 1) d125_9 ?_
            refine q_s3 d125_10 (Or.inl rfl) rfl (Nat.le_of_ble_eq_true rfl) (c10w (by omega) ?_)
            refine n0_ne 19 d125_13 (by decide) (by decide) (fun _ => ?_) (fun q => absurd q (by decide))
            refine q_iload_n d125_19 rfl ?_
            refine q_iconst (x := (-1)) d125_20 rfl ?_
            refine ic_ne 37 d125_21 (by decide) (fun h21 => ?_) (fun h21 => (False.elim (nI_m1 (by omega) h21)))
            refine q_iload_n d125_37 rfl ?_
            refine q_bipush (x := nI 40) d125_38 rfl ?_
            refine nc_le 46 d125_40 (by decide) (by omega) (by omega) (fun h40 => ?_) (fun h40 => (False.elim (by omega)))
            refine q_iload_n d125_46 rfl ?_
            refine n0_ge 53 d125_47 (by decide) (by omega) (fun _ => ?_) (fun q => absurd q (Nat.not_lt_zero _))
            refine q_aload_n d125_53 rfl ?_
            refine q_getr (c := 7) (f := 6) d125_54 ⟨rfl, rfl⟩ (hS.1.1) (hS.1.2.2.2.2.2.2.2.2.1) ?_
            refine q_iload_n d125_57 rfl ?_
            refine n_aald d125_58 (hS.1.2.2.2.2.2.2.2.2.2.1) (by decide) (by omega) (by decide) ((hS.1.2.2.2.2.2.2.2.2.2.2.1) _ (by omega)) ?_
            refine q_iload_n d125_59 rfl ?_
            refine q_iload_n d125_60 rfl ?_
            refine q_v2 d125_61 rfl rfl (hS.2.2.2.2.2.2.2.2.2.2.2.1 _ (by omega)).1 (Nat.le_of_ble_eq_true rfl) (c121 (so := nI o) (hS.2.2.2.2.2.2.2.2.2.2.2.1 h (by omega)) (by omega) (fun M1 h1 h2 f1 => ?_))
            refine q_iconstN (z := 1) d125_64 ?_
            refine q_iret d125_65 rfl ?_
            exact k _ (hR.row (by omega) f1 h1 h2) (f1.fr.c (fun a q ha e => by have := e.1; have := e.2; omega))
      · rw [oz_n eo] at k
        refine q_iload_n d125_0 rfl ?_
        refine q_s1 d125_1 (Or.inl rfl) rfl (Nat.le_of_ble_eq_true rfl) (c113t (by omega) ?_)
        refine n0_eq 16 d125_4 (by decide) (by decide) (fun q => absurd q (by decide)) (fun _ => ?_)
        refine q_iload_n d125_7 rfl ?_
        refine q_iconst (x := (-1)) d125_8 rfl ?_
        refine q_iconstN (z := 1) d125_9 ?_
        refine q_s3 d125_10 (Or.inl rfl) rfl (Nat.le_of_ble_eq_true rfl) (c10x hy eo ?_)
        refine n0_ne 19 d125_13 (by decide) (by decide) (fun q => absurd q (by decide)) (fun _ => ?_)
        refine q_bipush (x := (-2)) d125_16 rfl ?_
        refine q_iret d125_18 rfl ?_
        exact k _ hR (Fc.refl _)
  · rw [oz_n eh] at k
    refine q_iload_n d125_0 rfl ?_
    refine q_s1 d125_1 (Or.inl rfl) rfl (Nat.le_of_ble_eq_true rfl) (c113f eh ?_)
    refine n0_eq 16 d125_4 (by decide) (by decide) (fun _ => ?_) (fun q => absurd q (by decide))
    refine q_bipush (x := (-2)) d125_16 rfl ?_
    refine q_iret d125_18 rfl ?_
    exact k _ hR (Fc.refl _)
theorem d126_0 : decode (zB 126) 0 = .ok (.iload_n 1, 1) := (congrArg (fun c => decode c 0) zeq126).trans (by decide +kernel)
theorem d126_1 : decode (zB 126) 1 = .ok (.invokestatic 245, 3) := (congrArg (fun c => decode c 1) zeq126).trans (by decide +kernel)
theorem d126_4 : decode (zB 126) 4 = .ok (.ifCond .ne 6, 3) := (congrArg (fun c => decode c 4) zeq126).trans (by decide +kernel)
theorem d126_7 : decode (zB 126) 7 = .ok (.bipush (-2), 2) := (congrArg (fun c => decode c 7) zeq126).trans (by decide +kernel)
theorem d126_9 : decode (zB 126) 9 = .ok (.ireturn, 1) := (congrArg (fun c => decode c 9) zeq126).trans (by decide +kernel)
theorem d126_10 : decode (zB 126) 10 = .ok (.aload_n 0, 1) := (congrArg (fun c => decode c 10) zeq126).trans (by decide +kernel)
theorem d126_11 : decode (zB 126) 11 = .ok (.getfield 46, 3) := (congrArg (fun c => decode c 11) zeq126).trans (by decide +kernel)
theorem d126_14 : decode (zB 126) 14 = .ok (.iload_n 1, 1) := (congrArg (fun c => decode c 14) zeq126).trans (by decide +kernel)
theorem d126_15 : decode (zB 126) 15 = .ok (.aaload, 1) := (congrArg (fun c => decode c 15) zeq126).trans (by decide +kernel)
theorem d126_16 : decode (zB 126) 16 = .ok (.astore 4, 2) := (congrArg (fun c => decode c 16) zeq126).trans (by decide +kernel)
theorem d126_18 : decode (zB 126) 18 = .ok (.aload 4, 2) := (congrArg (fun c => decode c 18) zeq126).trans (by decide +kernel)
theorem d126_20 : decode (zB 126) 20 = .ok (.getfield 253, 3) := (congrArg (fun c => decode c 20) zeq126).trans (by decide +kernel)
theorem d126_23 : decode (zB 126) 23 = .ok (.iconst (-1), 1) := (congrArg (fun c => decode c 23) zeq126).trans (by decide +kernel)
theorem d126_24 : decode (zB 126) 24 = .ok (.if_icmp .ne 6, 3) := (congrArg (fun c => decode c 24) zeq126).trans (by decide +kernel)
theorem d126_27 : decode (zB 126) 27 = .ok (.bipush (-11), 2) := (congrArg (fun c => decode c 27) zeq126).trans (by decide +kernel)
theorem d126_29 : decode (zB 126) 29 = .ok (.ireturn, 1) := (congrArg (fun c => decode c 29) zeq126).trans (by decide +kernel)
theorem d126_30 : decode (zB 126) 30 = .ok (.iload_n 2, 1) := (congrArg (fun c => decode c 30) zeq126).trans (by decide +kernel)
theorem d126_31 : decode (zB 126) 31 = .ok (.iconst 0, 1) := (congrArg (fun c => decode c 31) zeq126).trans (by decide +kernel)
theorem d126_32 : decode (zB 126) 32 = .ok (.aload 4, 2) := (congrArg (fun c => decode c 32) zeq126).trans (by decide +kernel)
theorem d126_34 : decode (zB 126) 34 = .ok (.getfield 256, 3) := (congrArg (fun c => decode c 34) zeq126).trans (by decide +kernel)
theorem d126_37 : decode (zB 126) 37 = .ok (.iconst 1, 1) := (congrArg (fun c => decode c 37) zeq126).trans (by decide +kernel)
theorem d126_38 : decode (zB 126) 38 = .ok (.isub, 1) := (congrArg (fun c => decode c 38) zeq126).trans (by decide +kernel)
theorem d126_39 : decode (zB 126) 39 = .ok (.invokestatic 55, 3) := (congrArg (fun c => decode c 39) zeq126).trans (by decide +kernel)
theorem d126_42 : decode (zB 126) 42 = .ok (.ifCond .ne 6, 3) := (congrArg (fun c => decode c 42) zeq126).trans (by decide +kernel)
theorem d126_45 : decode (zB 126) 45 = .ok (.bipush (-12), 2) := (congrArg (fun c => decode c 45) zeq126).trans (by decide +kernel)
theorem d126_47 : decode (zB 126) 47 = .ok (.ireturn, 1) := (congrArg (fun c => decode c 47) zeq126).trans (by decide +kernel)
theorem d126_48 : decode (zB 126) 48 = .ok (.aload 4, 2) := (congrArg (fun c => decode c 48) zeq126).trans (by decide +kernel)
theorem d126_50 : decode (zB 126) 50 = .ok (.iload_n 2, 1) := (congrArg (fun c => decode c 50) zeq126).trans (by decide +kernel)
theorem d126_51 : decode (zB 126) 51 = .ok (.iload_n 3, 1) := (congrArg (fun c => decode c 51) zeq126).trans (by decide +kernel)
theorem d126_52 : decode (zB 126) 52 = .ok (.invokevirtual 276, 3) := (congrArg (fun c => decode c 52) zeq126).trans (by decide +kernel)
theorem d126_55 : decode (zB 126) 55 = .ok (.iconst 1, 1) := (congrArg (fun c => decode c 55) zeq126).trans (by decide +kernel)
theorem d126_56 : decode (zB 126) 56 = .ok (.ireturn, 1) := (congrArg (fun c => decode c 56) zeq126).trans (by decide +kernel)
theorem p126 {d : Nat} {M : zM} {Q : Option Value → zM → Prop} {D : yD} {x y z : Int32} (hR : RC M D) (hD : OKD D) (k : ∀ M', RC M' D → Fc M M' → Q (some (.int (sCell D x y))) M') : qC (d + 3) 126 [.ref 16, .int x, .int y, .int z] M Q := by
  refine qC_of (by decide) (Nat.le_of_ble_eq_true rfl) ?_
  have hS := hR.1.1
  have hT := hR.1.2.2.1
  have hO := hR.1.2.2.2.1
  have hRW := hR.1.2.2.2.2
  have hJ : RL M 62 (dL D) := hRW.2.2.2
  have hc6 := hO.1.1
  have h240 := hD.2.1
  have h120 := hR.2.2.1.1
  have hwr := hS.wo (Or.inl ⟨rfl, rfl, rfl, rfl⟩)
  have hwt := hS.wo (Or.inr ⟨rfl, rfl, rfl, rfl⟩)
  have hpr := hS.pu (Or.inl ⟨rfl, rfl, rfl, rfl⟩)
  have hpt := hS.pu (Or.inr ⟨rfl, rfl, rfl, rfl⟩)
  unfold sCell at k
  rcases zix_c x (n := 4) (by omega) with ⟨h, hh, rfl, eh⟩ | ⟨eh, nh⟩
  · rw [oz_s eh] at k
    have hz40 := (hD.2.2.2.2 h hh).1
    by_cases hs : (dR D h).1 = -1
    · rw [if_pos hs] at k
      refine q_iload_n d126_0 rfl ?_
      refine q_s1 d126_1 (Or.inl rfl) rfl (Nat.le_of_ble_eq_true rfl) (c113t (by omega) ?_)
      refine n0_ne 10 d126_4 (by decide) (by decide) (fun _ => ?_) (fun q => absurd q (by decide))
      refine q_aload_n d126_10 rfl ?_
      refine q_getr (c := 7) (f := 6) d126_11 ⟨rfl, rfl⟩ (hS.1.1) (hS.1.2.2.2.2.2.2.2.2.1) ?_
      refine q_iload_n d126_14 rfl ?_
      refine n_aald d126_15 (hS.1.2.2.2.2.2.2.2.2.2.1) (by decide) (by omega) (by decide) ((hS.1.2.2.2.2.2.2.2.2.2.2.1) _ (by omega)) ?_
      refine q_astore d126_16 (by decide) rfl ?_
      refine q_aload d126_18 rfl ?_
      refine q_getv (c := 4) (f := 0) d126_20 ⟨rfl, by decide⟩ (hS.2.2.2.2.2.2.2.2.2.2.2.1 _ (by omega)).1 (hR.2.2.2 _ (by omega)).1 ?_
      refine q_iconst (x := (-1)) d126_23 rfl ?_
      refine ic_ne 30 d126_24 (by decide) (fun h24 => (False.elim (h24 hs))) (fun h24 => ?_)
      refine q_bipush (x := (-11)) d126_27 rfl ?_
      refine q_iret d126_29 rfl ?_
      exact k _ hR (Fc.refl _)
    · rw [if_neg hs] at k
      rcases zix_c y (n := (dR D h).2) (by omega) with ⟨i, hi, rfl, ei⟩ | ⟨ei, ni⟩
      · rw [oz_s ei] at k
        refine q_iload_n d126_0 rfl ?_
        refine q_s1 d126_1 (Or.inl rfl) rfl (Nat.le_of_ble_eq_true rfl) (c113t (by omega) ?_)
        refine n0_ne 10 d126_4 (by decide) (by decide) (fun _ => ?_) (fun q => absurd q (by decide))
        refine q_aload_n d126_10 rfl ?_
        refine q_getr (c := 7) (f := 6) d126_11 ⟨rfl, rfl⟩ (hS.1.1) (hS.1.2.2.2.2.2.2.2.2.1) ?_
        refine q_iload_n d126_14 rfl ?_
        refine n_aald d126_15 (hS.1.2.2.2.2.2.2.2.2.2.1) (by decide) (by omega) (by decide) ((hS.1.2.2.2.2.2.2.2.2.2.2.1) _ (by omega)) ?_
        refine q_astore d126_16 (by decide) rfl ?_
        refine q_aload d126_18 rfl ?_
        refine q_getv (c := 4) (f := 0) d126_20 ⟨rfl, by decide⟩ (hS.2.2.2.2.2.2.2.2.2.2.2.1 _ (by omega)).1 (hR.2.2.2 _ (by omega)).1 ?_
        refine q_iconst (x := (-1)) d126_23 rfl ?_
        refine ic_ne 30 d126_24 (by decide) (fun h24 => ?_) (fun h24 => (False.elim (hs h24)))
        refine q_iload_n d126_30 rfl ?_
        refine q_iconstN (z := 0) d126_31 ?_
        refine q_aload d126_32 rfl ?_
        refine q_getv (c := 4) (f := 1) d126_34 ⟨rfl, by decide⟩ (hS.2.2.2.2.2.2.2.2.2.2.2.1 _ (by omega)).1 (hR.2.2.2 _ (by omega)).2 ?_
        refine q_iconstN (z := 1) d126_37 ?_
        refine n_isub d126_38 (by omega) ?_
        refine q_s3 d126_39 (Or.inl rfl) rfl (Nat.le_of_ble_eq_true rfl) (c10t ⟨by omega, by omega⟩ (by omega) ?_)
        refine n0_ne 48 d126_42 (by decide) (by decide) (fun _ => ?_) (fun q => absurd q (by decide))
        refine q_aload d126_48 rfl ?_
        refine q_iload_n d126_50 rfl ?_
        refine q_iload_n d126_51 rfl ?_
        refine q_v2 d126_52 rfl rfl (hS.2.2.2.2.2.2.2.2.2.2.2.1 _ (by omega)).1 (Nat.le_of_ble_eq_true rfl) (c122 (hS.2.2.2.2.2.2.2.2.2.2.2.1 h (by omega)) (hR.2.2.2 h hh).2 hi hz40 (fun M1 f1 => ?_))
        refine q_iconstN (z := 1) d126_55 ?_
        refine q_iret d126_56 rfl ?_
        exact k _ (hR.items (by omega) f1) (f1.fr.c (fun a q ha e => by omega))
      · rw [oz_n ei] at k
        refine q_iload_n d126_0 rfl ?_
        refine q_s1 d126_1 (Or.inl rfl) rfl (Nat.le_of_ble_eq_true rfl) (c113t (by omega) ?_)
        refine n0_ne 10 d126_4 (by decide) (by decide) (fun _ => ?_) (fun q => absurd q (by decide))
        refine q_aload_n d126_10 rfl ?_
        refine q_getr (c := 7) (f := 6) d126_11 ⟨rfl, rfl⟩ (hS.1.1) (hS.1.2.2.2.2.2.2.2.2.1) ?_
        refine q_iload_n d126_14 rfl ?_
        refine n_aald d126_15 (hS.1.2.2.2.2.2.2.2.2.2.1) (by decide) (by omega) (by decide) ((hS.1.2.2.2.2.2.2.2.2.2.2.1) _ (by omega)) ?_
        refine q_astore d126_16 (by decide) rfl ?_
        refine q_aload d126_18 rfl ?_
        refine q_getv (c := 4) (f := 0) d126_20 ⟨rfl, by decide⟩ (hS.2.2.2.2.2.2.2.2.2.2.2.1 _ (by omega)).1 (hR.2.2.2 _ (by omega)).1 ?_
        refine q_iconst (x := (-1)) d126_23 rfl ?_
        refine ic_ne 30 d126_24 (by decide) (fun h24 => ?_) (fun h24 => (False.elim (hs h24)))
        refine q_iload_n d126_30 rfl ?_
        refine q_iconstN (z := 0) d126_31 ?_
        refine q_aload d126_32 rfl ?_
        refine q_getv (c := 4) (f := 1) d126_34 ⟨rfl, by decide⟩ (hS.2.2.2.2.2.2.2.2.2.2.2.1 _ (by omega)).1 (hR.2.2.2 _ (by omega)).2 ?_
        refine q_iconstN (z := 1) d126_37 ?_
        refine q_isub d126_38 ?_
        refine q_s3 d126_39 (Or.inl rfl) rfl (Nat.le_of_ble_eq_true rfl) (c10s (by omega) ?_)
        refine b0_ne 48 d126_42 (by decide) (fun h42 => absurd h42 (by rw [ei]; decide)) (fun h42 => ?_)
        refine q_bipush (x := (-12)) d126_45 rfl ?_
        refine q_iret d126_47 rfl ?_
        exact k _ hR (Fc.refl _)
  · rw [oz_n eh] at k
    refine q_iload_n d126_0 rfl ?_
    refine q_s1 d126_1 (Or.inl rfl) rfl (Nat.le_of_ble_eq_true rfl) (c113f eh ?_)
    refine n0_ne 10 d126_4 (by decide) (by decide) (fun q => absurd q (by decide)) (fun _ => ?_)
    refine q_bipush (x := (-2)) d126_7 rfl ?_
    refine q_iret d126_9 rfl ?_
    exact k _ hR (Fc.refl _)
theorem ycp_t {i j n : Int32} {a b : Nat} (h : ycp i j n a b = true) (ha : a < 2147483648) (hb : b < 2147483648) : ∃ x y v, i = nI x ∧ j = nI y ∧ n = nI v ∧ x + v ≤ a ∧ y + v ≤ b := by
  have h := of_decide_eq_true h
  have z : (0 : Int32).toInt = 0 := rfl
  obtain ⟨v, hv, rfl⟩ := nI_of (x := n) (by rw [Int32.lt_iff_toInt_lt]; omega)
  obtain ⟨x, hx, rfl⟩ := nI_of (x := i) (by rw [Int32.lt_iff_toInt_lt]; omega)
  obtain ⟨y, hy, rfl⟩ := nI_of (x := j) (by rw [Int32.lt_iff_toInt_lt]; omega)
  rw [nI_toInt hv, nI_toInt hx, nI_toInt hy] at h
  exact ⟨x, y, v, rfl, rfl, rfl, by omega, by omega⟩
theorem ycp_i {x v : Nat} {j : Int32} {a b : Nat} (h : x + v ≤ a) (hj : yhp j (nI v) b) (ha : a ≤ 40) (hb : b ≤ 40) : ycp (nI x) j (nI v) a b = true := by
  obtain ⟨y, w, rfl, e, h2⟩ := hj
  have e2 : v = w := nI_inj (by omega) (by omega) e
  subst e2
  refine decide_eq_true ?_
  rw [nI_toInt (by omega), nI_toInt (by omega), nI_toInt (by omega)]
  omega
theorem d127_0 : decode (zB 127) 0 = .ok (.iload_n 1, 1) := (congrArg (fun c => decode c 0) zeq127).trans (by decide +kernel)
theorem d127_1 : decode (zB 127) 1 = .ok (.invokestatic 245, 3) := (congrArg (fun c => decode c 1) zeq127).trans (by decide +kernel)
theorem d127_4 : decode (zB 127) 4 = .ok (.ifCond .eq 10, 3) := (congrArg (fun c => decode c 4) zeq127).trans (by decide +kernel)
theorem d127_7 : decode (zB 127) 7 = .ok (.iload_n 3, 1) := (congrArg (fun c => decode c 7) zeq127).trans (by decide +kernel)
theorem d127_8 : decode (zB 127) 8 = .ok (.invokestatic 245, 3) := (congrArg (fun c => decode c 8) zeq127).trans (by decide +kernel)
theorem d127_11 : decode (zB 127) 11 = .ok (.ifCond .ne 6, 3) := (congrArg (fun c => decode c 11) zeq127).trans (by decide +kernel)
theorem d127_14 : decode (zB 127) 14 = .ok (.bipush (-2), 2) := (congrArg (fun c => decode c 14) zeq127).trans (by decide +kernel)
theorem d127_16 : decode (zB 127) 16 = .ok (.ireturn, 1) := (congrArg (fun c => decode c 16) zeq127).trans (by decide +kernel)
theorem d127_17 : decode (zB 127) 17 = .ok (.aload_n 0, 1) := (congrArg (fun c => decode c 17) zeq127).trans (by decide +kernel)
theorem d127_18 : decode (zB 127) 18 = .ok (.getfield 46, 3) := (congrArg (fun c => decode c 18) zeq127).trans (by decide +kernel)
theorem d127_21 : decode (zB 127) 21 = .ok (.iload_n 1, 1) := (congrArg (fun c => decode c 21) zeq127).trans (by decide +kernel)
theorem d127_22 : decode (zB 127) 22 = .ok (.aaload, 1) := (congrArg (fun c => decode c 22) zeq127).trans (by decide +kernel)
theorem d127_23 : decode (zB 127) 23 = .ok (.astore 6, 2) := (congrArg (fun c => decode c 23) zeq127).trans (by decide +kernel)
theorem d127_25 : decode (zB 127) 25 = .ok (.aload_n 0, 1) := (congrArg (fun c => decode c 25) zeq127).trans (by decide +kernel)
theorem d127_26 : decode (zB 127) 26 = .ok (.getfield 46, 3) := (congrArg (fun c => decode c 26) zeq127).trans (by decide +kernel)
theorem d127_29 : decode (zB 127) 29 = .ok (.iload_n 3, 1) := (congrArg (fun c => decode c 29) zeq127).trans (by decide +kernel)
theorem d127_30 : decode (zB 127) 30 = .ok (.aaload, 1) := (congrArg (fun c => decode c 30) zeq127).trans (by decide +kernel)
theorem d127_31 : decode (zB 127) 31 = .ok (.astore 7, 2) := (congrArg (fun c => decode c 31) zeq127).trans (by decide +kernel)
theorem d127_33 : decode (zB 127) 33 = .ok (.aload 6, 2) := (congrArg (fun c => decode c 33) zeq127).trans (by decide +kernel)
theorem d127_35 : decode (zB 127) 35 = .ok (.getfield 253, 3) := (congrArg (fun c => decode c 35) zeq127).trans (by decide +kernel)
theorem d127_38 : decode (zB 127) 38 = .ok (.iconst (-1), 1) := (congrArg (fun c => decode c 38) zeq127).trans (by decide +kernel)
theorem d127_39 : decode (zB 127) 39 = .ok (.if_icmp .eq 12, 3) := (congrArg (fun c => decode c 39) zeq127).trans (by decide +kernel)
theorem d127_42 : decode (zB 127) 42 = .ok (.aload 7, 2) := (congrArg (fun c => decode c 42) zeq127).trans (by decide +kernel)
theorem d127_44 : decode (zB 127) 44 = .ok (.getfield 253, 3) := (congrArg (fun c => decode c 44) zeq127).trans (by decide +kernel)
theorem d127_47 : decode (zB 127) 47 = .ok (.iconst (-1), 1) := (congrArg (fun c => decode c 47) zeq127).trans (by decide +kernel)
theorem d127_48 : decode (zB 127) 48 = .ok (.if_icmp .ne 6, 3) := (congrArg (fun c => decode c 48) zeq127).trans (by decide +kernel)
theorem d127_51 : decode (zB 127) 51 = .ok (.bipush (-11), 2) := (congrArg (fun c => decode c 51) zeq127).trans (by decide +kernel)
theorem d127_53 : decode (zB 127) 53 = .ok (.ireturn, 1) := (congrArg (fun c => decode c 53) zeq127).trans (by decide +kernel)
theorem d127_54 : decode (zB 127) 54 = .ok (.aload 6, 2) := (congrArg (fun c => decode c 54) zeq127).trans (by decide +kernel)
theorem d127_56 : decode (zB 127) 56 = .ok (.getfield 253, 3) := (congrArg (fun c => decode c 56) zeq127).trans (by decide +kernel)
theorem d127_59 : decode (zB 127) 59 = .ok (.aload 7, 2) := (congrArg (fun c => decode c 59) zeq127).trans (by decide +kernel)
theorem d127_61 : decode (zB 127) 61 = .ok (.getfield 253, 3) := (congrArg (fun c => decode c 61) zeq127).trans (by decide +kernel)
theorem d127_64 : decode (zB 127) 64 = .ok (.if_icmp .eq 6, 3) := (congrArg (fun c => decode c 64) zeq127).trans (by decide +kernel)
theorem d127_67 : decode (zB 127) 67 = .ok (.bipush (-13), 2) := (congrArg (fun c => decode c 67) zeq127).trans (by decide +kernel)
theorem d127_69 : decode (zB 127) 69 = .ok (.ireturn, 1) := (congrArg (fun c => decode c 69) zeq127).trans (by decide +kernel)
theorem d127_70 : decode (zB 127) 70 = .ok (.aload 6, 2) := (congrArg (fun c => decode c 70) zeq127).trans (by decide +kernel)
theorem d127_72 : decode (zB 127) 72 = .ok (.iload_n 2, 1) := (congrArg (fun c => decode c 72) zeq127).trans (by decide +kernel)
theorem d127_73 : decode (zB 127) 73 = .ok (.iload 5, 2) := (congrArg (fun c => decode c 73) zeq127).trans (by decide +kernel)
theorem d127_75 : decode (zB 127) 75 = .ok (.invokevirtual 288, 3) := (congrArg (fun c => decode c 75) zeq127).trans (by decide +kernel)
theorem d127_78 : decode (zB 127) 78 = .ok (.ifCond .eq 15, 3) := (congrArg (fun c => decode c 78) zeq127).trans (by decide +kernel)
theorem d127_81 : decode (zB 127) 81 = .ok (.aload 7, 2) := (congrArg (fun c => decode c 81) zeq127).trans (by decide +kernel)
theorem d127_83 : decode (zB 127) 83 = .ok (.iload 4, 2) := (congrArg (fun c => decode c 83) zeq127).trans (by decide +kernel)
theorem d127_85 : decode (zB 127) 85 = .ok (.iload 5, 2) := (congrArg (fun c => decode c 85) zeq127).trans (by decide +kernel)
theorem d127_87 : decode (zB 127) 87 = .ok (.invokevirtual 288, 3) := (congrArg (fun c => decode c 87) zeq127).trans (by decide +kernel)
theorem d127_90 : decode (zB 127) 90 = .ok (.ifCond .ne 6, 3) := (congrArg (fun c => decode c 90) zeq127).trans (by decide +kernel)
theorem d127_93 : decode (zB 127) 93 = .ok (.bipush (-12), 2) := (congrArg (fun c => decode c 93) zeq127).trans (by decide +kernel)
theorem d127_95 : decode (zB 127) 95 = .ok (.ireturn, 1) := (congrArg (fun c => decode c 95) zeq127).trans (by decide +kernel)
theorem d127_96 : decode (zB 127) 96 = .ok (.aload 6, 2) := (congrArg (fun c => decode c 96) zeq127).trans (by decide +kernel)
theorem d127_98 : decode (zB 127) 98 = .ok (.getfield 291, 3) := (congrArg (fun c => decode c 98) zeq127).trans (by decide +kernel)
theorem d127_101 : decode (zB 127) 101 = .ok (.iload_n 2, 1) := (congrArg (fun c => decode c 101) zeq127).trans (by decide +kernel)
theorem d127_102 : decode (zB 127) 102 = .ok (.aload 7, 2) := (congrArg (fun c => decode c 102) zeq127).trans (by decide +kernel)
theorem d127_104 : decode (zB 127) 104 = .ok (.getfield 291, 3) := (congrArg (fun c => decode c 104) zeq127).trans (by decide +kernel)
theorem d127_107 : decode (zB 127) 107 = .ok (.iload 4, 2) := (congrArg (fun c => decode c 107) zeq127).trans (by decide +kernel)
theorem d127_109 : decode (zB 127) 109 = .ok (.iload 5, 2) := (congrArg (fun c => decode c 109) zeq127).trans (by decide +kernel)
theorem d127_111 : decode (zB 127) 111 = .ok (.invokestatic 294, 3) := (congrArg (fun c => decode c 111) zeq127).trans (by decide +kernel)
theorem d127_114 : decode (zB 127) 114 = .ok (.iload 5, 2) := (congrArg (fun c => decode c 114) zeq127).trans (by decide +kernel)
theorem d127_116 : decode (zB 127) 116 = .ok (.ireturn, 1) := (congrArg (fun c => decode c 116) zeq127).trans (by decide +kernel)
theorem p127 {d : Nat} {M : zM} {Q : Option Value → zM → Prop} {D : yD} {x i y j n : Int32} (hR : RC M D) (hD : OKD D) (k : ∀ M', RC M' D → Fc M M' → Q (some (.int (sCopy D x i y j n))) M') : qC (d + 3) 127 [.ref 16, .int x, .int i, .int y, .int j, .int n] M Q := by
  refine qC_of (by decide) (Nat.le_of_ble_eq_true rfl) ?_
  have hS := hR.1.1
  have hT := hR.1.2.2.1
  have hO := hR.1.2.2.2.1
  have hRW := hR.1.2.2.2.2
  have hJ : RL M 62 (dL D) := hRW.2.2.2
  have hc6 := hO.1.1
  have h240 := hD.2.1
  have h120 := hR.2.2.1.1
  have hwr := hS.wo (Or.inl ⟨rfl, rfl, rfl, rfl⟩)
  have hwt := hS.wo (Or.inr ⟨rfl, rfl, rfl, rfl⟩)
  have hpr := hS.pu (Or.inl ⟨rfl, rfl, rfl, rfl⟩)
  have hpt := hS.pu (Or.inr ⟨rfl, rfl, rfl, rfl⟩)
  unfold sCopy at k
  rcases zix_c x (n := 4) (by omega) with ⟨h, hh, rfl, eh⟩ | ⟨eh, nh⟩
  · rw [oz_s eh] at k
    rcases zix_c y (n := 4) (by omega) with ⟨q, hq, rfl, eq⟩ | ⟨eq, nq⟩
    · rw [oz_s eq] at k
      have hzh := (hD.2.2.2.2 h hh).1
      have hzq := (hD.2.2.2.2 q hq).1
      by_cases hs : (dR D h).1 = -1
      · rw [if_pos (Or.inl hs)] at k
        refine q_iload_n d127_0 rfl ?_
        refine q_s1 d127_1 (Or.inl rfl) rfl (Nat.le_of_ble_eq_true rfl) (c113t (by omega) ?_)
        refine n0_eq 14 d127_4 (by decide) (by decide) (fun q => absurd q (by decide)) (fun _ => ?_)
        refine q_iload_n d127_7 rfl ?_
        refine q_s1 d127_8 (Or.inl rfl) rfl (Nat.le_of_ble_eq_true rfl) (c113t (by omega) ?_)
        refine n0_ne 17 d127_11 (by decide) (by decide) (fun _ => ?_) (fun q => absurd q (by decide))
        refine q_aload_n d127_17 rfl ?_
        refine q_getr (c := 7) (f := 6) d127_18 ⟨rfl, rfl⟩ (hS.1.1) (hS.1.2.2.2.2.2.2.2.2.1) ?_
        refine q_iload_n d127_21 rfl ?_
        refine n_aald d127_22 (hS.1.2.2.2.2.2.2.2.2.2.1) (by decide) (by omega) (by decide) ((hS.1.2.2.2.2.2.2.2.2.2.2.1) _ (by omega)) ?_
        refine q_astore d127_23 (by decide) rfl ?_
        refine q_aload_n d127_25 rfl ?_
        refine q_getr (c := 7) (f := 6) d127_26 ⟨rfl, rfl⟩ (hS.1.1) (hS.1.2.2.2.2.2.2.2.2.1) ?_
        refine q_iload_n d127_29 rfl ?_
        refine n_aald d127_30 (hS.1.2.2.2.2.2.2.2.2.2.1) (by decide) (by omega) (by decide) ((hS.1.2.2.2.2.2.2.2.2.2.2.1) _ (by omega)) ?_
        refine q_astore d127_31 (by decide) rfl ?_
        refine q_aload d127_33 rfl ?_
        refine q_getv (c := 4) (f := 0) d127_35 ⟨rfl, by decide⟩ (hS.2.2.2.2.2.2.2.2.2.2.2.1 _ (by omega)).1 (hR.2.2.2 _ (by omega)).1 ?_
        refine q_iconst (x := (-1)) d127_38 rfl ?_
        refine ic_eq 51 d127_39 (by decide) (fun h39 => ?_) (fun h39 => (False.elim (h39 hs)))
        refine q_bipush (x := (-11)) d127_51 rfl ?_
        refine q_iret d127_53 rfl ?_
        exact k _ hR (Fc.refl _)
      · by_cases ht : (dR D q).1 = -1
        · rw [if_pos (Or.inr ht)] at k
          refine q_iload_n d127_0 rfl ?_
          refine q_s1 d127_1 (Or.inl rfl) rfl (Nat.le_of_ble_eq_true rfl) (c113t (by omega) ?_)
          refine n0_eq 14 d127_4 (by decide) (by decide) (fun q => absurd q (by decide)) (fun _ => ?_)
          refine q_iload_n d127_7 rfl ?_
          refine q_s1 d127_8 (Or.inl rfl) rfl (Nat.le_of_ble_eq_true rfl) (c113t (by omega) ?_)
          refine n0_ne 17 d127_11 (by decide) (by decide) (fun _ => ?_) (fun q => absurd q (by decide))
          refine q_aload_n d127_17 rfl ?_
          refine q_getr (c := 7) (f := 6) d127_18 ⟨rfl, rfl⟩ (hS.1.1) (hS.1.2.2.2.2.2.2.2.2.1) ?_
          refine q_iload_n d127_21 rfl ?_
          refine n_aald d127_22 (hS.1.2.2.2.2.2.2.2.2.2.1) (by decide) (by omega) (by decide) ((hS.1.2.2.2.2.2.2.2.2.2.2.1) _ (by omega)) ?_
          refine q_astore d127_23 (by decide) rfl ?_
          refine q_aload_n d127_25 rfl ?_
          refine q_getr (c := 7) (f := 6) d127_26 ⟨rfl, rfl⟩ (hS.1.1) (hS.1.2.2.2.2.2.2.2.2.1) ?_
          refine q_iload_n d127_29 rfl ?_
          refine n_aald d127_30 (hS.1.2.2.2.2.2.2.2.2.2.1) (by decide) (by omega) (by decide) ((hS.1.2.2.2.2.2.2.2.2.2.2.1) _ (by omega)) ?_
          refine q_astore d127_31 (by decide) rfl ?_
          refine q_aload d127_33 rfl ?_
          refine q_getv (c := 4) (f := 0) d127_35 ⟨rfl, by decide⟩ (hS.2.2.2.2.2.2.2.2.2.2.2.1 _ (by omega)).1 (hR.2.2.2 _ (by omega)).1 ?_
          refine q_iconst (x := (-1)) d127_38 rfl ?_
          refine ic_eq 51 d127_39 (by decide) (fun h39 => (False.elim (hs h39))) (fun h39 => ?_)
          refine q_aload d127_42 rfl ?_
          refine q_getv (c := 4) (f := 0) d127_44 ⟨rfl, by decide⟩ (hS.2.2.2.2.2.2.2.2.2.2.2.1 _ (by omega)).1 (hR.2.2.2 _ (by omega)).1 ?_
          refine q_iconst (x := (-1)) d127_47 rfl ?_
          refine ic_ne 54 d127_48 (by decide) (fun h48 => (False.elim (h48 ht))) (fun h48 => ?_)
          refine q_bipush (x := (-11)) d127_51 rfl ?_
          refine q_iret d127_53 rfl ?_
          exact k _ hR (Fc.refl _)
        · rw [if_neg (fun e => by rcases e with e | e; exact hs e; exact ht e)] at k
          by_cases hu : (dR D h).1 = (dR D q).1
          · rw [if_neg (fun e => e hu)] at k
            by_cases hc : ycp i j n (dR D h).2 (dR D q).2 = true
            · rw [if_pos hc] at k
              obtain ⟨a, b, v, rfl, rfl, rfl, hca, hcb⟩ := ycp_t hc (by omega) (by omega)
              refine q_iload_n d127_0 rfl ?_
              refine q_s1 d127_1 (Or.inl rfl) rfl (Nat.le_of_ble_eq_true rfl) (c113t (by omega) ?_)
              refine n0_eq 14 d127_4 (by decide) (by decide) (fun q => absurd q (by decide)) (fun _ => ?_)
              refine q_iload_n d127_7 rfl ?_
              refine q_s1 d127_8 (Or.inl rfl) rfl (Nat.le_of_ble_eq_true rfl) (c113t (by omega) ?_)
              refine n0_ne 17 d127_11 (by decide) (by decide) (fun _ => ?_) (fun q => absurd q (by decide))
              refine q_aload_n d127_17 rfl ?_
              refine q_getr (c := 7) (f := 6) d127_18 ⟨rfl, rfl⟩ (hS.1.1) (hS.1.2.2.2.2.2.2.2.2.1) ?_
              refine q_iload_n d127_21 rfl ?_
              refine n_aald d127_22 (hS.1.2.2.2.2.2.2.2.2.2.1) (by decide) (by omega) (by decide) ((hS.1.2.2.2.2.2.2.2.2.2.2.1) _ (by omega)) ?_
              refine q_astore d127_23 (by decide) rfl ?_
              refine q_aload_n d127_25 rfl ?_
              refine q_getr (c := 7) (f := 6) d127_26 ⟨rfl, rfl⟩ (hS.1.1) (hS.1.2.2.2.2.2.2.2.2.1) ?_
              refine q_iload_n d127_29 rfl ?_
              refine n_aald d127_30 (hS.1.2.2.2.2.2.2.2.2.2.1) (by decide) (by omega) (by decide) ((hS.1.2.2.2.2.2.2.2.2.2.2.1) _ (by omega)) ?_
              refine q_astore d127_31 (by decide) rfl ?_
              refine q_aload d127_33 rfl ?_
              refine q_getv (c := 4) (f := 0) d127_35 ⟨rfl, by decide⟩ (hS.2.2.2.2.2.2.2.2.2.2.2.1 _ (by omega)).1 (hR.2.2.2 _ (by omega)).1 ?_
              refine q_iconst (x := (-1)) d127_38 rfl ?_
              refine ic_eq 51 d127_39 (by decide) (fun h39 => (False.elim (hs h39))) (fun h39 => ?_)
              refine q_aload d127_42 rfl ?_
              refine q_getv (c := 4) (f := 0) d127_44 ⟨rfl, by decide⟩ (hS.2.2.2.2.2.2.2.2.2.2.2.1 _ (by omega)).1 (hR.2.2.2 _ (by omega)).1 ?_
              refine q_iconst (x := (-1)) d127_47 rfl ?_
              refine ic_ne 54 d127_48 (by decide) (fun h48 => ?_) (fun h48 => (False.elim (ht h48)))
              refine q_aload d127_54 rfl ?_
              refine q_getv (c := 4) (f := 0) d127_56 ⟨rfl, by decide⟩ (hS.2.2.2.2.2.2.2.2.2.2.2.1 _ (by omega)).1 (hR.2.2.2 _ (by omega)).1 ?_
              refine q_aload d127_59 rfl ?_
              refine q_getv (c := 4) (f := 0) d127_61 ⟨rfl, by decide⟩ (hS.2.2.2.2.2.2.2.2.2.2.2.1 _ (by omega)).1 (hR.2.2.2 _ (by omega)).1 ?_
              refine ic_eq 70 d127_64 (by decide) (fun h64 => ?_) (fun h64 => (False.elim (h64 hu)))
              refine q_aload d127_70 rfl ?_
              refine q_iload_n d127_72 rfl ?_
              refine q_iload d127_73 rfl ?_
              refine q_v2 d127_75 rfl rfl (hS.2.2.2.2.2.2.2.2.2.2.2.1 _ (by omega)).1 (Nat.le_of_ble_eq_true rfl) (c128t (hS.2.2.2.2.2.2.2.2.2.2.2.1 h (by omega)) (hR.2.2.2 h (by omega)).2 hzh hca ?_)
              refine n0_eq 93 d127_78 (by decide) (by decide) (fun q => absurd q (by decide)) (fun _ => ?_)
              refine q_aload d127_81 rfl ?_
              refine q_iload d127_83 rfl ?_
              refine q_iload d127_85 rfl ?_
              refine q_v2 d127_87 rfl rfl (hS.2.2.2.2.2.2.2.2.2.2.2.1 _ (by omega)).1 (Nat.le_of_ble_eq_true rfl) (c128t (hS.2.2.2.2.2.2.2.2.2.2.2.1 q (by omega)) (hR.2.2.2 q (by omega)).2 hzq hcb ?_)
              refine n0_ne 96 d127_90 (by decide) (by decide) (fun _ => ?_) (fun q => absurd q (by decide))
              refine q_aload d127_96 rfl ?_
              refine q_getr (c := 4) (f := 2) d127_98 ⟨rfl, rfl⟩ (hS.2.2.2.2.2.2.2.2.2.2.2.1 _ (by omega)).1 (hS.2.2.2.2.2.2.2.2.2.2.2.1 _ (by omega)).2.1 ?_
              refine q_iload_n d127_101 rfl ?_
              refine q_aload d127_102 rfl ?_
              refine q_getr (c := 4) (f := 2) d127_104 ⟨rfl, rfl⟩ (hS.2.2.2.2.2.2.2.2.2.2.2.1 _ (by omega)).1 (hS.2.2.2.2.2.2.2.2.2.2.2.1 _ (by omega)).2.1 ?_
              refine q_iload d127_107 rfl ?_
              refine q_iload d127_109 rfl ?_
              refine n_copy d127_111 rfl (hS.2.2.2.2.2.2.2.2.2.2.2.1 _ (by omega)).2.2 (hS.2.2.2.2.2.2.2.2.2.2.2.1 _ (by omega)).2.2 (by decide) (by decide) (by omega) (by omega) (Nat.le_of_ble_eq_true rfl) ?_
              refine q_iload d127_114 rfl ?_
              refine q_iret d127_116 rfl ?_
              have f1 : Fi (fun a _ => a = 127 + 2 * q + 1) M (zcp M (127 + 2 * h + 1) a (127 + 2 * q + 1) b v) := (Fi.refl _ _).cp (fun _ _ _ => rfl)
              exact k _ (hR.items (by omega) f1) (f1.fr.c (fun a q ha e => by omega))
            · rw [if_neg hc] at k
              by_cases hp : yhp i n (dR D h).2
              · obtain ⟨a, v, rfl, rfl, hca⟩ := hp
                refine q_iload_n d127_0 rfl ?_
                refine q_s1 d127_1 (Or.inl rfl) rfl (Nat.le_of_ble_eq_true rfl) (c113t (by omega) ?_)
                refine n0_eq 14 d127_4 (by decide) (by decide) (fun q => absurd q (by decide)) (fun _ => ?_)
                refine q_iload_n d127_7 rfl ?_
                refine q_s1 d127_8 (Or.inl rfl) rfl (Nat.le_of_ble_eq_true rfl) (c113t (by omega) ?_)
                refine n0_ne 17 d127_11 (by decide) (by decide) (fun _ => ?_) (fun q => absurd q (by decide))
                refine q_aload_n d127_17 rfl ?_
                refine q_getr (c := 7) (f := 6) d127_18 ⟨rfl, rfl⟩ (hS.1.1) (hS.1.2.2.2.2.2.2.2.2.1) ?_
                refine q_iload_n d127_21 rfl ?_
                refine n_aald d127_22 (hS.1.2.2.2.2.2.2.2.2.2.1) (by decide) (by omega) (by decide) ((hS.1.2.2.2.2.2.2.2.2.2.2.1) _ (by omega)) ?_
                refine q_astore d127_23 (by decide) rfl ?_
                refine q_aload_n d127_25 rfl ?_
                refine q_getr (c := 7) (f := 6) d127_26 ⟨rfl, rfl⟩ (hS.1.1) (hS.1.2.2.2.2.2.2.2.2.1) ?_
                refine q_iload_n d127_29 rfl ?_
                refine n_aald d127_30 (hS.1.2.2.2.2.2.2.2.2.2.1) (by decide) (by omega) (by decide) ((hS.1.2.2.2.2.2.2.2.2.2.2.1) _ (by omega)) ?_
                refine q_astore d127_31 (by decide) rfl ?_
                refine q_aload d127_33 rfl ?_
                refine q_getv (c := 4) (f := 0) d127_35 ⟨rfl, by decide⟩ (hS.2.2.2.2.2.2.2.2.2.2.2.1 _ (by omega)).1 (hR.2.2.2 _ (by omega)).1 ?_
                refine q_iconst (x := (-1)) d127_38 rfl ?_
                refine ic_eq 51 d127_39 (by decide) (fun h39 => (False.elim (hs h39))) (fun h39 => ?_)
                refine q_aload d127_42 rfl ?_
                refine q_getv (c := 4) (f := 0) d127_44 ⟨rfl, by decide⟩ (hS.2.2.2.2.2.2.2.2.2.2.2.1 _ (by omega)).1 (hR.2.2.2 _ (by omega)).1 ?_
                refine q_iconst (x := (-1)) d127_47 rfl ?_
                refine ic_ne 54 d127_48 (by decide) (fun h48 => ?_) (fun h48 => (False.elim (ht h48)))
                refine q_aload d127_54 rfl ?_
                refine q_getv (c := 4) (f := 0) d127_56 ⟨rfl, by decide⟩ (hS.2.2.2.2.2.2.2.2.2.2.2.1 _ (by omega)).1 (hR.2.2.2 _ (by omega)).1 ?_
                refine q_aload d127_59 rfl ?_
                refine q_getv (c := 4) (f := 0) d127_61 ⟨rfl, by decide⟩ (hS.2.2.2.2.2.2.2.2.2.2.2.1 _ (by omega)).1 (hR.2.2.2 _ (by omega)).1 ?_
                refine ic_eq 70 d127_64 (by decide) (fun h64 => ?_) (fun h64 => (False.elim (h64 hu)))
                refine q_aload d127_70 rfl ?_
                refine q_iload_n d127_72 rfl ?_
                refine q_iload d127_73 rfl ?_
                refine q_v2 d127_75 rfl rfl (hS.2.2.2.2.2.2.2.2.2.2.2.1 _ (by omega)).1 (Nat.le_of_ble_eq_true rfl) (c128t (hS.2.2.2.2.2.2.2.2.2.2.2.1 h (by omega)) (hR.2.2.2 h (by omega)).2 hzh hca ?_)
                refine n0_eq 93 d127_78 (by decide) (by decide) (fun q => absurd q (by decide)) (fun _ => ?_)
                refine q_aload d127_81 rfl ?_
                refine q_iload d127_83 rfl ?_
                refine q_iload d127_85 rfl ?_
                refine q_v2 d127_87 rfl rfl (hS.2.2.2.2.2.2.2.2.2.2.2.1 _ (by omega)).1 (Nat.le_of_ble_eq_true rfl) (c128f (hS.2.2.2.2.2.2.2.2.2.2.2.1 q (by omega)) (hR.2.2.2 q (by omega)).2 hzq (fun e => hc (ycp_i hca e hzh hzq)) ?_)
                refine n0_ne 96 d127_90 (by decide) (by decide) (fun q => absurd q (by decide)) (fun _ => ?_)
                refine q_bipush (x := (-12)) d127_93 rfl ?_
                refine q_iret d127_95 rfl ?_
                exact k _ hR (Fc.refl _)
              · skip
                refine q_iload_n d127_0 rfl ?_
                refine q_s1 d127_1 (Or.inl rfl) rfl (Nat.le_of_ble_eq_true rfl) (c113t (by omega) ?_)
                refine n0_eq 14 d127_4 (by decide) (by decide) (fun q => absurd q (by decide)) (fun _ => ?_)
                refine q_iload_n d127_7 rfl ?_
                refine q_s1 d127_8 (Or.inl rfl) rfl (Nat.le_of_ble_eq_true rfl) (c113t (by omega) ?_)
                refine n0_ne 17 d127_11 (by decide) (by decide) (fun _ => ?_) (fun q => absurd q (by decide))
                refine q_aload_n d127_17 rfl ?_
                refine q_getr (c := 7) (f := 6) d127_18 ⟨rfl, rfl⟩ (hS.1.1) (hS.1.2.2.2.2.2.2.2.2.1) ?_
                refine q_iload_n d127_21 rfl ?_
                refine n_aald d127_22 (hS.1.2.2.2.2.2.2.2.2.2.1) (by decide) (by omega) (by decide) ((hS.1.2.2.2.2.2.2.2.2.2.2.1) _ (by omega)) ?_
                refine q_astore d127_23 (by decide) rfl ?_
                refine q_aload_n d127_25 rfl ?_
                refine q_getr (c := 7) (f := 6) d127_26 ⟨rfl, rfl⟩ (hS.1.1) (hS.1.2.2.2.2.2.2.2.2.1) ?_
                refine q_iload_n d127_29 rfl ?_
                refine n_aald d127_30 (hS.1.2.2.2.2.2.2.2.2.2.1) (by decide) (by omega) (by decide) ((hS.1.2.2.2.2.2.2.2.2.2.2.1) _ (by omega)) ?_
                refine q_astore d127_31 (by decide) rfl ?_
                refine q_aload d127_33 rfl ?_
                refine q_getv (c := 4) (f := 0) d127_35 ⟨rfl, by decide⟩ (hS.2.2.2.2.2.2.2.2.2.2.2.1 _ (by omega)).1 (hR.2.2.2 _ (by omega)).1 ?_
                refine q_iconst (x := (-1)) d127_38 rfl ?_
                refine ic_eq 51 d127_39 (by decide) (fun h39 => (False.elim (hs h39))) (fun h39 => ?_)
                refine q_aload d127_42 rfl ?_
                refine q_getv (c := 4) (f := 0) d127_44 ⟨rfl, by decide⟩ (hS.2.2.2.2.2.2.2.2.2.2.2.1 _ (by omega)).1 (hR.2.2.2 _ (by omega)).1 ?_
                refine q_iconst (x := (-1)) d127_47 rfl ?_
                refine ic_ne 54 d127_48 (by decide) (fun h48 => ?_) (fun h48 => (False.elim (ht h48)))
                refine q_aload d127_54 rfl ?_
                refine q_getv (c := 4) (f := 0) d127_56 ⟨rfl, by decide⟩ (hS.2.2.2.2.2.2.2.2.2.2.2.1 _ (by omega)).1 (hR.2.2.2 _ (by omega)).1 ?_
                refine q_aload d127_59 rfl ?_
                refine q_getv (c := 4) (f := 0) d127_61 ⟨rfl, by decide⟩ (hS.2.2.2.2.2.2.2.2.2.2.2.1 _ (by omega)).1 (hR.2.2.2 _ (by omega)).1 ?_
                refine ic_eq 70 d127_64 (by decide) (fun h64 => ?_) (fun h64 => (False.elim (h64 hu)))
                refine q_aload d127_70 rfl ?_
                refine q_iload_n d127_72 rfl ?_
                refine q_iload d127_73 rfl ?_
                refine q_v2 d127_75 rfl rfl (hS.2.2.2.2.2.2.2.2.2.2.2.1 _ (by omega)).1 (Nat.le_of_ble_eq_true rfl) (c128f (hS.2.2.2.2.2.2.2.2.2.2.2.1 h (by omega)) (hR.2.2.2 h (by omega)).2 hzh hp ?_)
                refine n0_eq 93 d127_78 (by decide) (by decide) (fun _ => ?_) (fun q => absurd q (by decide))
                refine q_bipush (x := (-12)) d127_93 rfl ?_
                refine q_iret d127_95 rfl ?_
                exact k _ hR (Fc.refl _)
          · rw [if_pos hu] at k
            refine q_iload_n d127_0 rfl ?_
            refine q_s1 d127_1 (Or.inl rfl) rfl (Nat.le_of_ble_eq_true rfl) (c113t (by omega) ?_)
            refine n0_eq 14 d127_4 (by decide) (by decide) (fun q => absurd q (by decide)) (fun _ => ?_)
            refine q_iload_n d127_7 rfl ?_
            refine q_s1 d127_8 (Or.inl rfl) rfl (Nat.le_of_ble_eq_true rfl) (c113t (by omega) ?_)
            refine n0_ne 17 d127_11 (by decide) (by decide) (fun _ => ?_) (fun q => absurd q (by decide))
            refine q_aload_n d127_17 rfl ?_
            refine q_getr (c := 7) (f := 6) d127_18 ⟨rfl, rfl⟩ (hS.1.1) (hS.1.2.2.2.2.2.2.2.2.1) ?_
            refine q_iload_n d127_21 rfl ?_
            refine n_aald d127_22 (hS.1.2.2.2.2.2.2.2.2.2.1) (by decide) (by omega) (by decide) ((hS.1.2.2.2.2.2.2.2.2.2.2.1) _ (by omega)) ?_
            refine q_astore d127_23 (by decide) rfl ?_
            refine q_aload_n d127_25 rfl ?_
            refine q_getr (c := 7) (f := 6) d127_26 ⟨rfl, rfl⟩ (hS.1.1) (hS.1.2.2.2.2.2.2.2.2.1) ?_
            refine q_iload_n d127_29 rfl ?_
            refine n_aald d127_30 (hS.1.2.2.2.2.2.2.2.2.2.1) (by decide) (by omega) (by decide) ((hS.1.2.2.2.2.2.2.2.2.2.2.1) _ (by omega)) ?_
            refine q_astore d127_31 (by decide) rfl ?_
            refine q_aload d127_33 rfl ?_
            refine q_getv (c := 4) (f := 0) d127_35 ⟨rfl, by decide⟩ (hS.2.2.2.2.2.2.2.2.2.2.2.1 _ (by omega)).1 (hR.2.2.2 _ (by omega)).1 ?_
            refine q_iconst (x := (-1)) d127_38 rfl ?_
            refine ic_eq 51 d127_39 (by decide) (fun h39 => (False.elim (hs h39))) (fun h39 => ?_)
            refine q_aload d127_42 rfl ?_
            refine q_getv (c := 4) (f := 0) d127_44 ⟨rfl, by decide⟩ (hS.2.2.2.2.2.2.2.2.2.2.2.1 _ (by omega)).1 (hR.2.2.2 _ (by omega)).1 ?_
            refine q_iconst (x := (-1)) d127_47 rfl ?_
            refine ic_ne 54 d127_48 (by decide) (fun h48 => ?_) (fun h48 => (False.elim (ht h48)))
            refine q_aload d127_54 rfl ?_
            refine q_getv (c := 4) (f := 0) d127_56 ⟨rfl, by decide⟩ (hS.2.2.2.2.2.2.2.2.2.2.2.1 _ (by omega)).1 (hR.2.2.2 _ (by omega)).1 ?_
            refine q_aload d127_59 rfl ?_
            refine q_getv (c := 4) (f := 0) d127_61 ⟨rfl, by decide⟩ (hS.2.2.2.2.2.2.2.2.2.2.2.1 _ (by omega)).1 (hR.2.2.2 _ (by omega)).1 ?_
            refine ic_eq 70 d127_64 (by decide) (fun h64 => (False.elim (hu h64))) (fun h64 => ?_)
            refine q_bipush (x := (-13)) d127_67 rfl ?_
            refine q_iret d127_69 rfl ?_
            exact k _ hR (Fc.refl _)
    · rw [oz_n eq] at k
      refine q_iload_n d127_0 rfl ?_
      refine q_s1 d127_1 (Or.inl rfl) rfl (Nat.le_of_ble_eq_true rfl) (c113t (by omega) ?_)
      refine n0_eq 14 d127_4 (by decide) (by decide) (fun q => absurd q (by decide)) (fun _ => ?_)
      refine q_iload_n d127_7 rfl ?_
      refine q_s1 d127_8 (Or.inl rfl) rfl (Nat.le_of_ble_eq_true rfl) (c113f eq ?_)
      refine n0_ne 17 d127_11 (by decide) (by decide) (fun q => absurd q (by decide)) (fun _ => ?_)
      refine q_bipush (x := (-2)) d127_14 rfl ?_
      refine q_iret d127_16 rfl ?_
      exact k _ hR (Fc.refl _)
  · rw [oz_n eh] at k
    refine q_iload_n d127_0 rfl ?_
    refine q_s1 d127_1 (Or.inl rfl) rfl (Nat.le_of_ble_eq_true rfl) (c113f eh ?_)
    refine n0_eq 14 d127_4 (by decide) (by decide) (fun _ => ?_) (fun q => absurd q (by decide))
    refine q_bipush (x := (-2)) d127_14 rfl ?_
    refine q_iret d127_16 rfl ?_
    exact k _ hR (Fc.refl _)
theorem d54_0 : decode (zB 54) 0 = .ok (.aload_n 0, 1) := (congrArg (fun c => decode c 0) zeq54).trans (by decide +kernel)
theorem d54_1 : decode (zB 54) 1 = .ok (.iload_n 1, 1) := (congrArg (fun c => decode c 1) zeq54).trans (by decide +kernel)
theorem d54_2 : decode (zB 54) 2 = .ok (.invokevirtual 77, 3) := (congrArg (fun c => decode c 2) zeq54).trans (by decide +kernel)
theorem d54_5 : decode (zB 54) 5 = .ok (.ifCond .eq 19, 3) := (congrArg (fun c => decode c 5) zeq54).trans (by decide +kernel)
theorem d54_8 : decode (zB 54) 8 = .ok (.aload_n 0, 1) := (congrArg (fun c => decode c 8) zeq54).trans (by decide +kernel)
theorem d54_9 : decode (zB 54) 9 = .ok (.getfield 18, 3) := (congrArg (fun c => decode c 9) zeq54).trans (by decide +kernel)
theorem d54_12 : decode (zB 54) 12 = .ok (.iload_n 1, 1) := (congrArg (fun c => decode c 12) zeq54).trans (by decide +kernel)
theorem d54_13 : decode (zB 54) 13 = .ok (.aaload, 1) := (congrArg (fun c => decode c 13) zeq54).trans (by decide +kernel)
theorem d54_14 : decode (zB 54) 14 = .ok (.aload_n 0, 1) := (congrArg (fun c => decode c 14) zeq54).trans (by decide +kernel)
theorem d54_15 : decode (zB 54) 15 = .ok (.getfield 51, 3) := (congrArg (fun c => decode c 15) zeq54).trans (by decide +kernel)
theorem d54_18 : decode (zB 54) 18 = .ok (.invokevirtual 108, 3) := (congrArg (fun c => decode c 18) zeq54).trans (by decide +kernel)
theorem d54_21 : decode (zB 54) 21 = .ok (.goto 6, 3) := (congrArg (fun c => decode c 21) zeq54).trans (by decide +kernel)
theorem d54_24 : decode (zB 54) 24 = .ok (.ldc2_w 112, 3) := (congrArg (fun c => decode c 24) zeq54).trans (by decide +kernel)
theorem d54_27 : decode (zB 54) 27 = .ok (.lreturn, 1) := (congrArg (fun c => decode c 27) zeq54).trans (by decide +kernel)
theorem p54 {d : Nat} {M : zM} {Q : Option Value → zM → Prop} {D : yD} {x : Int32} (hR : RC M D) (hD : OKD D) (k : ∀ M', RC M' D → Fc M M' → Q (some (.long (sOrders D x))) M') : qC (d + 4) 54 [.ref 16, .int x] M Q := by
  refine qC_of (by decide) (Nat.le_of_ble_eq_true rfl) ?_
  have hS := hR.1.1
  have hT := hR.1.2.2.1
  have hO := hR.1.2.2.2.1
  have hRW := hR.1.2.2.2.2
  have hJ : RL M 62 (dL D) := hRW.2.2.2
  have hc6 := hO.1.1
  have h240 := hD.2.1
  have h120 := hR.2.2.1.1
  have hwr := hS.wo (Or.inl ⟨rfl, rfl, rfl, rfl⟩)
  have hwt := hS.wo (Or.inr ⟨rfl, rfl, rfl, rfl⟩)
  have hpr := hS.pu (Or.inl ⟨rfl, rfl, rfl, rfl⟩)
  have hpt := hS.pu (Or.inr ⟨rfl, rfl, rfl, rfl⟩)
  unfold sOrders at k
  rcases zix_c x (n := dc D) (by omega) with ⟨t, ht, rfl, et⟩ | ⟨et, nt⟩
  · rw [oz_s et] at k
    have ho := hO.1.2 _ ht
    have hn := ho.n
    refine q_aload_n d54_0 rfl ?_
    refine q_iload_n d54_1 rfl ?_
    refine q_v1 d54_2 rfl rfl (hS.1.1) (Nat.le_of_ble_eq_true rfl) (c33t hR (by omega) ?_)
    refine n0_eq 24 d54_5 (by decide) (by decide) (fun q => absurd q (by decide)) (fun _ => ?_)
    refine q_aload_n d54_8 rfl ?_
    refine q_getr (c := 7) (f := 1) d54_9 ⟨rfl, rfl⟩ (hS.1.1) (hS.1.2.2.1) ?_
    refine q_iload_n d54_12 rfl ?_
    refine n_aald d54_13 (hS.1.2.2.2.1) (by decide) (by omega) (by decide) ((hS.1.2.2.2.2.1) _ (by omega)) ?_
    refine q_aload_n d54_14 rfl ?_
    refine q_getr (c := 7) (f := 7) d54_15 ⟨rfl, rfl⟩ (hS.1.1) (hS.1.2.2.2.2.2.2.2.2.2.2.2.1) ?_
    refine q_v1 d54_18 rfl rfl (hS.pr (by omega)).1 (Nat.le_of_ble_eq_true rfl) (c55 (hS.pr (by omega)) (hT _ (by omega)) ho (hS.1.2.2.2.2.2.2.2.2.2.2.2.2) (fun M1 f1 => ?_))
    refine q_goto 27 d54_21 (by decide) ?_
    refine q_lret d54_27 rfl ?_
    exact k _ (hR.lng f1) f1.c
  · rw [oz_n et] at k
    refine q_aload_n d54_0 rfl ?_
    refine q_iload_n d54_1 rfl ?_
    refine q_v1 d54_2 rfl rfl (hS.1.1) (Nat.le_of_ble_eq_true rfl) (c33f hR et ?_)
    refine n0_eq 24 d54_5 (by decide) (by decide) (fun _ => ?_) (fun q => absurd q (by decide))
    refine q_ldc2_w d54_24 rfl ?_
    refine q_lret d54_27 rfl ?_
    exact k _ hR (Fc.refl _)
theorem d32_0 : decode (zB 32) 0 = .ok (.aload_n 0, 1) := (congrArg (fun c => decode c 0) zeq32).trans (by decide +kernel)
theorem d32_1 : decode (zB 32) 1 = .ok (.iload_n 1, 1) := (congrArg (fun c => decode c 1) zeq32).trans (by decide +kernel)
theorem d32_2 : decode (zB 32) 2 = .ok (.invokevirtual 77, 3) := (congrArg (fun c => decode c 2) zeq32).trans (by decide +kernel)
theorem d32_5 : decode (zB 32) 5 = .ok (.ifCond .ne 6, 3) := (congrArg (fun c => decode c 5) zeq32).trans (by decide +kernel)
theorem d32_8 : decode (zB 32) 8 = .ok (.bipush (-2), 2) := (congrArg (fun c => decode c 8) zeq32).trans (by decide +kernel)
theorem d32_10 : decode (zB 32) 10 = .ok (.ireturn, 1) := (congrArg (fun c => decode c 10) zeq32).trans (by decide +kernel)
theorem d32_11 : decode (zB 32) 11 = .ok (.aload_n 0, 1) := (congrArg (fun c => decode c 11) zeq32).trans (by decide +kernel)
theorem d32_12 : decode (zB 32) 12 = .ok (.getfield 18, 3) := (congrArg (fun c => decode c 12) zeq32).trans (by decide +kernel)
theorem d32_15 : decode (zB 32) 15 = .ok (.iload_n 1, 1) := (congrArg (fun c => decode c 15) zeq32).trans (by decide +kernel)
theorem d32_16 : decode (zB 32) 16 = .ok (.aaload, 1) := (congrArg (fun c => decode c 16) zeq32).trans (by decide +kernel)
theorem d32_17 : decode (zB 32) 17 = .ok (.astore_n 3, 1) := (congrArg (fun c => decode c 17) zeq32).trans (by decide +kernel)
theorem d32_18 : decode (zB 32) 18 = .ok (.iload_n 2, 1) := (congrArg (fun c => decode c 18) zeq32).trans (by decide +kernel)
theorem d32_19 : decode (zB 32) 19 = .ok (.tableswitch 93 0 5 #[37, 42, 47, 52, 57, 62], 37) := (congrArg (fun c => decode c 19) zeq32).trans (by decide +kernel)
theorem d32_56 : decode (zB 32) 56 = .ok (.aload_n 3, 1) := (congrArg (fun c => decode c 56) zeq32).trans (by decide +kernel)
theorem d32_57 : decode (zB 32) 57 = .ok (.getfield 80, 3) := (congrArg (fun c => decode c 57) zeq32).trans (by decide +kernel)
theorem d32_60 : decode (zB 32) 60 = .ok (.ireturn, 1) := (congrArg (fun c => decode c 60) zeq32).trans (by decide +kernel)
theorem d32_61 : decode (zB 32) 61 = .ok (.aload_n 3, 1) := (congrArg (fun c => decode c 61) zeq32).trans (by decide +kernel)
theorem d32_62 : decode (zB 32) 62 = .ok (.invokevirtual 81, 3) := (congrArg (fun c => decode c 62) zeq32).trans (by decide +kernel)
theorem d32_65 : decode (zB 32) 65 = .ok (.ireturn, 1) := (congrArg (fun c => decode c 65) zeq32).trans (by decide +kernel)
theorem d32_66 : decode (zB 32) 66 = .ok (.aload_n 3, 1) := (congrArg (fun c => decode c 66) zeq32).trans (by decide +kernel)
theorem d32_67 : decode (zB 32) 67 = .ok (.invokevirtual 85, 3) := (congrArg (fun c => decode c 67) zeq32).trans (by decide +kernel)
theorem d32_70 : decode (zB 32) 70 = .ok (.ireturn, 1) := (congrArg (fun c => decode c 70) zeq32).trans (by decide +kernel)
theorem d32_71 : decode (zB 32) 71 = .ok (.aload_n 3, 1) := (congrArg (fun c => decode c 71) zeq32).trans (by decide +kernel)
theorem d32_72 : decode (zB 32) 72 = .ok (.invokevirtual 88, 3) := (congrArg (fun c => decode c 72) zeq32).trans (by decide +kernel)
theorem d32_75 : decode (zB 32) 75 = .ok (.ireturn, 1) := (congrArg (fun c => decode c 75) zeq32).trans (by decide +kernel)
theorem d32_76 : decode (zB 32) 76 = .ok (.aload_n 3, 1) := (congrArg (fun c => decode c 76) zeq32).trans (by decide +kernel)
theorem d32_77 : decode (zB 32) 77 = .ok (.getfield 91, 3) := (congrArg (fun c => decode c 77) zeq32).trans (by decide +kernel)
theorem d32_80 : decode (zB 32) 80 = .ok (.ireturn, 1) := (congrArg (fun c => decode c 80) zeq32).trans (by decide +kernel)
theorem d32_81 : decode (zB 32) 81 = .ok (.aload_n 0, 1) := (congrArg (fun c => decode c 81) zeq32).trans (by decide +kernel)
theorem d32_82 : decode (zB 32) 82 = .ok (.getfield 41, 3) := (congrArg (fun c => decode c 82) zeq32).trans (by decide +kernel)
theorem d32_85 : decode (zB 32) 85 = .ok (.getfield 94, 3) := (congrArg (fun c => decode c 85) zeq32).trans (by decide +kernel)
theorem d32_88 : decode (zB 32) 88 = .ok (.aload_n 0, 1) := (congrArg (fun c => decode c 88) zeq32).trans (by decide +kernel)
theorem d32_89 : decode (zB 32) 89 = .ok (.getfield 37, 3) := (congrArg (fun c => decode c 89) zeq32).trans (by decide +kernel)
theorem d32_92 : decode (zB 32) 92 = .ok (.getfield 94, 3) := (congrArg (fun c => decode c 92) zeq32).trans (by decide +kernel)
theorem d32_95 : decode (zB 32) 95 = .ok (.invokevirtual 98, 3) := (congrArg (fun c => decode c 95) zeq32).trans (by decide +kernel)
theorem d32_98 : decode (zB 32) 98 = .ok (.aload_n 3, 1) := (congrArg (fun c => decode c 98) zeq32).trans (by decide +kernel)
theorem d32_99 : decode (zB 32) 99 = .ok (.aload_n 0, 1) := (congrArg (fun c => decode c 99) zeq32).trans (by decide +kernel)
theorem d32_100 : decode (zB 32) 100 = .ok (.getfield 41, 3) := (congrArg (fun c => decode c 100) zeq32).trans (by decide +kernel)
theorem d32_103 : decode (zB 32) 103 = .ok (.getfield 94, 3) := (congrArg (fun c => decode c 103) zeq32).trans (by decide +kernel)
theorem d32_106 : decode (zB 32) 106 = .ok (.iconst 0, 1) := (congrArg (fun c => decode c 106) zeq32).trans (by decide +kernel)
theorem d32_107 : decode (zB 32) 107 = .ok (.iconst 0, 1) := (congrArg (fun c => decode c 107) zeq32).trans (by decide +kernel)
theorem d32_108 : decode (zB 32) 108 = .ok (.invokestatic 104, 3) := (congrArg (fun c => decode c 108) zeq32).trans (by decide +kernel)
theorem d32_111 : decode (zB 32) 111 = .ok (.ireturn, 1) := (congrArg (fun c => decode c 111) zeq32).trans (by decide +kernel)
theorem d32_112 : decode (zB 32) 112 = .ok (.bipush (-2), 2) := (congrArg (fun c => decode c 112) zeq32).trans (by decide +kernel)
theorem d32_114 : decode (zB 32) 114 = .ok (.ireturn, 1) := (congrArg (fun c => decode c 114) zeq32).trans (by decide +kernel)
theorem p32 {d : Nat} {M : zM} {Q : Option Value → zM → Prop} {D : yD} {x z : Int32} (hR : RC M D) (hD : OKD D) (k : ∀ M', RC M' D → Fc M M' → Q (some (.int (sShape D x z))) M') : qC (d + 17) 32 [.ref 16, .int x, .int z] M Q := by
  refine qC_of (by decide) (Nat.le_of_ble_eq_true rfl) ?_
  have hS := hR.1.1
  have hT := hR.1.2.2.1
  have hO := hR.1.2.2.2.1
  have hRW := hR.1.2.2.2.2
  have hJ : RL M 62 (dL D) := hRW.2.2.2
  have hc6 := hO.1.1
  have h240 := hD.2.1
  have h120 := hR.2.2.1.1
  have hwr := hS.wo (Or.inl ⟨rfl, rfl, rfl, rfl⟩)
  have hwt := hS.wo (Or.inr ⟨rfl, rfl, rfl, rfl⟩)
  have hpr := hS.pu (Or.inl ⟨rfl, rfl, rfl, rfl⟩)
  have hpt := hS.pu (Or.inr ⟨rfl, rfl, rfl, rfl⟩)
  unfold sShape at k
  rcases zix_c x (n := dc D) (by omega) with ⟨t, ht, rfl, et⟩ | ⟨et, nt⟩
  · rw [oz_s et] at k
    have ho := hO.1.2 _ ht
    have hn := ho.n
    rcases zix_c z (n := 6) (by omega) with ⟨w, hw, rfl, ew⟩ | ⟨ew, nw⟩
    · rw [oz_s ew] at k
      rcases (show w = 0 ∨ w = 1 ∨ w = 2 ∨ w = 3 ∨ w = 4 ∨ w = 5 by omega) with rfl | rfl | rfl | rfl | rfl | rfl
      · refine q_aload_n d32_0 rfl ?_
        refine q_iload_n d32_1 rfl ?_
        refine q_v1 d32_2 rfl rfl (hS.1.1) (Nat.le_of_ble_eq_true rfl) (c33t hR (by omega) ?_)
        refine n0_ne 11 d32_5 (by decide) (by decide) (fun _ => ?_) (fun q => absurd q (by decide))
        refine q_aload_n d32_11 rfl ?_
        refine q_getr (c := 7) (f := 1) d32_12 ⟨rfl, rfl⟩ (hS.1.1) (hS.1.2.2.1) ?_
        refine q_iload_n d32_15 rfl ?_
        refine n_aald d32_16 (hS.1.2.2.2.1) (by decide) (by omega) (by decide) ((hS.1.2.2.2.2.1) _ (by omega)) ?_
        refine q_astore_n d32_17 (by decide) rfl ?_
        refine q_iload_n d32_18 rfl ?_
        refine n_tsI (37) 56 d32_19 (by decide) (by decide) rfl (by decide) ?_
        refine q_aload_n d32_56 rfl ?_
        refine q_getv (c := 1) (f := 6) d32_57 ⟨rfl, by decide⟩ (hS.pr (by omega)).1 (hT _ (by omega)).1 ?_
        refine q_iret d32_60 rfl ?_
        exact k _ hR (Fc.refl _)
      · refine q_aload_n d32_0 rfl ?_
        refine q_iload_n d32_1 rfl ?_
        refine q_v1 d32_2 rfl rfl (hS.1.1) (Nat.le_of_ble_eq_true rfl) (c33t hR (by omega) ?_)
        refine n0_ne 11 d32_5 (by decide) (by decide) (fun _ => ?_) (fun q => absurd q (by decide))
        refine q_aload_n d32_11 rfl ?_
        refine q_getr (c := 7) (f := 1) d32_12 ⟨rfl, rfl⟩ (hS.1.1) (hS.1.2.2.1) ?_
        refine q_iload_n d32_15 rfl ?_
        refine n_aald d32_16 (hS.1.2.2.2.1) (by decide) (by omega) (by decide) ((hS.1.2.2.2.2.1) _ (by omega)) ?_
        refine q_astore_n d32_17 (by decide) rfl ?_
        refine q_iload_n d32_18 rfl ?_
        refine n_tsI (42) 61 d32_19 (by decide) (by decide) rfl (by decide) ?_
        refine q_aload_n d32_61 rfl ?_
        refine q_v0 d32_62 rfl rfl (hS.pr (by omega)).1 (Nat.le_of_ble_eq_true rfl) (c34 (hS.pr (show t < 6 by omega)) (hT t ht) ho (fun M1 f1 => ?_))
        refine q_iret d32_65 rfl ?_
        exact k _ (hR.fr2 (f1.sc hS (fun a q ha e => by omega)) (fun i hi => RP_fr (hT i hi) f1.fr (fun b q a1 a2 e => by omega)) f1.fr ⟨fun q e => by omega, fun e => by omega, fun q e => by omega, fun a q a1 a2 e => by omega, fun a q a1 a2 e => by omega⟩) (f1.fr.c (fun a q ha e => by omega))
      · refine q_aload_n d32_0 rfl ?_
        refine q_iload_n d32_1 rfl ?_
        refine q_v1 d32_2 rfl rfl (hS.1.1) (Nat.le_of_ble_eq_true rfl) (c33t hR (by omega) ?_)
        refine n0_ne 11 d32_5 (by decide) (by decide) (fun _ => ?_) (fun q => absurd q (by decide))
        refine q_aload_n d32_11 rfl ?_
        refine q_getr (c := 7) (f := 1) d32_12 ⟨rfl, rfl⟩ (hS.1.1) (hS.1.2.2.1) ?_
        refine q_iload_n d32_15 rfl ?_
        refine n_aald d32_16 (hS.1.2.2.2.1) (by decide) (by omega) (by decide) ((hS.1.2.2.2.2.1) _ (by omega)) ?_
        refine q_astore_n d32_17 (by decide) rfl ?_
        refine q_iload_n d32_18 rfl ?_
        refine n_tsI (47) 66 d32_19 (by decide) (by decide) rfl (by decide) ?_
        refine q_aload_n d32_66 rfl ?_
        refine q_v0 d32_67 rfl rfl (hS.pr (by omega)).1 (Nat.le_of_ble_eq_true rfl) (c36 (hS.pr (show t < 6 by omega)) (hT t ht) ho ?_)
        refine q_iret d32_70 rfl ?_
        exact k _ hR (Fc.refl _)
      · refine q_aload_n d32_0 rfl ?_
        refine q_iload_n d32_1 rfl ?_
        refine q_v1 d32_2 rfl rfl (hS.1.1) (Nat.le_of_ble_eq_true rfl) (c33t hR (by omega) ?_)
        refine n0_ne 11 d32_5 (by decide) (by decide) (fun _ => ?_) (fun q => absurd q (by decide))
        refine q_aload_n d32_11 rfl ?_
        refine q_getr (c := 7) (f := 1) d32_12 ⟨rfl, rfl⟩ (hS.1.1) (hS.1.2.2.1) ?_
        refine q_iload_n d32_15 rfl ?_
        refine n_aald d32_16 (hS.1.2.2.2.1) (by decide) (by omega) (by decide) ((hS.1.2.2.2.2.1) _ (by omega)) ?_
        refine q_astore_n d32_17 (by decide) rfl ?_
        refine q_iload_n d32_18 rfl ?_
        refine n_tsI (52) 71 d32_19 (by decide) (by decide) rfl (by decide) ?_
        refine q_aload_n d32_71 rfl ?_
        refine q_v0 d32_72 rfl rfl (hS.pr (by omega)).1 (Nat.le_of_ble_eq_true rfl) (c40 (hS.pr (show t < 6 by omega)) (hT t ht) ho ?_)
        refine q_iret d32_75 rfl ?_
        exact k _ hR (Fc.refl _)
      · refine q_aload_n d32_0 rfl ?_
        refine q_iload_n d32_1 rfl ?_
        refine q_v1 d32_2 rfl rfl (hS.1.1) (Nat.le_of_ble_eq_true rfl) (c33t hR (by omega) ?_)
        refine n0_ne 11 d32_5 (by decide) (by decide) (fun _ => ?_) (fun q => absurd q (by decide))
        refine q_aload_n d32_11 rfl ?_
        refine q_getr (c := 7) (f := 1) d32_12 ⟨rfl, rfl⟩ (hS.1.1) (hS.1.2.2.1) ?_
        refine q_iload_n d32_15 rfl ?_
        refine n_aald d32_16 (hS.1.2.2.2.1) (by decide) (by omega) (by decide) ((hS.1.2.2.2.2.1) _ (by omega)) ?_
        refine q_astore_n d32_17 (by decide) rfl ?_
        refine q_iload_n d32_18 rfl ?_
        refine n_tsI (57) 76 d32_19 (by decide) (by decide) rfl (by decide) ?_
        refine q_aload_n d32_76 rfl ?_
        refine q_getv (c := 1) (f := 7) d32_77 ⟨rfl, by decide⟩ (hS.pr (by omega)).1 (hT _ (by omega)).2.1 ?_
        refine q_iret d32_80 rfl ?_
        exact k _ hR (Fc.refl _)
      · refine q_aload_n d32_0 rfl ?_
        refine q_iload_n d32_1 rfl ?_
        refine q_v1 d32_2 rfl rfl (hS.1.1) (Nat.le_of_ble_eq_true rfl) (c33t hR (by omega) ?_)
        refine n0_ne 11 d32_5 (by decide) (by decide) (fun _ => ?_) (fun q => absurd q (by decide))
        refine q_aload_n d32_11 rfl ?_
        refine q_getr (c := 7) (f := 1) d32_12 ⟨rfl, rfl⟩ (hS.1.1) (hS.1.2.2.1) ?_
        refine q_iload_n d32_15 rfl ?_
        refine n_aald d32_16 (hS.1.2.2.2.1) (by decide) (by omega) (by decide) ((hS.1.2.2.2.2.1) _ (by omega)) ?_
        refine q_astore_n d32_17 (by decide) rfl ?_
        refine q_iload_n d32_18 rfl ?_
        refine n_tsI (62) 81 d32_19 (by decide) (by decide) rfl (by decide) ?_
        refine q_aload_n d32_81 rfl ?_
        refine q_getr (c := 7) (f := 5) d32_82 ⟨rfl, rfl⟩ (hS.1.1) (hS.1.2.2.2.2.2.2.2.1) ?_
        refine q_getr (c := 6) (f := 2) d32_85 ⟨rfl, rfl⟩ hwt.1 hwt.2.2.2.1 ?_
        refine q_aload_n d32_88 rfl ?_
        refine q_getr (c := 7) (f := 4) d32_89 ⟨rfl, rfl⟩ (hS.1.1) (hS.1.2.2.2.2.2.2.1) ?_
        refine q_getr (c := 6) (f := 2) d32_92 ⟨rfl, rfl⟩ hwr.1 hwr.2.2.2.1 ?_
        refine q_v1 d32_95 rfl rfl hpt.1 (Nat.le_of_ble_eq_true rfl) (c42 hpt hpr hRW.1 (by omega) (fun M1 hP1 f1 => ?_))
        have hS1 := f1.sc hS (fun a q ha e => by have := e.1; omega)
        have hwt1 := hS1.wo (Or.inr ⟨rfl, rfl, rfl, rfl⟩)
        refine q_aload_n d32_98 rfl ?_
        refine q_aload_n d32_99 rfl ?_
        refine q_getr (c := 7) (f := 5) d32_100 ⟨rfl, rfl⟩ hS1.1.1 hS1.1.2.2.2.2.2.2.2.1 ?_
        refine q_getr (c := 6) (f := 2) d32_103 ⟨rfl, rfl⟩ hwt1.1 hwt1.2.2.2.1 ?_
        refine q_iconstN (z := 0) d32_106 ?_
        refine q_iconstN (z := 0) d32_107 ?_
        refine q_s4 d32_108 (Or.inl rfl) rfl (Nat.le_of_ble_eq_true rfl) (qC_up (c43 (d := d) ho (by omega) (tn (dT D t)) 0 0 _ _ (by omega) (by omega) (SPu_fi hpt f1) hP1 (SPr_fi (hS.pr (show t < 6 by omega)) f1) (RP_fr (hT t ht) f1.fr (fun b q a1 a2 e => by have := e.1; omega)) (fun M2 P2 e2 hP2 f2 => ?_)) (by omega))
        refine q_iret d32_111 rfl ?_
        have f12 := f1.trans f2
        exact k _ (hR.fr (f12.sc hS (fun a q ha e => by have := e.1; omega)) f12.fr ⟨fun q e => by have := e.1; omega, fun e => by have := e.1; omega, fun a q a1 a2 e => by have := e.1; omega, fun a q a1 a2 e => by have := e.1; have := e.2; omega⟩) (f12.fr.c (fun a q ha e => by have := e.1; have := e.2; omega))
    · rw [oz_n ew] at k
      refine q_aload_n d32_0 rfl ?_
      refine q_iload_n d32_1 rfl ?_
      refine q_v1 d32_2 rfl rfl (hS.1.1) (Nat.le_of_ble_eq_true rfl) (c33t hR (by omega) ?_)
      refine n0_ne 11 d32_5 (by decide) (by decide) (fun _ => ?_) (fun q => absurd q (by decide))
      refine q_aload_n d32_11 rfl ?_
      refine q_getr (c := 7) (f := 1) d32_12 ⟨rfl, rfl⟩ (hS.1.1) (hS.1.2.2.1) ?_
      refine q_iload_n d32_15 rfl ?_
      refine n_aald d32_16 (hS.1.2.2.2.1) (by decide) (by omega) (by decide) ((hS.1.2.2.2.2.1) _ (by omega)) ?_
      refine q_astore_n d32_17 (by decide) rfl ?_
      refine q_iload_n d32_18 rfl ?_
      refine q_tsO 112 d32_19 (zix_sw ew) (by decide) ?_
      refine q_bipush (x := (-2)) d32_112 rfl ?_
      refine q_iret d32_114 rfl ?_
      exact k _ hR (Fc.refl _)
  · rw [oz_n et] at k
    refine q_aload_n d32_0 rfl ?_
    refine q_iload_n d32_1 rfl ?_
    refine q_v1 d32_2 rfl rfl (hS.1.1) (Nat.le_of_ble_eq_true rfl) (c33f hR et ?_)
    refine n0_ne 11 d32_5 (by decide) (by decide) (fun q => absurd q (by decide)) (fun _ => ?_)
    refine q_bipush (x := (-2)) d32_8 rfl ?_
    refine q_iret d32_10 rfl ?_
    exact k _ hR (Fc.refl _)
