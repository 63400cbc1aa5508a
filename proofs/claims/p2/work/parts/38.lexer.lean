/-! ===== contracts: tokens ===== -/
/-- tokens: what it is (0 the end, 1 a word, 2 a number, 3 none, else the sign), where it begins, where it ends -/
def lsk (n : Nat) (b : Nat → Nat) : Nat → Nat → Nat
  | 0, p => p
  | r + 1, p => if p < n ∧ (b p = 32 ∨ b p = 10) then lsk n b r (p + 1) else p
def lrn (n : Nat) (b : Nat → Nat) (lo hi : Nat) : Nat → Nat → Nat
  | 0, p => p
  | r + 1, p => if p < n ∧ lo ≤ b p ∧ b p ≤ hi then lrn n b lo hi r (p + 1) else p
abbrev yK : Type := Nat × Nat × Nat
def ysg (c : Nat) : Bool := c == 59 || c == 123 || c == 124 || c == 125 || c == 33
theorem ysg_t {c : Nat} (h : c = 59 ∨ c = 123 ∨ c = 124 ∨ c = 125 ∨ c = 33) : ysg c = true := by
  rcases h with rfl | rfl | rfl | rfl | rfl <;> rfl
theorem ysg_f {c : Nat} (h : c ≠ 59 ∧ c ≠ 123 ∧ c ≠ 124 ∧ c ≠ 125 ∧ c ≠ 33) : ¬ ysg c = true := by
  intro q
  unfold ysg at q
  simp only [Bool.or_eq_true, beq_iff_eq] at q
  omega
def ltk (n : Nat) (b : Nat → Nat) (p : Nat) : yK :=
  let q := lsk n b 120 p
  if n ≤ q then (0, q, q)
  else if 97 ≤ b q ∧ b q ≤ 122 then (1, q, lrn n b 97 122 120 q)
  else if 48 ≤ b q ∧ b q ≤ 57 then (if lrn n b 48 57 120 q - q ≤ 3 then 2 else 3, q, lrn n b 48 57 120 q)
  else (if ysg (b q) then b q else 3, q, q + 1)
theorem lsk_ge {n : Nat} {b : Nat → Nat} : ∀ r p, p ≤ lsk n b r p ∧ (p ≤ n → lsk n b r p ≤ n)
  | 0, p => ⟨Nat.le_refl _, fun h => h⟩
  | r + 1, p => by
    rw [lsk]
    split
    · rename_i h
      have := lsk_ge (n := n) (b := b) r (p + 1)
      exact ⟨by omega, fun _ => this.2 (by omega)⟩
    · exact ⟨Nat.le_refl _, fun h => h⟩
theorem lrn_ge {n : Nat} {b : Nat → Nat} {lo hi : Nat} : ∀ r p, p ≤ lrn n b lo hi r p ∧ (p ≤ n → lrn n b lo hi r p ≤ n)
  | 0, p => ⟨Nat.le_refl _, fun h => h⟩
  | r + 1, p => by
    rw [lrn]
    split
    · rename_i h
      have := lrn_ge (n := n) (b := b) (lo := lo) (hi := hi) r (p + 1)
      exact ⟨by omega, fun _ => this.2 (by omega)⟩
    · exact ⟨Nat.le_refl _, fun h => h⟩
theorem lrn_gt {n : Nat} {b : Nat → Nat} {lo hi p : Nat} (h : p < n) (h1 : lo ≤ b p) (h2 : b p ≤ hi) : p < lrn n b lo hi 120 p := by
  have := (lrn_ge (n := n) (b := b) (lo := lo) (hi := hi) 119 (p + 1)).1
  rw [show (120 : Nat) = 119 + 1 from rfl, lrn, if_pos ⟨h, h1, h2⟩]
  omega
/-- where tokens lie -/
def yKo (n : Nat) (k : yK) : Prop := k.2.1 ≤ k.2.2 ∧ k.2.2 ≤ n ∧ k.1 < 256 ∧ (k.1 ≠ 0 → k.2.1 < k.2.2)
theorem ltk_ok {n p : Nat} {b : Nat → Nat} (hp : p ≤ n) (hb : ∀ k, k < n → b k < 256) : yKo n (ltk n b p) ∧ p ≤ (ltk n b p).2.1 := by
  have h1 := lsk_ge (n := n) (b := b) 120 p
  have hq : p ≤ lsk n b 120 p := h1.1
  have hqn : lsk n b 120 p ≤ n := h1.2 hp
  unfold ltk
  simp only []
  generalize lsk n b 120 p = q at hq hqn ⊢
  by_cases c1 : n ≤ q
  · rw [if_pos c1]; exact ⟨⟨Nat.le_refl _, hqn, by show 0 < 256; omega, fun h => absurd rfl h⟩, hq⟩
  · rw [if_neg c1]
    by_cases c2 : 97 ≤ b q ∧ b q ≤ 122
    · rw [if_pos c2]
      have h2 := lrn_ge (n := n) (b := b) (lo := 97) (hi := 122) 120 q
      exact ⟨⟨h2.1, h2.2 hqn, by show 1 < 256; omega, fun _ => lrn_gt (p := q) (by omega) c2.1 c2.2⟩, hq⟩
    · rw [if_neg c2]
      by_cases c3 : 48 ≤ b q ∧ b q ≤ 57
      · rw [if_pos c3]
        have h2 := lrn_ge (n := n) (b := b) (lo := 48) (hi := 57) 120 q
        exact ⟨⟨h2.1, h2.2 hqn, by show (if _ then 2 else 3) < 256; split <;> omega, fun _ => lrn_gt (p := q) (by omega) c3.1 c3.2⟩, hq⟩
      · rw [if_neg c3]
        exact ⟨⟨Nat.le_succ _, by show q + 1 ≤ n; omega, by show (if _ then b q else 3) < 256; have := hb q (by omega); split <;> omega, fun _ => Nat.lt_succ_self _⟩, hq⟩
/-- the tape's cells, the token's -/
def RTp (M : zM) (n : Nat) (b : Nat → Nat) : Prop := n ≤ 120 ∧ zi M 17 1 = nI n ∧ ∀ k, k < n → zi M 18 k = nI (b k) ∧ b k < 256
def RK (M : zM) (k : yK) : Prop := zi M 17 3 = nI k.1 ∧ zi M 17 4 = nI k.2.1 ∧ zi M 17 2 = nI k.2.2
theorem RTp_fi {M M' : zM} {S : Nat → Nat → Prop} {n : Nat} {b : Nat → Nat} (h : RTp M n b) (f : Fr S M M') (hs : ¬ S 17 1 ∧ ∀ k, ¬ S 18 k) : RTp M' n b :=
  ⟨h.1, (f.i hs.1).trans h.2.1, fun k hk => ⟨(f.i (hs.2 k)).trans (h.2.2 k hk).1, (h.2.2 k hk).2⟩⟩
theorem RK_fi {M M' : zM} {S : Nat → Nat → Prop} {k : yK} (h : RK M k) (f : Fr S M M') (hs : ¬ S 17 2 ∧ ¬ S 17 3 ∧ ¬ S 17 4) : RK M' k := ⟨(f.i hs.2.1).trans h.1, (f.i hs.2.2).trans h.2.1, (f.i hs.1).trans h.2.2⟩
def SRd_fi {M M' : zM} {S : Nat → Nat → Prop} (h : SRd M) (f : Fi S M M') : SRd M' := ⟨(f.k _).trans h.1, (f.r _ _).trans h.2.1, (f.k _).trans h.2.2⟩
def FP : Nat → Nat → Prop := fun a k => a = 17 ∧ k = 2
theorem FP_t : ¬ FP 17 1 ∧ ∀ k, ¬ FP 18 k := ⟨by unfold FP; omega, fun k => by unfold FP; omega⟩
def FK : Nat → Nat → Prop := fun a k => a = 17 ∧ (k = 2 ∨ k = 3 ∨ k = 4)
theorem d17_0 : decode (zB 17) 0 = .ok (.aload_n 0, 1) := by decide +kernel
theorem d17_1 : decode (zB 17) 1 = .ok (.getfield 28, 3) := by decide +kernel
theorem d17_4 : decode (zB 17) 4 = .ok (.aload_n 0, 1) := by decide +kernel
theorem d17_5 : decode (zB 17) 5 = .ok (.getfield 15, 3) := by decide +kernel
theorem d17_8 : decode (zB 17) 8 = .ok (.if_icmp .ge 42, 3) := by decide +kernel
theorem d17_11 : decode (zB 17) 11 = .ok (.aload_n 0, 1) := by decide +kernel
theorem d17_12 : decode (zB 17) 12 = .ok (.getfield 9, 3) := by decide +kernel
theorem d17_15 : decode (zB 17) 15 = .ok (.aload_n 0, 1) := by decide +kernel
theorem d17_16 : decode (zB 17) 16 = .ok (.getfield 28, 3) := by decide +kernel
theorem d17_19 : decode (zB 17) 19 = .ok (.iaload, 1) := by decide +kernel
theorem d17_20 : decode (zB 17) 20 = .ok (.iload_n 1, 1) := by decide +kernel
theorem d17_21 : decode (zB 17) 21 = .ok (.if_icmp .lt 29, 3) := by decide +kernel
theorem d17_24 : decode (zB 17) 24 = .ok (.aload_n 0, 1) := by decide +kernel
theorem d17_25 : decode (zB 17) 25 = .ok (.getfield 9, 3) := by decide +kernel
theorem d17_28 : decode (zB 17) 28 = .ok (.aload_n 0, 1) := by decide +kernel
theorem d17_29 : decode (zB 17) 29 = .ok (.getfield 28, 3) := by decide +kernel
theorem d17_32 : decode (zB 17) 32 = .ok (.iaload, 1) := by decide +kernel
theorem d17_33 : decode (zB 17) 33 = .ok (.iload_n 2, 1) := by decide +kernel
theorem d17_34 : decode (zB 17) 34 = .ok (.if_icmp .gt 16, 3) := by decide +kernel
theorem d17_37 : decode (zB 17) 37 = .ok (.aload_n 0, 1) := by decide +kernel
theorem d17_38 : decode (zB 17) 38 = .ok (.dup, 1) := by decide +kernel
theorem d17_39 : decode (zB 17) 39 = .ok (.getfield 28, 3) := by decide +kernel
theorem d17_42 : decode (zB 17) 42 = .ok (.iconst 1, 1) := by decide +kernel
theorem d17_43 : decode (zB 17) 43 = .ok (.iadd, 1) := by decide +kernel
theorem d17_44 : decode (zB 17) 44 = .ok (.putfield 28, 3) := by decide +kernel
theorem d17_47 : decode (zB 17) 47 = .ok (.goto (-47), 3) := by decide +kernel
theorem d17_50 : decode (zB 17) 50 = .ok (.return_, 1) := by decide +kernel
theorem l17 {d : Nat} {Q : Option Value → zM → Prop} {n : Nat} {b : Nat → Nat} {M0 : zM} {lo hi : Nat} (hlo : lo < 1000) (hhi : hi < 1000) (hs : SRd M0) (ht : RTp M0 n b) : ∀ (r p : Nat) (M1 : zM), n ≤ p + r → zi M1 17 2 = nI p → Fi FP M0 M1 → (∀ M', zi M' 17 2 = nI (lrn n b lo hi r p) → Fi FP M0 M' → qW (zEv (d + 0)) 17 Q 50 [(0, .ref 17), (1, .int (nI lo)), (2, .int (nI hi))] [] M') → p ≤ n → qW (zEv (d + 0)) 17 Q 0 [(0, .ref 17), (1, .int (nI lo)), (2, .int (nI hi))] [] M1 := by
  intro r
  induction r with
  | zero =>
    intro p M1 h1 hp hF k hpn
    have h120 := ht.1
    refine q_aload_n d17_0 rfl ?_
    refine q_getv (c := 3) (f := 2) d17_1 ⟨rfl, by decide⟩ (SRd_fi hs hF).1 hp ?_
    refine q_aload_n d17_4 rfl ?_
    refine q_getv (c := 3) (f := 1) d17_5 ⟨rfl, by decide⟩ (SRd_fi hs hF).1 (RTp_fi ht hF.fr FP_t).2.1 ?_
    refine nc_ge 50 d17_8 (by decide) (by omega) (by omega) (fun h8 => ?_) (fun h8 => (False.elim (by omega)))
    exact k _ hp hF
  | succ r ih =>
    intro p M1 h1 hp hF k hpn
    have h120 := ht.1
    refine q_aload_n d17_0 rfl ?_
    refine q_getv (c := 3) (f := 2) d17_1 ⟨rfl, by decide⟩ (SRd_fi hs hF).1 hp ?_
    refine q_aload_n d17_4 rfl ?_
    refine q_getv (c := 3) (f := 1) d17_5 ⟨rfl, by decide⟩ (SRd_fi hs hF).1 (RTp_fi ht hF.fr FP_t).2.1 ?_
    refine nc_ge 50 d17_8 (by decide) (by omega) (by omega) (fun h8 => ?_) (fun h8 => ?_)
    · rw [lrn, if_neg (fun q => by omega)] at k
      exact k _ hp hF
    · have hb := (ht.2.2 p (by omega)).2
      refine q_aload_n d17_11 rfl ?_
      refine q_getr (c := 3) (f := 0) d17_12 ⟨rfl, rfl⟩ (SRd_fi hs hF).1 (SRd_fi hs hF).2.1 ?_
      refine q_aload_n d17_15 rfl ?_
      refine q_getv (c := 3) (f := 2) d17_16 ⟨rfl, by decide⟩ (SRd_fi hs hF).1 hp ?_
      refine n_iald d17_19 (SRd_fi hs hF).2.2 (by omega) (by decide) ((RTp_fi ht hF.fr FP_t).2.2 _ (by omega)).1 ?_
      refine q_iload_n d17_20 rfl ?_
      refine nc_lt 50 d17_21 (by decide) (by omega) (by omega) (fun h21 => ?_) (fun h21 => ?_)
      · rw [lrn, if_neg (fun q => by omega)] at k
        exact k _ hp hF
      · refine q_aload_n d17_24 rfl ?_
        refine q_getr (c := 3) (f := 0) d17_25 ⟨rfl, rfl⟩ (SRd_fi hs hF).1 (SRd_fi hs hF).2.1 ?_
        refine q_aload_n d17_28 rfl ?_
        refine q_getv (c := 3) (f := 2) d17_29 ⟨rfl, by decide⟩ (SRd_fi hs hF).1 hp ?_
        refine n_iald d17_32 (SRd_fi hs hF).2.2 (by omega) (by decide) ((RTp_fi ht hF.fr FP_t).2.2 _ (by omega)).1 ?_
        refine q_iload_n d17_33 rfl ?_
        refine nc_gt 50 d17_34 (by decide) (by omega) (by omega) (fun h34 => ?_) (fun h34 => ?_)
        · rw [lrn, if_neg (fun q => by omega)] at k
          exact k _ hp hF
        · refine q_aload_n d17_37 rfl ?_
          refine q_dup d17_38 rfl ?_
          refine q_getv (c := 3) (f := 2) d17_39 ⟨rfl, by decide⟩ (SRd_fi hs hF).1 hp ?_
          refine q_iconstN (z := 1) d17_42 ?_
          refine n_iadd d17_43 ?_
          refine q_puti (c := 3) (f := 2) d17_44 ⟨rfl, rfl, by decide⟩ (SRd_fi hs hF).1 ?_
          refine q_goto 0 d17_47 (by decide) ?_
          exact ih (p + 1) _ (by omega) (wi_s _ _ _ _) (hF.wi ⟨rfl, rfl⟩) (by rw [lrn, if_pos ⟨h8, h21, h34⟩] at k; exact k) (by omega)
theorem c17 {d : Nat} {M : zM} {Q : Option Value → zM → Prop} {n : Nat} {b : Nat → Nat} {p lo hi : Nat} (hs : SRd M) (ht : RTp M n b) (hlo : lo < 1000) (hhi : hi < 1000) (hp : zi M 17 2 = nI p) (hpn : p ≤ n) (k : ∀ M', zi M' 17 2 = nI (lrn n b lo hi 120 p) → Fi FP M M' → Q none M') : qC (d + 1) 17 [.ref 17, .int (nI lo), .int (nI hi)] M Q := by
  refine qC_of (by decide) (Nat.le_of_ble_eq_true rfl) ?_
  exact l17 hlo hhi hs ht 120 p M (by have := ht.1; omega) hp (Fi.refl _ _) (fun M1 hp1 f1 => q_ret d17_50 rfl (k _ hp1 f1)) hpn
theorem d16_0 : decode (zB 16) 0 = .ok (.aload_n 0, 1) := by decide +kernel
theorem d16_1 : decode (zB 16) 1 = .ok (.getfield 28, 3) := by decide +kernel
theorem d16_4 : decode (zB 16) 4 = .ok (.aload_n 0, 1) := by decide +kernel
theorem d16_5 : decode (zB 16) 5 = .ok (.getfield 15, 3) := by decide +kernel
theorem d16_8 : decode (zB 16) 8 = .ok (.if_icmp .ge 44, 3) := by decide +kernel
theorem d16_11 : decode (zB 16) 11 = .ok (.aload_n 0, 1) := by decide +kernel
theorem d16_12 : decode (zB 16) 12 = .ok (.getfield 9, 3) := by decide +kernel
theorem d16_15 : decode (zB 16) 15 = .ok (.aload_n 0, 1) := by decide +kernel
theorem d16_16 : decode (zB 16) 16 = .ok (.getfield 28, 3) := by decide +kernel
theorem d16_19 : decode (zB 16) 19 = .ok (.iaload, 1) := by decide +kernel
theorem d16_20 : decode (zB 16) 20 = .ok (.bipush 32, 2) := by decide +kernel
theorem d16_22 : decode (zB 16) 22 = .ok (.if_icmp .eq 17, 3) := by decide +kernel
theorem d16_25 : decode (zB 16) 25 = .ok (.aload_n 0, 1) := by decide +kernel
theorem d16_26 : decode (zB 16) 26 = .ok (.getfield 9, 3) := by decide +kernel
theorem d16_29 : decode (zB 16) 29 = .ok (.aload_n 0, 1) := by decide +kernel
theorem d16_30 : decode (zB 16) 30 = .ok (.getfield 28, 3) := by decide +kernel
theorem d16_33 : decode (zB 16) 33 = .ok (.iaload, 1) := by decide +kernel
theorem d16_34 : decode (zB 16) 34 = .ok (.bipush 10, 2) := by decide +kernel
theorem d16_36 : decode (zB 16) 36 = .ok (.if_icmp .ne 16, 3) := by decide +kernel
theorem d16_39 : decode (zB 16) 39 = .ok (.aload_n 0, 1) := by decide +kernel
theorem d16_40 : decode (zB 16) 40 = .ok (.dup, 1) := by decide +kernel
theorem d16_41 : decode (zB 16) 41 = .ok (.getfield 28, 3) := by decide +kernel
theorem d16_44 : decode (zB 16) 44 = .ok (.iconst 1, 1) := by decide +kernel
theorem d16_45 : decode (zB 16) 45 = .ok (.iadd, 1) := by decide +kernel
theorem d16_46 : decode (zB 16) 46 = .ok (.putfield 28, 3) := by decide +kernel
theorem d16_49 : decode (zB 16) 49 = .ok (.goto (-49), 3) := by decide +kernel
theorem d16_52 : decode (zB 16) 52 = .ok (.aload_n 0, 1) := by decide +kernel
theorem d16_53 : decode (zB 16) 53 = .ok (.aload_n 0, 1) := by decide +kernel
theorem d16_54 : decode (zB 16) 54 = .ok (.getfield 28, 3) := by decide +kernel
theorem d16_57 : decode (zB 16) 57 = .ok (.putfield 48, 3) := by decide +kernel
theorem d16_60 : decode (zB 16) 60 = .ok (.aload_n 0, 1) := by decide +kernel
theorem d16_61 : decode (zB 16) 61 = .ok (.getfield 28, 3) := by decide +kernel
theorem d16_64 : decode (zB 16) 64 = .ok (.aload_n 0, 1) := by decide +kernel
theorem d16_65 : decode (zB 16) 65 = .ok (.getfield 15, 3) := by decide +kernel
theorem d16_68 : decode (zB 16) 68 = .ok (.if_icmp .lt 9, 3) := by decide +kernel
theorem d16_71 : decode (zB 16) 71 = .ok (.aload_n 0, 1) := by decide +kernel
theorem d16_72 : decode (zB 16) 72 = .ok (.iconst 0, 1) := by decide +kernel
theorem d16_73 : decode (zB 16) 73 = .ok (.putfield 41, 3) := by decide +kernel
theorem d16_76 : decode (zB 16) 76 = .ok (.return_, 1) := by decide +kernel
theorem d16_77 : decode (zB 16) 77 = .ok (.aload_n 0, 1) := by decide +kernel
theorem d16_78 : decode (zB 16) 78 = .ok (.getfield 9, 3) := by decide +kernel
theorem d16_81 : decode (zB 16) 81 = .ok (.aload_n 0, 1) := by decide +kernel
theorem d16_82 : decode (zB 16) 82 = .ok (.getfield 28, 3) := by decide +kernel
theorem d16_85 : decode (zB 16) 85 = .ok (.iaload, 1) := by decide +kernel
theorem d16_86 : decode (zB 16) 86 = .ok (.istore_n 1, 1) := by decide +kernel
theorem d16_87 : decode (zB 16) 87 = .ok (.iload_n 1, 1) := by decide +kernel
theorem d16_88 : decode (zB 16) 88 = .ok (.bipush 97, 2) := by decide +kernel
theorem d16_90 : decode (zB 16) 90 = .ok (.bipush 122, 2) := by decide +kernel
theorem d16_92 : decode (zB 16) 92 = .ok (.invokestatic 51, 3) := by decide +kernel
theorem d16_95 : decode (zB 16) 95 = .ok (.ifCond .eq 19, 3) := by decide +kernel
theorem d16_98 : decode (zB 16) 98 = .ok (.aload_n 0, 1) := by decide +kernel
theorem d16_99 : decode (zB 16) 99 = .ok (.bipush 97, 2) := by decide +kernel
theorem d16_101 : decode (zB 16) 101 = .ok (.bipush 122, 2) := by decide +kernel
theorem d16_103 : decode (zB 16) 103 = .ok (.invokevirtual 55, 3) := by decide +kernel
theorem d16_106 : decode (zB 16) 106 = .ok (.aload_n 0, 1) := by decide +kernel
theorem d16_107 : decode (zB 16) 107 = .ok (.iconst 1, 1) := by decide +kernel
theorem d16_108 : decode (zB 16) 108 = .ok (.putfield 41, 3) := by decide +kernel
theorem d16_111 : decode (zB 16) 111 = .ok (.goto 96, 3) := by decide +kernel
theorem d16_114 : decode (zB 16) 114 = .ok (.iload_n 1, 1) := by decide +kernel
theorem d16_115 : decode (zB 16) 115 = .ok (.bipush 48, 2) := by decide +kernel
theorem d16_117 : decode (zB 16) 117 = .ok (.bipush 57, 2) := by decide +kernel
theorem d16_119 : decode (zB 16) 119 = .ok (.invokestatic 51, 3) := by decide +kernel
theorem d16_122 : decode (zB 16) 122 = .ok (.ifCond .eq 36, 3) := by decide +kernel
theorem d16_125 : decode (zB 16) 125 = .ok (.aload_n 0, 1) := by decide +kernel
theorem d16_126 : decode (zB 16) 126 = .ok (.bipush 48, 2) := by decide +kernel
theorem d16_128 : decode (zB 16) 128 = .ok (.bipush 57, 2) := by decide +kernel
theorem d16_130 : decode (zB 16) 130 = .ok (.invokevirtual 55, 3) := by decide +kernel
theorem d16_133 : decode (zB 16) 133 = .ok (.aload_n 0, 1) := by decide +kernel
theorem d16_134 : decode (zB 16) 134 = .ok (.aload_n 0, 1) := by decide +kernel
theorem d16_135 : decode (zB 16) 135 = .ok (.getfield 28, 3) := by decide +kernel
theorem d16_138 : decode (zB 16) 138 = .ok (.aload_n 0, 1) := by decide +kernel
theorem d16_139 : decode (zB 16) 139 = .ok (.getfield 48, 3) := by decide +kernel
theorem d16_142 : decode (zB 16) 142 = .ok (.isub, 1) := by decide +kernel
theorem d16_143 : decode (zB 16) 143 = .ok (.iconst 3, 1) := by decide +kernel
theorem d16_144 : decode (zB 16) 144 = .ok (.if_icmp .le 7, 3) := by decide +kernel
theorem d16_147 : decode (zB 16) 147 = .ok (.iconst 3, 1) := by decide +kernel
theorem d16_148 : decode (zB 16) 148 = .ok (.goto 4, 3) := by decide +kernel
theorem d16_151 : decode (zB 16) 151 = .ok (.iconst 2, 1) := by decide +kernel
theorem d16_152 : decode (zB 16) 152 = .ok (.putfield 41, 3) := by decide +kernel
theorem d16_155 : decode (zB 16) 155 = .ok (.goto 52, 3) := by decide +kernel
theorem d16_158 : decode (zB 16) 158 = .ok (.aload_n 0, 1) := by decide +kernel
theorem d16_159 : decode (zB 16) 159 = .ok (.dup, 1) := by decide +kernel
theorem d16_160 : decode (zB 16) 160 = .ok (.getfield 28, 3) := by decide +kernel
theorem d16_163 : decode (zB 16) 163 = .ok (.iconst 1, 1) := by decide +kernel
theorem d16_164 : decode (zB 16) 164 = .ok (.iadd, 1) := by decide +kernel
theorem d16_165 : decode (zB 16) 165 = .ok (.putfield 28, 3) := by decide +kernel
theorem d16_168 : decode (zB 16) 168 = .ok (.aload_n 0, 1) := by decide +kernel
theorem d16_169 : decode (zB 16) 169 = .ok (.iload_n 1, 1) := by decide +kernel
theorem d16_170 : decode (zB 16) 170 = .ok (.bipush 59, 2) := by decide +kernel
theorem d16_172 : decode (zB 16) 172 = .ok (.if_icmp .eq 27, 3) := by decide +kernel
theorem d16_175 : decode (zB 16) 175 = .ok (.iload_n 1, 1) := by decide +kernel
theorem d16_176 : decode (zB 16) 176 = .ok (.bipush 123, 2) := by decide +kernel
theorem d16_178 : decode (zB 16) 178 = .ok (.if_icmp .eq 21, 3) := by decide +kernel
theorem d16_181 : decode (zB 16) 181 = .ok (.iload_n 1, 1) := by decide +kernel
theorem d16_182 : decode (zB 16) 182 = .ok (.bipush 124, 2) := by decide +kernel
theorem d16_184 : decode (zB 16) 184 = .ok (.if_icmp .eq 15, 3) := by decide +kernel
theorem d16_187 : decode (zB 16) 187 = .ok (.iload_n 1, 1) := by decide +kernel
theorem d16_188 : decode (zB 16) 188 = .ok (.bipush 125, 2) := by decide +kernel
theorem d16_190 : decode (zB 16) 190 = .ok (.if_icmp .eq 9, 3) := by decide +kernel
theorem d16_193 : decode (zB 16) 193 = .ok (.iload_n 1, 1) := by decide +kernel
theorem d16_194 : decode (zB 16) 194 = .ok (.bipush 33, 2) := by decide +kernel
theorem d16_196 : decode (zB 16) 196 = .ok (.if_icmp .ne 7, 3) := by decide +kernel
theorem d16_199 : decode (zB 16) 199 = .ok (.iload_n 1, 1) := by decide +kernel
theorem d16_200 : decode (zB 16) 200 = .ok (.goto 4, 3) := by decide +kernel
theorem d16_203 : decode (zB 16) 203 = .ok (.iconst 3, 1) := by decide +kernel
theorem d16_204 : decode (zB 16) 204 = .ok (.putfield 41, 3) := by decide +kernel
theorem d16_207 : decode (zB 16) 207 = .ok (.return_, 1) := by decide +kernel
theorem l16 {d : Nat} {Q : Option Value → zM → Prop} {n : Nat} {b : Nat → Nat} {M0 : zM}  (hs : SRd M0) (ht : RTp M0 n b) : ∀ (r p : Nat) (M1 : zM), n ≤ p + r → zi M1 17 2 = nI p → Fi FP M0 M1 → (∀ M', zi M' 17 2 = nI (lsk n b r p) → Fi FP M0 M' → qW (zEv (d + 1)) 16 Q 52 [(0, .ref 17)] [] M') → p ≤ n → qW (zEv (d + 1)) 16 Q 0 [(0, .ref 17)] [] M1 := by
  intro r
  induction r with
  | zero =>
    intro p M1 h1 hp hF k hpn
    have h120 := ht.1
    refine q_aload_n d16_0 rfl ?_
    refine q_getv (c := 3) (f := 2) d16_1 ⟨rfl, by decide⟩ (SRd_fi hs hF).1 hp ?_
    refine q_aload_n d16_4 rfl ?_
    refine q_getv (c := 3) (f := 1) d16_5 ⟨rfl, by decide⟩ (SRd_fi hs hF).1 (RTp_fi ht hF.fr FP_t).2.1 ?_
    refine nc_ge 52 d16_8 (by decide) (by omega) (by omega) (fun h8 => ?_) (fun h8 => (False.elim (by omega)))
    exact k _ hp hF
  | succ r ih =>
    intro p M1 h1 hp hF k hpn
    have h120 := ht.1
    refine q_aload_n d16_0 rfl ?_
    refine q_getv (c := 3) (f := 2) d16_1 ⟨rfl, by decide⟩ (SRd_fi hs hF).1 hp ?_
    refine q_aload_n d16_4 rfl ?_
    refine q_getv (c := 3) (f := 1) d16_5 ⟨rfl, by decide⟩ (SRd_fi hs hF).1 (RTp_fi ht hF.fr FP_t).2.1 ?_
    refine nc_ge 52 d16_8 (by decide) (by omega) (by omega) (fun h8 => ?_) (fun h8 => ?_)
    · rw [lsk, if_neg (fun q => by omega)] at k
      exact k _ hp hF
    · have hb := (ht.2.2 p (by omega)).2
      refine q_aload_n d16_11 rfl ?_
      refine q_getr (c := 3) (f := 0) d16_12 ⟨rfl, rfl⟩ (SRd_fi hs hF).1 (SRd_fi hs hF).2.1 ?_
      refine q_aload_n d16_15 rfl ?_
      refine q_getv (c := 3) (f := 2) d16_16 ⟨rfl, by decide⟩ (SRd_fi hs hF).1 hp ?_
      refine n_iald d16_19 (SRd_fi hs hF).2.2 (by omega) (by decide) ((RTp_fi ht hF.fr FP_t).2.2 _ (by omega)).1 ?_
      refine q_bipush (x := nI 32) d16_20 rfl ?_
      refine nc_eq 39 d16_22 (by decide) (by omega) (by omega) (fun h22 => ?_) (fun h22 => ?_)
      · refine q_aload_n d16_39 rfl ?_
        refine q_dup d16_40 rfl ?_
        refine q_getv (c := 3) (f := 2) d16_41 ⟨rfl, by decide⟩ (SRd_fi hs hF).1 hp ?_
        refine q_iconstN (z := 1) d16_44 ?_
        refine n_iadd d16_45 ?_
        refine q_puti (c := 3) (f := 2) d16_46 ⟨rfl, rfl, by decide⟩ (SRd_fi hs hF).1 ?_
        refine q_goto 0 d16_49 (by decide) ?_
        exact ih (p + 1) _ (by omega) (wi_s _ _ _ _) (hF.wi ⟨rfl, rfl⟩) (by rw [lsk, if_pos ⟨h8, by omega⟩] at k; exact k) (by omega)
      · refine q_aload_n d16_25 rfl ?_
        refine q_getr (c := 3) (f := 0) d16_26 ⟨rfl, rfl⟩ (SRd_fi hs hF).1 (SRd_fi hs hF).2.1 ?_
        refine q_aload_n d16_29 rfl ?_
        refine q_getv (c := 3) (f := 2) d16_30 ⟨rfl, by decide⟩ (SRd_fi hs hF).1 hp ?_
        refine n_iald d16_33 (SRd_fi hs hF).2.2 (by omega) (by decide) ((RTp_fi ht hF.fr FP_t).2.2 _ (by omega)).1 ?_
        refine q_bipush (x := nI 10) d16_34 rfl ?_
        refine nc_ne 52 d16_36 (by decide) (by omega) (by omega) (fun h36 => ?_) (fun h36 => ?_)
        · rw [lsk, if_neg (fun q => by omega)] at k
          exact k _ hp hF
        · refine q_aload_n d16_39 rfl ?_
          refine q_dup d16_40 rfl ?_
          refine q_getv (c := 3) (f := 2) d16_41 ⟨rfl, by decide⟩ (SRd_fi hs hF).1 hp ?_
          refine q_iconstN (z := 1) d16_44 ?_
          refine n_iadd d16_45 ?_
          refine q_puti (c := 3) (f := 2) d16_46 ⟨rfl, rfl, by decide⟩ (SRd_fi hs hF).1 ?_
          refine q_goto 0 d16_49 (by decide) ?_
          exact ih (p + 1) _ (by omega) (wi_s _ _ _ _) (hF.wi ⟨rfl, rfl⟩) (by rw [lsk, if_pos ⟨h8, by omega⟩] at k; exact k) (by omega)
theorem Fi.pk {M M' : zM} (h : Fi FP M M') : Fi FK M M' := h.mono (fun _ _ q => ⟨q.1, Or.inl q.2⟩)
theorem c16 {d : Nat} {M : zM} {Q : Option Value → zM → Prop} {n : Nat} {b : Nat → Nat} {p : Nat} (hs : SRd M) (ht : RTp M n b) (hp : zi M 17 2 = nI p) (hpn : p ≤ n) (k : ∀ M', RK M' (ltk n b p) → Fi FK M M' → Q none M') : qC (d + 2) 16 [.ref 17] M Q := by
  refine qC_of (by decide) (Nat.le_of_ble_eq_true rfl) ?_
  refine l16 hs ht 120 p M (by have := ht.1; omega) hp (Fi.refl _ _) (fun M1 hp1 f1 => ?_) hpn
  have h120 := ht.1
  have hs1 := SRd_fi hs f1
  have ht1 := RTp_fi ht f1.fr FP_t
  have hq0 := lsk_ge (n := n) (b := b) 120 p
  have hq1 := hq0.2 hpn
  by_cases hq : n ≤ lsk n b 120 p
  · skip
    refine q_aload_n d16_52 rfl ?_
    refine q_aload_n d16_53 rfl ?_
    refine q_getv (c := 3) (f := 2) d16_54 ⟨rfl, by decide⟩ hs1.1 hp1 ?_
    refine q_puti (c := 3) (f := 4) d16_57 ⟨rfl, rfl, by decide⟩ hs1.1 ?_
    refine q_aload_n d16_60 rfl ?_
    refine q_getv (c := 3) (f := 2) d16_61 ⟨rfl, by decide⟩ hs1.1 (Eq.trans (by (repeat (first | rw [wi_n (Or.inl (by omega))] | rw [wi_n (Or.inr (by omega))] | rw [wi_s] | rw [wr_i] | rw [cp_n (by omega)]))) hp1) ?_
    refine q_aload_n d16_64 rfl ?_
    refine q_getv (c := 3) (f := 1) d16_65 ⟨rfl, by decide⟩ hs1.1 (Eq.trans (by (repeat (first | rw [wi_n (Or.inl (by omega))] | rw [wi_n (Or.inr (by omega))] | rw [wi_s] | rw [wr_i] | rw [cp_n (by omega)]))) ht1.2.1) ?_
    refine nc_lt 77 d16_68 (by decide) (by omega) (by omega) (fun h68 => (False.elim (by omega))) (fun h68 => ?_)
    refine q_aload_n d16_71 rfl ?_
    refine q_iconstN (z := 0) d16_72 ?_
    refine q_puti (c := 3) (f := 3) d16_73 ⟨rfl, rfl, by decide⟩ hs1.1 ?_
    refine q_ret d16_76 rfl ?_
    rw [show ltk n b p = (0, lsk n b 120 p, lsk n b 120 p) by unfold ltk; simp only []; rw [if_pos hq]] at k
    refine k _ ⟨?_, ?_, ?_⟩ (((f1.pk).wi ⟨rfl, by omega⟩).wi ⟨rfl, by omega⟩)
    · (repeat (first | rw [wi_n (Or.inl (by omega))] | rw [wi_n (Or.inr (by omega))] | rw [wi_s] | rw [wr_i] | rw [cp_n (by omega)] | rw [cp_0 (by omega)]))
    · (repeat (first | rw [wi_n (Or.inl (by omega))] | rw [wi_n (Or.inr (by omega))] | rw [wi_s] | rw [wr_i] | rw [cp_n (by omega)] | rw [cp_0 (by omega)]))
    · (repeat (first | rw [wi_n (Or.inl (by omega))] | rw [wi_n (Or.inr (by omega))] | rw [wi_s] | rw [wr_i] | rw [cp_n (by omega)] | rw [cp_0 (by omega)])); exact hp1
  · obtain ⟨q, hqe⟩ : ∃ q, lsk n b 120 p = q := ⟨_, rfl⟩
    rw [hqe] at hp1 hq hq1
    have hbq := (ht1.2.2 q (by omega)).2
    have hs2 : SRd (zwi M1 17 4 (nI q)) := hs1
    have ht2 : RTp (zwi M1 17 4 (nI q)) n b := RTp_fi ht1 ((Fi.refl (fun a k => a = 17 ∧ k = 4) M1).wi ⟨rfl, rfl⟩).fr ⟨by omega, fun k => by omega⟩
    have hp2 : zi (zwi M1 17 4 (nI q)) 17 2 = nI q := by (repeat (first | rw [wi_n (Or.inl (by omega))] | rw [wi_n (Or.inr (by omega))] | rw [wi_s] | rw [wr_i] | rw [cp_n (by omega)] | rw [cp_0 (by omega)])); exact hp1
    by_cases hc : 97 ≤ b q ∧ b q ≤ 122
    · skip
      refine q_aload_n d16_52 rfl ?_
      refine q_aload_n d16_53 rfl ?_
      refine q_getv (c := 3) (f := 2) d16_54 ⟨rfl, by decide⟩ hs1.1 hp1 ?_
      refine q_puti (c := 3) (f := 4) d16_57 ⟨rfl, rfl, by decide⟩ hs1.1 ?_
      refine q_aload_n d16_60 rfl ?_
      refine q_getv (c := 3) (f := 2) d16_61 ⟨rfl, by decide⟩ hs1.1 (Eq.trans (by (repeat (first | rw [wi_n (Or.inl (by omega))] | rw [wi_n (Or.inr (by omega))] | rw [wi_s] | rw [wr_i] | rw [cp_n (by omega)]))) hp1) ?_
      refine q_aload_n d16_64 rfl ?_
      refine q_getv (c := 3) (f := 1) d16_65 ⟨rfl, by decide⟩ hs1.1 (Eq.trans (by (repeat (first | rw [wi_n (Or.inl (by omega))] | rw [wi_n (Or.inr (by omega))] | rw [wi_s] | rw [wr_i] | rw [cp_n (by omega)]))) ht1.2.1) ?_
      refine nc_lt 77 d16_68 (by decide) (by omega) (by omega) (fun h68 => ?_) (fun h68 => (False.elim (by omega)))
      refine q_aload_n d16_77 rfl ?_
      refine q_getr (c := 3) (f := 0) d16_78 ⟨rfl, rfl⟩ hs1.1 hs1.2.1 ?_
      refine q_aload_n d16_81 rfl ?_
      refine q_getv (c := 3) (f := 2) d16_82 ⟨rfl, by decide⟩ hs1.1 (Eq.trans (by (repeat (first | rw [wi_n (Or.inl (by omega))] | rw [wi_n (Or.inr (by omega))] | rw [wi_s] | rw [wr_i] | rw [cp_n (by omega)]))) hp1) ?_
      refine n_iald d16_85 hs1.2.2 (by omega) (by decide) (Eq.trans (by (repeat (first | rw [wi_n (Or.inl (by omega))] | rw [wi_n (Or.inr (by omega))] | rw [wi_s] | rw [wr_i] | rw [cp_n (by omega)]))) (ht1.2.2 _ (by omega)).1) ?_
      refine q_istore_n d16_86 (by decide) rfl ?_
      refine q_iload_n d16_87 rfl ?_
      refine q_bipush (x := nI 97) d16_88 rfl ?_
      refine q_bipush (x := nI 122) d16_90 rfl ?_
      refine q_s3 d16_92 (Or.inr rfl) rfl (Nat.le_of_ble_eq_true rfl) (c10t ⟨by omega, by omega⟩ (by decide) ?_)
      refine n0_eq 114 d16_95 (by decide) (by decide) (fun q => absurd q (by decide)) (fun _ => ?_)
      refine q_aload_n d16_98 rfl ?_
      refine q_bipush (x := nI 97) d16_99 rfl ?_
      refine q_bipush (x := nI 122) d16_101 rfl ?_
      refine q_v2 d16_103 rfl rfl hs1.1 (Nat.le_of_ble_eq_true rfl) (c17 hs2 ht2 (by decide) (by decide) hp2 (by omega) (fun M3 hp3 f3 => ?_))
      have hs3 := SRd_fi hs2 f3
      refine q_aload_n d16_106 rfl ?_
      refine q_iconstN (z := 1) d16_107 ?_
      refine q_puti (c := 3) (f := 3) d16_108 ⟨rfl, rfl, by decide⟩ hs3.1 ?_
      refine q_goto 207 d16_111 (by decide) ?_
      refine q_ret d16_207 rfl ?_
      rw [show ltk n b p = (1, q, lrn n b 97 122 120 q) by unfold ltk; simp only []; rw [hqe, if_neg (by omega), if_pos hc]] at k
      refine k _ ⟨?_, ?_, ?_⟩ ((((f1.pk).wi ⟨rfl, by omega⟩).trans f3.pk).wi ⟨rfl, by omega⟩)
      · (repeat (first | rw [wi_n (Or.inl (by omega))] | rw [wi_n (Or.inr (by omega))] | rw [wi_s] | rw [wr_i] | rw [cp_n (by omega)] | rw [cp_0 (by omega)]))
      · (repeat (first | rw [wi_n (Or.inl (by omega))] | rw [wi_n (Or.inr (by omega))] | rw [wi_s] | rw [wr_i] | rw [cp_n (by omega)] | rw [cp_0 (by omega)])); rw [f3.1 _ _ (by unfold FP; omega)]; (repeat (first | rw [wi_n (Or.inl (by omega))] | rw [wi_n (Or.inr (by omega))] | rw [wi_s] | rw [wr_i] | rw [cp_n (by omega)] | rw [cp_0 (by omega)]))
      · (repeat (first | rw [wi_n (Or.inl (by omega))] | rw [wi_n (Or.inr (by omega))] | rw [wi_s] | rw [wr_i] | rw [cp_n (by omega)] | rw [cp_0 (by omega)])); exact hp3
    · by_cases hd : 48 ≤ b q ∧ b q ≤ 57
      · skip
        refine q_aload_n d16_52 rfl ?_
        refine q_aload_n d16_53 rfl ?_
        refine q_getv (c := 3) (f := 2) d16_54 ⟨rfl, by decide⟩ hs1.1 hp1 ?_
        refine q_puti (c := 3) (f := 4) d16_57 ⟨rfl, rfl, by decide⟩ hs1.1 ?_
        refine q_aload_n d16_60 rfl ?_
        refine q_getv (c := 3) (f := 2) d16_61 ⟨rfl, by decide⟩ hs1.1 (Eq.trans (by (repeat (first | rw [wi_n (Or.inl (by omega))] | rw [wi_n (Or.inr (by omega))] | rw [wi_s] | rw [wr_i] | rw [cp_n (by omega)]))) hp1) ?_
        refine q_aload_n d16_64 rfl ?_
        refine q_getv (c := 3) (f := 1) d16_65 ⟨rfl, by decide⟩ hs1.1 (Eq.trans (by (repeat (first | rw [wi_n (Or.inl (by omega))] | rw [wi_n (Or.inr (by omega))] | rw [wi_s] | rw [wr_i] | rw [cp_n (by omega)]))) ht1.2.1) ?_
        refine nc_lt 77 d16_68 (by decide) (by omega) (by omega) (fun h68 => ?_) (fun h68 => (False.elim (by omega)))
        refine q_aload_n d16_77 rfl ?_
        refine q_getr (c := 3) (f := 0) d16_78 ⟨rfl, rfl⟩ hs1.1 hs1.2.1 ?_
        refine q_aload_n d16_81 rfl ?_
        refine q_getv (c := 3) (f := 2) d16_82 ⟨rfl, by decide⟩ hs1.1 (Eq.trans (by (repeat (first | rw [wi_n (Or.inl (by omega))] | rw [wi_n (Or.inr (by omega))] | rw [wi_s] | rw [wr_i] | rw [cp_n (by omega)]))) hp1) ?_
        refine n_iald d16_85 hs1.2.2 (by omega) (by decide) (Eq.trans (by (repeat (first | rw [wi_n (Or.inl (by omega))] | rw [wi_n (Or.inr (by omega))] | rw [wi_s] | rw [wr_i] | rw [cp_n (by omega)]))) (ht1.2.2 _ (by omega)).1) ?_
        refine q_istore_n d16_86 (by decide) rfl ?_
        refine q_iload_n d16_87 rfl ?_
        refine q_bipush (x := nI 97) d16_88 rfl ?_
        refine q_bipush (x := nI 122) d16_90 rfl ?_
        refine q_s3 d16_92 (Or.inr rfl) rfl (Nat.le_of_ble_eq_true rfl) (c10n (by omega) (by decide) (by omega) (by decide) ?_)
        refine n0_eq 114 d16_95 (by decide) (by decide) (fun _ => ?_) (fun q => absurd q (by decide))
        refine q_iload_n d16_114 rfl ?_
        refine q_bipush (x := nI 48) d16_115 rfl ?_
        refine q_bipush (x := nI 57) d16_117 rfl ?_
        refine q_s3 d16_119 (Or.inr rfl) rfl (Nat.le_of_ble_eq_true rfl) (c10t ⟨by omega, by omega⟩ (by decide) ?_)
        refine n0_eq 158 d16_122 (by decide) (by decide) (fun q => absurd q (by decide)) (fun _ => ?_)
        refine q_aload_n d16_125 rfl ?_
        refine q_bipush (x := nI 48) d16_126 rfl ?_
        refine q_bipush (x := nI 57) d16_128 rfl ?_
        refine q_v2 d16_130 rfl rfl hs1.1 (Nat.le_of_ble_eq_true rfl) (c17 hs2 ht2 (by decide) (by decide) hp2 (by omega) (fun M3 hp3 f3 => ?_))
        have hs3 := SRd_fi hs2 f3
        have hst3 : zi M3 17 4 = nI q := by rw [f3.1 _ _ (by unfold FP; omega)]; (repeat (first | rw [wi_n (Or.inl (by omega))] | rw [wi_n (Or.inr (by omega))] | rw [wi_s] | rw [wr_i] | rw [cp_n (by omega)] | rw [cp_0 (by omega)]))
        have hle := lrn_ge (n := n) (b := b) (lo := 48) (hi := 57) 120 q
        have hle2 := hle.2 (by omega)
        refine q_aload_n d16_133 rfl ?_
        refine q_aload_n d16_134 rfl ?_
        refine q_getv (c := 3) (f := 2) d16_135 ⟨rfl, by decide⟩ hs3.1 hp3 ?_
        refine q_aload_n d16_138 rfl ?_
        refine q_getv (c := 3) (f := 4) d16_139 ⟨rfl, by decide⟩ hs3.1 hst3 ?_
        refine n_isub d16_142 (by omega) ?_
        refine q_iconstN (z := 3) d16_143 ?_
        refine nc_le 151 d16_144 (by decide) (by omega) (by omega) (fun h144 => ?_) (fun h144 => ?_)
        · refine q_iconstN (z := 2) d16_151 ?_
          refine q_puti (c := 3) (f := 3) d16_152 ⟨rfl, rfl, by decide⟩ hs3.1 ?_
          refine q_goto 207 d16_155 (by decide) ?_
          refine q_ret d16_207 rfl ?_
          rw [show ltk n b p = (if lrn n b 48 57 120 q - q ≤ 3 then 2 else 3, q, lrn n b 48 57 120 q) by unfold ltk; simp only []; rw [hqe, if_neg (by omega), if_neg hc, if_pos hd]] at k
          refine k _ ⟨?_, ?_, ?_⟩ ((((f1.pk).wi ⟨rfl, by omega⟩).trans f3.pk).wi ⟨rfl, by omega⟩)
          · first
            | (rw [if_pos h144]; (repeat (first | rw [wi_n (Or.inl (by omega))] | rw [wi_n (Or.inr (by omega))] | rw [wi_s] | rw [wr_i] | rw [cp_n (by omega)] | rw [cp_0 (by omega)])))
            | (rw [if_neg (by omega)]; (repeat (first | rw [wi_n (Or.inl (by omega))] | rw [wi_n (Or.inr (by omega))] | rw [wi_s] | rw [wr_i] | rw [cp_n (by omega)] | rw [cp_0 (by omega)])))
          · (repeat (first | rw [wi_n (Or.inl (by omega))] | rw [wi_n (Or.inr (by omega))] | rw [wi_s] | rw [wr_i] | rw [cp_n (by omega)] | rw [cp_0 (by omega)])); exact hst3
          · (repeat (first | rw [wi_n (Or.inl (by omega))] | rw [wi_n (Or.inr (by omega))] | rw [wi_s] | rw [wr_i] | rw [cp_n (by omega)] | rw [cp_0 (by omega)])); exact hp3
        · refine q_iconstN (z := 3) d16_147 ?_
          refine q_goto 152 d16_148 (by decide) ?_
          refine q_puti (c := 3) (f := 3) d16_152 ⟨rfl, rfl, by decide⟩ hs3.1 ?_
          refine q_goto 207 d16_155 (by decide) ?_
          refine q_ret d16_207 rfl ?_
          rw [show ltk n b p = (if lrn n b 48 57 120 q - q ≤ 3 then 2 else 3, q, lrn n b 48 57 120 q) by unfold ltk; simp only []; rw [hqe, if_neg (by omega), if_neg hc, if_pos hd]] at k
          refine k _ ⟨?_, ?_, ?_⟩ ((((f1.pk).wi ⟨rfl, by omega⟩).trans f3.pk).wi ⟨rfl, by omega⟩)
          · first
            | (rw [if_pos h144]; (repeat (first | rw [wi_n (Or.inl (by omega))] | rw [wi_n (Or.inr (by omega))] | rw [wi_s] | rw [wr_i] | rw [cp_n (by omega)] | rw [cp_0 (by omega)])))
            | (rw [if_neg (by omega)]; (repeat (first | rw [wi_n (Or.inl (by omega))] | rw [wi_n (Or.inr (by omega))] | rw [wi_s] | rw [wr_i] | rw [cp_n (by omega)] | rw [cp_0 (by omega)])))
          · (repeat (first | rw [wi_n (Or.inl (by omega))] | rw [wi_n (Or.inr (by omega))] | rw [wi_s] | rw [wr_i] | rw [cp_n (by omega)] | rw [cp_0 (by omega)])); exact hst3
          · (repeat (first | rw [wi_n (Or.inl (by omega))] | rw [wi_n (Or.inr (by omega))] | rw [wi_s] | rw [wr_i] | rw [cp_n (by omega)] | rw [cp_0 (by omega)])); exact hp3
      · skip
        refine q_aload_n d16_52 rfl ?_
        refine q_aload_n d16_53 rfl ?_
        refine q_getv (c := 3) (f := 2) d16_54 ⟨rfl, by decide⟩ hs1.1 hp1 ?_
        refine q_puti (c := 3) (f := 4) d16_57 ⟨rfl, rfl, by decide⟩ hs1.1 ?_
        refine q_aload_n d16_60 rfl ?_
        refine q_getv (c := 3) (f := 2) d16_61 ⟨rfl, by decide⟩ hs1.1 (Eq.trans (by (repeat (first | rw [wi_n (Or.inl (by omega))] | rw [wi_n (Or.inr (by omega))] | rw [wi_s] | rw [wr_i] | rw [cp_n (by omega)]))) hp1) ?_
        refine q_aload_n d16_64 rfl ?_
        refine q_getv (c := 3) (f := 1) d16_65 ⟨rfl, by decide⟩ hs1.1 (Eq.trans (by (repeat (first | rw [wi_n (Or.inl (by omega))] | rw [wi_n (Or.inr (by omega))] | rw [wi_s] | rw [wr_i] | rw [cp_n (by omega)]))) ht1.2.1) ?_
        refine nc_lt 77 d16_68 (by decide) (by omega) (by omega) (fun h68 => ?_) (fun h68 => (False.elim (by omega)))
        refine q_aload_n d16_77 rfl ?_
        refine q_getr (c := 3) (f := 0) d16_78 ⟨rfl, rfl⟩ hs1.1 hs1.2.1 ?_
        refine q_aload_n d16_81 rfl ?_
        refine q_getv (c := 3) (f := 2) d16_82 ⟨rfl, by decide⟩ hs1.1 (Eq.trans (by (repeat (first | rw [wi_n (Or.inl (by omega))] | rw [wi_n (Or.inr (by omega))] | rw [wi_s] | rw [wr_i] | rw [cp_n (by omega)]))) hp1) ?_
        refine n_iald d16_85 hs1.2.2 (by omega) (by decide) (Eq.trans (by (repeat (first | rw [wi_n (Or.inl (by omega))] | rw [wi_n (Or.inr (by omega))] | rw [wi_s] | rw [wr_i] | rw [cp_n (by omega)]))) (ht1.2.2 _ (by omega)).1) ?_
        refine q_istore_n d16_86 (by decide) rfl ?_
        refine q_iload_n d16_87 rfl ?_
        refine q_bipush (x := nI 97) d16_88 rfl ?_
        refine q_bipush (x := nI 122) d16_90 rfl ?_
        refine q_s3 d16_92 (Or.inr rfl) rfl (Nat.le_of_ble_eq_true rfl) (c10n (by omega) (by decide) (by omega) (by decide) ?_)
        refine n0_eq 114 d16_95 (by decide) (by decide) (fun _ => ?_) (fun q => absurd q (by decide))
        refine q_iload_n d16_114 rfl ?_
        refine q_bipush (x := nI 48) d16_115 rfl ?_
        refine q_bipush (x := nI 57) d16_117 rfl ?_
        refine q_s3 d16_119 (Or.inr rfl) rfl (Nat.le_of_ble_eq_true rfl) (c10n (by omega) (by decide) (by omega) (by decide) ?_)
        refine n0_eq 158 d16_122 (by decide) (by decide) (fun _ => ?_) (fun q => absurd q (by decide))
        refine q_aload_n d16_158 rfl ?_
        refine q_dup d16_159 rfl ?_
        refine q_getv (c := 3) (f := 2) d16_160 ⟨rfl, by decide⟩ hs1.1 (Eq.trans (by (repeat (first | rw [wi_n (Or.inl (by omega))] | rw [wi_n (Or.inr (by omega))] | rw [wi_s] | rw [wr_i] | rw [cp_n (by omega)]))) hp1) ?_
        refine q_iconstN (z := 1) d16_163 ?_
        refine n_iadd d16_164 ?_
        refine q_puti (c := 3) (f := 2) d16_165 ⟨rfl, rfl, by decide⟩ hs1.1 ?_
        refine q_aload_n d16_168 rfl ?_
        refine q_iload_n d16_169 rfl ?_
        refine q_bipush (x := nI 59) d16_170 rfl ?_
        refine nc_eq 199 d16_172 (by decide) (by omega) (by omega) (fun h172 => ?_) (fun h172 => ?_)
        · refine q_iload_n d16_199 rfl ?_
          refine q_goto 204 d16_200 (by decide) ?_
          refine q_puti (c := 3) (f := 3) d16_204 ⟨rfl, rfl, by decide⟩ hs1.1 ?_
          refine q_ret d16_207 rfl ?_
          rw [show ltk n b p = (if ysg (b q) then b q else 3, q, q + 1) by unfold ltk; simp only []; rw [hqe, if_neg (by omega), if_neg hc, if_neg hd]] at k
          refine k _ ⟨?_, ?_, ?_⟩ ((((f1.pk).wi ⟨rfl, by omega⟩).wi ⟨rfl, by omega⟩).wi ⟨rfl, by omega⟩)
          · first
            | (rw [if_pos (ysg_t (by omega))]; (repeat (first | rw [wi_n (Or.inl (by omega))] | rw [wi_n (Or.inr (by omega))] | rw [wi_s] | rw [wr_i] | rw [cp_n (by omega)] | rw [cp_0 (by omega)])))
            | (rw [if_neg (ysg_f (by omega))]; (repeat (first | rw [wi_n (Or.inl (by omega))] | rw [wi_n (Or.inr (by omega))] | rw [wi_s] | rw [wr_i] | rw [cp_n (by omega)] | rw [cp_0 (by omega)])))
          · (repeat (first | rw [wi_n (Or.inl (by omega))] | rw [wi_n (Or.inr (by omega))] | rw [wi_s] | rw [wr_i] | rw [cp_n (by omega)] | rw [cp_0 (by omega)]))
          · (repeat (first | rw [wi_n (Or.inl (by omega))] | rw [wi_n (Or.inr (by omega))] | rw [wi_s] | rw [wr_i] | rw [cp_n (by omega)] | rw [cp_0 (by omega)]))
        · refine q_iload_n d16_175 rfl ?_
          refine q_bipush (x := nI 123) d16_176 rfl ?_
          refine nc_eq 199 d16_178 (by decide) (by omega) (by omega) (fun h178 => ?_) (fun h178 => ?_)
          · refine q_iload_n d16_199 rfl ?_
            refine q_goto 204 d16_200 (by decide) ?_
            refine q_puti (c := 3) (f := 3) d16_204 ⟨rfl, rfl, by decide⟩ hs1.1 ?_
            refine q_ret d16_207 rfl ?_
            rw [show ltk n b p = (if ysg (b q) then b q else 3, q, q + 1) by unfold ltk; simp only []; rw [hqe, if_neg (by omega), if_neg hc, if_neg hd]] at k
            refine k _ ⟨?_, ?_, ?_⟩ ((((f1.pk).wi ⟨rfl, by omega⟩).wi ⟨rfl, by omega⟩).wi ⟨rfl, by omega⟩)
            · first
              | (rw [if_pos (ysg_t (by omega))]; (repeat (first | rw [wi_n (Or.inl (by omega))] | rw [wi_n (Or.inr (by omega))] | rw [wi_s] | rw [wr_i] | rw [cp_n (by omega)] | rw [cp_0 (by omega)])))
              | (rw [if_neg (ysg_f (by omega))]; (repeat (first | rw [wi_n (Or.inl (by omega))] | rw [wi_n (Or.inr (by omega))] | rw [wi_s] | rw [wr_i] | rw [cp_n (by omega)] | rw [cp_0 (by omega)])))
            · (repeat (first | rw [wi_n (Or.inl (by omega))] | rw [wi_n (Or.inr (by omega))] | rw [wi_s] | rw [wr_i] | rw [cp_n (by omega)] | rw [cp_0 (by omega)]))
            · (repeat (first | rw [wi_n (Or.inl (by omega))] | rw [wi_n (Or.inr (by omega))] | rw [wi_s] | rw [wr_i] | rw [cp_n (by omega)] | rw [cp_0 (by omega)]))
          · refine q_iload_n d16_181 rfl ?_
            refine q_bipush (x := nI 124) d16_182 rfl ?_
            refine nc_eq 199 d16_184 (by decide) (by omega) (by omega) (fun h184 => ?_) (fun h184 => ?_)
            · refine q_iload_n d16_199 rfl ?_
              refine q_goto 204 d16_200 (by decide) ?_
              refine q_puti (c := 3) (f := 3) d16_204 ⟨rfl, rfl, by decide⟩ hs1.1 ?_
              refine q_ret d16_207 rfl ?_
              rw [show ltk n b p = (if ysg (b q) then b q else 3, q, q + 1) by unfold ltk; simp only []; rw [hqe, if_neg (by omega), if_neg hc, if_neg hd]] at k
              refine k _ ⟨?_, ?_, ?_⟩ ((((f1.pk).wi ⟨rfl, by omega⟩).wi ⟨rfl, by omega⟩).wi ⟨rfl, by omega⟩)
              · first
                | (rw [if_pos (ysg_t (by omega))]; (repeat (first | rw [wi_n (Or.inl (by omega))] | rw [wi_n (Or.inr (by omega))] | rw [wi_s] | rw [wr_i] | rw [cp_n (by omega)] | rw [cp_0 (by omega)])))
                | (rw [if_neg (ysg_f (by omega))]; (repeat (first | rw [wi_n (Or.inl (by omega))] | rw [wi_n (Or.inr (by omega))] | rw [wi_s] | rw [wr_i] | rw [cp_n (by omega)] | rw [cp_0 (by omega)])))
              · (repeat (first | rw [wi_n (Or.inl (by omega))] | rw [wi_n (Or.inr (by omega))] | rw [wi_s] | rw [wr_i] | rw [cp_n (by omega)] | rw [cp_0 (by omega)]))
              · (repeat (first | rw [wi_n (Or.inl (by omega))] | rw [wi_n (Or.inr (by omega))] | rw [wi_s] | rw [wr_i] | rw [cp_n (by omega)] | rw [cp_0 (by omega)]))
            · refine q_iload_n d16_187 rfl ?_
              refine q_bipush (x := nI 125) d16_188 rfl ?_
              refine nc_eq 199 d16_190 (by decide) (by omega) (by omega) (fun h190 => ?_) (fun h190 => ?_)
              · refine q_iload_n d16_199 rfl ?_
                refine q_goto 204 d16_200 (by decide) ?_
                refine q_puti (c := 3) (f := 3) d16_204 ⟨rfl, rfl, by decide⟩ hs1.1 ?_
                refine q_ret d16_207 rfl ?_
                rw [show ltk n b p = (if ysg (b q) then b q else 3, q, q + 1) by unfold ltk; simp only []; rw [hqe, if_neg (by omega), if_neg hc, if_neg hd]] at k
                refine k _ ⟨?_, ?_, ?_⟩ ((((f1.pk).wi ⟨rfl, by omega⟩).wi ⟨rfl, by omega⟩).wi ⟨rfl, by omega⟩)
                · first
                  | (rw [if_pos (ysg_t (by omega))]; (repeat (first | rw [wi_n (Or.inl (by omega))] | rw [wi_n (Or.inr (by omega))] | rw [wi_s] | rw [wr_i] | rw [cp_n (by omega)] | rw [cp_0 (by omega)])))
                  | (rw [if_neg (ysg_f (by omega))]; (repeat (first | rw [wi_n (Or.inl (by omega))] | rw [wi_n (Or.inr (by omega))] | rw [wi_s] | rw [wr_i] | rw [cp_n (by omega)] | rw [cp_0 (by omega)])))
                · (repeat (first | rw [wi_n (Or.inl (by omega))] | rw [wi_n (Or.inr (by omega))] | rw [wi_s] | rw [wr_i] | rw [cp_n (by omega)] | rw [cp_0 (by omega)]))
                · (repeat (first | rw [wi_n (Or.inl (by omega))] | rw [wi_n (Or.inr (by omega))] | rw [wi_s] | rw [wr_i] | rw [cp_n (by omega)] | rw [cp_0 (by omega)]))
              · refine q_iload_n d16_193 rfl ?_
                refine q_bipush (x := nI 33) d16_194 rfl ?_
                refine nc_ne 203 d16_196 (by decide) (by omega) (by omega) (fun h196 => ?_) (fun h196 => ?_)
                · refine q_iconstN (z := 3) d16_203 ?_
                  refine q_puti (c := 3) (f := 3) d16_204 ⟨rfl, rfl, by decide⟩ hs1.1 ?_
                  refine q_ret d16_207 rfl ?_
                  rw [show ltk n b p = (if ysg (b q) then b q else 3, q, q + 1) by unfold ltk; simp only []; rw [hqe, if_neg (by omega), if_neg hc, if_neg hd]] at k
                  refine k _ ⟨?_, ?_, ?_⟩ ((((f1.pk).wi ⟨rfl, by omega⟩).wi ⟨rfl, by omega⟩).wi ⟨rfl, by omega⟩)
                  · first
                    | (rw [if_pos (ysg_t (by omega))]; (repeat (first | rw [wi_n (Or.inl (by omega))] | rw [wi_n (Or.inr (by omega))] | rw [wi_s] | rw [wr_i] | rw [cp_n (by omega)] | rw [cp_0 (by omega)])))
                    | (rw [if_neg (ysg_f (by omega))]; (repeat (first | rw [wi_n (Or.inl (by omega))] | rw [wi_n (Or.inr (by omega))] | rw [wi_s] | rw [wr_i] | rw [cp_n (by omega)] | rw [cp_0 (by omega)])))
                  · (repeat (first | rw [wi_n (Or.inl (by omega))] | rw [wi_n (Or.inr (by omega))] | rw [wi_s] | rw [wr_i] | rw [cp_n (by omega)] | rw [cp_0 (by omega)]))
                  · (repeat (first | rw [wi_n (Or.inl (by omega))] | rw [wi_n (Or.inr (by omega))] | rw [wi_s] | rw [wr_i] | rw [cp_n (by omega)] | rw [cp_0 (by omega)]))
                · refine q_iload_n d16_199 rfl ?_
                  refine q_goto 204 d16_200 (by decide) ?_
                  refine q_puti (c := 3) (f := 3) d16_204 ⟨rfl, rfl, by decide⟩ hs1.1 ?_
                  refine q_ret d16_207 rfl ?_
                  rw [show ltk n b p = (if ysg (b q) then b q else 3, q, q + 1) by unfold ltk; simp only []; rw [hqe, if_neg (by omega), if_neg hc, if_neg hd]] at k
                  refine k _ ⟨?_, ?_, ?_⟩ ((((f1.pk).wi ⟨rfl, by omega⟩).wi ⟨rfl, by omega⟩).wi ⟨rfl, by omega⟩)
                  · first
                    | (rw [if_pos (ysg_t (by omega))]; (repeat (first | rw [wi_n (Or.inl (by omega))] | rw [wi_n (Or.inr (by omega))] | rw [wi_s] | rw [wr_i] | rw [cp_n (by omega)] | rw [cp_0 (by omega)])))
                    | (rw [if_neg (ysg_f (by omega))]; (repeat (first | rw [wi_n (Or.inl (by omega))] | rw [wi_n (Or.inr (by omega))] | rw [wi_s] | rw [wr_i] | rw [cp_n (by omega)] | rw [cp_0 (by omega)])))
                  · (repeat (first | rw [wi_n (Or.inl (by omega))] | rw [wi_n (Or.inr (by omega))] | rw [wi_s] | rw [wr_i] | rw [cp_n (by omega)] | rw [cp_0 (by omega)]))
                  · (repeat (first | rw [wi_n (Or.inl (by omega))] | rw [wi_n (Or.inr (by omega))] | rw [wi_s] | rw [wr_i] | rw [cp_n (by omega)] | rw [cp_0 (by omega)]))
theorem d12_0 : decode (zB 12) 0 = .ok (.aload_n 0, 1) := by decide +kernel
theorem d12_1 : decode (zB 12) 1 = .ok (.getfield 15, 3) := by decide +kernel
theorem d12_4 : decode (zB 12) 4 = .ok (.bipush 120, 2) := by decide +kernel
theorem d12_6 : decode (zB 12) 6 = .ok (.if_icmp .ge 23, 3) := by decide +kernel
theorem d12_9 : decode (zB 12) 9 = .ok (.aload_n 0, 1) := by decide +kernel
theorem d12_10 : decode (zB 12) 10 = .ok (.getfield 9, 3) := by decide +kernel
theorem d12_13 : decode (zB 12) 13 = .ok (.aload_n 0, 1) := by decide +kernel
theorem d12_14 : decode (zB 12) 14 = .ok (.getfield 15, 3) := by decide +kernel
theorem d12_17 : decode (zB 12) 17 = .ok (.iload_n 1, 1) := by decide +kernel
theorem d12_18 : decode (zB 12) 18 = .ok (.iastore, 1) := by decide +kernel
theorem d12_19 : decode (zB 12) 19 = .ok (.aload_n 0, 1) := by decide +kernel
theorem d12_20 : decode (zB 12) 20 = .ok (.dup, 1) := by decide +kernel
theorem d12_21 : decode (zB 12) 21 = .ok (.getfield 15, 3) := by decide +kernel
theorem d12_24 : decode (zB 12) 24 = .ok (.iconst 1, 1) := by decide +kernel
theorem d12_25 : decode (zB 12) 25 = .ok (.iadd, 1) := by decide +kernel
theorem d12_26 : decode (zB 12) 26 = .ok (.putfield 15, 3) := by decide +kernel
theorem d12_29 : decode (zB 12) 29 = .ok (.return_, 1) := by decide +kernel
theorem c12 {d : Nat} {M : zM} {Q : Option Value → zM → Prop} {n : Nat} {b : Nat → Nat} {v : Nat} (hs : SRd M) (ht : RTp M n b) (hn : n < 120) (hv : v < 256) (k : ∀ M', RTp M' (n + 1) (yu b n v) → Fi (fun a k => (a = 17 ∧ k = 1) ∨ a = 18) M M' → Q none M') : qC (d + 1) 12 [.ref 17, .int (nI v)] M Q := by
  have h120 := ht.1
  refine qC_of (by decide) (Nat.le_of_ble_eq_true rfl) ?_
  refine q_aload_n d12_0 rfl ?_
  refine q_getv (c := 3) (f := 1) d12_1 ⟨rfl, by decide⟩ hs.1 ht.2.1 ?_
  refine q_bipush (x := nI 120) d12_4 rfl ?_
  refine nc_ge 29 d12_6 (by decide) (by omega) (by omega) (fun h6 => (False.elim (by omega))) (fun h6 => ?_)
  refine q_aload_n d12_9 rfl ?_
  refine q_getr (c := 3) (f := 0) d12_10 ⟨rfl, rfl⟩ hs.1 hs.2.1 ?_
  refine q_aload_n d12_13 rfl ?_
  refine q_getv (c := 3) (f := 1) d12_14 ⟨rfl, by decide⟩ hs.1 ht.2.1 ?_
  refine q_iload_n d12_17 rfl ?_
  refine n_iast d12_18 hs.2.2 (by omega) (by decide) ?_
  refine q_aload_n d12_19 rfl ?_
  refine q_dup d12_20 rfl ?_
  refine q_getv (c := 3) (f := 1) d12_21 ⟨rfl, by decide⟩ hs.1 (Eq.trans (by (repeat (first | rw [wi_n (Or.inl (by omega))] | rw [wi_n (Or.inr (by omega))] | rw [wi_s] | rw [wr_i] | rw [cp_n (by omega)]))) ht.2.1) ?_
  refine q_iconstN (z := 1) d12_24 ?_
  refine n_iadd d12_25 ?_
  refine q_puti (c := 3) (f := 1) d12_26 ⟨rfl, rfl, by decide⟩ hs.1 ?_
  refine q_ret d12_29 rfl ?_
  refine k _ ⟨by omega, ?_, fun q hq => ?_⟩ (((Fi.refl _ _).wi (Or.inr rfl)).wi (Or.inl ⟨rfl, rfl⟩))
  · (repeat (first | rw [wi_n (Or.inl (by omega))] | rw [wi_n (Or.inr (by omega))] | rw [wi_s] | rw [wr_i] | rw [cp_n (by omega)] | rw [cp_0 (by omega)]))
  · show _ = nI (yu b n v q) ∧ yu b n v q < 256
    by_cases e : q = n
    · subst e; rw [yu_s]; exact ⟨by (repeat (first | rw [wi_n (Or.inl (by omega))] | rw [wi_n (Or.inr (by omega))] | rw [wi_s] | rw [wr_i] | rw [cp_n (by omega)] | rw [cp_0 (by omega)])), hv⟩
    · rw [yu_n e]; refine ⟨?_, (ht.2.2 q (by omega)).2⟩; (repeat (first | rw [wi_n (Or.inl (by omega))] | rw [wi_n (Or.inr (by omega))] | rw [wi_s] | rw [wr_i] | rw [cp_n (by omega)] | rw [cp_0 (by omega)])); exact (ht.2.2 q (by omega)).1
