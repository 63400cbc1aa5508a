/-! ===== contracts: purses ===== -/
/-- only ints of S are written -/
def Fi (S : Nat → Nat → Prop) (M M' : zM) : Prop := (∀ a k, ¬ S a k → zi M' a k = zi M a k) ∧ zr M' = zr M ∧ zl M' = zl M ∧ zk M' = zk M ∧ zn M' = zn M ∧ zs M' = zs M
theorem Fi.refl (S : Nat → Nat → Prop) (M : zM) : Fi S M M := ⟨fun _ _ _ => rfl, rfl, rfl, rfl, rfl, rfl⟩
theorem Fi.mono {S S' : Nat → Nat → Prop} {M M' : zM} (h : Fi S M M') (hs : ∀ a k, S a k → S' a k) : Fi S' M M' := ⟨fun a k q => h.1 a k (fun p => q (hs a k p)), h.2⟩
theorem Fi.trans {S : Nat → Nat → Prop} {M M' M'' : zM} (h : Fi S M M') (g : Fi S M' M'') : Fi S M M'' :=
  ⟨fun a k q => (g.1 a k q).trans (h.1 a k q), g.2.1.trans h.2.1, g.2.2.1.trans h.2.2.1, g.2.2.2.1.trans h.2.2.2.1, g.2.2.2.2.1.trans h.2.2.2.2.1, g.2.2.2.2.2.trans h.2.2.2.2.2⟩
theorem Fi.fr {S : Nat → Nat → Prop} {M M' : zM} (h : Fi S M M') : Fr S M M' := ⟨fun a k q => ⟨h.1 a k q, congrFun (congrFun h.2.1 a) k⟩, h.2.2⟩
theorem Fi.wi {S : Nat → Nat → Prop} {M M' : zM} {a k : Nat} {v : Int32} (h : Fi S M M') (hs : S a k) : Fi S M (zwi M' a k v) := by
  refine ⟨fun b j q => ?_, h.2⟩
  rw [wi_eq, if_neg (by rintro ⟨rfl, rfl⟩; exact q hs)]; exact h.1 b j q
theorem Fi.cp {S : Nat → Nat → Prop} {M M' : zM} {a0 s a d n : Nat} (h : Fi S M M') (hs : ∀ j, d ≤ j → j < d + n → S a j) : Fi S M (zcp M' a0 s a d n) := by
  refine ⟨fun b j q => ?_, h.2⟩
  rw [cp_eq, if_neg (by rintro ⟨rfl, h1, h2⟩; exact q (hs j h1 h2))]; exact h.1 b j q
theorem Fi.k {S : Nat → Nat → Prop} {M M' : zM} (h : Fi S M M') (a : Nat) : zk M' a = zk M a := congrFun h.2.2.2.1 a
theorem Fi.r {S : Nat → Nat → Prop} {M M' : zM} (h : Fi S M M') (a f : Nat) : zr M' a f = zr M a f := congrFun (congrFun h.2.1 a) f
theorem Fi.sc {S : Nat → Nat → Prop} {M M' : zM} (h : Fi S M M') (hS : SC M) (hs : ∀ a k, a < 3 → ¬ S a k) : SC M' := SC_of hS (fun a _ => h.k a) (fun a f _ _ => h.r a f) (fun a j ha => h.1 a j (hs a j ha))
theorem Fi.sx {S : Nat → Nat → Prop} {M M' : zM} (h : Fi S M M') (hS : SX M) : SX M' := SX_of hS (fun a _ => h.k a) (fun a f _ _ => h.r a f)
theorem SPr_fi {S : Nat → Nat → Prop} {M M' : zM} {a : Nat} (h : SPr M a) (f : Fi S M M') : SPr M' a := ⟨(f.k _).trans h.1, fun g hg => ⟨(f.r _ _).trans (h.2 g hg).1, (f.k _).trans (h.2 g hg).2⟩⟩
theorem SPu_fi {S : Nat → Nat → Prop} {M M' : zM} {a : Nat} (h : SPu M a) (f : Fi S M M') : SPu M' a := ⟨(f.k _).trans h.1, (f.r _ _).trans h.2.1, (f.k _).trans h.2.2⟩
theorem SSg_fi {S : Nat → Nat → Prop} {M M' : zM} {a : Nat} (h : SSg M a) (f : Fi S M M') : SSg M' a := ⟨(f.k _).trans h.1, (f.r _ _).trans h.2.1, fun g hg => (f.r _ _).trans (h.2.2.1 g hg), fun g hg => (f.k _).trans (h.2.2.2 g hg)⟩
theorem RPu_b {M : zM} {u k : Nat} {P : yP} {v : Int32} (h : RPu M u P) : RPu (zwi M (u + 1) k v) u (yu P.1 k v, P.2) := by
  refine ⟨fun j hj => ?_, (wi_n (Or.inl (by omega))).trans h.2.1, (wi_n (Or.inl (by omega))).trans h.2.2⟩
  by_cases e : j = k
  · subst e; rw [wi_s]; exact (yu_s _ _ _).symm
  · rw [wi_n (Or.inr e), h.1 j hj]; exact (yu_n e).symm
theorem RPu_h {M : zM} {u : Nat} {P : yP} {v : Int32} (h : RPu M u P) : RPu (zwi M u 1 v) u (P.1, v, P.2.2) :=
  ⟨fun j hj => (wi_n (Or.inl (by omega))).trans (h.1 j hj), wi_s _ _ _ _, (wi_n (Or.inr (by decide))).trans h.2.2⟩
theorem RPu_m {M : zM} {u : Nat} {P : yP} {v : Int32} (h : RPu M u P) : RPu (zwi M u 2 v) u (P.1, P.2.1, v) :=
  ⟨fun j hj => (wi_n (Or.inl (by omega))).trans (h.1 j hj), (wi_n (Or.inr (by decide))).trans h.2.1, wi_s _ _ _ _⟩
def FU (u : Nat) : Nat → Nat → Prop := Fb u (u + 2)
theorem FU_0 (u k : Nat) : FU u u k := ⟨Nat.le_refl _, by omega⟩
theorem FU_1 (u k : Nat) : FU u (u + 1) k := ⟨by omega, by omega⟩
theorem FU_x {u a : Nat} (h : a + 7 ≤ u) : ∀ b j, a ≤ b → b < a + 6 → ¬ FU u b j := fun b j h1 h2 q => by have := q.1; omega
theorem d6_0 : decode (zB 6) 0 = .ok (.iconst 0, 1) := by decide +kernel
theorem d6_1 : decode (zB 6) 1 = .ok (.istore_n 2, 1) := by decide +kernel
theorem d6_2 : decode (zB 6) 2 = .ok (.aload_n 0, 1) := by decide +kernel
theorem d6_3 : decode (zB 6) 3 = .ok (.arraylength, 1) := by decide +kernel
theorem d6_4 : decode (zB 6) 4 = .ok (.istore_n 3, 1) := by decide +kernel
theorem d6_5 : decode (zB 6) 5 = .ok (.iload_n 2, 1) := by decide +kernel
theorem d6_6 : decode (zB 6) 6 = .ok (.iload_n 3, 1) := by decide +kernel
theorem d6_7 : decode (zB 6) 7 = .ok (.if_icmp .ge 13, 3) := by decide +kernel
theorem d6_10 : decode (zB 6) 10 = .ok (.aload_n 0, 1) := by decide +kernel
theorem d6_11 : decode (zB 6) 11 = .ok (.iload_n 2, 1) := by decide +kernel
theorem d6_12 : decode (zB 6) 12 = .ok (.iload_n 1, 1) := by decide +kernel
theorem d6_13 : decode (zB 6) 13 = .ok (.iastore, 1) := by decide +kernel
theorem d6_14 : decode (zB 6) 14 = .ok (.iinc 2 1, 3) := by decide +kernel
theorem d6_17 : decode (zB 6) 17 = .ok (.goto (-12), 3) := by decide +kernel
theorem d6_20 : decode (zB 6) 20 = .ok (.return_, 1) := by decide +kernel
theorem l6 {d : Nat} {Q : Option Value → zM → Prop} {b N : Nat} {v : Int32} {M0 : zM} (hk : zk M0 b = (20, N)) (hN : N < 2147483648) (k : ∀ M', (∀ j, j < N → zi M' b j = v) → Fi (fun a _ => a = b) M0 M' → Q none M') : ∀ (r i : Nat) (M1 : zM), i ≤ N → N < i + r → (∀ j, j < i → zi M1 b j = v) → Fi (fun a _ => a = b) M0 M1 → qW (zEv (d + 0)) 6 Q 5 [(2, .int (nI i)), (3, .int (nI N)), (0, .ref b), (1, .int v)] [] M1 := by
  intro r
  induction r with
  | zero => intros; omega
  | succ r ih =>
    intro i M1 h1 h2 hv f
    refine q_iload_n d6_5 rfl ?_
    refine q_iload_n d6_6 rfl ?_
    refine nc_ge 20 d6_7 (by decide) (by omega) (by omega) (fun h7 => ?_) (fun h7 => ?_)
    · refine q_ret d6_20 rfl ?_
      exact k _ (fun j hj => hv j (by omega)) f
    · refine q_aload_n d6_10 rfl ?_
      refine q_iload_n d6_11 rfl ?_
      refine q_iload_n d6_12 rfl ?_
      refine n_iast d6_13 ((f.k _).trans hk) (by omega) hN ?_
      refine n_iinc 1 d6_14 (by decide) rfl rfl ?_
      refine q_goto 5 d6_17 (by decide) ?_
      exact ih (i + 1) _ (by omega) (by omega) (fun j hj => by by_cases e : j = i; (subst e; exact wi_s _ _ _ _); (rw [wi_n (Or.inr e)]; exact hv j (by omega))) (f.wi rfl)
theorem c6 {d : Nat} {M : zM} {Q : Option Value → zM → Prop} {b N : Nat} {v : Int32} (hk : zk M b = (20, N)) (hN : N < 2147483648) (k : ∀ M', (∀ j, j < N → zi M' b j = v) → Fi (fun a _ => a = b) M M' → Q none M') : qC (d + 1) 6 [.ref b, .int v] M Q := by
  refine qC_of (by decide) (Nat.le_of_ble_eq_true rfl) ?_
  refine q_iconstN (z := 0) d6_0 ?_
  refine q_istore_n d6_1 (by decide) rfl ?_
  refine q_aload_n d6_2 rfl ?_
  refine n_alen d6_3 (Or.inl hk) ?_
  refine q_istore_n d6_4 (by decide) rfl ?_
  refine q_iload_n d6_5 rfl ?_
  refine q_iload_n d6_6 rfl ?_
  refine nc_ge 20 d6_7 (by decide) (by omega) (by omega) (fun h7 => ?_) (fun h7 => ?_)
  · refine q_ret d6_20 rfl ?_
    exact k _ (fun j hj => absurd hj (by omega)) (Fi.refl _ _)
  · refine q_aload_n d6_10 rfl ?_
    refine q_iload_n d6_11 rfl ?_
    refine q_iload_n d6_12 rfl ?_
    refine n_iast d6_13 hk (by omega) hN ?_
    refine n_iinc 1 d6_14 (by decide) rfl rfl ?_
    refine q_goto 5 d6_17 (by decide) ?_
    exact l6 hk hN k (N + 1) 1 _ (by omega) (by omega) (fun j hj => by rw [show j = 0 by omega]; exact wi_s _ _ _ _) ((Fi.refl _ _).wi rfl)
theorem d49_0 : decode (zB 49) 0 = .ok (.iload_n 1, 1) := by decide +kernel
theorem d49_1 : decode (zB 49) 1 = .ok (.ifCond .lt 9, 3) := by decide +kernel
theorem d49_4 : decode (zB 49) 4 = .ok (.iload_n 1, 1) := by decide +kernel
theorem d49_5 : decode (zB 49) 5 = .ok (.bipush 6, 2) := by decide +kernel
theorem d49_7 : decode (zB 49) 7 = .ok (.if_icmp .lt 5, 3) := by decide +kernel
theorem d49_10 : decode (zB 49) 10 = .ok (.iconst 0, 1) := by decide +kernel
theorem d49_11 : decode (zB 49) 11 = .ok (.ireturn, 1) := by decide +kernel
theorem d49_12 : decode (zB 49) 12 = .ok (.aload_n 0, 1) := by decide +kernel
theorem d49_13 : decode (zB 49) 13 = .ok (.getfield 9, 3) := by decide +kernel
theorem d49_16 : decode (zB 49) 16 = .ok (.iload_n 1, 1) := by decide +kernel
theorem d49_17 : decode (zB 49) 17 = .ok (.iaload, 1) := by decide +kernel
theorem d49_18 : decode (zB 49) 18 = .ok (.iload_n 2, 1) := by decide +kernel
theorem d49_19 : decode (zB 49) 19 = .ok (.iadd, 1) := by decide +kernel
theorem d49_20 : decode (zB 49) 20 = .ok (.istore_n 3, 1) := by decide +kernel
theorem d49_21 : decode (zB 49) 21 = .ok (.iload_n 3, 1) := by decide +kernel
theorem d49_22 : decode (zB 49) 22 = .ok (.ifCond .ge 7, 3) := by decide +kernel
theorem d49_25 : decode (zB 49) 25 = .ok (.iconst 2, 1) := by decide +kernel
theorem d49_26 : decode (zB 49) 26 = .ok (.goto 15, 3) := by decide +kernel
theorem d49_29 : decode (zB 49) 29 = .ok (.iload_n 3, 1) := by decide +kernel
theorem d49_30 : decode (zB 49) 30 = .ok (.sipush 9999, 3) := by decide +kernel
theorem d49_33 : decode (zB 49) 33 = .ok (.if_icmp .le 7, 3) := by decide +kernel
theorem d49_36 : decode (zB 49) 36 = .ok (.iconst 3, 1) := by decide +kernel
theorem d49_37 : decode (zB 49) 37 = .ok (.goto 4, 3) := by decide +kernel
theorem d49_40 : decode (zB 49) 40 = .ok (.iconst 0, 1) := by decide +kernel
theorem d49_41 : decode (zB 49) 41 = .ok (.ireturn, 1) := by decide +kernel
theorem c49 {d : Nat} {M : zM} {Q : Option Value → zM → Prop} {u : Nat} {P : yP} {x m : Int32} (hu : SPu M u) (hP : RPu M u P) (k : Q (some (.int (ybe P x m))) M) : qC (d + 1) 49 [.ref u, .int x, .int m] M Q := by
  refine qC_of (by decide) (Nat.le_of_ble_eq_true rfl) ?_
  rcases zix_c x (n := 6) (by omega) with ⟨j, hj, rfl, e⟩ | ⟨e, hn2⟩
  · refine q_iload_n d49_0 rfl ?_
    refine n0_lt 10 d49_1 (by decide) (by omega) (fun q => absurd q (Nat.not_lt_zero _)) (fun _ => ?_)
    refine q_iload_n d49_4 rfl ?_
    refine q_bipush (x := nI 6) d49_5 rfl ?_
    refine nc_lt 12 d49_7 (by decide) (by omega) (by omega) (fun h7 => ?_) (fun h7 => (False.elim (by omega)))
    refine q_aload_n d49_12 rfl ?_
    refine q_getr (c := 2) (f := 0) d49_13 ⟨rfl, rfl⟩ hu.1 hu.2.1 ?_
    refine q_iload_n d49_16 rfl ?_
    refine n_iald d49_17 hu.2.2 (by omega) (by decide) (hP.1 _ (by omega)) ?_
    refine q_iload_n d49_18 rfl ?_
    refine q_iadd d49_19 ?_
    refine q_istore_n d49_20 (by decide) rfl ?_
    refine q_iload_n d49_21 rfl ?_
    refine i0_ge 29 d49_22 (by decide) (fun h22 => ?_) (fun h22 => ?_)
    · refine q_iload_n d49_29 rfl ?_
      refine q_sipush (x := nI 9999) d49_30 rfl ?_
      refine ic_le 40 d49_33 (by decide) (fun h33 => ?_) (fun h33 => ?_)
      · refine q_iconstN (z := 0) d49_40 ?_
        refine q_iret d49_41 rfl ?_
        refine nK k ?_; unfold ybe; rw [e]; show _ = yck (P.1 j + m); unfold yck; first | exact absurd hj (by omega) | (rw [if_pos h22]; first | (rw [if_pos h33]; rfl) | (rw [if_neg h33]; rfl)) | (rw [if_neg h22]; rfl)
      · refine q_iconstN (z := 3) d49_36 ?_
        refine q_goto 41 d49_37 (by decide) ?_
        refine q_iret d49_41 rfl ?_
        refine nK k ?_; unfold ybe; rw [e]; show _ = yck (P.1 j + m); unfold yck; first | exact absurd hj (by omega) | (rw [if_pos h22]; first | (rw [if_pos h33]; rfl) | (rw [if_neg h33]; rfl)) | (rw [if_neg h22]; rfl)
    · refine q_iconstN (z := 2) d49_25 ?_
      refine q_goto 41 d49_26 (by decide) ?_
      refine q_iret d49_41 rfl ?_
      refine nK k ?_; unfold ybe; rw [e]; show _ = yck (P.1 j + m); unfold yck; first | exact absurd hj (by omega) | (rw [if_pos h22]; first | (rw [if_pos h33]; rfl) | (rw [if_neg h33]; rfl)) | (rw [if_neg h22]; rfl)
  · refine q_iload_n d49_0 rfl ?_
    refine i0_lt 10 d49_1 (by decide) (fun h1 => ?_) (fun h1 => ?_)
    · refine q_iconstN (z := 0) d49_10 ?_
      refine q_iret d49_11 rfl ?_
      first | exact nK k (by unfold ybe; rw [e]; rfl) | exact absurd (zix_of h1 (fun q => Int32.not_le.mpr h7 q) (by decide)) hn2
    · refine q_iload_n d49_4 rfl ?_
      refine q_bipush (x := nI 6) d49_5 rfl ?_
      refine ic_lt 12 d49_7 (by decide) (fun h7 => (False.elim (hn2 (zix_of h1 (fun q => (Int32.not_le.mpr h7) q) (by decide))))) (fun h7 => ?_)
      refine q_iconstN (z := 0) d49_10 ?_
      refine q_iret d49_11 rfl ?_
      first | exact nK k (by unfold ybe; rw [e]; rfl) | exact absurd (zix_of h1 (fun q => Int32.not_le.mpr h7 q) (by decide)) hn2
theorem d52_0 : decode (zB 52) 0 = .ok (.iload_n 1, 1) := by decide +kernel
theorem d52_1 : decode (zB 52) 1 = .ok (.ifCond .lt 19, 3) := by decide +kernel
theorem d52_4 : decode (zB 52) 4 = .ok (.iload_n 1, 1) := by decide +kernel
theorem d52_5 : decode (zB 52) 5 = .ok (.bipush 6, 2) := by decide +kernel
theorem d52_7 : decode (zB 52) 7 = .ok (.if_icmp .ge 13, 3) := by decide +kernel
theorem d52_10 : decode (zB 52) 10 = .ok (.aload_n 0, 1) := by decide +kernel
theorem d52_11 : decode (zB 52) 11 = .ok (.getfield 9, 3) := by decide +kernel
theorem d52_14 : decode (zB 52) 14 = .ok (.iload_n 1, 1) := by decide +kernel
theorem d52_15 : decode (zB 52) 15 = .ok (.dup2, 1) := by decide +kernel
theorem d52_16 : decode (zB 52) 16 = .ok (.iaload, 1) := by decide +kernel
theorem d52_17 : decode (zB 52) 17 = .ok (.iload_n 2, 1) := by decide +kernel
theorem d52_18 : decode (zB 52) 18 = .ok (.iadd, 1) := by decide +kernel
theorem d52_19 : decode (zB 52) 19 = .ok (.iastore, 1) := by decide +kernel
theorem d52_20 : decode (zB 52) 20 = .ok (.return_, 1) := by decide +kernel
theorem c52 {d : Nat} {M : zM} {Q : Option Value → zM → Prop} {u : Nat} {P : yP} {x m : Int32} (hu : SPu M u) (hP : RPu M u P) (k : ∀ M', RPu M' u (ypu P x m) → Fi (FU u) M M' → Q none M') : qC (d + 1) 52 [.ref u, .int x, .int m] M Q := by
  refine qC_of (by decide) (Nat.le_of_ble_eq_true rfl) ?_
  rcases zix_c x (n := 6) (by omega) with ⟨j, hj, rfl, e⟩ | ⟨e, hn2⟩
  · refine q_iload_n d52_0 rfl ?_
    refine n0_lt 20 d52_1 (by decide) (by omega) (fun q => absurd q (Nat.not_lt_zero _)) (fun _ => ?_)
    refine q_iload_n d52_4 rfl ?_
    refine q_bipush (x := nI 6) d52_5 rfl ?_
    refine nc_ge 20 d52_7 (by decide) (by omega) (by omega) (fun h7 => (False.elim (by omega))) (fun h7 => ?_)
    refine q_aload_n d52_10 rfl ?_
    refine q_getr (c := 2) (f := 0) d52_11 ⟨rfl, rfl⟩ hu.1 hu.2.1 ?_
    refine q_iload_n d52_14 rfl ?_
    refine q_dup2 d52_15 rfl rfl ?_
    refine n_iald d52_16 hu.2.2 (by omega) (by decide) (hP.1 _ (by omega)) ?_
    refine q_iload_n d52_17 rfl ?_
    refine q_iadd d52_18 ?_
    refine n_iast d52_19 hu.2.2 (by omega) (by decide) ?_
    refine q_ret d52_20 rfl ?_
    exact k _ (by unfold ypu; rw [e]; exact RPu_b hP) ((Fi.refl _ _).wi (FU_1 _ _))
  · refine q_iload_n d52_0 rfl ?_
    refine i0_lt 20 d52_1 (by decide) (fun h1 => ?_) (fun h1 => ?_)
    · refine q_ret d52_20 rfl ?_
      exact k _ (by unfold ypu; rw [e]; exact hP) (Fi.refl _ _)
    · refine q_iload_n d52_4 rfl ?_
      refine q_bipush (x := nI 6) d52_5 rfl ?_
      refine ic_ge 20 d52_7 (by decide) (fun h7 => ?_) (fun h7 => (False.elim (hn2 (zix_of h1 h7 (by decide)))))
      refine q_ret d52_20 rfl ?_
      exact k _ (by unfold ypu; rw [e]; exact hP) (Fi.refl _ _)
theorem d53_0 : decode (zB 53) 0 = .ok (.iload_n 1, 1) := by decide +kernel
theorem d53_1 : decode (zB 53) 1 = .ok (.ifCond .lt 45, 3) := by decide +kernel
theorem d53_4 : decode (zB 53) 4 = .ok (.iload_n 1, 1) := by decide +kernel
theorem d53_5 : decode (zB 53) 5 = .ok (.bipush 6, 2) := by decide +kernel
theorem d53_7 : decode (zB 53) 7 = .ok (.if_icmp .ge 39, 3) := by decide +kernel
theorem d53_10 : decode (zB 53) 10 = .ok (.iload_n 2, 1) := by decide +kernel
theorem d53_11 : decode (zB 53) 11 = .ok (.ifCond .lt 35, 3) := by decide +kernel
theorem d53_14 : decode (zB 53) 14 = .ok (.iload_n 2, 1) := by decide +kernel
theorem d53_15 : decode (zB 53) 15 = .ok (.bipush 6, 2) := by decide +kernel
theorem d53_17 : decode (zB 53) 17 = .ok (.if_icmp .ge 29, 3) := by decide +kernel
theorem d53_20 : decode (zB 53) 20 = .ok (.aload_n 0, 1) := by decide +kernel
theorem d53_21 : decode (zB 53) 21 = .ok (.getfield 9, 3) := by decide +kernel
theorem d53_24 : decode (zB 53) 24 = .ok (.iload_n 1, 1) := by decide +kernel
theorem d53_25 : decode (zB 53) 25 = .ok (.iaload, 1) := by decide +kernel
theorem d53_26 : decode (zB 53) 26 = .ok (.istore_n 3, 1) := by decide +kernel
theorem d53_27 : decode (zB 53) 27 = .ok (.aload_n 0, 1) := by decide +kernel
theorem d53_28 : decode (zB 53) 28 = .ok (.getfield 9, 3) := by decide +kernel
theorem d53_31 : decode (zB 53) 31 = .ok (.iload_n 1, 1) := by decide +kernel
theorem d53_32 : decode (zB 53) 32 = .ok (.aload_n 0, 1) := by decide +kernel
theorem d53_33 : decode (zB 53) 33 = .ok (.getfield 9, 3) := by decide +kernel
theorem d53_36 : decode (zB 53) 36 = .ok (.iload_n 2, 1) := by decide +kernel
theorem d53_37 : decode (zB 53) 37 = .ok (.iaload, 1) := by decide +kernel
theorem d53_38 : decode (zB 53) 38 = .ok (.iastore, 1) := by decide +kernel
theorem d53_39 : decode (zB 53) 39 = .ok (.aload_n 0, 1) := by decide +kernel
theorem d53_40 : decode (zB 53) 40 = .ok (.getfield 9, 3) := by decide +kernel
theorem d53_43 : decode (zB 53) 43 = .ok (.iload_n 2, 1) := by decide +kernel
theorem d53_44 : decode (zB 53) 44 = .ok (.iload_n 3, 1) := by decide +kernel
theorem d53_45 : decode (zB 53) 45 = .ok (.iastore, 1) := by decide +kernel
theorem d53_46 : decode (zB 53) 46 = .ok (.return_, 1) := by decide +kernel
theorem c53 {d : Nat} {M : zM} {Q : Option Value → zM → Prop} {u : Nat} {P : yP} {x z : Int32} (hu : SPu M u) (hP : RPu M u P) (k : ∀ M', RPu M' u (yex P x z) → Fi (FU u) M M' → Q none M') : qC (d + 1) 53 [.ref u, .int x, .int z] M Q := by
  refine qC_of (by decide) (Nat.le_of_ble_eq_true rfl) ?_
  rcases zix_c x (n := 6) (by omega) with ⟨j1, k1, rfl, e1⟩ | ⟨e1, n1⟩ <;> rcases zix_c z (n := 6) (by omega) with ⟨j2, k2, rfl, e2⟩ | ⟨e2, n2⟩
  · refine q_iload_n d53_0 rfl ?_
    refine n0_lt 46 d53_1 (by decide) (by omega) (fun q => absurd q (Nat.not_lt_zero _)) (fun _ => ?_)
    refine q_iload_n d53_4 rfl ?_
    refine q_bipush (x := nI 6) d53_5 rfl ?_
    refine nc_ge 46 d53_7 (by decide) (by omega) (by omega) (fun h7 => (False.elim (by omega))) (fun h7 => ?_)
    refine q_iload_n d53_10 rfl ?_
    refine n0_lt 46 d53_11 (by decide) (by omega) (fun q => absurd q (Nat.not_lt_zero _)) (fun _ => ?_)
    refine q_iload_n d53_14 rfl ?_
    refine q_bipush (x := nI 6) d53_15 rfl ?_
    refine nc_ge 46 d53_17 (by decide) (by omega) (by omega) (fun h17 => (False.elim (by omega))) (fun h17 => ?_)
    refine q_aload_n d53_20 rfl ?_
    refine q_getr (c := 2) (f := 0) d53_21 ⟨rfl, rfl⟩ hu.1 hu.2.1 ?_
    refine q_iload_n d53_24 rfl ?_
    refine n_iald d53_25 hu.2.2 (by omega) (by decide) (hP.1 _ (by omega)) ?_
    refine q_istore_n d53_26 (by decide) rfl ?_
    refine q_aload_n d53_27 rfl ?_
    refine q_getr (c := 2) (f := 0) d53_28 ⟨rfl, rfl⟩ hu.1 hu.2.1 ?_
    refine q_iload_n d53_31 rfl ?_
    refine q_aload_n d53_32 rfl ?_
    refine q_getr (c := 2) (f := 0) d53_33 ⟨rfl, rfl⟩ hu.1 hu.2.1 ?_
    refine q_iload_n d53_36 rfl ?_
    refine n_iald d53_37 hu.2.2 (by omega) (by decide) (hP.1 _ (by omega)) ?_
    refine n_iast d53_38 hu.2.2 (by omega) (by decide) ?_
    refine q_aload_n d53_39 rfl ?_
    refine q_getr (c := 2) (f := 0) d53_40 ⟨rfl, rfl⟩ hu.1 hu.2.1 ?_
    refine q_iload_n d53_43 rfl ?_
    refine q_iload_n d53_44 rfl ?_
    refine n_iast d53_45 hu.2.2 (by omega) (by decide) ?_
    refine q_ret d53_46 rfl ?_
    exact k _ (by unfold yex; rw [e1, e2]; exact RPu_b (RPu_b hP)) (((Fi.refl _ _).wi (FU_1 _ _)).wi (FU_1 _ _))
  · refine q_iload_n d53_0 rfl ?_
    refine n0_lt 46 d53_1 (by decide) (by omega) (fun q => absurd q (Nat.not_lt_zero _)) (fun _ => ?_)
    refine q_iload_n d53_4 rfl ?_
    refine q_bipush (x := nI 6) d53_5 rfl ?_
    refine nc_ge 46 d53_7 (by decide) (by omega) (by omega) (fun h7 => (False.elim (by omega))) (fun h7 => ?_)
    refine q_iload_n d53_10 rfl ?_
    refine i0_lt 46 d53_11 (by decide) (fun h11 => ?_) (fun h11 => ?_)
    · refine q_ret d53_46 rfl ?_
      exact k _ (by unfold yex; rw [e1, e2]; exact hP) (Fi.refl _ _)
    · refine q_iload_n d53_14 rfl ?_
      refine q_bipush (x := nI 6) d53_15 rfl ?_
      refine ic_ge 46 d53_17 (by decide) (fun h17 => ?_) (fun h17 => (False.elim (n2 (zix_of h11 h17 (by decide)))))
      refine q_ret d53_46 rfl ?_
      exact k _ (by unfold yex; rw [e1, e2]; exact hP) (Fi.refl _ _)
  · refine q_iload_n d53_0 rfl ?_
    refine i0_lt 46 d53_1 (by decide) (fun h1 => ?_) (fun h1 => ?_)
    · refine q_ret d53_46 rfl ?_
      exact k _ (by unfold yex; rw [e1, e2]; exact hP) (Fi.refl _ _)
    · refine q_iload_n d53_4 rfl ?_
      refine q_bipush (x := nI 6) d53_5 rfl ?_
      refine ic_ge 46 d53_7 (by decide) (fun h7 => ?_) (fun h7 => (False.elim (n1 (zix_of h1 h7 (by decide)))))
      refine q_ret d53_46 rfl ?_
      exact k _ (by unfold yex; rw [e1, e2]; exact hP) (Fi.refl _ _)
  · refine q_iload_n d53_0 rfl ?_
    refine i0_lt 46 d53_1 (by decide) (fun h1 => ?_) (fun h1 => ?_)
    · refine q_ret d53_46 rfl ?_
      exact k _ (by unfold yex; rw [e1, e2]; exact hP) (Fi.refl _ _)
    · refine q_iload_n d53_4 rfl ?_
      refine q_bipush (x := nI 6) d53_5 rfl ?_
      refine ic_ge 46 d53_7 (by decide) (fun h7 => ?_) (fun h7 => (False.elim (n1 (zix_of h1 h7 (by decide)))))
      refine q_ret d53_46 rfl ?_
      exact k _ (by unfold yex; rw [e1, e2]; exact hP) (Fi.refl _ _)
theorem d46_0 : decode (zB 46) 0 = .ok (.aload_n 1, 1) := by decide +kernel
theorem d46_1 : decode (zB 46) 1 = .ok (.ifnull 11, 3) := by decide +kernel
theorem d46_4 : decode (zB 46) 4 = .ok (.aload_n 1, 1) := by decide +kernel
theorem d46_5 : decode (zB 46) 5 = .ok (.iload_n 2, 1) := by decide +kernel
theorem d46_6 : decode (zB 46) 6 = .ok (.invokevirtual 34, 3) := by decide +kernel
theorem d46_9 : decode (zB 46) 9 = .ok (.ifCond .ne 5, 3) := by decide +kernel
theorem d46_12 : decode (zB 46) 12 = .ok (.iconst 0, 1) := by decide +kernel
theorem d46_13 : decode (zB 46) 13 = .ok (.ireturn, 1) := by decide +kernel
theorem d46_14 : decode (zB 46) 14 = .ok (.aload_n 1, 1) := by decide +kernel
theorem d46_15 : decode (zB 46) 15 = .ok (.getfield 40, 3) := by decide +kernel
theorem d46_18 : decode (zB 46) 18 = .ok (.iload_n 2, 1) := by decide +kernel
theorem d46_19 : decode (zB 46) 19 = .ok (.iaload, 1) := by decide +kernel
theorem d46_20 : decode (zB 46) 20 = .ok (.istore 5, 2) := by decide +kernel
theorem d46_22 : decode (zB 46) 22 = .ok (.aload_n 0, 1) := by decide +kernel
theorem d46_23 : decode (zB 46) 23 = .ok (.aload_n 1, 1) := by decide +kernel
theorem d46_24 : decode (zB 46) 24 = .ok (.getfield 43, 3) := by decide +kernel
theorem d46_27 : decode (zB 46) 27 = .ok (.iload_n 2, 1) := by decide +kernel
theorem d46_28 : decode (zB 46) 28 = .ok (.iaload, 1) := by decide +kernel
theorem d46_29 : decode (zB 46) 29 = .ok (.iload 4, 2) := by decide +kernel
theorem d46_31 : decode (zB 46) 31 = .ok (.iload 5, 2) := by decide +kernel
theorem d46_33 : decode (zB 46) 33 = .ok (.iload_n 3, 1) := by decide +kernel
theorem d46_34 : decode (zB 46) 34 = .ok (.invokestatic 46, 3) := by decide +kernel
theorem d46_37 : decode (zB 46) 37 = .ok (.imul, 1) := by decide +kernel
theorem d46_38 : decode (zB 46) 38 = .ok (.invokevirtual 50, 3) := by decide +kernel
theorem d46_41 : decode (zB 46) 41 = .ok (.istore 6, 2) := by decide +kernel
theorem d46_43 : decode (zB 46) 43 = .ok (.iload 6, 2) := by decide +kernel
theorem d46_45 : decode (zB 46) 45 = .ok (.ifCond .eq 8, 3) := by decide +kernel
theorem d46_48 : decode (zB 46) 48 = .ok (.iload 6, 2) := by decide +kernel
theorem d46_50 : decode (zB 46) 50 = .ok (.goto 22, 3) := by decide +kernel
theorem d46_53 : decode (zB 46) 53 = .ok (.aload_n 0, 1) := by decide +kernel
theorem d46_54 : decode (zB 46) 54 = .ok (.aload_n 1, 1) := by decide +kernel
theorem d46_55 : decode (zB 46) 55 = .ok (.getfield 53, 3) := by decide +kernel
theorem d46_58 : decode (zB 46) 58 = .ok (.iload_n 2, 1) := by decide +kernel
theorem d46_59 : decode (zB 46) 59 = .ok (.iaload, 1) := by decide +kernel
theorem d46_60 : decode (zB 46) 60 = .ok (.iload 4, 2) := by decide +kernel
theorem d46_62 : decode (zB 46) 62 = .ok (.iload 5, 2) := by decide +kernel
theorem d46_64 : decode (zB 46) 64 = .ok (.iload_n 3, 1) := by decide +kernel
theorem d46_65 : decode (zB 46) 65 = .ok (.invokestatic 56, 3) := by decide +kernel
theorem d46_68 : decode (zB 46) 68 = .ok (.imul, 1) := by decide +kernel
theorem d46_69 : decode (zB 46) 69 = .ok (.invokevirtual 50, 3) := by decide +kernel
theorem d46_72 : decode (zB 46) 72 = .ok (.ireturn, 1) := by decide +kernel
theorem c46 {d : Nat} {M : zM} {Q : Option Value → zM → Prop} {u : Nat} {P : yP} {a : Nat} {T : yT} {i : Nat} {n w : Int32} (hu : SPu M u) (hP : RPu M u P) (hp : SPr M a) (hr : RP M a T) (ho : OKT T) (hi : i < tn T) (k : Q (some (.int (yob T P i n w))) M) : qC (d + 2) 46 [.ref u, .ref a, .int (nI i), .int n, .int w] M Q := by
  have hn := ho.n
  have hk6 := ho.k hi
  refine qC_of (by decide) (Nat.le_of_ble_eq_true rfl) ?_
  refine q_aload_n d46_0 rfl ?_
  refine q_ifnull (r := some _) 12 d46_1 (by decide) (fun q => absurd q (Option.some_ne_none _)) (fun _ => ?_)
  refine q_aload_n d46_4 rfl ?_
  refine q_iload_n d46_5 rfl ?_
  refine q_v1 d46_6 rfl rfl hp.1 (Nat.le_of_ble_eq_true rfl) (c47t hp hr hn hi ?_)
  refine n0_ne 14 d46_9 (by decide) (by decide) (fun _ => ?_) (fun q => absurd q (by decide))
  refine q_aload_n d46_14 rfl ?_
  refine q_getr (c := 1) (f := 0) d46_15 ⟨rfl, rfl⟩ hp.1 (hp.2 0 (by decide)).1 ?_
  refine q_iload_n d46_18 rfl ?_
  refine n_iald d46_19 (hp.2 0 (by decide)).2 (by omega) (by decide) (hr.2.2 _ (by omega)).1 ?_
  refine q_istore d46_20 (by decide) rfl ?_
  refine q_aload_n d46_22 rfl ?_
  refine q_aload_n d46_23 rfl ?_
  refine q_getr (c := 1) (f := 1) d46_24 ⟨rfl, rfl⟩ hp.1 (hp.2 1 (by decide)).1 ?_
  refine q_iload_n d46_27 rfl ?_
  refine n_iald d46_28 (hp.2 1 (by decide)).2 (by omega) (by decide) (hr.2.2 _ (by omega)).2.1 ?_
  refine q_iload d46_29 rfl ?_
  refine q_iload d46_31 rfl ?_
  refine q_iload_n d46_33 rfl ?_
  refine q_s2 d46_34 (Or.inl rfl) rfl (Nat.le_of_ble_eq_true rfl) (c48 (by omega) ?_)
  refine q_imul d46_37 ?_
  refine q_v2 d46_38 rfl rfl hu.1 (Nat.le_of_ble_eq_true rfl) (c49 hu hP ?_)
  refine q_istore d46_41 (by decide) rfl ?_
  refine q_iload d46_43 rfl ?_
  refine i0_eq 53 d46_45 (by decide) (fun h45 => ?_) (fun h45 => ?_)
  · refine q_aload_n d46_53 rfl ?_
    refine q_aload_n d46_54 rfl ?_
    refine q_getr (c := 1) (f := 2) d46_55 ⟨rfl, rfl⟩ hp.1 (hp.2 2 (by decide)).1 ?_
    refine q_iload_n d46_58 rfl ?_
    refine n_iald d46_59 (hp.2 2 (by decide)).2 (by omega) (by decide) (hr.2.2 _ (by omega)).2.2.1 ?_
    refine q_iload d46_60 rfl ?_
    refine q_iload d46_62 rfl ?_
    refine q_iload_n d46_64 rfl ?_
    refine q_s2 d46_65 (Or.inl rfl) rfl (Nat.le_of_ble_eq_true rfl) (c50 (by omega) ?_)
    refine q_imul d46_68 ?_
    refine q_v2 d46_69 rfl rfl hu.1 (Nat.le_of_ble_eq_true rfl) (c49 hu hP ?_)
    refine q_iret d46_72 rfl ?_
    first | exact nK k (by unfold yob; rw [if_pos h45]) | exact nK k (by unfold yob; rw [if_neg (fun q => q h45)])
  · refine q_iload d46_48 rfl ?_
    refine q_goto 72 d46_50 (by decide) ?_
    refine q_iret d46_72 rfl ?_
    first | exact nK k (by unfold yob; rw [if_pos h45]) | exact nK k (by unfold yob; rw [if_neg (fun q => q h45)])
theorem d51_0 : decode (zB 51) 0 = .ok (.aload_n 1, 1) := by decide +kernel
theorem d51_1 : decode (zB 51) 1 = .ok (.ifnull 11, 3) := by decide +kernel
theorem d51_4 : decode (zB 51) 4 = .ok (.aload_n 1, 1) := by decide +kernel
theorem d51_5 : decode (zB 51) 5 = .ok (.iload_n 2, 1) := by decide +kernel
theorem d51_6 : decode (zB 51) 6 = .ok (.invokevirtual 34, 3) := by decide +kernel
theorem d51_9 : decode (zB 51) 9 = .ok (.ifCond .ne 4, 3) := by decide +kernel
theorem d51_12 : decode (zB 51) 12 = .ok (.return_, 1) := by decide +kernel
theorem d51_13 : decode (zB 51) 13 = .ok (.aload_n 1, 1) := by decide +kernel
theorem d51_14 : decode (zB 51) 14 = .ok (.getfield 40, 3) := by decide +kernel
theorem d51_17 : decode (zB 51) 17 = .ok (.iload_n 2, 1) := by decide +kernel
theorem d51_18 : decode (zB 51) 18 = .ok (.iaload, 1) := by decide +kernel
theorem d51_19 : decode (zB 51) 19 = .ok (.istore 5, 2) := by decide +kernel
theorem d51_21 : decode (zB 51) 21 = .ok (.aload_n 0, 1) := by decide +kernel
theorem d51_22 : decode (zB 51) 22 = .ok (.aload_n 1, 1) := by decide +kernel
theorem d51_23 : decode (zB 51) 23 = .ok (.getfield 43, 3) := by decide +kernel
theorem d51_26 : decode (zB 51) 26 = .ok (.iload_n 2, 1) := by decide +kernel
theorem d51_27 : decode (zB 51) 27 = .ok (.iaload, 1) := by decide +kernel
theorem d51_28 : decode (zB 51) 28 = .ok (.iload 4, 2) := by decide +kernel
theorem d51_30 : decode (zB 51) 30 = .ok (.iload 5, 2) := by decide +kernel
theorem d51_32 : decode (zB 51) 32 = .ok (.iload_n 3, 1) := by decide +kernel
theorem d51_33 : decode (zB 51) 33 = .ok (.invokestatic 46, 3) := by decide +kernel
theorem d51_36 : decode (zB 51) 36 = .ok (.imul, 1) := by decide +kernel
theorem d51_37 : decode (zB 51) 37 = .ok (.invokevirtual 59, 3) := by decide +kernel
theorem d51_40 : decode (zB 51) 40 = .ok (.aload_n 0, 1) := by decide +kernel
theorem d51_41 : decode (zB 51) 41 = .ok (.aload_n 1, 1) := by decide +kernel
theorem d51_42 : decode (zB 51) 42 = .ok (.getfield 53, 3) := by decide +kernel
theorem d51_45 : decode (zB 51) 45 = .ok (.iload_n 2, 1) := by decide +kernel
theorem d51_46 : decode (zB 51) 46 = .ok (.iaload, 1) := by decide +kernel
theorem d51_47 : decode (zB 51) 47 = .ok (.iload 4, 2) := by decide +kernel
theorem d51_49 : decode (zB 51) 49 = .ok (.iload 5, 2) := by decide +kernel
theorem d51_51 : decode (zB 51) 51 = .ok (.iload_n 3, 1) := by decide +kernel
theorem d51_52 : decode (zB 51) 52 = .ok (.invokestatic 56, 3) := by decide +kernel
theorem d51_55 : decode (zB 51) 55 = .ok (.imul, 1) := by decide +kernel
theorem d51_56 : decode (zB 51) 56 = .ok (.invokevirtual 59, 3) := by decide +kernel
theorem d51_59 : decode (zB 51) 59 = .ok (.iload 5, 2) := by decide +kernel
theorem d51_61 : decode (zB 51) 61 = .ok (.iconst 3, 1) := by decide +kernel
theorem d51_62 : decode (zB 51) 62 = .ok (.if_icmp .ne 19, 3) := by decide +kernel
theorem d51_65 : decode (zB 51) 65 = .ok (.aload_n 0, 1) := by decide +kernel
theorem d51_66 : decode (zB 51) 66 = .ok (.dup, 1) := by decide +kernel
theorem d51_67 : decode (zB 51) 67 = .ok (.getfield 21, 3) := by decide +kernel
theorem d51_70 : decode (zB 51) 70 = .ok (.iload 4, 2) := by decide +kernel
theorem d51_72 : decode (zB 51) 72 = .ok (.iload_n 3, 1) := by decide +kernel
theorem d51_73 : decode (zB 51) 73 = .ok (.imul, 1) := by decide +kernel
theorem d51_74 : decode (zB 51) 74 = .ok (.iadd, 1) := by decide +kernel
theorem d51_75 : decode (zB 51) 75 = .ok (.putfield 21, 3) := by decide +kernel
theorem d51_78 : decode (zB 51) 78 = .ok (.goto 50, 3) := by decide +kernel
theorem d51_81 : decode (zB 51) 81 = .ok (.iload 5, 2) := by decide +kernel
theorem d51_83 : decode (zB 51) 83 = .ok (.iconst 4, 1) := by decide +kernel
theorem d51_84 : decode (zB 51) 84 = .ok (.if_icmp .ne 22, 3) := by decide +kernel
theorem d51_87 : decode (zB 51) 87 = .ok (.aload_n 0, 1) := by decide +kernel
theorem d51_88 : decode (zB 51) 88 = .ok (.aload_n 1, 1) := by decide +kernel
theorem d51_89 : decode (zB 51) 89 = .ok (.getfield 43, 3) := by decide +kernel
theorem d51_92 : decode (zB 51) 92 = .ok (.iload_n 2, 1) := by decide +kernel
theorem d51_93 : decode (zB 51) 93 = .ok (.iaload, 1) := by decide +kernel
theorem d51_94 : decode (zB 51) 94 = .ok (.aload_n 1, 1) := by decide +kernel
theorem d51_95 : decode (zB 51) 95 = .ok (.getfield 53, 3) := by decide +kernel
theorem d51_98 : decode (zB 51) 98 = .ok (.iload_n 2, 1) := by decide +kernel
theorem d51_99 : decode (zB 51) 99 = .ok (.iaload, 1) := by decide +kernel
theorem d51_100 : decode (zB 51) 100 = .ok (.invokevirtual 63, 3) := by decide +kernel
theorem d51_103 : decode (zB 51) 103 = .ok (.goto 25, 3) := by decide +kernel
theorem d51_106 : decode (zB 51) 106 = .ok (.iload 5, 2) := by decide +kernel
theorem d51_108 : decode (zB 51) 108 = .ok (.iconst 5, 1) := by decide +kernel
theorem d51_109 : decode (zB 51) 109 = .ok (.if_icmp .ne 19, 3) := by decide +kernel
theorem d51_112 : decode (zB 51) 112 = .ok (.iload 4, 2) := by decide +kernel
theorem d51_114 : decode (zB 51) 114 = .ok (.iconst 1, 1) := by decide +kernel
theorem d51_115 : decode (zB 51) 115 = .ok (.if_icmp .ne 13, 3) := by decide +kernel
theorem d51_118 : decode (zB 51) 118 = .ok (.aload_n 0, 1) := by decide +kernel
theorem d51_119 : decode (zB 51) 119 = .ok (.dup, 1) := by decide +kernel
theorem d51_120 : decode (zB 51) 120 = .ok (.getfield 25, 3) := by decide +kernel
theorem d51_123 : decode (zB 51) 123 = .ok (.iconst 1, 1) := by decide +kernel
theorem d51_124 : decode (zB 51) 124 = .ok (.iadd, 1) := by decide +kernel
theorem d51_125 : decode (zB 51) 125 = .ok (.putfield 25, 3) := by decide +kernel
theorem d51_128 : decode (zB 51) 128 = .ok (.return_, 1) := by decide +kernel
theorem c51 {d : Nat} {M : zM} {Q : Option Value → zM → Prop} {u : Nat} {P : yP} {a : Nat} {T : yT} {i : Nat} {n w : Int32} (hu : SPu M u) (hP : RPu M u P) (hp : SPr M a) (hr : RP M a T) (ho : OKT T) (hi : i < tn T) (hau : a + 7 ≤ u) (k : ∀ M', RPu M' u (ych T P i n w) → Fi (FU u) M M' → Q none M') : qC (d + 2) 51 [.ref u, .ref a, .int (nI i), .int n, .int w] M Q := by
  have hn := ho.n
  have hk6 := ho.k hi
  refine qC_of (by decide) (Nat.le_of_ble_eq_true rfl) ?_
  refine q_aload_n d51_0 rfl ?_
  refine q_ifnull (r := some _) 12 d51_1 (by decide) (fun q => absurd q (Option.some_ne_none _)) (fun _ => ?_)
  refine q_aload_n d51_4 rfl ?_
  refine q_iload_n d51_5 rfl ?_
  refine q_v1 d51_6 rfl rfl hp.1 (Nat.le_of_ble_eq_true rfl) (c47t hp hr hn hi ?_)
  refine n0_ne 13 d51_9 (by decide) (by decide) (fun _ => ?_) (fun q => absurd q (by decide))
  refine q_aload_n d51_13 rfl ?_
  refine q_getr (c := 1) (f := 0) d51_14 ⟨rfl, rfl⟩ hp.1 (hp.2 0 (by decide)).1 ?_
  refine q_iload_n d51_17 rfl ?_
  refine n_iald d51_18 (hp.2 0 (by decide)).2 (by omega) (by decide) (hr.2.2 _ (by omega)).1 ?_
  refine q_istore d51_19 (by decide) rfl ?_
  refine q_aload_n d51_21 rfl ?_
  refine q_aload_n d51_22 rfl ?_
  refine q_getr (c := 1) (f := 1) d51_23 ⟨rfl, rfl⟩ hp.1 (hp.2 1 (by decide)).1 ?_
  refine q_iload_n d51_26 rfl ?_
  refine n_iald d51_27 (hp.2 1 (by decide)).2 (by omega) (by decide) (hr.2.2 _ (by omega)).2.1 ?_
  refine q_iload d51_28 rfl ?_
  refine q_iload d51_30 rfl ?_
  refine q_iload_n d51_32 rfl ?_
  refine q_s2 d51_33 (Or.inl rfl) rfl (Nat.le_of_ble_eq_true rfl) (c48 (by omega) ?_)
  refine q_imul d51_36 ?_
  refine q_v2 d51_37 rfl rfl hu.1 (Nat.le_of_ble_eq_true rfl) (c52 hu hP (fun M1 hP1 f1 => ?_))
  have hu1 := SPu_fi hu f1
  have hp1 := SPr_fi hp f1
  have hr1 := RP_fr hr f1.fr (FU_x hau)
  refine q_aload_n d51_40 rfl ?_
  refine q_aload_n d51_41 rfl ?_
  refine q_getr (c := 1) (f := 2) d51_42 ⟨rfl, rfl⟩ hp1.1 (hp1.2 2 (by decide)).1 ?_
  refine q_iload_n d51_45 rfl ?_
  refine n_iald d51_46 (hp1.2 2 (by decide)).2 (by omega) (by decide) (hr1.2.2 _ (by omega)).2.2.1 ?_
  refine q_iload d51_47 rfl ?_
  refine q_iload d51_49 rfl ?_
  refine q_iload_n d51_51 rfl ?_
  refine q_s2 d51_52 (Or.inl rfl) rfl (Nat.le_of_ble_eq_true rfl) (c50 (by omega) ?_)
  refine q_imul d51_55 ?_
  refine q_v2 d51_56 rfl rfl hu1.1 (Nat.le_of_ble_eq_true rfl) (c52 hu1 hP1 (fun M2 hP2 f2 => ?_))
  have hu2 := SPu_fi hu1 f2
  have hp2 := SPr_fi hp1 f2
  have hr2 := RP_fr hr1 f2.fr (FU_x hau)
  refine q_iload d51_59 rfl ?_
  refine q_iconstN (z := 3) d51_61 ?_
  refine nc_ne 81 d51_62 (by decide) (by omega) (by omega) (fun h62 => ?_) (fun h62 => ?_)
  · refine q_iload d51_81 rfl ?_
    refine q_iconstN (z := 4) d51_83 ?_
    refine nc_ne 106 d51_84 (by decide) (by omega) (by omega) (fun h84 => ?_) (fun h84 => ?_)
    · refine q_iload d51_106 rfl ?_
      refine q_iconstN (z := 5) d51_108 ?_
      refine nc_ne 128 d51_109 (by decide) (by omega) (by omega) (fun h109 => ?_) (fun h109 => ?_)
      · refine q_ret d51_128 rfl ?_
        first
        | exact k _ (by unfold ych; rw [if_neg h62, if_pos h84]; exact hP3) ((f1.trans f2).trans f3)
        | exact k _ (by unfold ych; rw [if_pos h62]; exact RPu_h hP2) ((f1.trans f2).wi (FU_0 _ _))
        | exact k _ (by unfold ych; rw [if_neg h62, if_neg h84, if_pos ⟨h109, h115⟩]; exact RPu_m hP2) ((f1.trans f2).wi (FU_0 _ _))
        | exact k _ (by unfold ych; rw [if_neg h62, if_neg h84, if_neg (fun q => h115 q.2)]; exact hP2) (f1.trans f2)
        | exact k _ (by unfold ych; rw [if_neg h62, if_neg h84, if_neg (fun q => h109 q.1)]; exact hP2) (f1.trans f2)
      · refine q_iload d51_112 rfl ?_
        refine q_iconstN (z := 1) d51_114 ?_
        refine ic_ne 128 d51_115 (by decide) (fun h115 => ?_) (fun h115 => ?_)
        · refine q_ret d51_128 rfl ?_
          first
          | exact k _ (by unfold ych; rw [if_neg h62, if_pos h84]; exact hP3) ((f1.trans f2).trans f3)
          | exact k _ (by unfold ych; rw [if_pos h62]; exact RPu_h hP2) ((f1.trans f2).wi (FU_0 _ _))
          | exact k _ (by unfold ych; rw [if_neg h62, if_neg h84, if_pos ⟨h109, h115⟩]; exact RPu_m hP2) ((f1.trans f2).wi (FU_0 _ _))
          | exact k _ (by unfold ych; rw [if_neg h62, if_neg h84, if_neg (fun q => h115 q.2)]; exact hP2) (f1.trans f2)
          | exact k _ (by unfold ych; rw [if_neg h62, if_neg h84, if_neg (fun q => h109 q.1)]; exact hP2) (f1.trans f2)
        · refine q_aload_n d51_118 rfl ?_
          refine q_dup d51_119 rfl ?_
          refine q_getv (c := 2) (f := 2) d51_120 ⟨rfl, by decide⟩ hu2.1 hP2.2.2 ?_
          refine q_iconstN (z := 1) d51_123 ?_
          refine q_iadd d51_124 ?_
          refine q_puti (c := 2) (f := 2) d51_125 ⟨rfl, rfl, by decide⟩ hu2.1 ?_
          refine q_ret d51_128 rfl ?_
          first
          | exact k _ (by unfold ych; rw [if_neg h62, if_pos h84]; exact hP3) ((f1.trans f2).trans f3)
          | exact k _ (by unfold ych; rw [if_pos h62]; exact RPu_h hP2) ((f1.trans f2).wi (FU_0 _ _))
          | exact k _ (by unfold ych; rw [if_neg h62, if_neg h84, if_pos ⟨h109, h115⟩]; exact RPu_m hP2) ((f1.trans f2).wi (FU_0 _ _))
          | exact k _ (by unfold ych; rw [if_neg h62, if_neg h84, if_neg (fun q => h115 q.2)]; exact hP2) (f1.trans f2)
          | exact k _ (by unfold ych; rw [if_neg h62, if_neg h84, if_neg (fun q => h109 q.1)]; exact hP2) (f1.trans f2)
    · refine q_aload_n d51_87 rfl ?_
      refine q_aload_n d51_88 rfl ?_
      refine q_getr (c := 1) (f := 1) d51_89 ⟨rfl, rfl⟩ hp2.1 (hp2.2 1 (by decide)).1 ?_
      refine q_iload_n d51_92 rfl ?_
      refine n_iald d51_93 (hp2.2 1 (by decide)).2 (by omega) (by decide) (hr2.2.2 _ (by omega)).2.1 ?_
      refine q_aload_n d51_94 rfl ?_
      refine q_getr (c := 1) (f := 2) d51_95 ⟨rfl, rfl⟩ hp2.1 (hp2.2 2 (by decide)).1 ?_
      refine q_iload_n d51_98 rfl ?_
      refine n_iald d51_99 (hp2.2 2 (by decide)).2 (by omega) (by decide) (hr2.2.2 _ (by omega)).2.2.1 ?_
      refine q_v2 d51_100 rfl rfl hu2.1 (Nat.le_of_ble_eq_true rfl) (c53 hu2 hP2 (fun M3 hP3 f3 => ?_))
      refine q_goto 128 d51_103 (by decide) ?_
      refine q_ret d51_128 rfl ?_
      first
      | exact k _ (by unfold ych; rw [if_neg h62, if_pos h84]; exact hP3) ((f1.trans f2).trans f3)
      | exact k _ (by unfold ych; rw [if_pos h62]; exact RPu_h hP2) ((f1.trans f2).wi (FU_0 _ _))
      | exact k _ (by unfold ych; rw [if_neg h62, if_neg h84, if_pos ⟨h109, h115⟩]; exact RPu_m hP2) ((f1.trans f2).wi (FU_0 _ _))
      | exact k _ (by unfold ych; rw [if_neg h62, if_neg h84, if_neg (fun q => h115 q.2)]; exact hP2) (f1.trans f2)
      | exact k _ (by unfold ych; rw [if_neg h62, if_neg h84, if_neg (fun q => h109 q.1)]; exact hP2) (f1.trans f2)
  · refine q_aload_n d51_65 rfl ?_
    refine q_dup d51_66 rfl ?_
    refine q_getv (c := 2) (f := 1) d51_67 ⟨rfl, by decide⟩ hu2.1 hP2.2.1 ?_
    refine q_iload d51_70 rfl ?_
    refine q_iload_n d51_72 rfl ?_
    refine q_imul d51_73 ?_
    refine q_iadd d51_74 ?_
    refine q_puti (c := 2) (f := 1) d51_75 ⟨rfl, rfl, by decide⟩ hu2.1 ?_
    refine q_goto 128 d51_78 (by decide) ?_
    refine q_ret d51_128 rfl ?_
    first
    | exact k _ (by unfold ych; rw [if_neg h62, if_pos h84]; exact hP3) ((f1.trans f2).trans f3)
    | exact k _ (by unfold ych; rw [if_pos h62]; exact RPu_h hP2) ((f1.trans f2).wi (FU_0 _ _))
    | exact k _ (by unfold ych; rw [if_neg h62, if_neg h84, if_pos ⟨h109, h115⟩]; exact RPu_m hP2) ((f1.trans f2).wi (FU_0 _ _))
    | exact k _ (by unfold ych; rw [if_neg h62, if_neg h84, if_neg (fun q => h115 q.2)]; exact hP2) (f1.trans f2)
    | exact k _ (by unfold ych; rw [if_neg h62, if_neg h84, if_neg (fun q => h109 q.1)]; exact hP2) (f1.trans f2)
/-- does one of these steps fail -/
def ybl (T : yT) (P : yP) (set : Nat) : Bool := decide (∃ i, i < tn T ∧ set.testBit i = true ∧ yob T P i (tu T i) 1 ≠ 0)
theorem d45_0 : decode (zB 45) 0 = .ok (.iconst 0, 1) := by decide +kernel
theorem d45_1 : decode (zB 45) 1 = .ok (.istore_n 3, 1) := by decide +kernel
theorem d45_2 : decode (zB 45) 2 = .ok (.iload_n 3, 1) := by decide +kernel
theorem d45_3 : decode (zB 45) 3 = .ok (.aload_n 1, 1) := by decide +kernel
theorem d45_4 : decode (zB 45) 4 = .ok (.getfield 66, 3) := by decide +kernel
theorem d45_7 : decode (zB 45) 7 = .ok (.if_icmp .ge 35, 3) := by decide +kernel
theorem d45_10 : decode (zB 45) 10 = .ok (.iload_n 2, 1) := by decide +kernel
theorem d45_11 : decode (zB 45) 11 = .ok (.iload_n 3, 1) := by decide +kernel
theorem d45_12 : decode (zB 45) 12 = .ok (.invokestatic 69, 3) := by decide +kernel
theorem d45_15 : decode (zB 45) 15 = .ok (.ifCond .eq 21, 3) := by decide +kernel
theorem d45_18 : decode (zB 45) 18 = .ok (.aload_n 0, 1) := by decide +kernel
theorem d45_19 : decode (zB 45) 19 = .ok (.aload_n 1, 1) := by decide +kernel
theorem d45_20 : decode (zB 45) 20 = .ok (.iload_n 3, 1) := by decide +kernel
theorem d45_21 : decode (zB 45) 21 = .ok (.aload_n 1, 1) := by decide +kernel
theorem d45_22 : decode (zB 45) 22 = .ok (.getfield 73, 3) := by decide +kernel
theorem d45_25 : decode (zB 45) 25 = .ok (.iload_n 3, 1) := by decide +kernel
theorem d45_26 : decode (zB 45) 26 = .ok (.iaload, 1) := by decide +kernel
theorem d45_27 : decode (zB 45) 27 = .ok (.iconst 1, 1) := by decide +kernel
theorem d45_28 : decode (zB 45) 28 = .ok (.invokevirtual 76, 3) := by decide +kernel
theorem d45_31 : decode (zB 45) 31 = .ok (.ifCond .eq 5, 3) := by decide +kernel
theorem d45_34 : decode (zB 45) 34 = .ok (.iconst 1, 1) := by decide +kernel
theorem d45_35 : decode (zB 45) 35 = .ok (.ireturn, 1) := by decide +kernel
theorem d45_36 : decode (zB 45) 36 = .ok (.iinc 3 1, 3) := by decide +kernel
theorem d45_39 : decode (zB 45) 39 = .ok (.goto (-37), 3) := by decide +kernel
theorem d45_42 : decode (zB 45) 42 = .ok (.iconst 0, 1) := by decide +kernel
theorem d45_43 : decode (zB 45) 43 = .ok (.ireturn, 1) := by decide +kernel
theorem l45 {d : Nat} {M : zM} {Q : Option Value → zM → Prop} {u : Nat} {P : yP} {a : Nat} {T : yT} {set : Nat} (hu : SPu M u) (hP : RPu M u P) (hp : SPr M a) (hr : RP M a T) (ho : OKT T) (hs : set < 4096) (k : Q (some (.int (bI (ybl T P set)))) M) : ∀ (r i : Nat), i ≤ tn T → tn T < i + r → (∀ j, j < i → set.testBit j = true → yob T P j (tu T j) 1 = 0) → qW (zEv (d + 2)) 45 Q 2 [(3, .int (nI i)), (0, .ref u), (1, .ref a), (2, .int (nI set))] [] M := by
  intro r
  induction r with
  | zero => intros; omega
  | succ r ih =>
    intro i  h1 h2 hb
    have hn := ho.n
    refine q_iload_n d45_2 rfl ?_
    refine q_aload_n d45_3 rfl ?_
    refine q_getv (c := 1) (f := 6) d45_4 ⟨rfl, by decide⟩ hp.1 hr.1 ?_
    refine nc_ge 42 d45_7 (by decide) (by omega) (by omega) (fun h7 => ?_) (fun h7 => ?_)
    · refine q_iconstN (z := 0) d45_42 ?_
      refine q_zret d45_43 rfl (by decide) ?_
      exact bK0 k (decide_eq_false (fun ⟨j, h3, h4, h5⟩ => h5 (hb j (by omega) h4)))
    · refine q_iload_n d45_10 rfl ?_
      refine q_iload_n d45_11 rfl ?_
      refine q_s2 d45_12 (Or.inr rfl) rfl (Nat.le_of_ble_eq_true rfl) (c35 (by omega) (by omega) ?_)
      refine b0_eq 36 d45_15 (by decide) (fun h15 => ?_) (fun h15 => ?_)
      · refine n_iinc 1 d45_36 (by decide) rfl rfl ?_
        refine q_goto 2 d45_39 (by decide) ?_
        refine ih (i + 1) (by omega) (by omega) (fun j h3 h4 => ?_)
        by_cases e : j = i
        · subst e; first | exact h31 | (rw [h15] at h4; cases h4)
        · exact hb j (by omega) h4
      · refine q_aload_n d45_18 rfl ?_
        refine q_aload_n d45_19 rfl ?_
        refine q_iload_n d45_20 rfl ?_
        refine q_aload_n d45_21 rfl ?_
        refine q_getr (c := 1) (f := 3) d45_22 ⟨rfl, rfl⟩ hp.1 (hp.2 3 (by decide)).1 ?_
        refine q_iload_n d45_25 rfl ?_
        refine n_iald d45_26 (hp.2 3 (by decide)).2 (by omega) (by decide) (hr.2.2 _ (by omega)).2.2.2.1 ?_
        refine q_iconst (x := (1)) d45_27 rfl ?_
        refine q_v4 d45_28 rfl rfl hu.1 (Nat.le_of_ble_eq_true rfl) (c46 hu hP hp hr ho (by omega) ?_)
        refine i0_eq 36 d45_31 (by decide) (fun h31 => ?_) (fun h31 => ?_)
        · refine n_iinc 1 d45_36 (by decide) rfl rfl ?_
          refine q_goto 2 d45_39 (by decide) ?_
          refine ih (i + 1) (by omega) (by omega) (fun j h3 h4 => ?_)
          by_cases e : j = i
          · subst e; first | exact h31 | (rw [h15] at h4; cases h4)
          · exact hb j (by omega) h4
        · refine q_iconstN (z := 1) d45_34 ?_
          refine q_zret d45_35 rfl (by decide) ?_
          exact bK1 k (decide_eq_true ⟨i, by omega, h15, h31⟩)
theorem c45 {d : Nat} {M : zM} {Q : Option Value → zM → Prop} {u : Nat} {P : yP} {a : Nat} {T : yT} {set : Nat} (hu : SPu M u) (hP : RPu M u P) (hp : SPr M a) (hr : RP M a T) (ho : OKT T) (hs : set < 4096) (k : Q (some (.int (bI (ybl T P set)))) M) : qC (d + 3) 45 [.ref u, .ref a, .int (nI set)] M Q := by
  refine qC_of (by decide) (Nat.le_of_ble_eq_true rfl) ?_
  refine q_iconstN (z := 0) d45_0 ?_
  refine q_istore_n d45_1 (by decide) rfl ?_
  exact l45 hu hP hp hr ho hs k (tn T + 1) 0 (by omega) (by omega) (fun j hj => absurd hj (by omega))
theorem d95_0 : decode (zB 95) 0 = .ok (.aload_n 0, 1) := by decide +kernel
theorem d95_1 : decode (zB 95) 1 = .ok (.getfield 9, 3) := by decide +kernel
theorem d95_4 : decode (zB 95) 4 = .ok (.bipush 100, 2) := by decide +kernel
theorem d95_6 : decode (zB 95) 6 = .ok (.invokestatic 15, 3) := by decide +kernel
theorem d95_9 : decode (zB 95) 9 = .ok (.aload_n 0, 1) := by decide +kernel
theorem d95_10 : decode (zB 95) 10 = .ok (.iconst 0, 1) := by decide +kernel
theorem d95_11 : decode (zB 95) 11 = .ok (.putfield 21, 3) := by decide +kernel
theorem d95_14 : decode (zB 95) 14 = .ok (.aload_n 0, 1) := by decide +kernel
theorem d95_15 : decode (zB 95) 15 = .ok (.iconst 0, 1) := by decide +kernel
theorem d95_16 : decode (zB 95) 16 = .ok (.putfield 25, 3) := by decide +kernel
theorem d95_19 : decode (zB 95) 19 = .ok (.return_, 1) := by decide +kernel
theorem c95 {d : Nat} {M : zM} {Q : Option Value → zM → Prop} {u : Nat} (hu : SPu M u) (k : ∀ M', RPu M' u yP0 → Fi (FU u) M M' → Q none M') : qC (d + 2) 95 [.ref u] M Q := by
  refine qC_of (by decide) (Nat.le_of_ble_eq_true rfl) ?_
  refine q_aload_n d95_0 rfl ?_
  refine q_getr (c := 2) (f := 0) d95_1 ⟨rfl, rfl⟩ hu.1 hu.2.1 ?_
  refine q_bipush (x := nI 100) d95_4 rfl ?_
  refine q_s2 d95_6 (Or.inl rfl) rfl (Nat.le_of_ble_eq_true rfl) (c6 hu.2.2 (by decide) (fun M1 hv f => ?_))
  have hu1 := SPu_fi hu f
  refine q_aload_n d95_9 rfl ?_
  refine q_iconstN (z := 0) d95_10 ?_
  refine q_puti (c := 2) (f := 1) d95_11 ⟨rfl, rfl, by decide⟩ hu1.1 ?_
  refine q_aload_n d95_14 rfl ?_
  refine q_iconstN (z := 0) d95_15 ?_
  refine q_puti (c := 2) (f := 2) d95_16 ⟨rfl, rfl, by decide⟩ hu1.1 ?_
  refine q_ret d95_19 rfl ?_
  refine k _ ⟨fun j hj => ?_, ?_, ?_⟩ (((f.mono (fun b j q => q ▸ FU_1 u j)).wi (FU_0 _ _)).wi (FU_0 _ _))
  · rw [wi_n (Or.inl (by omega)), wi_n (Or.inl (by omega))]; exact hv j hj
  · rw [wi_n (Or.inr (by decide)), wi_s]; rfl
  · rw [wi_s]; rfl
theorem d42_0 : decode (zB 42) 0 = .ok (.aload_n 1, 1) := by decide +kernel
theorem d42_1 : decode (zB 42) 1 = .ok (.getfield 9, 3) := by decide +kernel
theorem d42_4 : decode (zB 42) 4 = .ok (.iconst 0, 1) := by decide +kernel
theorem d42_5 : decode (zB 42) 5 = .ok (.aload_n 0, 1) := by decide +kernel
theorem d42_6 : decode (zB 42) 6 = .ok (.getfield 9, 3) := by decide +kernel
theorem d42_9 : decode (zB 42) 9 = .ok (.iconst 0, 1) := by decide +kernel
theorem d42_10 : decode (zB 42) 10 = .ok (.bipush 6, 2) := by decide +kernel
theorem d42_12 : decode (zB 42) 12 = .ok (.invokestatic 28, 3) := by decide +kernel
theorem d42_15 : decode (zB 42) 15 = .ok (.aload_n 0, 1) := by decide +kernel
theorem d42_16 : decode (zB 42) 16 = .ok (.aload_n 1, 1) := by decide +kernel
theorem d42_17 : decode (zB 42) 17 = .ok (.getfield 21, 3) := by decide +kernel
theorem d42_20 : decode (zB 42) 20 = .ok (.putfield 21, 3) := by decide +kernel
theorem d42_23 : decode (zB 42) 23 = .ok (.aload_n 0, 1) := by decide +kernel
theorem d42_24 : decode (zB 42) 24 = .ok (.aload_n 1, 1) := by decide +kernel
theorem d42_25 : decode (zB 42) 25 = .ok (.getfield 25, 3) := by decide +kernel
theorem d42_28 : decode (zB 42) 28 = .ok (.putfield 25, 3) := by decide +kernel
theorem d42_31 : decode (zB 42) 31 = .ok (.return_, 1) := by decide +kernel
theorem c42 {d : Nat} {M : zM} {Q : Option Value → zM → Prop} {u v : Nat} {P : yP} (hu : SPu M u) (hv : SPu M v) (hP : RPu M v P) (huv : u + 2 ≤ v ∨ v + 2 ≤ u) (k : ∀ M', RPu M' u P → Fi (FU u) M M' → Q none M') : qC (d + 1) 42 [.ref u, .ref v] M Q := by
  refine qC_of (by decide) (Nat.le_of_ble_eq_true rfl) ?_
  refine q_aload_n d42_0 rfl ?_
  refine q_getr (c := 2) (f := 0) d42_1 ⟨rfl, rfl⟩ hv.1 hv.2.1 ?_
  refine q_iconstN (z := 0) d42_4 ?_
  refine q_aload_n d42_5 rfl ?_
  refine q_getr (c := 2) (f := 0) d42_6 ⟨rfl, rfl⟩ hu.1 hu.2.1 ?_
  refine q_iconstN (z := 0) d42_9 ?_
  refine q_bipush (x := nI 6) d42_10 rfl ?_
  refine n_copy d42_12 rfl hv.2.2 hu.2.2 (by decide) (by decide) (by omega) (by omega) (Nat.le_of_ble_eq_true rfl) ?_
  refine q_aload_n d42_15 rfl ?_
  refine q_aload_n d42_16 rfl ?_
  refine q_getv (c := 2) (f := 1) d42_17 ⟨rfl, by decide⟩ hv.1 ((cp_eq _ _ _ _ _ _ _ _).trans ((if_neg (by omega)).trans hP.2.1)) ?_
  refine q_puti (c := 2) (f := 1) d42_20 ⟨rfl, rfl, by decide⟩ hu.1 ?_
  refine q_aload_n d42_23 rfl ?_
  refine q_aload_n d42_24 rfl ?_
  refine q_getv (c := 2) (f := 2) d42_25 ⟨rfl, by decide⟩ hv.1 ((wi_n (Or.inl (by omega))).trans ((cp_eq _ _ _ _ _ _ _ _).trans ((if_neg (by omega)).trans hP.2.2))) ?_
  refine q_puti (c := 2) (f := 2) d42_28 ⟨rfl, rfl, by decide⟩ hu.1 ?_
  refine q_ret d42_31 rfl ?_
  refine k _ ⟨fun j hj => ?_, ?_, ?_⟩ ((((Fi.refl _ _).cp (fun j _ _ => FU_1 u j)).wi (FU_0 _ _)).wi (FU_0 _ _))
  · rw [wi_n (Or.inl (by omega)), wi_n (Or.inl (by omega)), cp_eq, if_pos ⟨rfl, by omega, by omega⟩, show 0 + (j - 0) = j by omega]; exact hP.1 j hj
  · rw [wi_n (Or.inr (by decide)), wi_s]
  · rw [wi_s]
