/-! ===== the reference: its purse ===== -/
/-! what the reference's cells mean -/
theorem SX_wi {M : zM} {a k : Nat} {v : Int32} (h : SX M) : SX (zwi M a k v) := SX_of h (fun _ _ => rfl) (fun _ _ _ _ => rfl)
theorem SX_fi {M M' : zM} {S : Nat → Nat → Prop} (h : SX M) (f : Fi S M M') : SX M' := SX_of h (fun a _ => by rw [f.2.2.2.1]) (fun a g _ _ => by rw [f.2.1])
/-- a text -/
def XT1 (M : zM) (i : Nat) (T : yT) : Prop := zi M 137 i = nI (tn T) ∧ zi M 138 i = tp T ∧ ∀ k, k < tn T → zi M (140 + i) k = nI (tk T k) ∧ zi M (147 + i) k = tf T k ∧ zi M (154 + i) k = ts T k ∧ zi M (161 + i) k = tu T k ∧ zi M (168 + i) k = nI (ta T k)
def XTx (M : zM) (T : Nat → yT) (c : Nat) : Prop := ∀ i, i < c → XT1 M i (T i)
/-- the purse -/
def XPu (M : zM) (P : yP) : Prop := (∀ k, k < 6 → zi M 174 k = P.1 k) ∧ zi M 136 9 = P.2.1 ∧ zi M 136 10 = P.2.2
def GP : Nat → Nat → Prop := fun b k => b = 174 ∨ (b = 136 ∧ (k = 9 ∨ k = 10))
theorem XT1_fi {M M' : zM} {S : Nat → Nat → Prop} {i : Nat} {T : yT} (h : XT1 M i T) (hi : i < 6) (f : Fi S M M') (hs : ∀ b k, 137 ≤ b → b < 174 → ¬ S b k) : XT1 M' i T :=
  ⟨(f.1 _ _ (hs _ _ (by omega) (by omega))).trans h.1, (f.1 _ _ (hs _ _ (by omega) (by omega))).trans h.2.1, fun k hk => ⟨(f.1 _ _ (hs _ _ (by omega) (by omega))).trans (h.2.2 k hk).1, (f.1 _ _ (hs _ _ (by omega) (by omega))).trans (h.2.2 k hk).2.1, (f.1 _ _ (hs _ _ (by omega) (by omega))).trans (h.2.2 k hk).2.2.1, (f.1 _ _ (hs _ _ (by omega) (by omega))).trans (h.2.2 k hk).2.2.2.1, (f.1 _ _ (hs _ _ (by omega) (by omega))).trans (h.2.2 k hk).2.2.2.2⟩⟩
theorem XTx_fi {M M' : zM} {S : Nat → Nat → Prop} {T : Nat → yT} {c : Nat} (h : XTx M T c) (hc : c ≤ 6) (f : Fi S M M') (hs : ∀ b k, 137 ≤ b → b < 174 → ¬ S b k) : XTx M' T c := fun i hi => XT1_fi (h i hi) (by omega) f hs
theorem XPu_fi {M M' : zM} {S : Nat → Nat → Prop} {P : yP} (h : XPu M P) (f : Fi S M M') (hs : ∀ b k, GP b k → ¬ S b k) : XPu M' P :=
  ⟨fun k hk => (f.1 _ _ (hs _ _ (Or.inl rfl))).trans (h.1 k hk), (f.1 _ _ (hs _ _ (Or.inr ⟨rfl, Or.inl rfl⟩))).trans h.2.1, (f.1 _ _ (hs _ _ (Or.inr ⟨rfl, Or.inr rfl⟩))).trans h.2.2⟩
theorem XPu_b {M : zM} {P : yP} {a : Nat} {v : Int32} (h : XPu M P) : XPu (zwi M 174 a v) (yu P.1 a v, P.2) :=
  ⟨fun k hk => by
    show zi (zwi M 174 a v) 174 k = yu P.1 a v k
    by_cases e : k = a
    · subst e; rw [wi_s, yu_s]
    · rw [wi_n (Or.inr e), yu_n e]; exact h.1 k hk, (wi_n (Or.inl (by omega))).trans h.2.1, (wi_n (Or.inl (by omega))).trans h.2.2⟩
theorem XPu_h {M : zM} {P : yP} {v : Int32} (h : XPu M P) : XPu (zwi M 136 9 v) (P.1, v, P.2.2) :=
  ⟨fun k hk => (wi_n (Or.inl (by omega))).trans (h.1 k hk), wi_s _ _ _ _, (wi_n (Or.inr (by omega))).trans h.2.2⟩
theorem XPu_m {M : zM} {P : yP} {v : Int32} (h : XPu M P) : XPu (zwi M 136 10 v) (P.1, P.2.1, v) :=
  ⟨fun k hk => (wi_n (Or.inl (by omega))).trans (h.1 k hk), (wi_n (Or.inr (by omega))).trans h.2.1, wi_s _ _ _ _⟩
theorem d159_0 : decode (zB 159) 0 = .ok (.iload_n 0, 1) := by decide +kernel
theorem d159_1 : decode (zB 159) 1 = .ok (.ifCond .ge 7, 3) := by decide +kernel
theorem d159_4 : decode (zB 159) 4 = .ok (.iconst 2, 1) := by decide +kernel
theorem d159_5 : decode (zB 159) 5 = .ok (.goto 15, 3) := by decide +kernel
theorem d159_8 : decode (zB 159) 8 = .ok (.iload_n 0, 1) := by decide +kernel
theorem d159_9 : decode (zB 159) 9 = .ok (.sipush 9999, 3) := by decide +kernel
theorem d159_12 : decode (zB 159) 12 = .ok (.if_icmp .le 7, 3) := by decide +kernel
theorem d159_15 : decode (zB 159) 15 = .ok (.iconst 3, 1) := by decide +kernel
theorem d159_16 : decode (zB 159) 16 = .ok (.goto 4, 3) := by decide +kernel
theorem d159_19 : decode (zB 159) 19 = .ok (.iconst 0, 1) := by decide +kernel
theorem d159_20 : decode (zB 159) 20 = .ok (.ireturn, 1) := by decide +kernel
theorem c159 {d : Nat} {M : zM} {Q : Option Value → zM → Prop} {b : Int32} (k : Q (some (.int (yck b))) M) : qC (d + 1) 159 [.int b] M Q := by
  refine qC_of (by decide) (Nat.le_of_ble_eq_true rfl) ?_
  unfold yck at k
  refine q_iload_n d159_0 rfl ?_
  refine i0_ge 8 d159_1 (by decide) (fun h1 => ?_) (fun h1 => ?_)
  · refine q_iload_n d159_8 rfl ?_
    refine q_sipush (x := nI 9999) d159_9 rfl ?_
    refine ic_le 19 d159_12 (by decide) (fun h12 => ?_) (fun h12 => ?_)
    · refine q_iconstN (z := 0) d159_19 ?_
      refine q_iret d159_20 rfl ?_
      rw [if_pos h1, if_pos h12] at k
      exact k
    · refine q_iconstN (z := 3) d159_15 ?_
      refine q_goto 20 d159_16 (by decide) ?_
      refine q_iret d159_20 rfl ?_
      rw [if_pos h1, if_neg h12] at k
      exact k
  · refine q_iconstN (z := 2) d159_4 ?_
    refine q_goto 20 d159_5 (by decide) ?_
    refine q_iret d159_20 rfl ?_
    rw [if_neg h1] at k
    exact k
/-- an account is changed, if it may be -/
def xch (P : yP) (a : Nat) (v : Int32) : yP := if yck (P.1 a + v) = 0 then (yu P.1 a (P.1 a + v), P.2) else P
theorem d158_0 : decode (zB 158) 0 = .ok (.aload_n 0, 1) := by decide +kernel
theorem d158_1 : decode (zB 158) 1 = .ok (.getfield 33, 3) := by decide +kernel
theorem d158_4 : decode (zB 158) 4 = .ok (.iload_n 1, 1) := by decide +kernel
theorem d158_5 : decode (zB 158) 5 = .ok (.iaload, 1) := by decide +kernel
theorem d158_6 : decode (zB 158) 6 = .ok (.iload_n 2, 1) := by decide +kernel
theorem d158_7 : decode (zB 158) 7 = .ok (.iadd, 1) := by decide +kernel
theorem d158_8 : decode (zB 158) 8 = .ok (.invokestatic 267, 3) := by decide +kernel
theorem d158_11 : decode (zB 158) 11 = .ok (.istore_n 3, 1) := by decide +kernel
theorem d158_12 : decode (zB 158) 12 = .ok (.iload_n 3, 1) := by decide +kernel
theorem d158_13 : decode (zB 158) 13 = .ok (.ifCond .ne 13, 3) := by decide +kernel
theorem d158_16 : decode (zB 158) 16 = .ok (.aload_n 0, 1) := by decide +kernel
theorem d158_17 : decode (zB 158) 17 = .ok (.getfield 33, 3) := by decide +kernel
theorem d158_20 : decode (zB 158) 20 = .ok (.iload_n 1, 1) := by decide +kernel
theorem d158_21 : decode (zB 158) 21 = .ok (.dup2, 1) := by decide +kernel
theorem d158_22 : decode (zB 158) 22 = .ok (.iaload, 1) := by decide +kernel
theorem d158_23 : decode (zB 158) 23 = .ok (.iload_n 2, 1) := by decide +kernel
theorem d158_24 : decode (zB 158) 24 = .ok (.iadd, 1) := by decide +kernel
theorem d158_25 : decode (zB 158) 25 = .ok (.iastore, 1) := by decide +kernel
theorem d158_26 : decode (zB 158) 26 = .ok (.iload_n 3, 1) := by decide +kernel
theorem d158_27 : decode (zB 158) 27 = .ok (.ireturn, 1) := by decide +kernel
theorem c158 {d : Nat} {M : zM} {Q : Option Value → zM → Prop} {P : yP} {a : Nat} {v : Int32} (hX : SX M) (hP : XPu M P) (ha : a < 6) (k : ∀ M', XPu M' (xch P a v) → Fi GP M M' → Q (some (.int (yck (P.1 a + v)))) M') : qC (d + 2) 158 [.ref 136, .int (nI a), .int v] M Q := by
  refine qC_of (by decide) (Nat.le_of_ble_eq_true rfl) ?_
  unfold xch at k
  refine q_aload_n d158_0 rfl ?_
  refine q_getr (c := 8) (f := 8) d158_1 ⟨rfl, rfl⟩ (xk_136 hX) (xf_balances hX) ?_
  refine q_iload_n d158_4 rfl ?_
  refine n_iald d158_5 (xk_balances hX) (by omega) (by decide) (hP.1 _ (by omega)) ?_
  refine q_iload_n d158_6 rfl ?_
  refine q_iadd d158_7 ?_
  refine q_s1 d158_8 (Or.inl rfl) rfl (Nat.le_of_ble_eq_true rfl) (c159 ?_)
  refine q_istore_n d158_11 (by decide) rfl ?_
  refine q_iload_n d158_12 rfl ?_
  refine i0_ne 26 d158_13 (by decide) (fun h13 => ?_) (fun h13 => ?_)
  · refine q_iload_n d158_26 rfl ?_
    refine q_iret d158_27 rfl ?_
    rw [if_neg h13] at k
    exact k _ hP (Fi.refl _ _)
  · refine q_aload_n d158_16 rfl ?_
    refine q_getr (c := 8) (f := 8) d158_17 ⟨rfl, rfl⟩ (xk_136 hX) (xf_balances hX) ?_
    refine q_iload_n d158_20 rfl ?_
    refine q_dup2 d158_21 rfl rfl ?_
    refine n_iald d158_22 (xk_balances hX) (by omega) (by decide) (hP.1 _ (by omega)) ?_
    refine q_iload_n d158_23 rfl ?_
    refine q_iadd d158_24 ?_
    refine n_iast d158_25 (xk_balances hX) (by omega) (by decide) ?_
    refine q_iload_n d158_26 rfl ?_
    refine q_iret d158_27 rfl ?_
    rw [if_pos h13] at k
    exact k _ (XPu_b hP) ((Fi.refl _ _).wi (Or.inl rfl))
def xmv (P : yP) (a b : Nat) (n : Int32) : Int32 × yP :=
  if yck (P.1 a - n) = 0 then (if yck (P.1 b + n) = 0 then (nI 0, (yu (yu P.1 a (P.1 a - n)) b ((yu P.1 a (P.1 a - n)) b + n), P.2)) else (yck (P.1 b + n), P)) else (yck (P.1 a - n), P)
theorem d160_0 : decode (zB 160) 0 = .ok (.aload_n 0, 1) := by decide +kernel
theorem d160_1 : decode (zB 160) 1 = .ok (.getfield 33, 3) := by decide +kernel
theorem d160_4 : decode (zB 160) 4 = .ok (.iload_n 1, 1) := by decide +kernel
theorem d160_5 : decode (zB 160) 5 = .ok (.iaload, 1) := by decide +kernel
theorem d160_6 : decode (zB 160) 6 = .ok (.iload_n 3, 1) := by decide +kernel
theorem d160_7 : decode (zB 160) 7 = .ok (.isub, 1) := by decide +kernel
theorem d160_8 : decode (zB 160) 8 = .ok (.invokestatic 267, 3) := by decide +kernel
theorem d160_11 : decode (zB 160) 11 = .ok (.istore 4, 2) := by decide +kernel
theorem d160_13 : decode (zB 160) 13 = .ok (.iload 4, 2) := by decide +kernel
theorem d160_15 : decode (zB 160) 15 = .ok (.ifCond .ne 16, 3) := by decide +kernel
theorem d160_18 : decode (zB 160) 18 = .ok (.aload_n 0, 1) := by decide +kernel
theorem d160_19 : decode (zB 160) 19 = .ok (.getfield 33, 3) := by decide +kernel
theorem d160_22 : decode (zB 160) 22 = .ok (.iload_n 2, 1) := by decide +kernel
theorem d160_23 : decode (zB 160) 23 = .ok (.iaload, 1) := by decide +kernel
theorem d160_24 : decode (zB 160) 24 = .ok (.iload_n 3, 1) := by decide +kernel
theorem d160_25 : decode (zB 160) 25 = .ok (.iadd, 1) := by decide +kernel
theorem d160_26 : decode (zB 160) 26 = .ok (.invokestatic 267, 3) := by decide +kernel
theorem d160_29 : decode (zB 160) 29 = .ok (.istore 4, 2) := by decide +kernel
theorem d160_31 : decode (zB 160) 31 = .ok (.iload 4, 2) := by decide +kernel
theorem d160_33 : decode (zB 160) 33 = .ok (.ifCond .eq 6, 3) := by decide +kernel
theorem d160_36 : decode (zB 160) 36 = .ok (.iload 4, 2) := by decide +kernel
theorem d160_38 : decode (zB 160) 38 = .ok (.ireturn, 1) := by decide +kernel
theorem d160_39 : decode (zB 160) 39 = .ok (.aload_n 0, 1) := by decide +kernel
theorem d160_40 : decode (zB 160) 40 = .ok (.getfield 33, 3) := by decide +kernel
theorem d160_43 : decode (zB 160) 43 = .ok (.iload_n 1, 1) := by decide +kernel
theorem d160_44 : decode (zB 160) 44 = .ok (.dup2, 1) := by decide +kernel
theorem d160_45 : decode (zB 160) 45 = .ok (.iaload, 1) := by decide +kernel
theorem d160_46 : decode (zB 160) 46 = .ok (.iload_n 3, 1) := by decide +kernel
theorem d160_47 : decode (zB 160) 47 = .ok (.isub, 1) := by decide +kernel
theorem d160_48 : decode (zB 160) 48 = .ok (.iastore, 1) := by decide +kernel
theorem d160_49 : decode (zB 160) 49 = .ok (.aload_n 0, 1) := by decide +kernel
theorem d160_50 : decode (zB 160) 50 = .ok (.getfield 33, 3) := by decide +kernel
theorem d160_53 : decode (zB 160) 53 = .ok (.iload_n 2, 1) := by decide +kernel
theorem d160_54 : decode (zB 160) 54 = .ok (.dup2, 1) := by decide +kernel
theorem d160_55 : decode (zB 160) 55 = .ok (.iaload, 1) := by decide +kernel
theorem d160_56 : decode (zB 160) 56 = .ok (.iload_n 3, 1) := by decide +kernel
theorem d160_57 : decode (zB 160) 57 = .ok (.iadd, 1) := by decide +kernel
theorem d160_58 : decode (zB 160) 58 = .ok (.iastore, 1) := by decide +kernel
theorem d160_59 : decode (zB 160) 59 = .ok (.iconst 0, 1) := by decide +kernel
theorem d160_60 : decode (zB 160) 60 = .ok (.ireturn, 1) := by decide +kernel
theorem c160 {d : Nat} {M : zM} {Q : Option Value → zM → Prop} {P : yP} {a b : Nat} {n : Int32} (hX : SX M) (hP : XPu M P) (ha : a < 6) (hb : b < 6) (k : ∀ M', XPu M' (xmv P a b n).2 → Fi GP M M' → Q (some (.int (xmv P a b n).1)) M') : qC (d + 2) 160 [.ref 136, .int (nI a), .int (nI b), .int n] M Q := by
  refine qC_of (by decide) (Nat.le_of_ble_eq_true rfl) ?_
  unfold xmv at k
  refine q_aload_n d160_0 rfl ?_
  refine q_getr (c := 8) (f := 8) d160_1 ⟨rfl, rfl⟩ (xk_136 hX) (xf_balances hX) ?_
  refine q_iload_n d160_4 rfl ?_
  refine n_iald d160_5 (xk_balances hX) (by omega) (by decide) (hP.1 _ (by omega)) ?_
  refine q_iload_n d160_6 rfl ?_
  refine q_isub d160_7 ?_
  refine q_s1 d160_8 (Or.inl rfl) rfl (Nat.le_of_ble_eq_true rfl) (c159 ?_)
  refine q_istore d160_11 (by decide) rfl ?_
  refine q_iload d160_13 rfl ?_
  refine i0_ne 31 d160_15 (by decide) (fun h15 => ?_) (fun h15 => ?_)
  · refine q_iload d160_31 rfl ?_
    refine i0_eq 39 d160_33 (by decide) (fun h33 => ?_) (fun h33 => ?_)
    · refine q_aload_n d160_39 rfl ?_
      refine q_getr (c := 8) (f := 8) d160_40 ⟨rfl, rfl⟩ (xk_136 hX) (xf_balances hX) ?_
      refine q_iload_n d160_43 rfl ?_
      refine q_dup2 d160_44 rfl rfl ?_
      refine n_iald d160_45 (xk_balances hX) (by omega) (by decide) (hP.1 _ (by omega)) ?_
      refine q_iload_n d160_46 rfl ?_
      refine q_isub d160_47 ?_
      refine n_iast d160_48 (xk_balances hX) (by omega) (by decide) ?_
      have hP2 := XPu_b (a := a) (v := P.1 a - n) hP
      refine q_aload_n d160_49 rfl ?_
      refine q_getr (c := 8) (f := 8) d160_50 ⟨rfl, rfl⟩ (xk_136 hX) (xf_balances hX) ?_
      refine q_iload_n d160_53 rfl ?_
      refine q_dup2 d160_54 rfl rfl ?_
      refine n_iald d160_55 (xk_balances hX) (by omega) (by decide) (hP2.1 _ (by omega)) ?_
      refine q_iload_n d160_56 rfl ?_
      refine q_iadd d160_57 ?_
      refine n_iast d160_58 (xk_balances hX) (by omega) (by decide) ?_
      refine q_iconstN (z := 0) d160_59 ?_
      refine q_iret d160_60 rfl ?_
      exact absurd h33 h15
    · refine q_iload d160_36 rfl ?_
      refine q_iret d160_38 rfl ?_
      rw [if_neg h15] at k
      exact k _ hP (Fi.refl _ _)
  · refine q_aload_n d160_18 rfl ?_
    refine q_getr (c := 8) (f := 8) d160_19 ⟨rfl, rfl⟩ (xk_136 hX) (xf_balances hX) ?_
    refine q_iload_n d160_22 rfl ?_
    refine n_iald d160_23 (xk_balances hX) (by omega) (by decide) (hP.1 _ (by omega)) ?_
    refine q_iload_n d160_24 rfl ?_
    refine q_iadd d160_25 ?_
    refine q_s1 d160_26 (Or.inl rfl) rfl (Nat.le_of_ble_eq_true rfl) (c159 ?_)
    refine q_istore d160_29 (by decide) rfl ?_
    refine q_iload d160_31 rfl ?_
    refine i0_eq 39 d160_33 (by decide) (fun h33 => ?_) (fun h33 => ?_)
    · refine q_aload_n d160_39 rfl ?_
      refine q_getr (c := 8) (f := 8) d160_40 ⟨rfl, rfl⟩ (xk_136 hX) (xf_balances hX) ?_
      refine q_iload_n d160_43 rfl ?_
      refine q_dup2 d160_44 rfl rfl ?_
      refine n_iald d160_45 (xk_balances hX) (by omega) (by decide) (hP.1 _ (by omega)) ?_
      refine q_iload_n d160_46 rfl ?_
      refine q_isub d160_47 ?_
      refine n_iast d160_48 (xk_balances hX) (by omega) (by decide) ?_
      have hP2 := XPu_b (a := a) (v := P.1 a - n) hP
      refine q_aload_n d160_49 rfl ?_
      refine q_getr (c := 8) (f := 8) d160_50 ⟨rfl, rfl⟩ (xk_136 hX) (xf_balances hX) ?_
      refine q_iload_n d160_53 rfl ?_
      refine q_dup2 d160_54 rfl rfl ?_
      refine n_iald d160_55 (xk_balances hX) (by omega) (by decide) (hP2.1 _ (by omega)) ?_
      refine q_iload_n d160_56 rfl ?_
      refine q_iadd d160_57 ?_
      refine n_iast d160_58 (xk_balances hX) (by omega) (by decide) ?_
      refine q_iconstN (z := 0) d160_59 ?_
      refine q_iret d160_60 rfl ?_
      rw [if_pos h15, if_pos h33] at k
      exact k _ (XPu_b hP2) (((Fi.refl _ _).wi (Or.inl rfl)).wi (Or.inl rfl))
    · refine q_iload d160_36 rfl ?_
      refine q_iret d160_38 rfl ?_
      rw [if_pos h15, if_neg h33] at k
      exact k _ hP (Fi.refl _ _)
theorem d161_0 : decode (zB 161) 0 = .ok (.aload_n 0, 1) := by decide +kernel
theorem d161_1 : decode (zB 161) 1 = .ok (.getfield 33, 3) := by decide +kernel
theorem d161_4 : decode (zB 161) 4 = .ok (.iload_n 1, 1) := by decide +kernel
theorem d161_5 : decode (zB 161) 5 = .ok (.iaload, 1) := by decide +kernel
theorem d161_6 : decode (zB 161) 6 = .ok (.istore_n 3, 1) := by decide +kernel
theorem d161_7 : decode (zB 161) 7 = .ok (.aload_n 0, 1) := by decide +kernel
theorem d161_8 : decode (zB 161) 8 = .ok (.getfield 33, 3) := by decide +kernel
theorem d161_11 : decode (zB 161) 11 = .ok (.iload_n 1, 1) := by decide +kernel
theorem d161_12 : decode (zB 161) 12 = .ok (.aload_n 0, 1) := by decide +kernel
theorem d161_13 : decode (zB 161) 13 = .ok (.getfield 33, 3) := by decide +kernel
theorem d161_16 : decode (zB 161) 16 = .ok (.iload_n 2, 1) := by decide +kernel
theorem d161_17 : decode (zB 161) 17 = .ok (.iaload, 1) := by decide +kernel
theorem d161_18 : decode (zB 161) 18 = .ok (.iastore, 1) := by decide +kernel
theorem d161_19 : decode (zB 161) 19 = .ok (.aload_n 0, 1) := by decide +kernel
theorem d161_20 : decode (zB 161) 20 = .ok (.getfield 33, 3) := by decide +kernel
theorem d161_23 : decode (zB 161) 23 = .ok (.iload_n 2, 1) := by decide +kernel
theorem d161_24 : decode (zB 161) 24 = .ok (.iload_n 3, 1) := by decide +kernel
theorem d161_25 : decode (zB 161) 25 = .ok (.iastore, 1) := by decide +kernel
theorem d161_26 : decode (zB 161) 26 = .ok (.iconst 0, 1) := by decide +kernel
theorem d161_27 : decode (zB 161) 27 = .ok (.ireturn, 1) := by decide +kernel
theorem yex_a {P : yP} {a b : Nat} (ha : a < 6) (hb : b < 6) : yex P (nI a) (nI b) = (yu (yu P.1 a (P.1 b)) b (P.1 a), P.2) := by
  unfold yex; rw [zix_in ha (by omega), zix_in hb (by omega)]
theorem c161 {d : Nat} {M : zM} {Q : Option Value → zM → Prop} {P : yP} {a b : Nat} (hX : SX M) (hP : XPu M P) (ha : a < 6) (hb : b < 6) (k : ∀ M', XPu M' (yex P (nI a) (nI b)) → Fi GP M M' → Q (some (.int (nI 0))) M') : qC (d + 1) 161 [.ref 136, .int (nI a), .int (nI b)] M Q := by
  refine qC_of (by decide) (Nat.le_of_ble_eq_true rfl) ?_
  rw [yex_a ha hb] at k
  refine q_aload_n d161_0 rfl ?_
  refine q_getr (c := 8) (f := 8) d161_1 ⟨rfl, rfl⟩ (xk_136 hX) (xf_balances hX) ?_
  refine q_iload_n d161_4 rfl ?_
  refine n_iald d161_5 (xk_balances hX) (by omega) (by decide) (hP.1 _ (by omega)) ?_
  refine q_istore_n d161_6 (by decide) rfl ?_
  refine q_aload_n d161_7 rfl ?_
  refine q_getr (c := 8) (f := 8) d161_8 ⟨rfl, rfl⟩ (xk_136 hX) (xf_balances hX) ?_
  refine q_iload_n d161_11 rfl ?_
  refine q_aload_n d161_12 rfl ?_
  refine q_getr (c := 8) (f := 8) d161_13 ⟨rfl, rfl⟩ (xk_136 hX) (xf_balances hX) ?_
  refine q_iload_n d161_16 rfl ?_
  refine n_iald d161_17 (xk_balances hX) (by omega) (by decide) (hP.1 _ (by omega)) ?_
  refine n_iast d161_18 (xk_balances hX) (by omega) (by decide) ?_
  refine q_aload_n d161_19 rfl ?_
  refine q_getr (c := 8) (f := 8) d161_20 ⟨rfl, rfl⟩ (xk_136 hX) (xf_balances hX) ?_
  refine q_iload_n d161_23 rfl ?_
  refine q_iload_n d161_24 rfl ?_
  refine n_iast d161_25 (xk_balances hX) (by omega) (by decide) ?_
  refine q_iconstN (z := 0) d161_26 ?_
  refine q_iret d161_27 rfl ?_
  exact k _ (XPu_b (XPu_b hP)) (((Fi.refl _ _).wi (Or.inl rfl)).wi (Or.inl rfl))
theorem i1m (x : Int32) : (1 : Int32) * x = x := Int32.one_mul x
theorem im1 (x : Int32) : (-1 : Int32) * x = -x := by rw [Int32.neg_mul, Int32.one_mul]
/-- what doing (undoing) a step answers and leaves -/
def xdo (T : yT) (P : yP) (i : Nat) (n w : Int32) : yP := if yob T P i n w = 0 then ych T P i n w else P
theorem xyo_1 {T : yT} {P : yP} {i a : Nat} {n w : Int32} (hf : tf T i = nI a) (ha : a < 6) (hs : ts T i = -1) : yob T P i n w = yck (P.1 a + w * yf1 (tk T i) n) := by
  unfold yob
  rw [hf, hs, ybe_a ha, ybe_n]
  by_cases h : yck (P.1 a + w * yf1 (tk T i) n) = 0
  · rw [if_neg (fun q => q h), h]
  · rw [if_pos h]
theorem xdo_1 {T : yT} {P : yP} {i a : Nat} {n w v : Int32} (hk : tk T i = 0 ∨ tk T i = 1) (hf : tf T i = nI a) (ha : a < 6) (hs : ts T i = -1) (hv : w * yf1 (tk T i) n = v) : yob T P i n w = yck (P.1 a + v) ∧ xdo T P i n w = xch P a v := by
  have e := xyo_1 (P := P) (n := n) (w := w) hf ha hs
  rw [hv] at e
  refine ⟨e, ?_⟩
  unfold xdo xch
  rw [e]
  have e2 : ych T P i n w = (yu P.1 a (P.1 a + v), P.2) := by
    unfold ych
    simp only [hf, hs, ypu_a ha, ypu_n, hv]
    rw [if_neg (by omega), if_neg (by omega), if_neg (by omega)]
  rw [e2]
theorem xdo_3 {T : yT} {P : yP} {i a : Nat} {n w v : Int32} (hk : tk T i = 3) (hf : tf T i = nI a) (ha : a < 6) (hs : ts T i = -1) (hv : w * yf1 (tk T i) n = v) : yob T P i n w = yck (P.1 a + v) ∧ xdo T P i n w = (if yck (P.1 a + v) = 0 then (yu P.1 a (P.1 a + v), P.2.1 + w * n, P.2.2) else P) := by
  have e := xyo_1 (P := P) (n := n) (w := w) hf ha hs
  rw [hv] at e
  refine ⟨e, ?_⟩
  unfold xdo
  rw [e]
  have e2 : ych T P i n w = (yu P.1 a (P.1 a + v), P.2.1 + w * n, P.2.2) := by
    unfold ych
    simp only [hf, hs, ypu_a ha, ypu_n, hv]
    rw [if_pos hk]
  rw [e2]
theorem xdo_2 {T : yT} {P : yP} {i a b : Nat} {n w m : Int32} (hk : tk T i = 2) (hf : tf T i = nI a) (ha : a < 6) (hs : ts T i = nI b) (hb : b < 6) (hv : w * yf1 (tk T i) n = -m) (hv2 : w * yf2 (tk T i) n = m) : yob T P i n w = (xmv P a b m).1 ∧ xdo T P i n w = (xmv P a b m).2 := by
  have e : yob T P i n w = if yck (P.1 a - m) ≠ 0 then yck (P.1 a - m) else yck (P.1 b + m) := by
    unfold yob
    rw [hf, hs, ybe_a ha, ybe_a hb, hv, hv2, ← Int32.sub_eq_add_neg]
  have e2 : ych T P i n w = (yu (yu P.1 a (P.1 a - m)) b ((yu P.1 a (P.1 a - m)) b + m), P.2) := by
    unfold ych
    simp only [hf, hs, ypu_a ha, ypu_a hb, hv, hv2, ← Int32.sub_eq_add_neg]
    rw [if_neg (by omega), if_neg (by omega), if_neg (by omega)]
  unfold xdo
  rw [e, e2]
  unfold xmv
  by_cases h1 : yck (P.1 a - m) = 0
  · rw [if_neg (fun q => q h1), if_pos h1]
    by_cases h2 : yck (P.1 b + m) = 0
    · rw [if_pos h2, if_pos h2]; exact ⟨h2, rfl⟩
    · rw [if_neg h2, if_neg h2]; exact ⟨rfl, rfl⟩
  · rw [if_pos h1, if_neg h1, if_neg h1]; exact ⟨rfl, rfl⟩
theorem xdo_4 {T : yT} {P : yP} {i a b : Nat} {n w : Int32} (hk : tk T i = 4) (hf : tf T i = nI a) (ha : a < 6) (hs : ts T i = nI b) (hb : b < 6) (hP : OKP P) : yob T P i n w = 0 ∧ xdo T P i n w = yex P (nI a) (nI b) := by
  have z1 : w * yf1 (tk T i) n = 0 := by rw [hk]; exact Int32.mul_zero
  have z2 : w * yf2 (tk T i) n = 0 := by rw [hk]; exact Int32.mul_zero
  have e : yob T P i n w = 0 := by
    unfold yob
    rw [hf, hs, ybe_a ha, ybe_a hb, z1, z2, Int32.add_zero, Int32.add_zero, yck_i (hP a ha), yck_i (hP b hb)]
    rfl
  refine ⟨e, ?_⟩
  unfold xdo
  rw [if_pos e]
  unfold ych
  simp only [hf, hs, ypu_a ha, ypu_a hb, z1, z2, Int32.add_zero]
  rw [if_neg (by omega), if_pos hk]
  have u1 : ∀ f : Nat → Int32, ∀ q, yu f q (f q) = f := fun f q => by
    funext j
    by_cases e : j = q
    · subst e; rw [yu_s]
    · rw [yu_n e]
  rw [u1, u1]
theorem xdo_5 {T : yT} {P : yP} {i : Nat} {n w : Int32} (hk : tk T i = 5) (hf : tf T i = -1) (hs : ts T i = -1) : yob T P i n w = 0 ∧ xdo T P i n w = (if w = 1 then (P.1, P.2.1, P.2.2 + 1) else P) := by
  have e : yob T P i n w = 0 := by
    unfold yob
    rw [hf, hs, ybe_n, ybe_n]
    rfl
  refine ⟨e, ?_⟩
  unfold xdo
  rw [if_pos e]
  unfold ych
  simp only [hf, hs, ypu_n]
  rw [if_neg (by omega), if_neg (by omega)]
  by_cases h : w = 1
  · rw [if_pos ⟨hk, h⟩, if_pos h]
  · rw [if_neg (fun q => h q.2), if_neg h]
theorem d157_0 : decode (zB 157) 0 = .ok (.aload_n 0, 1) := by decide +kernel
theorem d157_1 : decode (zB 157) 1 = .ok (.getfield 21, 3) := by decide +kernel
theorem d157_4 : decode (zB 157) 4 = .ok (.iload_n 1, 1) := by decide +kernel
theorem d157_5 : decode (zB 157) 5 = .ok (.aaload, 1) := by decide +kernel
theorem d157_6 : decode (zB 157) 6 = .ok (.iload_n 2, 1) := by decide +kernel
theorem d157_7 : decode (zB 157) 7 = .ok (.iaload, 1) := by decide +kernel
theorem d157_8 : decode (zB 157) 8 = .ok (.istore 4, 2) := by decide +kernel
theorem d157_10 : decode (zB 157) 10 = .ok (.aload_n 0, 1) := by decide +kernel
theorem d157_11 : decode (zB 157) 11 = .ok (.getfield 18, 3) := by decide +kernel
theorem d157_14 : decode (zB 157) 14 = .ok (.iload_n 1, 1) := by decide +kernel
theorem d157_15 : decode (zB 157) 15 = .ok (.aaload, 1) := by decide +kernel
theorem d157_16 : decode (zB 157) 16 = .ok (.iload_n 2, 1) := by decide +kernel
theorem d157_17 : decode (zB 157) 17 = .ok (.iaload, 1) := by decide +kernel
theorem d157_18 : decode (zB 157) 18 = .ok (.tableswitch 110 0 4 #[34, 42, 51, 67, 95], 34) := by decide +kernel
theorem d157_52 : decode (zB 157) 52 = .ok (.aload_n 0, 1) := by decide +kernel
theorem d157_53 : decode (zB 157) 53 = .ok (.iload 4, 2) := by decide +kernel
theorem d157_55 : decode (zB 157) 55 = .ok (.iload_n 3, 1) := by decide +kernel
theorem d157_56 : decode (zB 157) 56 = .ok (.invokevirtual 270, 3) := by decide +kernel
theorem d157_59 : decode (zB 157) 59 = .ok (.ireturn, 1) := by decide +kernel
theorem d157_60 : decode (zB 157) 60 = .ok (.aload_n 0, 1) := by decide +kernel
theorem d157_61 : decode (zB 157) 61 = .ok (.iload 4, 2) := by decide +kernel
theorem d157_63 : decode (zB 157) 63 = .ok (.iload_n 3, 1) := by decide +kernel
theorem d157_64 : decode (zB 157) 64 = .ok (.ineg, 1) := by decide +kernel
theorem d157_65 : decode (zB 157) 65 = .ok (.invokevirtual 270, 3) := by decide +kernel
theorem d157_68 : decode (zB 157) 68 = .ok (.ireturn, 1) := by decide +kernel
theorem d157_69 : decode (zB 157) 69 = .ok (.aload_n 0, 1) := by decide +kernel
theorem d157_70 : decode (zB 157) 70 = .ok (.iload 4, 2) := by decide +kernel
theorem d157_72 : decode (zB 157) 72 = .ok (.aload_n 0, 1) := by decide +kernel
theorem d157_73 : decode (zB 157) 73 = .ok (.getfield 24, 3) := by decide +kernel
theorem d157_76 : decode (zB 157) 76 = .ok (.iload_n 1, 1) := by decide +kernel
theorem d157_77 : decode (zB 157) 77 = .ok (.aaload, 1) := by decide +kernel
theorem d157_78 : decode (zB 157) 78 = .ok (.iload_n 2, 1) := by decide +kernel
theorem d157_79 : decode (zB 157) 79 = .ok (.iaload, 1) := by decide +kernel
theorem d157_80 : decode (zB 157) 80 = .ok (.iload_n 3, 1) := by decide +kernel
theorem d157_81 : decode (zB 157) 81 = .ok (.invokevirtual 273, 3) := by decide +kernel
theorem d157_84 : decode (zB 157) 84 = .ok (.ireturn, 1) := by decide +kernel
theorem d157_85 : decode (zB 157) 85 = .ok (.aload_n 0, 1) := by decide +kernel
theorem d157_86 : decode (zB 157) 86 = .ok (.iload 4, 2) := by decide +kernel
theorem d157_88 : decode (zB 157) 88 = .ok (.iload_n 3, 1) := by decide +kernel
theorem d157_89 : decode (zB 157) 89 = .ok (.ineg, 1) := by decide +kernel
theorem d157_90 : decode (zB 157) 90 = .ok (.invokevirtual 270, 3) := by decide +kernel
theorem d157_93 : decode (zB 157) 93 = .ok (.istore 5, 2) := by decide +kernel
theorem d157_95 : decode (zB 157) 95 = .ok (.iload 5, 2) := by decide +kernel
theorem d157_97 : decode (zB 157) 97 = .ok (.ifCond .ne 13, 3) := by decide +kernel
theorem d157_100 : decode (zB 157) 100 = .ok (.aload_n 0, 1) := by decide +kernel
theorem d157_101 : decode (zB 157) 101 = .ok (.dup, 1) := by decide +kernel
theorem d157_102 : decode (zB 157) 102 = .ok (.getfield 276, 3) := by decide +kernel
theorem d157_105 : decode (zB 157) 105 = .ok (.iload_n 3, 1) := by decide +kernel
theorem d157_106 : decode (zB 157) 106 = .ok (.iadd, 1) := by decide +kernel
theorem d157_107 : decode (zB 157) 107 = .ok (.putfield 276, 3) := by decide +kernel
theorem d157_110 : decode (zB 157) 110 = .ok (.iload 5, 2) := by decide +kernel
theorem d157_112 : decode (zB 157) 112 = .ok (.ireturn, 1) := by decide +kernel
theorem d157_113 : decode (zB 157) 113 = .ok (.aload_n 0, 1) := by decide +kernel
theorem d157_114 : decode (zB 157) 114 = .ok (.iload 4, 2) := by decide +kernel
theorem d157_116 : decode (zB 157) 116 = .ok (.aload_n 0, 1) := by decide +kernel
theorem d157_117 : decode (zB 157) 117 = .ok (.getfield 24, 3) := by decide +kernel
theorem d157_120 : decode (zB 157) 120 = .ok (.iload_n 1, 1) := by decide +kernel
theorem d157_121 : decode (zB 157) 121 = .ok (.aaload, 1) := by decide +kernel
theorem d157_122 : decode (zB 157) 122 = .ok (.iload_n 2, 1) := by decide +kernel
theorem d157_123 : decode (zB 157) 123 = .ok (.iaload, 1) := by decide +kernel
theorem d157_124 : decode (zB 157) 124 = .ok (.invokevirtual 279, 3) := by decide +kernel
theorem d157_127 : decode (zB 157) 127 = .ok (.ireturn, 1) := by decide +kernel
theorem d157_128 : decode (zB 157) 128 = .ok (.aload_n 0, 1) := by decide +kernel
theorem d157_129 : decode (zB 157) 129 = .ok (.dup, 1) := by decide +kernel
theorem d157_130 : decode (zB 157) 130 = .ok (.getfield 282, 3) := by decide +kernel
theorem d157_133 : decode (zB 157) 133 = .ok (.iconst 1, 1) := by decide +kernel
theorem d157_134 : decode (zB 157) 134 = .ok (.iadd, 1) := by decide +kernel
theorem d157_135 : decode (zB 157) 135 = .ok (.putfield 282, 3) := by decide +kernel
theorem d157_138 : decode (zB 157) 138 = .ok (.iconst 0, 1) := by decide +kernel
theorem d157_139 : decode (zB 157) 139 = .ok (.ireturn, 1) := by decide +kernel
theorem c157 {d : Nat} {M : zM} {Q : Option Value → zM → Prop} {T : yT} {P : yP} {t i : Nat} {n : Int32} (hX : SX M) (hP : XPu M P) (hT : XT1 M t T) (hTo : OKT T) (hOP : OKP P) (ht : t < 6) (hi : i < tn T) (k : ∀ M', XPu M' (xdo T P i n 1) → Fi GP M M' → Q (some (.int (yob T P i n 1))) M') : qC (d + 3) 157 [.ref 136, .int (nI t), .int (nI i), .int n] M Q := by
  refine qC_of (by decide) (Nat.le_of_ble_eq_true rfl) ?_
  have ho := hTo.2.2.2 _ hi
  have hk6 := hTo.k hi
  have hn := hTo.n
  rcases (show tk T i = 0 ∨ tk T i = 1 ∨ tk T i = 2 ∨ tk T i = 3 ∨ tk T i = 4 ∨ tk T i = 5 by omega) with hk | hk | hk | hk | hk | hk
  · obtain ⟨a, ha, hf⟩ := ho.2.2.2.1 (by omega)
    have hs := ho.2.2.2.2.2.1 (by omega) (by omega)
    obtain ⟨e1, e2⟩ := xdo_1 (P := P) (n := n) (w := 1) (v := n) (Or.inl hk) hf ha hs (by rw [hk]; show 1 * n = n; rw [i1m])
    rw [e1, e2] at k
    refine q_aload_n d157_0 rfl ?_
    refine q_getr (c := 8) (f := 4) d157_1 ⟨rfl, rfl⟩ (xk_136 hX) (xf_firsts hX) ?_
    refine q_iload_n d157_4 rfl ?_
    refine n_aald d157_5 (xk_firsts hX) (by decide) (by omega) (by decide) (xr_firsts hX (by omega)) ?_
    refine q_iload_n d157_6 rfl ?_
    refine n_iald d157_7 (xa_firsts hX (by omega)) (by omega) (by decide) (((hT.2.2 _ hi).2.1).trans hf) ?_
    refine q_istore d157_8 (by decide) rfl ?_
    refine q_aload_n d157_10 rfl ?_
    refine q_getr (c := 8) (f := 3) d157_11 ⟨rfl, rfl⟩ (xk_136 hX) (xf_kinds hX) ?_
    refine q_iload_n d157_14 rfl ?_
    refine n_aald d157_15 (xk_kinds hX) (by decide) (by omega) (by decide) (xr_kinds hX (by omega)) ?_
    refine q_iload_n d157_16 rfl ?_
    refine n_iald d157_17 (xa_kinds hX (by omega)) (by omega) (by decide) (((hT.2.2 _ hi).1).trans (congrArg nI hk)) ?_
    refine n_tsI (34) 52 d157_18 (by decide) (by decide) rfl (by decide) ?_
    refine q_aload_n d157_52 rfl ?_
    refine q_iload d157_53 rfl ?_
    refine q_iload_n d157_55 rfl ?_
    refine q_v2 d157_56 rfl rfl (xk_136 hX) (Nat.le_of_ble_eq_true rfl) (c158 hX hP ha (fun M1 hP1 f1 => ?_))
    refine q_iret d157_59 rfl ?_
    exact k _ hP1 f1
  · obtain ⟨a, ha, hf⟩ := ho.2.2.2.1 (by omega)
    have hs := ho.2.2.2.2.2.1 (by omega) (by omega)
    obtain ⟨e1, e2⟩ := xdo_1 (P := P) (n := n) (w := 1) (v := (-n)) (Or.inr hk) hf ha hs (by rw [hk]; show 1 * (-n) = (-n); rw [i1m])
    rw [e1, e2] at k
    refine q_aload_n d157_0 rfl ?_
    refine q_getr (c := 8) (f := 4) d157_1 ⟨rfl, rfl⟩ (xk_136 hX) (xf_firsts hX) ?_
    refine q_iload_n d157_4 rfl ?_
    refine n_aald d157_5 (xk_firsts hX) (by decide) (by omega) (by decide) (xr_firsts hX (by omega)) ?_
    refine q_iload_n d157_6 rfl ?_
    refine n_iald d157_7 (xa_firsts hX (by omega)) (by omega) (by decide) (((hT.2.2 _ hi).2.1).trans hf) ?_
    refine q_istore d157_8 (by decide) rfl ?_
    refine q_aload_n d157_10 rfl ?_
    refine q_getr (c := 8) (f := 3) d157_11 ⟨rfl, rfl⟩ (xk_136 hX) (xf_kinds hX) ?_
    refine q_iload_n d157_14 rfl ?_
    refine n_aald d157_15 (xk_kinds hX) (by decide) (by omega) (by decide) (xr_kinds hX (by omega)) ?_
    refine q_iload_n d157_16 rfl ?_
    refine n_iald d157_17 (xa_kinds hX (by omega)) (by omega) (by decide) (((hT.2.2 _ hi).1).trans (congrArg nI hk)) ?_
    refine n_tsI (42) 60 d157_18 (by decide) (by decide) rfl (by decide) ?_
    refine q_aload_n d157_60 rfl ?_
    refine q_iload d157_61 rfl ?_
    refine q_iload_n d157_63 rfl ?_
    refine q_ineg d157_64 ?_
    refine q_v2 d157_65 rfl rfl (xk_136 hX) (Nat.le_of_ble_eq_true rfl) (c158 hX hP ha (fun M1 hP1 f1 => ?_))
    refine q_iret d157_68 rfl ?_
    exact k _ hP1 f1
  · obtain ⟨a, ha, hf⟩ := ho.2.2.2.1 (by omega)
    obtain ⟨b, hb, hs⟩ := ho.2.2.2.2.1 (by omega)
    obtain ⟨e1, e2⟩ := xdo_2 (P := P) (n := n) (w := 1) (m := n) hk hf ha hs hb (by rw [hk]; show 1 * (-n) = -n; rw [i1m]) (by rw [hk]; show 1 * n = n; rw [i1m])
    rw [e1, e2] at k
    refine q_aload_n d157_0 rfl ?_
    refine q_getr (c := 8) (f := 4) d157_1 ⟨rfl, rfl⟩ (xk_136 hX) (xf_firsts hX) ?_
    refine q_iload_n d157_4 rfl ?_
    refine n_aald d157_5 (xk_firsts hX) (by decide) (by omega) (by decide) (xr_firsts hX (by omega)) ?_
    refine q_iload_n d157_6 rfl ?_
    refine n_iald d157_7 (xa_firsts hX (by omega)) (by omega) (by decide) (((hT.2.2 _ hi).2.1).trans hf) ?_
    refine q_istore d157_8 (by decide) rfl ?_
    refine q_aload_n d157_10 rfl ?_
    refine q_getr (c := 8) (f := 3) d157_11 ⟨rfl, rfl⟩ (xk_136 hX) (xf_kinds hX) ?_
    refine q_iload_n d157_14 rfl ?_
    refine n_aald d157_15 (xk_kinds hX) (by decide) (by omega) (by decide) (xr_kinds hX (by omega)) ?_
    refine q_iload_n d157_16 rfl ?_
    refine n_iald d157_17 (xa_kinds hX (by omega)) (by omega) (by decide) (((hT.2.2 _ hi).1).trans (congrArg nI hk)) ?_
    refine n_tsI (51) 69 d157_18 (by decide) (by decide) rfl (by decide) ?_
    refine q_aload_n d157_69 rfl ?_
    refine q_iload d157_70 rfl ?_
    refine q_aload_n d157_72 rfl ?_
    refine q_getr (c := 8) (f := 5) d157_73 ⟨rfl, rfl⟩ (xk_136 hX) (xf_seconds hX) ?_
    refine q_iload_n d157_76 rfl ?_
    refine n_aald d157_77 (xk_seconds hX) (by decide) (by omega) (by decide) (xr_seconds hX (by omega)) ?_
    refine q_iload_n d157_78 rfl ?_
    refine n_iald d157_79 (xa_seconds hX (by omega)) (by omega) (by decide) (((hT.2.2 _ hi).2.2.1).trans hs) ?_
    refine q_iload_n d157_80 rfl ?_
    refine q_v3 d157_81 rfl rfl (xk_136 hX) (Nat.le_of_ble_eq_true rfl) (c160 hX hP ha hb (fun M1 hP1 f1 => ?_))
    refine q_iret d157_84 rfl ?_
    exact k _ hP1 f1
  · obtain ⟨a, ha, hf⟩ := ho.2.2.2.1 (by omega)
    have hs := ho.2.2.2.2.2.1 (by omega) (by omega)
    obtain ⟨e1, e2⟩ := xdo_3 (P := P) (n := n) (w := 1) (v := (-n)) hk hf ha hs (by rw [hk]; show 1 * (-n) = (-n); rw [i1m])
    rw [e1, e2] at k
    refine q_aload_n d157_0 rfl ?_
    refine q_getr (c := 8) (f := 4) d157_1 ⟨rfl, rfl⟩ (xk_136 hX) (xf_firsts hX) ?_
    refine q_iload_n d157_4 rfl ?_
    refine n_aald d157_5 (xk_firsts hX) (by decide) (by omega) (by decide) (xr_firsts hX (by omega)) ?_
    refine q_iload_n d157_6 rfl ?_
    refine n_iald d157_7 (xa_firsts hX (by omega)) (by omega) (by decide) (((hT.2.2 _ hi).2.1).trans hf) ?_
    refine q_istore d157_8 (by decide) rfl ?_
    refine q_aload_n d157_10 rfl ?_
    refine q_getr (c := 8) (f := 3) d157_11 ⟨rfl, rfl⟩ (xk_136 hX) (xf_kinds hX) ?_
    refine q_iload_n d157_14 rfl ?_
    refine n_aald d157_15 (xk_kinds hX) (by decide) (by omega) (by decide) (xr_kinds hX (by omega)) ?_
    refine q_iload_n d157_16 rfl ?_
    refine n_iald d157_17 (xa_kinds hX (by omega)) (by omega) (by decide) (((hT.2.2 _ hi).1).trans (congrArg nI hk)) ?_
    refine n_tsI (67) 85 d157_18 (by decide) (by decide) rfl (by decide) ?_
    refine q_aload_n d157_85 rfl ?_
    refine q_iload d157_86 rfl ?_
    refine q_iload_n d157_88 rfl ?_
    refine q_ineg d157_89 ?_
    refine q_v2 d157_90 rfl rfl (xk_136 hX) (Nat.le_of_ble_eq_true rfl) (c158 hX hP ha (fun M1 hP1 f1 => ?_))
    have hX1 := SX_fi hX f1
    refine q_istore d157_93 (by decide) rfl ?_
    refine q_iload d157_95 rfl ?_
    refine i0_ne 110 d157_97 (by decide) (fun h97 => ?_) (fun h97 => ?_)
    · refine q_iload d157_110 rfl ?_
      refine q_iret d157_112 rfl ?_
      have e3 : xch P a (-n) = P := if_neg h97
      rw [e3] at hP1
      rw [if_neg h97] at k
      exact k _ hP1 f1
    · refine q_aload_n d157_100 rfl ?_
      refine q_dup d157_101 rfl ?_
      refine q_getv (c := 8) (f := 9) d157_102 ⟨rfl, by decide⟩ (xk_136 hX1) hP1.2.1 ?_
      refine q_iload_n d157_105 rfl ?_
      refine q_iadd d157_106 ?_
      refine q_puti (c := 8) (f := 9) d157_107 ⟨rfl, rfl, by decide⟩ (xk_136 hX1) ?_
      refine q_iload d157_110 rfl ?_
      refine q_iret d157_112 rfl ?_
      have e3 : xch P a (-n) = (yu P.1 a (P.1 a + (-n)), P.2) := if_pos h97
      rw [e3] at hP1 ⊢
      rw [if_pos h97, i1m] at k
      exact k _ (XPu_h hP1) (f1.wi (Or.inr ⟨rfl, Or.inl rfl⟩))
  · obtain ⟨a, ha, hf⟩ := ho.2.2.2.1 (by omega)
    obtain ⟨b, hb, hs⟩ := ho.2.2.2.2.1 (by omega)
    obtain ⟨e1, e2⟩ := xdo_4 (P := P) (n := n) (w := 1) hk hf ha hs hb hOP
    rw [e1, e2] at k
    refine q_aload_n d157_0 rfl ?_
    refine q_getr (c := 8) (f := 4) d157_1 ⟨rfl, rfl⟩ (xk_136 hX) (xf_firsts hX) ?_
    refine q_iload_n d157_4 rfl ?_
    refine n_aald d157_5 (xk_firsts hX) (by decide) (by omega) (by decide) (xr_firsts hX (by omega)) ?_
    refine q_iload_n d157_6 rfl ?_
    refine n_iald d157_7 (xa_firsts hX (by omega)) (by omega) (by decide) (((hT.2.2 _ hi).2.1).trans hf) ?_
    refine q_istore d157_8 (by decide) rfl ?_
    refine q_aload_n d157_10 rfl ?_
    refine q_getr (c := 8) (f := 3) d157_11 ⟨rfl, rfl⟩ (xk_136 hX) (xf_kinds hX) ?_
    refine q_iload_n d157_14 rfl ?_
    refine n_aald d157_15 (xk_kinds hX) (by decide) (by omega) (by decide) (xr_kinds hX (by omega)) ?_
    refine q_iload_n d157_16 rfl ?_
    refine n_iald d157_17 (xa_kinds hX (by omega)) (by omega) (by decide) (((hT.2.2 _ hi).1).trans (congrArg nI hk)) ?_
    refine n_tsI (95) 113 d157_18 (by decide) (by decide) rfl (by decide) ?_
    refine q_aload_n d157_113 rfl ?_
    refine q_iload d157_114 rfl ?_
    refine q_aload_n d157_116 rfl ?_
    refine q_getr (c := 8) (f := 5) d157_117 ⟨rfl, rfl⟩ (xk_136 hX) (xf_seconds hX) ?_
    refine q_iload_n d157_120 rfl ?_
    refine n_aald d157_121 (xk_seconds hX) (by decide) (by omega) (by decide) (xr_seconds hX (by omega)) ?_
    refine q_iload_n d157_122 rfl ?_
    refine n_iald d157_123 (xa_seconds hX (by omega)) (by omega) (by decide) (((hT.2.2 _ hi).2.2.1).trans hs) ?_
    refine q_v2 d157_124 rfl rfl (xk_136 hX) (Nat.le_of_ble_eq_true rfl) (c161 hX hP ha hb (fun M1 hP1 f1 => ?_))
    refine q_iret d157_127 rfl ?_
    exact k _ hP1 f1
  · have hf := ho.2.2.1 hk
    have hs := ho.2.2.2.2.2.1 (by omega) (by omega)
    obtain ⟨e1, e2⟩ := xdo_5 (P := P) (n := n) (w := 1) hk hf hs
    rw [e1, e2] at k
    rw [if_pos rfl] at k
    refine q_aload_n d157_0 rfl ?_
    refine q_getr (c := 8) (f := 4) d157_1 ⟨rfl, rfl⟩ (xk_136 hX) (xf_firsts hX) ?_
    refine q_iload_n d157_4 rfl ?_
    refine n_aald d157_5 (xk_firsts hX) (by decide) (by omega) (by decide) (xr_firsts hX (by omega)) ?_
    refine q_iload_n d157_6 rfl ?_
    refine n_iald d157_7 (xa_firsts hX (by omega)) (by omega) (by decide) (((hT.2.2 _ hi).2.1).trans hf) ?_
    refine q_istore d157_8 (by decide) rfl ?_
    refine q_aload_n d157_10 rfl ?_
    refine q_getr (c := 8) (f := 3) d157_11 ⟨rfl, rfl⟩ (xk_136 hX) (xf_kinds hX) ?_
    refine q_iload_n d157_14 rfl ?_
    refine n_aald d157_15 (xk_kinds hX) (by decide) (by omega) (by decide) (xr_kinds hX (by omega)) ?_
    refine q_iload_n d157_16 rfl ?_
    refine n_iald d157_17 (xa_kinds hX (by omega)) (by omega) (by decide) (((hT.2.2 _ hi).1).trans (congrArg nI hk)) ?_
    refine n_tsO 128 d157_18 (by decide) (Or.inr (by decide)) (by decide) ?_
    refine q_aload_n d157_128 rfl ?_
    refine q_dup d157_129 rfl ?_
    refine q_getv (c := 8) (f := 10) d157_130 ⟨rfl, by decide⟩ (xk_136 hX) hP.2.2 ?_
    refine q_iconstN (z := 1) d157_133 ?_
    refine q_iadd d157_134 ?_
    refine q_puti (c := 8) (f := 10) d157_135 ⟨rfl, rfl, by decide⟩ (xk_136 hX) ?_
    refine q_iconstN (z := 0) d157_138 ?_
    refine q_iret d157_139 rfl ?_
    exact k _ (XPu_m hP) ((Fi.refl _ _).wi (Or.inr ⟨rfl, Or.inr rfl⟩))
theorem d180_0 : decode (zB 180) 0 = .ok (.aload_n 0, 1) := by decide +kernel
theorem d180_1 : decode (zB 180) 1 = .ok (.getfield 21, 3) := by decide +kernel
theorem d180_4 : decode (zB 180) 4 = .ok (.iload_n 1, 1) := by decide +kernel
theorem d180_5 : decode (zB 180) 5 = .ok (.aaload, 1) := by decide +kernel
theorem d180_6 : decode (zB 180) 6 = .ok (.iload_n 2, 1) := by decide +kernel
theorem d180_7 : decode (zB 180) 7 = .ok (.iaload, 1) := by decide +kernel
theorem d180_8 : decode (zB 180) 8 = .ok (.istore 4, 2) := by decide +kernel
theorem d180_10 : decode (zB 180) 10 = .ok (.aload_n 0, 1) := by decide +kernel
theorem d180_11 : decode (zB 180) 11 = .ok (.getfield 18, 3) := by decide +kernel
theorem d180_14 : decode (zB 180) 14 = .ok (.iload_n 1, 1) := by decide +kernel
theorem d180_15 : decode (zB 180) 15 = .ok (.aaload, 1) := by decide +kernel
theorem d180_16 : decode (zB 180) 16 = .ok (.iload_n 2, 1) := by decide +kernel
theorem d180_17 : decode (zB 180) 17 = .ok (.iaload, 1) := by decide +kernel
theorem d180_18 : decode (zB 180) 18 = .ok (.tableswitch 110 0 4 #[34, 43, 51, 68, 95], 34) := by decide +kernel
theorem d180_52 : decode (zB 180) 52 = .ok (.aload_n 0, 1) := by decide +kernel
theorem d180_53 : decode (zB 180) 53 = .ok (.iload 4, 2) := by decide +kernel
theorem d180_55 : decode (zB 180) 55 = .ok (.iload_n 3, 1) := by decide +kernel
theorem d180_56 : decode (zB 180) 56 = .ok (.ineg, 1) := by decide +kernel
theorem d180_57 : decode (zB 180) 57 = .ok (.invokevirtual 270, 3) := by decide +kernel
theorem d180_60 : decode (zB 180) 60 = .ok (.ireturn, 1) := by decide +kernel
theorem d180_61 : decode (zB 180) 61 = .ok (.aload_n 0, 1) := by decide +kernel
theorem d180_62 : decode (zB 180) 62 = .ok (.iload 4, 2) := by decide +kernel
theorem d180_64 : decode (zB 180) 64 = .ok (.iload_n 3, 1) := by decide +kernel
theorem d180_65 : decode (zB 180) 65 = .ok (.invokevirtual 270, 3) := by decide +kernel
theorem d180_68 : decode (zB 180) 68 = .ok (.ireturn, 1) := by decide +kernel
theorem d180_69 : decode (zB 180) 69 = .ok (.aload_n 0, 1) := by decide +kernel
theorem d180_70 : decode (zB 180) 70 = .ok (.iload 4, 2) := by decide +kernel
theorem d180_72 : decode (zB 180) 72 = .ok (.aload_n 0, 1) := by decide +kernel
theorem d180_73 : decode (zB 180) 73 = .ok (.getfield 24, 3) := by decide +kernel
theorem d180_76 : decode (zB 180) 76 = .ok (.iload_n 1, 1) := by decide +kernel
theorem d180_77 : decode (zB 180) 77 = .ok (.aaload, 1) := by decide +kernel
theorem d180_78 : decode (zB 180) 78 = .ok (.iload_n 2, 1) := by decide +kernel
theorem d180_79 : decode (zB 180) 79 = .ok (.iaload, 1) := by decide +kernel
theorem d180_80 : decode (zB 180) 80 = .ok (.iload_n 3, 1) := by decide +kernel
theorem d180_81 : decode (zB 180) 81 = .ok (.ineg, 1) := by decide +kernel
theorem d180_82 : decode (zB 180) 82 = .ok (.invokevirtual 273, 3) := by decide +kernel
theorem d180_85 : decode (zB 180) 85 = .ok (.ireturn, 1) := by decide +kernel
theorem d180_86 : decode (zB 180) 86 = .ok (.aload_n 0, 1) := by decide +kernel
theorem d180_87 : decode (zB 180) 87 = .ok (.iload 4, 2) := by decide +kernel
theorem d180_89 : decode (zB 180) 89 = .ok (.iload_n 3, 1) := by decide +kernel
theorem d180_90 : decode (zB 180) 90 = .ok (.invokevirtual 270, 3) := by decide +kernel
theorem d180_93 : decode (zB 180) 93 = .ok (.istore 5, 2) := by decide +kernel
theorem d180_95 : decode (zB 180) 95 = .ok (.iload 5, 2) := by decide +kernel
theorem d180_97 : decode (zB 180) 97 = .ok (.ifCond .ne 13, 3) := by decide +kernel
theorem d180_100 : decode (zB 180) 100 = .ok (.aload_n 0, 1) := by decide +kernel
theorem d180_101 : decode (zB 180) 101 = .ok (.dup, 1) := by decide +kernel
theorem d180_102 : decode (zB 180) 102 = .ok (.getfield 276, 3) := by decide +kernel
theorem d180_105 : decode (zB 180) 105 = .ok (.iload_n 3, 1) := by decide +kernel
theorem d180_106 : decode (zB 180) 106 = .ok (.isub, 1) := by decide +kernel
theorem d180_107 : decode (zB 180) 107 = .ok (.putfield 276, 3) := by decide +kernel
theorem d180_110 : decode (zB 180) 110 = .ok (.iload 5, 2) := by decide +kernel
theorem d180_112 : decode (zB 180) 112 = .ok (.ireturn, 1) := by decide +kernel
theorem d180_113 : decode (zB 180) 113 = .ok (.aload_n 0, 1) := by decide +kernel
theorem d180_114 : decode (zB 180) 114 = .ok (.iload 4, 2) := by decide +kernel
theorem d180_116 : decode (zB 180) 116 = .ok (.aload_n 0, 1) := by decide +kernel
theorem d180_117 : decode (zB 180) 117 = .ok (.getfield 24, 3) := by decide +kernel
theorem d180_120 : decode (zB 180) 120 = .ok (.iload_n 1, 1) := by decide +kernel
theorem d180_121 : decode (zB 180) 121 = .ok (.aaload, 1) := by decide +kernel
theorem d180_122 : decode (zB 180) 122 = .ok (.iload_n 2, 1) := by decide +kernel
theorem d180_123 : decode (zB 180) 123 = .ok (.iaload, 1) := by decide +kernel
theorem d180_124 : decode (zB 180) 124 = .ok (.invokevirtual 279, 3) := by decide +kernel
theorem d180_127 : decode (zB 180) 127 = .ok (.ireturn, 1) := by decide +kernel
theorem d180_128 : decode (zB 180) 128 = .ok (.iconst 0, 1) := by decide +kernel
theorem d180_129 : decode (zB 180) 129 = .ok (.ireturn, 1) := by decide +kernel
theorem c180 {d : Nat} {M : zM} {Q : Option Value → zM → Prop} {T : yT} {P : yP} {t i : Nat} {n : Int32} (hX : SX M) (hP : XPu M P) (hT : XT1 M t T) (hTo : OKT T) (hOP : OKP P) (ht : t < 6) (hi : i < tn T) (k : ∀ M', XPu M' (xdo T P i n (-1)) → Fi GP M M' → Q (some (.int (yob T P i n (-1)))) M') : qC (d + 3) 180 [.ref 136, .int (nI t), .int (nI i), .int n] M Q := by
  refine qC_of (by decide) (Nat.le_of_ble_eq_true rfl) ?_
  have ho := hTo.2.2.2 _ hi
  have hk6 := hTo.k hi
  have hn := hTo.n
  rcases (show tk T i = 0 ∨ tk T i = 1 ∨ tk T i = 2 ∨ tk T i = 3 ∨ tk T i = 4 ∨ tk T i = 5 by omega) with hk | hk | hk | hk | hk | hk
  · obtain ⟨a, ha, hf⟩ := ho.2.2.2.1 (by omega)
    have hs := ho.2.2.2.2.2.1 (by omega) (by omega)
    obtain ⟨e1, e2⟩ := xdo_1 (P := P) (n := n) (w := (-1)) (v := (-n)) (Or.inl hk) hf ha hs (by rw [hk]; show (-1) * n = (-n); rw [im1])
    rw [e1, e2] at k
    refine q_aload_n d180_0 rfl ?_
    refine q_getr (c := 8) (f := 4) d180_1 ⟨rfl, rfl⟩ (xk_136 hX) (xf_firsts hX) ?_
    refine q_iload_n d180_4 rfl ?_
    refine n_aald d180_5 (xk_firsts hX) (by decide) (by omega) (by decide) (xr_firsts hX (by omega)) ?_
    refine q_iload_n d180_6 rfl ?_
    refine n_iald d180_7 (xa_firsts hX (by omega)) (by omega) (by decide) (((hT.2.2 _ hi).2.1).trans hf) ?_
    refine q_istore d180_8 (by decide) rfl ?_
    refine q_aload_n d180_10 rfl ?_
    refine q_getr (c := 8) (f := 3) d180_11 ⟨rfl, rfl⟩ (xk_136 hX) (xf_kinds hX) ?_
    refine q_iload_n d180_14 rfl ?_
    refine n_aald d180_15 (xk_kinds hX) (by decide) (by omega) (by decide) (xr_kinds hX (by omega)) ?_
    refine q_iload_n d180_16 rfl ?_
    refine n_iald d180_17 (xa_kinds hX (by omega)) (by omega) (by decide) (((hT.2.2 _ hi).1).trans (congrArg nI hk)) ?_
    refine n_tsI (34) 52 d180_18 (by decide) (by decide) rfl (by decide) ?_
    refine q_aload_n d180_52 rfl ?_
    refine q_iload d180_53 rfl ?_
    refine q_iload_n d180_55 rfl ?_
    refine q_ineg d180_56 ?_
    refine q_v2 d180_57 rfl rfl (xk_136 hX) (Nat.le_of_ble_eq_true rfl) (c158 hX hP ha (fun M1 hP1 f1 => ?_))
    refine q_iret d180_60 rfl ?_
    exact k _ hP1 f1
  · obtain ⟨a, ha, hf⟩ := ho.2.2.2.1 (by omega)
    have hs := ho.2.2.2.2.2.1 (by omega) (by omega)
    obtain ⟨e1, e2⟩ := xdo_1 (P := P) (n := n) (w := (-1)) (v := n) (Or.inr hk) hf ha hs (by rw [hk]; show (-1) * (-n) = n; rw [im1, Int32.neg_neg])
    rw [e1, e2] at k
    refine q_aload_n d180_0 rfl ?_
    refine q_getr (c := 8) (f := 4) d180_1 ⟨rfl, rfl⟩ (xk_136 hX) (xf_firsts hX) ?_
    refine q_iload_n d180_4 rfl ?_
    refine n_aald d180_5 (xk_firsts hX) (by decide) (by omega) (by decide) (xr_firsts hX (by omega)) ?_
    refine q_iload_n d180_6 rfl ?_
    refine n_iald d180_7 (xa_firsts hX (by omega)) (by omega) (by decide) (((hT.2.2 _ hi).2.1).trans hf) ?_
    refine q_istore d180_8 (by decide) rfl ?_
    refine q_aload_n d180_10 rfl ?_
    refine q_getr (c := 8) (f := 3) d180_11 ⟨rfl, rfl⟩ (xk_136 hX) (xf_kinds hX) ?_
    refine q_iload_n d180_14 rfl ?_
    refine n_aald d180_15 (xk_kinds hX) (by decide) (by omega) (by decide) (xr_kinds hX (by omega)) ?_
    refine q_iload_n d180_16 rfl ?_
    refine n_iald d180_17 (xa_kinds hX (by omega)) (by omega) (by decide) (((hT.2.2 _ hi).1).trans (congrArg nI hk)) ?_
    refine n_tsI (43) 61 d180_18 (by decide) (by decide) rfl (by decide) ?_
    refine q_aload_n d180_61 rfl ?_
    refine q_iload d180_62 rfl ?_
    refine q_iload_n d180_64 rfl ?_
    refine q_v2 d180_65 rfl rfl (xk_136 hX) (Nat.le_of_ble_eq_true rfl) (c158 hX hP ha (fun M1 hP1 f1 => ?_))
    refine q_iret d180_68 rfl ?_
    exact k _ hP1 f1
  · obtain ⟨a, ha, hf⟩ := ho.2.2.2.1 (by omega)
    obtain ⟨b, hb, hs⟩ := ho.2.2.2.2.1 (by omega)
    obtain ⟨e1, e2⟩ := xdo_2 (P := P) (n := n) (w := (-1)) (m := (-n)) hk hf ha hs hb (by rw [hk]; show (-1) * (-n) = -(-n); rw [im1]) (by rw [hk]; show (-1) * n = (-n); rw [im1])
    rw [e1, e2] at k
    refine q_aload_n d180_0 rfl ?_
    refine q_getr (c := 8) (f := 4) d180_1 ⟨rfl, rfl⟩ (xk_136 hX) (xf_firsts hX) ?_
    refine q_iload_n d180_4 rfl ?_
    refine n_aald d180_5 (xk_firsts hX) (by decide) (by omega) (by decide) (xr_firsts hX (by omega)) ?_
    refine q_iload_n d180_6 rfl ?_
    refine n_iald d180_7 (xa_firsts hX (by omega)) (by omega) (by decide) (((hT.2.2 _ hi).2.1).trans hf) ?_
    refine q_istore d180_8 (by decide) rfl ?_
    refine q_aload_n d180_10 rfl ?_
    refine q_getr (c := 8) (f := 3) d180_11 ⟨rfl, rfl⟩ (xk_136 hX) (xf_kinds hX) ?_
    refine q_iload_n d180_14 rfl ?_
    refine n_aald d180_15 (xk_kinds hX) (by decide) (by omega) (by decide) (xr_kinds hX (by omega)) ?_
    refine q_iload_n d180_16 rfl ?_
    refine n_iald d180_17 (xa_kinds hX (by omega)) (by omega) (by decide) (((hT.2.2 _ hi).1).trans (congrArg nI hk)) ?_
    refine n_tsI (51) 69 d180_18 (by decide) (by decide) rfl (by decide) ?_
    refine q_aload_n d180_69 rfl ?_
    refine q_iload d180_70 rfl ?_
    refine q_aload_n d180_72 rfl ?_
    refine q_getr (c := 8) (f := 5) d180_73 ⟨rfl, rfl⟩ (xk_136 hX) (xf_seconds hX) ?_
    refine q_iload_n d180_76 rfl ?_
    refine n_aald d180_77 (xk_seconds hX) (by decide) (by omega) (by decide) (xr_seconds hX (by omega)) ?_
    refine q_iload_n d180_78 rfl ?_
    refine n_iald d180_79 (xa_seconds hX (by omega)) (by omega) (by decide) (((hT.2.2 _ hi).2.2.1).trans hs) ?_
    refine q_iload_n d180_80 rfl ?_
    refine q_ineg d180_81 ?_
    refine q_v3 d180_82 rfl rfl (xk_136 hX) (Nat.le_of_ble_eq_true rfl) (c160 hX hP ha hb (fun M1 hP1 f1 => ?_))
    refine q_iret d180_85 rfl ?_
    exact k _ hP1 f1
  · obtain ⟨a, ha, hf⟩ := ho.2.2.2.1 (by omega)
    have hs := ho.2.2.2.2.2.1 (by omega) (by omega)
    obtain ⟨e1, e2⟩ := xdo_3 (P := P) (n := n) (w := (-1)) (v := n) hk hf ha hs (by rw [hk]; show (-1) * (-n) = n; rw [im1, Int32.neg_neg])
    rw [e1, e2] at k
    refine q_aload_n d180_0 rfl ?_
    refine q_getr (c := 8) (f := 4) d180_1 ⟨rfl, rfl⟩ (xk_136 hX) (xf_firsts hX) ?_
    refine q_iload_n d180_4 rfl ?_
    refine n_aald d180_5 (xk_firsts hX) (by decide) (by omega) (by decide) (xr_firsts hX (by omega)) ?_
    refine q_iload_n d180_6 rfl ?_
    refine n_iald d180_7 (xa_firsts hX (by omega)) (by omega) (by decide) (((hT.2.2 _ hi).2.1).trans hf) ?_
    refine q_istore d180_8 (by decide) rfl ?_
    refine q_aload_n d180_10 rfl ?_
    refine q_getr (c := 8) (f := 3) d180_11 ⟨rfl, rfl⟩ (xk_136 hX) (xf_kinds hX) ?_
    refine q_iload_n d180_14 rfl ?_
    refine n_aald d180_15 (xk_kinds hX) (by decide) (by omega) (by decide) (xr_kinds hX (by omega)) ?_
    refine q_iload_n d180_16 rfl ?_
    refine n_iald d180_17 (xa_kinds hX (by omega)) (by omega) (by decide) (((hT.2.2 _ hi).1).trans (congrArg nI hk)) ?_
    refine n_tsI (68) 86 d180_18 (by decide) (by decide) rfl (by decide) ?_
    refine q_aload_n d180_86 rfl ?_
    refine q_iload d180_87 rfl ?_
    refine q_iload_n d180_89 rfl ?_
    refine q_v2 d180_90 rfl rfl (xk_136 hX) (Nat.le_of_ble_eq_true rfl) (c158 hX hP ha (fun M1 hP1 f1 => ?_))
    have hX1 := SX_fi hX f1
    refine q_istore d180_93 (by decide) rfl ?_
    refine q_iload d180_95 rfl ?_
    refine i0_ne 110 d180_97 (by decide) (fun h97 => ?_) (fun h97 => ?_)
    · refine q_iload d180_110 rfl ?_
      refine q_iret d180_112 rfl ?_
      have e3 : xch P a n = P := if_neg h97
      rw [e3] at hP1
      rw [if_neg h97] at k
      exact k _ hP1 f1
    · refine q_aload_n d180_100 rfl ?_
      refine q_dup d180_101 rfl ?_
      refine q_getv (c := 8) (f := 9) d180_102 ⟨rfl, by decide⟩ (xk_136 hX1) hP1.2.1 ?_
      refine q_iload_n d180_105 rfl ?_
      refine q_isub d180_106 ?_
      refine q_puti (c := 8) (f := 9) d180_107 ⟨rfl, rfl, by decide⟩ (xk_136 hX1) ?_
      refine q_iload d180_110 rfl ?_
      refine q_iret d180_112 rfl ?_
      have e3 : xch P a n = (yu P.1 a (P.1 a + n), P.2) := if_pos h97
      rw [e3] at hP1 ⊢
      rw [if_pos h97, im1, ← Int32.sub_eq_add_neg] at k
      exact k _ (XPu_h hP1) (f1.wi (Or.inr ⟨rfl, Or.inl rfl⟩))
  · obtain ⟨a, ha, hf⟩ := ho.2.2.2.1 (by omega)
    obtain ⟨b, hb, hs⟩ := ho.2.2.2.2.1 (by omega)
    obtain ⟨e1, e2⟩ := xdo_4 (P := P) (n := n) (w := (-1)) hk hf ha hs hb hOP
    rw [e1, e2] at k
    refine q_aload_n d180_0 rfl ?_
    refine q_getr (c := 8) (f := 4) d180_1 ⟨rfl, rfl⟩ (xk_136 hX) (xf_firsts hX) ?_
    refine q_iload_n d180_4 rfl ?_
    refine n_aald d180_5 (xk_firsts hX) (by decide) (by omega) (by decide) (xr_firsts hX (by omega)) ?_
    refine q_iload_n d180_6 rfl ?_
    refine n_iald d180_7 (xa_firsts hX (by omega)) (by omega) (by decide) (((hT.2.2 _ hi).2.1).trans hf) ?_
    refine q_istore d180_8 (by decide) rfl ?_
    refine q_aload_n d180_10 rfl ?_
    refine q_getr (c := 8) (f := 3) d180_11 ⟨rfl, rfl⟩ (xk_136 hX) (xf_kinds hX) ?_
    refine q_iload_n d180_14 rfl ?_
    refine n_aald d180_15 (xk_kinds hX) (by decide) (by omega) (by decide) (xr_kinds hX (by omega)) ?_
    refine q_iload_n d180_16 rfl ?_
    refine n_iald d180_17 (xa_kinds hX (by omega)) (by omega) (by decide) (((hT.2.2 _ hi).1).trans (congrArg nI hk)) ?_
    refine n_tsI (95) 113 d180_18 (by decide) (by decide) rfl (by decide) ?_
    refine q_aload_n d180_113 rfl ?_
    refine q_iload d180_114 rfl ?_
    refine q_aload_n d180_116 rfl ?_
    refine q_getr (c := 8) (f := 5) d180_117 ⟨rfl, rfl⟩ (xk_136 hX) (xf_seconds hX) ?_
    refine q_iload_n d180_120 rfl ?_
    refine n_aald d180_121 (xk_seconds hX) (by decide) (by omega) (by decide) (xr_seconds hX (by omega)) ?_
    refine q_iload_n d180_122 rfl ?_
    refine n_iald d180_123 (xa_seconds hX (by omega)) (by omega) (by decide) (((hT.2.2 _ hi).2.2.1).trans hs) ?_
    refine q_v2 d180_124 rfl rfl (xk_136 hX) (Nat.le_of_ble_eq_true rfl) (c161 hX hP ha hb (fun M1 hP1 f1 => ?_))
    refine q_iret d180_127 rfl ?_
    exact k _ hP1 f1
  · have hf := ho.2.2.1 hk
    have hs := ho.2.2.2.2.2.1 (by omega) (by omega)
    obtain ⟨e1, e2⟩ := xdo_5 (P := P) (n := n) (w := (-1)) hk hf hs
    rw [e1, e2] at k
    rw [if_neg (by decide)] at k
    refine q_aload_n d180_0 rfl ?_
    refine q_getr (c := 8) (f := 4) d180_1 ⟨rfl, rfl⟩ (xk_136 hX) (xf_firsts hX) ?_
    refine q_iload_n d180_4 rfl ?_
    refine n_aald d180_5 (xk_firsts hX) (by decide) (by omega) (by decide) (xr_firsts hX (by omega)) ?_
    refine q_iload_n d180_6 rfl ?_
    refine n_iald d180_7 (xa_firsts hX (by omega)) (by omega) (by decide) (((hT.2.2 _ hi).2.1).trans hf) ?_
    refine q_istore d180_8 (by decide) rfl ?_
    refine q_aload_n d180_10 rfl ?_
    refine q_getr (c := 8) (f := 3) d180_11 ⟨rfl, rfl⟩ (xk_136 hX) (xf_kinds hX) ?_
    refine q_iload_n d180_14 rfl ?_
    refine n_aald d180_15 (xk_kinds hX) (by decide) (by omega) (by decide) (xr_kinds hX (by omega)) ?_
    refine q_iload_n d180_16 rfl ?_
    refine n_iald d180_17 (xa_kinds hX (by omega)) (by omega) (by decide) (((hT.2.2 _ hi).1).trans (congrArg nI hk)) ?_
    refine n_tsO 128 d180_18 (by decide) (Or.inr (by decide)) (by decide) ?_
    refine q_iconstN (z := 0) d180_128 ?_
    refine q_iret d180_129 rfl ?_
    exact k _ hP (Fi.refl _ _)
