/-! ===== the reference: its purse ===== -/
/-! what the reference's cells mean -/
theorem SX_wi {M : zM} {a k : Nat} {v : Int32} (h : SX M) : SX (zwi M a k v) := SX_of h (fun _ _ => rfl) (fun _ _ _ _ => rfl)
theorem SX_fi {M M' : zM} {S : Nat → Nat → Prop} (h : SX M) (f : Fi S M M') : SX M' := SX_of h (fun a _ => by rw [f.2.2.2.1]) (fun a g _ _ => by rw [f.2.1])
/-- a text -/
def XT1 (M : zM) (i : Nat) (T : yT) : Prop := zi M 137 i = nI (tn T) ∧ zi M 138 i = tp T ∧ ∀ k, k < tn T → zi M (140 + i) k = nI (tk T k) ∧ zi M (147 + i) k = tf T k ∧ zi M (154 + i) k = ts T k ∧ zi M (161 + i) k = tu T k ∧ zi M (168 + i) k = nI (ta T k)
def XTx (M : zM) (T : Nat → yT) (c : Nat) : Prop := ∀ i, i < c → XT1 M i (T i)
/-- the purse -/
def XPu (M : zM) (P : yP) : Prop := (∀ k, k < 6 → zi M 174 k = P.1 k) ∧ zi M 136 9 = P.2.1 ∧ zi M 136 10 = P.2.2
def GP : Nat → Nat → Prop := fun b k => b = 174 ∨ (b = 136 ∧ (k = 9 ∨ k = 10))
theorem XT1_fi {M M' : zM} {S : Nat → Nat → Prop} {i : Nat} {T : yT} (h : XT1 M i T) (hi : i < 6) (f : Fi S M M') (hs : ∀ b k, 137 ≤ b → b < 174 → ¬ S b k) : XT1 M' i T :=
  ⟨(f.1 _ _ (hs _ _ (by omega) (by omega))).trans h.1, (f.1 _ _ (hs _ _ (by omega) (by omega))).trans h.2.1, fun k hk => ⟨(f.1 _ _ (hs _ _ (by omega) (by omega))).trans (h.2.2 k hk).1, (f.1 _ _ (hs _ _ (by omega) (by omega))).trans (h.2.2 k hk).2.1, (f.1 _ _ (hs _ _ (by omega) (by omega))).trans (h.2.2 k hk).2.2.1, (f.1 _ _ (hs _ _ (by omega) (by omega))).trans (h.2.2 k hk).2.2.2.1, (f.1 _ _ (hs _ _ (by omega) (by omega))).trans (h.2.2 k hk).2.2.2.2⟩⟩
theorem XTx_fi {M M' : zM} {S : Nat → Nat → Prop} {T : Nat → yT} {c : Nat} (h : XTx M T c) (hc : c ≤ 6) (f : Fi S M M') (hs : ∀ b k, 137 ≤ b → b < 174 → ¬ S b k) : XTx M' T c := fun i hi => XT1_fi (h i hi) (by omega) f hs
theorem XPu_fi {M M' : zM} {S : Nat → Nat → Prop} {P : yP} (h : XPu M P) (f : Fi S M M') (hs : ∀ b k, GP b k → ¬ S b k) : XPu M' P :=
  ⟨fun k hk => (f.1 _ _ (hs _ _ (Or.inl rfl))).trans (h.1 k hk), (f.1 _ _ (hs _ _ (Or.inr ⟨rfl, Or.inl rfl⟩))).trans h.2.1, (f.1 _ _ (hs _ _ (Or.inr ⟨rfl, Or.inr rfl⟩))).trans h.2.2⟩
theorem XPu_b {M : zM} {P : yP} {a : Nat} {v : Int32} (h : XPu M P) : XPu (zwi M 174 a v) (yu P.1 a v, P.2) :=
  ⟨fun k hk => by
    show zi (zwi M 174 a v) 174 k = yu P.1 a v k
    by_cases e : k = a
    · subst e; rw [wi_s, yu_s]
    · rw [wi_n (Or.inr e), yu_n e]; exact h.1 k hk, (wi_n (Or.inl (by omega))).trans h.2.1, (wi_n (Or.inl (by omega))).trans h.2.2⟩
theorem XPu_h {M : zM} {P : yP} {v : Int32} (h : XPu M P) : XPu (zwi M 136 9 v) (P.1, v, P.2.2) :=
  ⟨fun k hk => (wi_n (Or.inl (by omega))).trans (h.1 k hk), wi_s _ _ _ _, (wi_n (Or.inr (by omega))).trans h.2.2⟩
theorem XPu_m {M : zM} {P : yP} {v : Int32} (h : XPu M P) : XPu (zwi M 136 10 v) (P.1, P.2.1, v) :=
  ⟨fun k hk => (wi_n (Or.inl (by omega))).trans (h.1 k hk), (wi_n (Or.inr (by omega))).trans h.2.1, wi_s _ _ _ _⟩
theorem d159_0 : decode (zB 159) 0 = .ok (.iload_n 0, 1) := (congrArg (fun c => decode c 0) zeq159).trans (by decide +kernel)
theorem d159_1 : decode (zB 159) 1 = .ok (.ifCond .ge 7, 3) := (congrArg (fun c => decode c 1) zeq159).trans (by decide +kernel)
theorem d159_4 : decode (zB 159) 4 = .ok (.iconst 2, 1) := (congrArg (fun c => decode c 4) zeq159).trans (by decide +kernel)
theorem d159_5 : decode (zB 159) 5 = .ok (.goto 15, 3) := (congrArg (fun c => decode c 5) zeq159).trans (by decide +kernel)
theorem d159_8 : decode (zB 159) 8 = .ok (.iload_n 0, 1) := (congrArg (fun c => decode c 8) zeq159).trans (by decide +kernel)
theorem d159_9 : decode (zB 159) 9 = .ok (.sipush 9999, 3) := (congrArg (fun c => decode c 9) zeq159).trans (by decide +kernel)
theorem d159_12 : decode (zB 159) 12 = .ok (.if_icmp .le 7, 3) := (congrArg (fun c => decode c 12) zeq159).trans (by decide +kernel)
theorem d159_15 : decode (zB 159) 15 = .ok (.iconst 3, 1) := (congrArg (fun c => decode c 15) zeq159).trans (by decide +kernel)
theorem d159_16 : decode (zB 159) 16 = .ok (.goto 4, 3) := (congrArg (fun c => decode c 16) zeq159).trans (by decide +kernel)
theorem d159_19 : decode (zB 159) 19 = .ok (.iconst 0, 1) := (congrArg (fun c => decode c 19) zeq159).trans (by decide +kernel)
theorem d159_20 : decode (zB 159) 20 = .ok (.ireturn, 1) := (congrArg (fun c => decode c 20) zeq159).trans (by decide +kernel)
theorem c159 {d : Nat} {M : zM} {Q : Option Value → zM → Prop} {b : Int32} (k : Q (some (.int (yck b))) M) : qC (d + 1) 159 [.int b] M Q := by
  refine qC_of (by decide) (Nat.le_of_ble_eq_true rfl) ?_
  unfold yck at k
  refine q_iload_n d159_0 rfl ?_
  refine i0_ge 8 d159_1 (by decide) (fun h1 => ?_) (fun h1 => ?_)
  · refine q_iload_n d159_8 rfl ?_
    refine q_sipush (x := nI 9999) d159_9 rfl ?_
    refine ic_le 19 d159_12 (by decide) (fun h12 => ?_) (fun h12 => ?_)
    · refine q_iconstN (z := 0) d159_19 ?_
      refine q_iret d159_20 rfl ?_
      rw [if_pos h1, if_pos h12] at k
      exact k
    · refine q_iconstN (z := 3) d159_15 ?_
      refine q_goto 20 d159_16 (by decide) ?_
      refine q_iret d159_20 rfl ?_
      rw [if_pos h1, if_neg h12] at k
      exact k
  · refine q_iconstN (z := 2) d159_4 ?_
    refine q_goto 20 d159_5 (by decide) ?_
    refine q_iret d159_20 rfl ?_
    rw [if_neg h1] at k
    exact k
/-- an account is changed, if it may be -/
def xch (P : yP) (a : Nat) (v : Int32) : yP := if yck (P.1 a + v) = 0 then (yu P.1 a (P.1 a + v), P.2) else P
theorem d158_0 : decode (zB 158) 0 = .ok (.aload_n 0, 1) := (congrArg (fun c => decode c 0) zeq158).trans (by decide +kernel)
theorem d158_1 : decode (zB 158) 1 = .ok (.getfield 33, 3) := (congrArg (fun c => decode c 1) zeq158).trans (by decide +kernel)
theorem d158_4 : decode (zB 158) 4 = .ok (.iload_n 1, 1) := (congrArg (fun c => decode c 4) zeq158).trans (by decide +kernel)
theorem d158_5 : decode (zB 158) 5 = .ok (.iaload, 1) := (congrArg (fun c => decode c 5) zeq158).trans (by decide +kernel)
theorem d158_6 : decode (zB 158) 6 = .ok (.iload_n 2, 1) := (congrArg (fun c => decode c 6) zeq158).trans (by decide +kernel)
theorem d158_7 : decode (zB 158) 7 = .ok (.iadd, 1) := (congrArg (fun c => decode c 7) zeq158).trans (by decide +kernel)
theorem d158_8 : decode (zB 158) 8 = .ok (.invokestatic 267, 3) := (congrArg (fun c => decode c 8) zeq158).trans (by decide +kernel)
theorem d158_11 : decode (zB 158) 11 = .ok (.istore_n 3, 1) := (congrArg (fun c => decode c 11) zeq158).trans (by decide +kernel)
theorem d158_12 : decode (zB 158) 12 = .ok (.iload_n 3, 1) := (congrArg (fun c => decode c 12) zeq158).trans (by decide +kernel)
theorem d158_13 : decode (zB 158) 13 = .ok (.ifCond .ne 13, 3) := (congrArg (fun c => decode c 13) zeq158).trans (by decide +kernel)
theorem d158_16 : decode (zB 158) 16 = .ok (.aload_n 0, 1) := (congrArg (fun c => decode c 16) zeq158).trans (by decide +kernel)
theorem d158_17 : decode (zB 158) 17 = .ok (.getfield 33, 3) := (congrArg (fun c => decode c 17) zeq158).trans (by decide +kernel)
theorem d158_20 : decode (zB 158) 20 = .ok (.iload_n 1, 1) := (congrArg (fun c => decode c 20) zeq158).trans (by decide +kernel)
theorem d158_21 : decode (zB 158) 21 = .ok (.dup2, 1) := (congrArg (fun c => decode c 21) zeq158).trans (by decide +kernel)
theorem d158_22 : decode (zB 158) 22 = .ok (.iaload, 1) := (congrArg (fun c => decode c 22) zeq158).trans (by decide +kernel)
theorem d158_23 : decode (zB 158) 23 = .ok (.iload_n 2, 1) := (congrArg (fun c => decode c 23) zeq158).trans (by decide +kernel)
theorem d158_24 : decode (zB 158) 24 = .ok (.iadd, 1) := (congrArg (fun c => decode c 24) zeq158).trans (by decide +kernel)
theorem d158_25 : decode (zB 158) 25 = .ok (.iastore, 1) := (congrArg (fun c => decode c 25) zeq158).trans (by decide +kernel)
theorem d158_26 : decode (zB 158) 26 = .ok (.iload_n 3, 1) := (congrArg (fun c => decode c 26) zeq158).trans (by decide +kernel)
theorem d158_27 : decode (zB 158) 27 = .ok (.ireturn, 1) := (congrArg (fun c => decode c 27) zeq158).trans (by decide +kernel)
theorem c158 {d : Nat} {M : zM} {Q : Option Value → zM → Prop} {P : yP} {a : Nat} {v : Int32} (hX : SX M) (hP : XPu M P) (ha : a < 6) (k : ∀ M', XPu M' (xch P a v) → Fi GP M M' → Q (some (.int (yck (P.1 a + v)))) M') : qC (d + 2) 158 [.ref 136, .int (nI a), .int v] M Q := by
  refine qC_of (by decide) (Nat.le_of_ble_eq_true rfl) ?_
  unfold xch at k
  refine q_aload_n d158_0 rfl ?_
  refine q_getr (c := 8) (f := 8) d158_1 ⟨rfl, rfl⟩ (xk_136 hX) (xf_balances hX) ?_
  refine q_iload_n d158_4 rfl ?_
  refine n_iald d158_5 (xk_balances hX) (by omega) (by decide) (hP.1 _ (by omega)) ?_
  refine q_iload_n d158_6 rfl ?_
  refine q_iadd d158_7 ?_
  refine q_s1 d158_8 (Or.inl rfl) rfl (Nat.le_of_ble_eq_true rfl) (c159 ?_)
  refine q_istore_n d158_11 (by decide) rfl ?_
  refine q_iload_n d158_12 rfl ?_
  refine i0_ne 26 d158_13 (by decide) (fun h13 => ?_) (fun h13 => ?_)
  · refine q_iload_n d158_26 rfl ?_
    refine q_iret d158_27 rfl ?_
    rw [if_neg h13] at k
    exact k _ hP (Fi.refl _ _)
  · refine q_aload_n d158_16 rfl ?_
    refine q_getr (c := 8) (f := 8) d158_17 ⟨rfl, rfl⟩ (xk_136 hX) (xf_balances hX) ?_
    refine q_iload_n d158_20 rfl ?_
    refine q_dup2 d158_21 rfl rfl ?_
    refine n_iald d158_22 (xk_balances hX) (by omega) (by decide) (hP.1 _ (by omega)) ?_
    refine q_iload_n d158_23 rfl ?_
    refine q_iadd d158_24 ?_
    refine n_iast d158_25 (xk_balances hX) (by omega) (by decide) ?_
    refine q_iload_n d158_26 rfl ?_
    refine q_iret d158_27 rfl ?_
    rw [if_pos h13] at k
    exact k _ (XPu_b hP) ((Fi.refl _ _).wi (Or.inl rfl))
def xmv (P : yP) (a b : Nat) (n : Int32) : Int32 × yP :=
  if yck (P.1 a - n) = 0 then (if yck (P.1 b + n) = 0 then (nI 0, (yu (yu P.1 a (P.1 a - n)) b ((yu P.1 a (P.1 a - n)) b + n), P.2)) else (yck (P.1 b + n), P)) else (yck (P.1 a - n), P)
theorem d160_0 : decode (zB 160) 0 = .ok (.aload_n 0, 1) := (congrArg (fun c => decode c 0) zeq160).trans (by decide +kernel)
theorem d160_1 : decode (zB 160) 1 = .ok (.getfield 33, 3) := (congrArg (fun c => decode c 1) zeq160).trans (by decide +kernel)
theorem d160_4 : decode (zB 160) 4 = .ok (.iload_n 1, 1) := (congrArg (fun c => decode c 4) zeq160).trans (by decide +kernel)
theorem d160_5 : decode (zB 160) 5 = .ok (.iaload, 1) := (congrArg (fun c => decode c 5) zeq160).trans (by decide +kernel)
theorem d160_6 : decode (zB 160) 6 = .ok (.iload_n 3, 1) := (congrArg (fun c => decode c 6) zeq160).trans (by decide +kernel)
theorem d160_7 : decode (zB 160) 7 = .ok (.isub, 1) := (congrArg (fun c => decode c 7) zeq160).trans (by decide +kernel)
theorem d160_8 : decode (zB 160) 8 = .ok (.invokestatic 267, 3) := (congrArg (fun c => decode c 8) zeq160).trans (by decide +kernel)
theorem d160_11 : decode (zB 160) 11 = .ok (.istore 4, 2) := (congrArg (fun c => decode c 11) zeq160).trans (by decide +kernel)
theorem d160_13 : decode (zB 160) 13 = .ok (.iload 4, 2) := (congrArg (fun c => decode c 13) zeq160).trans (by decide +kernel)
theorem d160_15 : decode (zB 160) 15 = .ok (.ifCond .ne 16, 3) := (congrArg (fun c => decode c 15) zeq160).trans (by decide +kernel)
theorem d160_18 : decode (zB 160) 18 = .ok (.aload_n 0, 1) := (congrArg (fun c => decode c 18) zeq160).trans (by decide +kernel)
theorem d160_19 : decode (zB 160) 19 = .ok (.getfield 33, 3) := (congrArg (fun c => decode c 19) zeq160).trans (by decide +kernel)
theorem d160_22 : decode (zB 160) 22 = .ok (.iload_n 2, 1) := (congrArg (fun c => decode c 22) zeq160).trans (by decide +kernel)
theorem d160_23 : decode (zB 160) 23 = .ok (.iaload, 1) := (congrArg (fun c => decode c 23) zeq160).trans (by decide +kernel)
theorem d160_24 : decode (zB 160) 24 = .ok (.iload_n 3, 1) := (congrArg (fun c => decode c 24) zeq160).trans (by decide +kernel)
theorem d160_25 : decode (zB 160) 25 = .ok (.iadd, 1) := (congrArg (fun c => decode c 25) zeq160).trans (by decide +kernel)
theorem d160_26 : decode (zB 160) 26 = .ok (.invokestatic 267, 3) := (congrArg (fun c => decode c 26) zeq160).trans (by decide +kernel)
theorem d160_29 : decode (zB 160) 29 = .ok (.istore 4, 2) := (congrArg (fun c => decode c 29) zeq160).trans (by decide +kernel)
theorem d160_31 : decode (zB 160) 31 = .ok (.iload 4, 2) := (congrArg (fun c => decode c 31) zeq160).trans (by decide +kernel)
theorem d160_33 : decode (zB 160) 33 = .ok (.ifCond .eq 6, 3) := (congrArg (fun c => decode c 33) zeq160).trans (by decide +kernel)
theorem d160_36 : decode (zB 160) 36 = .ok (.iload 4, 2) := (congrArg (fun c => decode c 36) zeq160).trans (by decide +kernel)
theorem d160_38 : decode (zB 160) 38 = .ok (.ireturn, 1) := (congrArg (fun c => decode c 38) zeq160).trans (by decide +kernel)
theorem d160_39 : decode (zB 160) 39 = .ok (.aload_n 0, 1) := (congrArg (fun c => decode c 39) zeq160).trans (by decide +kernel)
theorem d160_40 : decode (zB 160) 40 = .ok (.getfield 33, 3) := (congrArg (fun c => decode c 40) zeq160).trans (by decide +kernel)
theorem d160_43 : decode (zB 160) 43 = .ok (.iload_n 1, 1) := (congrArg (fun c => decode c 43) zeq160).trans (by decide +kernel)
theorem d160_44 : decode (zB 160) 44 = .ok (.dup2, 1) := (congrArg (fun c => decode c 44) zeq160).trans (by decide +kernel)
theorem d160_45 : decode (zB 160) 45 = .ok (.iaload, 1) := (congrArg (fun c => decode c 45) zeq160).trans (by decide +kernel)
theorem d160_46 : decode (zB 160) 46 = .ok (.iload_n 3, 1) := (congrArg (fun c => decode c 46) zeq160).trans (by decide +kernel)
theorem d160_47 : decode (zB 160) 47 = .ok (.isub, 1) := (congrArg (fun c => decode c 47) zeq160).trans (by decide +kernel)
theorem d160_48 : decode (zB 160) 48 = .ok (.iastore, 1) := (congrArg (fun c => decode c 48) zeq160).trans (by decide +kernel)
theorem d160_49 : decode (zB 160) 49 = .ok (.aload_n 0, 1) := (congrArg (fun c => decode c 49) zeq160).trans (by decide +kernel)
theorem d160_50 : decode (zB 160) 50 = .ok (.getfield 33, 3) := (congrArg (fun c => decode c 50) zeq160).trans (by decide +kernel)
theorem d160_53 : decode (zB 160) 53 = .ok (.iload_n 2, 1) := (congrArg (fun c => decode c 53) zeq160).trans (by decide +kernel)
theorem d160_54 : decode (zB 160) 54 = .ok (.dup2, 1) := (congrArg (fun c => decode c 54) zeq160).trans (by decide +kernel)
theorem d160_55 : decode (zB 160) 55 = .ok (.iaload, 1) := (congrArg (fun c => decode c 55) zeq160).trans (by decide +kernel)
theorem d160_56 : decode (zB 160) 56 = .ok (.iload_n 3, 1) := (congrArg (fun c => decode c 56) zeq160).trans (by decide +kernel)
theorem d160_57 : decode (zB 160) 57 = .ok (.iadd, 1) := (congrArg (fun c => decode c 57) zeq160).trans (by decide +kernel)
theorem d160_58 : decode (zB 160) 58 = .ok (.iastore, 1) := (congrArg (fun c => decode c 58) zeq160).trans (by decide +kernel)
theorem d160_59 : decode (zB 160) 59 = .ok (.iconst 0, 1) := (congrArg (fun c => decode c 59) zeq160).trans (by decide +kernel)
theorem d160_60 : decode (zB 160) 60 = .ok (.ireturn, 1) := (congrArg (fun c => decode c 60) zeq160).trans (by decide +kernel)
theorem c160 {d : Nat} {M : zM} {Q : Option Value → zM → Prop} {P : yP} {a b : Nat} {n : Int32} (hX : SX M) (hP : XPu M P) (ha : a < 6) (hb : b < 6) (k : ∀ M', XPu M' (xmv P a b n).2 → Fi GP M M' → Q (some (.int (xmv P a b n).1)) M') : qC (d + 2) 160 [.ref 136, .int (nI a), .int (nI b), .int n] M Q := by
  refine qC_of (by decide) (Nat.le_of_ble_eq_true rfl) ?_
  unfold xmv at k
  refine q_aload_n d160_0 rfl ?_
  refine q_getr (c := 8) (f := 8) d160_1 ⟨rfl, rfl⟩ (xk_136 hX) (xf_balances hX) ?_
  refine q_iload_n d160_4 rfl ?_
  refine n_iald d160_5 (xk_balances hX) (by omega) (by decide) (hP.1 _ (by omega)) ?_
  refine q_iload_n d160_6 rfl ?_
  refine q_isub d160_7 ?_
  refine q_s1 d160_8 (Or.inl rfl) rfl (Nat.le_of_ble_eq_true rfl) (c159 ?_)
  refine q_istore d160_11 (by decide) rfl ?_
  refine q_iload d160_13 rfl ?_
  refine i0_ne 31 d160_15 (by decide) (fun h15 => ?_) (fun h15 => ?_)
  · refine q_iload d160_31 rfl ?_
    refine i0_eq 39 d160_33 (by decide) (fun h33 => ?_) (fun h33 => ?_)
    · refine q_aload_n d160_39 rfl ?_
      refine q_getr (c := 8) (f := 8) d160_40 ⟨rfl, rfl⟩ (xk_136 hX) (xf_balances hX) ?_
      refine q_iload_n d160_43 rfl ?_
      refine q_dup2 d160_44 rfl rfl ?_
      refine n_iald d160_45 (xk_balances hX) (by omega) (by decide) (hP.1 _ (by omega)) ?_
      refine q_iload_n d160_46 rfl ?_
      refine q_isub d160_47 ?_
      refine n_iast d160_48 (xk_balances hX) (by omega) (by decide) ?_
      have hP2 := XPu_b (a := a) (v := P.1 a - n) hP
      refine q_aload_n d160_49 rfl ?_
      refine q_getr (c := 8) (f := 8) d160_50 ⟨rfl, rfl⟩ (xk_136 hX) (xf_balances hX) ?_
      refine q_iload_n d160_53 rfl ?_
      refine q_dup2 d160_54 rfl rfl ?_
      refine n_iald d160_55 (xk_balances hX) (by omega) (by decide) (hP2.1 _ (by omega)) ?_
      refine q_iload_n d160_56 rfl ?_
      refine q_iadd d160_57 ?_
      refine n_iast d160_58 (xk_balances hX) (by omega) (by decide) ?_
      refine q_iconstN (z := 0) d160_59 ?_
      refine q_iret d160_60 rfl ?_
      exact absurd h33 h15
    · refine q_iload d160_36 rfl ?_
      refine q_iret d160_38 rfl ?_
      rw [if_neg h15] at k
      exact k _ hP (Fi.refl _ _)
  · refine q_aload_n d160_18 rfl ?_
    refine q_getr (c := 8) (f := 8) d160_19 ⟨rfl, rfl⟩ (xk_136 hX) (xf_balances hX) ?_
    refine q_iload_n d160_22 rfl ?_
    refine n_iald d160_23 (xk_balances hX) (by omega) (by decide) (hP.1 _ (by omega)) ?_
    refine q_iload_n d160_24 rfl ?_
    refine q_iadd d160_25 ?_
    refine q_s1 d160_26 (Or.inl rfl) rfl (Nat.le_of_ble_eq_true rfl) (c159 ?_)
    refine q_istore d160_29 (by decide) rfl ?_
    refine q_iload d160_31 rfl ?_
    refine i0_eq 39 d160_33 (by decide) (fun h33 => ?_) (fun h33 => ?_)
    · refine q_aload_n d160_39 rfl ?_
      refine q_getr (c := 8) (f := 8) d160_40 ⟨rfl, rfl⟩ (xk_136 hX) (xf_balances hX) ?_
      refine q_iload_n d160_43 rfl ?_
      refine q_dup2 d160_44 rfl rfl ?_
      refine n_iald d160_45 (xk_balances hX) (by omega) (by decide) (hP.1 _ (by omega)) ?_
      refine q_iload_n d160_46 rfl ?_
      refine q_isub d160_47 ?_
      refine n_iast d160_48 (xk_balances hX) (by omega) (by decide) ?_
      have hP2 := XPu_b (a := a) (v := P.1 a - n) hP
      refine q_aload_n d160_49 rfl ?_
      refine q_getr (c := 8) (f := 8) d160_50 ⟨rfl, rfl⟩ (xk_136 hX) (xf_balances hX) ?_
      refine q_iload_n d160_53 rfl ?_
      refine q_dup2 d160_54 rfl rfl ?_
      refine n_iald d160_55 (xk_balances hX) (by omega) (by decide) (hP2.1 _ (by omega)) ?_
      refine q_iload_n d160_56 rfl ?_
      refine q_iadd d160_57 ?_
      refine n_iast d160_58 (xk_balances hX) (by omega) (by decide) ?_
      refine q_iconstN (z := 0) d160_59 ?_
      refine q_iret d160_60 rfl ?_
      rw [if_pos h15, if_pos h33] at k
      exact k _ (XPu_b hP2) (((Fi.refl _ _).wi (Or.inl rfl)).wi (Or.inl rfl))
    · refine q_iload d160_36 rfl ?_
      refine q_iret d160_38 rfl ?_
      rw [if_pos h15, if_neg h33] at k
      exact k _ hP (Fi.refl _ _)
theorem d161_0 : decode (zB 161) 0 = .ok (.aload_n 0, 1) := (congrArg (fun c => decode c 0) zeq161).trans (by decide +kernel)
theorem d161_1 : decode (zB 161) 1 = .ok (.getfield 33, 3) := (congrArg (fun c => decode c 1) zeq161).trans (by decide +kernel)
theorem d161_4 : decode (zB 161) 4 = .ok (.iload_n 1, 1) := (congrArg (fun c => decode c 4) zeq161).trans (by decide +kernel)
theorem d161_5 : decode (zB 161) 5 = .ok (.iaload, 1) := (congrArg (fun c => decode c 5) zeq161).trans (by decide +kernel)
theorem d161_6 : decode (zB 161) 6 = .ok (.istore_n 3, 1) := (congrArg (fun c => decode c 6) zeq161).trans (by decide +kernel)
theorem d161_7 : decode (zB 161) 7 = .ok (.aload_n 0, 1) := (congrArg (fun c => decode c 7) zeq161).trans (by decide +kernel)
theorem d161_8 : decode (zB 161) 8 = .ok (.getfield 33, 3) := (congrArg (fun c => decode c 8) zeq161).trans (by decide +kernel)
theorem d161_11 : decode (zB 161) 11 = .ok (.iload_n 1, 1) := (congrArg (fun c => decode c 11) zeq161).trans (by decide +kernel)
theorem d161_12 : decode (zB 161) 12 = .ok (.aload_n 0, 1) := (congrArg (fun c => decode c 12) zeq161).trans (by decide +kernel)
theorem d161_13 : decode (zB 161) 13 = .ok (.getfield 33, 3) := (congrArg (fun c => decode c 13) zeq161).trans (by decide +kernel)
theorem d161_16 : decode (zB 161) 16 = .ok (.iload_n 2, 1) := (congrArg (fun c => decode c 16) zeq161).trans (by decide +kernel)
theorem d161_17 : decode (zB 161) 17 = .ok (.iaload, 1) := (congrArg (fun c => decode c 17) zeq161).trans (by decide +kernel)
theorem d161_18 : decode (zB 161) 18 = .ok (.iastore, 1) := (congrArg (fun c => decode c 18) zeq161).trans (by decide +kernel)
theorem d161_19 : decode (zB 161) 19 = .ok (.aload_n 0, 1) := (congrArg (fun c => decode c 19) zeq161).trans (by decide +kernel)
theorem d161_20 : decode (zB 161) 20 = .ok (.getfield 33, 3) := (congrArg (fun c => decode c 20) zeq161).trans (by decide +kernel)
theorem d161_23 : decode (zB 161) 23 = .ok (.iload_n 2, 1) := (congrArg (fun c => decode c 23) zeq161).trans (by decide +kernel)
theorem d161_24 : decode (zB 161) 24 = .ok (.iload_n 3, 1) := (congrArg (fun c => decode c 24) zeq161).trans (by decide +kernel)
theorem d161_25 : decode (zB 161) 25 = .ok (.iastore, 1) := (congrArg (fun c => decode c 25) zeq161).trans (by decide +kernel)
theorem d161_26 : decode (zB 161) 26 = .ok (.iconst 0, 1) := (congrArg (fun c => decode c 26) zeq161).trans (by decide +kernel)
theorem d161_27 : decode (zB 161) 27 = .ok (.ireturn, 1) := (congrArg (fun c => decode c 27) zeq161).trans (by decide +kernel)
theorem yex_a {P : yP} {a b : Nat} (ha : a < 6) (hb : b < 6) : yex P (nI a) (nI b) = (yu (yu P.1 a (P.1 b)) b (P.1 a), P.2) := by
  unfold yex; rw [zix_in ha (by omega), zix_in hb (by omega)]
theorem c161 {d : Nat} {M : zM} {Q : Option Value → zM → Prop} {P : yP} {a b : Nat} (hX : SX M) (hP : XPu M P) (ha : a < 6) (hb : b < 6) (k : ∀ M', XPu M' (yex P (nI a) (nI b)) → Fi GP M M' → Q (some (.int (nI 0))) M') : qC (d + 1) 161 [.ref 136, .int (nI a), .int (nI b)] M Q := by
  refine qC_of (by decide) (Nat.le_of_ble_eq_true rfl) ?_
  rw [yex_a ha hb] at k
  refine q_aload_n d161_0 rfl ?_
  refine q_getr (c := 8) (f := 8) d161_1 ⟨rfl, rfl⟩ (xk_136 hX) (xf_balances hX) ?_
  refine q_iload_n d161_4 rfl ?_
  refine n_iald d161_5 (xk_balances hX) (by omega) (by decide) (hP.1 _ (by omega)) ?_
  refine q_istore_n d161_6 (by decide) rfl ?_
  refine q_aload_n d161_7 rfl ?_
  refine q_getr (c := 8) (f := 8) d161_8 ⟨rfl, rfl⟩ (xk_136 hX) (xf_balances hX) ?_
  refine q_iload_n d161_11 rfl ?_
  refine q_aload_n d161_12 rfl ?_
  refine q_getr (c := 8) (f := 8) d161_13 ⟨rfl, rfl⟩ (xk_136 hX) (xf_balances hX) ?_
  refine q_iload_n d161_16 rfl ?_
  refine n_iald d161_17 (xk_balances hX) (by omega) (by decide) (hP.1 _ (by omega)) ?_
  refine n_iast d161_18 (xk_balances hX) (by omega) (by decide) ?_
  refine q_aload_n d161_19 rfl ?_
  refine q_getr (c := 8) (f := 8) d161_20 ⟨rfl, rfl⟩ (xk_136 hX) (xf_balances hX) ?_
  refine q_iload_n d161_23 rfl ?_
  refine q_iload_n d161_24 rfl ?_
  refine n_iast d161_25 (xk_balances hX) (by omega) (by decide) ?_
  refine q_iconstN (z := 0) d161_26 ?_
  refine q_iret d161_27 rfl ?_
  exact k _ (XPu_b (XPu_b hP)) (((Fi.refl _ _).wi (Or.inl rfl)).wi (Or.inl rfl))
theorem i1m (x : Int32) : (1 : Int32) * x = x := Int32.one_mul x
theorem im1 (x : Int32) : (-1 : Int32) * x = -x := by rw [Int32.neg_mul, Int32.one_mul]
/-- what doing (undoing) a step answers and leaves -/
def xdo (T : yT) (P : yP) (i : Nat) (n w : Int32) : yP := if yob T P i n w = 0 then ych T P i n w else P
theorem xyo_1 {T : yT} {P : yP} {i a : Nat} {n w : Int32} (hf : tf T i = nI a) (ha : a < 6) (hs : ts T i = -1) : yob T P i n w = yck (P.1 a + w * yf1 (tk T i) n) := by
  unfold yob
  rw [hf, hs, ybe_a ha, ybe_n]
  by_cases h : yck (P.1 a + w * yf1 (tk T i) n) = 0
  · rw [if_neg (fun q => q h), h]
  · rw [if_pos h]
theorem xdo_1 {T : yT} {P : yP} {i a : Nat} {n w v : Int32} (hk : tk T i = 0 ∨ tk T i = 1) (hf : tf T i = nI a) (ha : a < 6) (hs : ts T i = -1) (hv : w * yf1 (tk T i) n = v) : yob T P i n w = yck (P.1 a + v) ∧ xdo T P i n w = xch P a v := by
  have e := xyo_1 (P := P) (n := n) (w := w) hf ha hs
  rw [hv] at e
  refine ⟨e, ?_⟩
  unfold xdo xch
  rw [e]
  have e2 : ych T P i n w = (yu P.1 a (P.1 a + v), P.2) := by
    unfold ych
    simp only [hf, hs, ypu_a ha, ypu_n, hv]
    rw [if_neg (by omega), if_neg (by omega), if_neg (by omega)]
  rw [e2]
theorem xdo_3 {T : yT} {P : yP} {i a : Nat} {n w v : Int32} (hk : tk T i = 3) (hf : tf T i = nI a) (ha : a < 6) (hs : ts T i = -1) (hv : w * yf1 (tk T i) n = v) : yob T P i n w = yck (P.1 a + v) ∧ xdo T P i n w = (if yck (P.1 a + v) = 0 then (yu P.1 a (P.1 a + v), P.2.1 + w * n, P.2.2) else P) := by
  have e := xyo_1 (P := P) (n := n) (w := w) hf ha hs
  rw [hv] at e
  refine ⟨e, ?_⟩
  unfold xdo
  rw [e]
  have e2 : ych T P i n w = (yu P.1 a (P.1 a + v), P.2.1 + w * n, P.2.2) := by
    unfold ych
    simp only [hf, hs, ypu_a ha, ypu_n, hv]
    rw [if_pos hk]
  rw [e2]
theorem xdo_2 {T : yT} {P : yP} {i a b : Nat} {n w m : Int32} (hk : tk T i = 2) (hf : tf T i = nI a) (ha : a < 6) (hs : ts T i = nI b) (hb : b < 6) (hv : w * yf1 (tk T i) n = -m) (hv2 : w * yf2 (tk T i) n = m) : yob T P i n w = (xmv P a b m).1 ∧ xdo T P i n w = (xmv P a b m).2 := by
  have e : yob T P i n w = if yck (P.1 a - m) ≠ 0 then yck (P.1 a - m) else yck (P.1 b + m) := by
    unfold yob
    rw [hf, hs, ybe_a ha, ybe_a hb, hv, hv2, ← Int32.sub_eq_add_neg]
  have e2 : ych T P i n w = (yu (yu P.1 a (P.1 a - m)) b ((yu P.1 a (P.1 a - m)) b + m), P.2) := by
    unfold ych
    simp only [hf, hs, ypu_a ha, ypu_a hb, hv, hv2, ← Int32.sub_eq_add_neg]
    rw [if_neg (by omega), if_neg (by omega), if_neg (by omega)]
  unfold xdo
  rw [e, e2]
  unfold xmv
  by_cases h1 : yck (P.1 a - m) = 0
  · rw [if_neg (fun q => q h1), if_pos h1]
    by_cases h2 : yck (P.1 b + m) = 0
    · rw [if_pos h2, if_pos h2]; exact ⟨h2, rfl⟩
    · rw [if_neg h2, if_neg h2]; exact ⟨rfl, rfl⟩
  · rw [if_pos h1, if_neg h1, if_neg h1]; exact ⟨rfl, rfl⟩
theorem xdo_4 {T : yT} {P : yP} {i a b : Nat} {n w : Int32} (hk : tk T i = 4) (hf : tf T i = nI a) (ha : a < 6) (hs : ts T i = nI b) (hb : b < 6) (hP : OKP P) : yob T P i n w = 0 ∧ xdo T P i n w = yex P (nI a) (nI b) := by
  have z1 : w * yf1 (tk T i) n = 0 := by rw [hk]; exact Int32.mul_zero
  have z2 : w * yf2 (tk T i) n = 0 := by rw [hk]; exact Int32.mul_zero
  have e : yob T P i n w = 0 := by
    unfold yob
    rw [hf, hs, ybe_a ha, ybe_a hb, z1, z2, Int32.add_zero, Int32.add_zero, yck_i (hP a ha), yck_i (hP b hb)]
    rfl
  refine ⟨e, ?_⟩
  unfold xdo
  rw [if_pos e]
  unfold ych
  simp only [hf, hs, ypu_a ha, ypu_a hb, z1, z2, Int32.add_zero]
  rw [if_neg (by omega), if_pos hk]
  have u1 : ∀ f : Nat → Int32, ∀ q, yu f q (f q) = f := fun f q => by
    funext j
    by_cases e : j = q
    · subst e; rw [yu_s]
    · rw [yu_n e]
  rw [u1, u1]
theorem xdo_5 {T : yT} {P : yP} {i : Nat} {n w : Int32} (hk : tk T i = 5) (hf : tf T i = -1) (hs : ts T i = -1) : yob T P i n w = 0 ∧ xdo T P i n w = (if w = 1 then (P.1, P.2.1, P.2.2 + 1) else P) := by
  have e : yob T P i n w = 0 := by
    unfold yob
    rw [hf, hs, ybe_n, ybe_n]
    rfl
  refine ⟨e, ?_⟩
  unfold xdo
  rw [if_pos e]
  unfold ych
  simp only [hf, hs, ypu_n]
  rw [if_neg (by omega), if_neg (by omega)]
  by_cases h : w = 1
  · rw [if_pos ⟨hk, h⟩, if_pos h]
  · rw [if_neg (fun q => h q.2), if_neg h]
theorem d157_0 : decode (zB 157) 0 = .ok (.aload_n 0, 1) := (congrArg (fun c => decode c 0) zeq157).trans (by decide +kernel)
theorem d157_1 : decode (zB 157) 1 = .ok (.getfield 21, 3) := (congrArg (fun c => decode c 1) zeq157).trans (by decide +kernel)
theorem d157_4 : decode (zB 157) 4 = .ok (.iload_n 1, 1) := (congrArg (fun c => decode c 4) zeq157).trans (by decide +kernel)
theorem d157_5 : decode (zB 157) 5 = .ok (.aaload, 1) := (congrArg (fun c => decode c 5) zeq157).trans (by decide +kernel)
theorem d157_6 : decode (zB 157) 6 = .ok (.iload_n 2, 1) := (congrArg (fun c => decode c 6) zeq157).trans (by decide +kernel)
theorem d157_7 : decode (zB 157) 7 = .ok (.iaload, 1) := (congrArg (fun c => decode c 7) zeq157).trans (by decide +kernel)
theorem d157_8 : decode (zB 157) 8 = .ok (.istore 4, 2) := (congrArg (fun c => decode c 8) zeq157).trans (by decide +kernel)
theorem d157_10 : decode (zB 157) 10 = .ok (.aload_n 0, 1) := (congrArg (fun c => decode c 10) zeq157).trans (by decide +kernel)
theorem d157_11 : decode (zB 157) 11 = .ok (.getfield 18, 3) := (congrArg (fun c => decode c 11) zeq157).trans (by decide +kernel)
theorem d157_14 : decode (zB 157) 14 = .ok (.iload_n 1, 1) := (congrArg (fun c => decode c 14) zeq157).trans (by decide +kernel)
theorem d157_15 : decode (zB 157) 15 = .ok (.aaload, 1) := (congrArg (fun c => decode c 15) zeq157).trans (by decide +kernel)
theorem d157_16 : decode (zB 157) 16 = .ok (.iload_n 2, 1) := (congrArg (fun c => decode c 16) zeq157).trans (by decide +kernel)
theorem d157_17 : decode (zB 157) 17 = .ok (.iaload, 1) := (congrArg (fun c => decode c 17) zeq157).trans (by decide +kernel)
theorem d157_18 : decode (zB 157) 18 = .ok (.tableswitch 110 0 4 #[34, 42, 51, 67, 95], 34) := (congrArg (fun c => decode c 18) zeq157).trans (by decide +kernel)
theorem d157_52 : decode (zB 157) 52 = .ok (.aload_n 0, 1) := (congrArg (fun c => decode c 52) zeq157).trans (by decide +kernel)
theorem d157_53 : decode (zB 157) 53 = .ok (.iload 4, 2) := (congrArg (fun c => decode c 53) zeq157).trans (by decide +kernel)
theorem d157_55 : decode (zB 157) 55 = .ok (.iload_n 3, 1) := (congrArg (fun c => decode c 55) zeq157).trans (by decide +kernel)
theorem d157_56 : decode (zB 157) 56 = .ok (.invokevirtual 270, 3) := (congrArg (fun c => decode c 56) zeq157).trans (by decide +kernel)
theorem d157_59 : decode (zB 157) 59 = .ok (.ireturn, 1) := (congrArg (fun c => decode c 59) zeq157).trans (by decide +kernel)
theorem d157_60 : decode (zB 157) 60 = .ok (.aload_n 0, 1) := (congrArg (fun c => decode c 60) zeq157).trans (by decide +kernel)
theorem d157_61 : decode (zB 157) 61 = .ok (.iload 4, 2) := (congrArg (fun c => decode c 61) zeq157).trans (by decide +kernel)
theorem d157_63 : decode (zB 157) 63 = .ok (.iload_n 3, 1) := (congrArg (fun c => decode c 63) zeq157).trans (by decide +kernel)
theorem d157_64 : decode (zB 157) 64 = .ok (.ineg, 1) := (congrArg (fun c => decode c 64) zeq157).trans (by decide +kernel)
theorem d157_65 : decode (zB 157) 65 = .ok (.invokevirtual 270, 3) := (congrArg (fun c => decode c 65) zeq157).trans (by decide +kernel)
theorem d157_68 : decode (zB 157) 68 = .ok (.ireturn, 1) := (congrArg (fun c => decode c 68) zeq157).trans (by decide +kernel)
theorem d157_69 : decode (zB 157) 69 = .ok (.aload_n 0, 1) := (congrArg (fun c => decode c 69) zeq157).trans (by decide +kernel)
theorem d157_70 : decode (zB 157) 70 = .ok (.iload 4, 2) := (congrArg (fun c => decode c 70) zeq157).trans (by decide +kernel)
theorem d157_72 : decode (zB 157) 72 = .ok (.aload_n 0, 1) := (congrArg (fun c => decode c 72) zeq157).trans (by decide +kernel)
theorem d157_73 : decode (zB 157) 73 = .ok (.getfield 24, 3) := (congrArg (fun c => decode c 73) zeq157).trans (by decide +kernel)
theorem d157_76 : decode (zB 157) 76 = .ok (.iload_n 1, 1) := (congrArg (fun c => decode c 76) zeq157).trans (by decide +kernel)
theorem d157_77 : decode (zB 157) 77 = .ok (.aaload, 1) := (congrArg (fun c => decode c 77) zeq157).trans (by decide +kernel)
theorem d157_78 : decode (zB 157) 78 = .ok (.iload_n 2, 1) := (congrArg (fun c => decode c 78) zeq157).trans (by decide +kernel)
theorem d157_79 : decode (zB 157) 79 = .ok (.iaload, 1) := (congrArg (fun c => decode c 79) zeq157).trans (by decide +kernel)
theorem d157_80 : decode (zB 157) 80 = .ok (.iload_n 3, 1) := (congrArg (fun c => decode c 80) zeq157).trans (by decide +kernel)
theorem d157_81 : decode (zB 157) 81 = .ok (.invokevirtual 273, 3) := (congrArg (fun c => decode c 81) zeq157).trans (by decide +kernel)
theorem d157_84 : decode (zB 157) 84 = .ok (.ireturn, 1) := (congrArg (fun c => decode c 84) zeq157).trans (by decide +kernel)
theorem d157_85 : decode (zB 157) 85 = .ok (.aload_n 0, 1) := (congrArg (fun c => decode c 85) zeq157).trans (by decide +kernel)
theorem d157_86 : decode (zB 157) 86 = .ok (.iload 4, 2) := (congrArg (fun c => decode c 86) zeq157).trans (by decide +kernel)
theorem d157_88 : decode (zB 157) 88 = .ok (.iload_n 3, 1) := (congrArg (fun c => decode c 88) zeq157).trans (by decide +kernel)
theorem d157_89 : decode (zB 157) 89 = .ok (.ineg, 1) := (congrArg (fun c => decode c 89) zeq157).trans (by decide +kernel)
theorem d157_90 : decode (zB 157) 90 = .ok (.invokevirtual 270, 3) := (congrArg (fun c => decode c 90) zeq157).trans (by decide +kernel)
theorem d157_93 : decode (zB 157) 93 = .ok (.istore 5, 2) := (congrArg (fun c => decode c 93) zeq157).trans (by decide +kernel)
theorem d157_95 : decode (zB 157) 95 = .ok (.iload 5, 2) := (congrArg (fun c => decode c 95) zeq157).trans (by decide +kernel)
theorem d157_97 : decode (zB 157) 97 = .ok (.ifCond .ne 13, 3) := (congrArg (fun c => decode c 97) zeq157).trans (by decide +kernel)
theorem d157_100 : decode (zB 157) 100 = .ok (.aload_n 0, 1) := (congrArg (fun c => decode c 100) zeq157).trans (by decide +kernel)
theorem d157_101 : decode (zB 157) 101 = .ok (.dup, 1) := (congrArg (fun c => decode c 101) zeq157).trans (by decide +kernel)
theorem d157_102 : decode (zB 157) 102 = .ok (.getfield 276, 3) := (congrArg (fun c => decode c 102) zeq157).trans (by decide +kernel)
theorem d157_105 : decode (zB 157) 105 = .ok (.iload_n 3, 1) := (congrArg (fun c => decode c 105) zeq157).trans (by decide +kernel)
theorem d157_106 : decode (zB 157) 106 = .ok (.iadd, 1) := (congrArg (fun c => decode c 106) zeq157).trans (by decide +kernel)
theorem d157_107 : decode (zB 157) 107 = .ok (.putfield 276, 3) := (congrArg (fun c => decode c 107) zeq157).trans (by decide +kernel)
theorem d157_110 : decode (zB 157) 110 = .ok (.iload 5, 2) := (congrArg (fun c => decode c 110) zeq157).trans (by decide +kernel)
theorem d157_112 : decode (zB 157) 112 = .ok (.ireturn, 1) := (congrArg (fun c => decode c 112) zeq157).trans (by decide +kernel)
theorem d157_113 : decode (zB 157) 113 = .ok (.aload_n 0, 1) := (congrArg (fun c => decode c 113) zeq157).trans (by decide +kernel)
theorem d157_114 : decode (zB 157) 114 = .ok (.iload 4, 2) := (congrArg (fun c => decode c 114) zeq157).trans (by decide +kernel)
theorem d157_116 : decode (zB 157) 116 = .ok (.aload_n 0, 1) := (congrArg (fun c => decode c 116) zeq157).trans (by decide +kernel)
theorem d157_117 : decode (zB 157) 117 = .ok (.getfield 24, 3) := (congrArg (fun c => decode c 117) zeq157).trans (by decide +kernel)
theorem d157_120 : decode (zB 157) 120 = .ok (.iload_n 1, 1) := (congrArg (fun c => decode c 120) zeq157).trans (by decide +kernel)
theorem d157_121 : decode (zB 157) 121 = .ok (.aaload, 1) := (congrArg (fun c => decode c 121) zeq157).trans (by decide +kernel)
theorem d157_122 : decode (zB 157) 122 = .ok (.iload_n 2, 1) := (congrArg (fun c => decode c 122) zeq157).trans (by decide +kernel)
theorem d157_123 : decode (zB 157) 123 = .ok (.iaload, 1) := (congrArg (fun c => decode c 123) zeq157).trans (by decide +kernel)
theorem d157_124 : decode (zB 157) 124 = .ok (.invokevirtual 279, 3) := (congrArg (fun c => decode c 124) zeq157).trans (by decide +kernel)
theorem d157_127 : decode (zB 157) 127 = .ok (.ireturn, 1) := (congrArg (fun c => decode c 127) zeq157).trans (by decide +kernel)
theorem d157_128 : decode (zB 157) 128 = .ok (.aload_n 0, 1) := (congrArg (fun c => decode c 128) zeq157).trans (by decide +kernel)
theorem d157_129 : decode (zB 157) 129 = .ok (.dup, 1) := (congrArg (fun c => decode c 129) zeq157).trans (by decide +kernel)
theorem d157_130 : decode (zB 157) 130 = .ok (.getfield 282, 3) := (congrArg (fun c => decode c 130) zeq157).trans (by decide +kernel)
theorem d157_133 : decode (zB 157) 133 = .ok (.iconst 1, 1) := (congrArg (fun c => decode c 133) zeq157).trans (by decide +kernel)
theorem d157_134 : decode (zB 157) 134 = .ok (.iadd, 1) := (congrArg (fun c => decode c 134) zeq157).trans (by decide +kernel)
theorem d157_135 : decode (zB 157) 135 = .ok (.putfield 282, 3) := (congrArg (fun c => decode c 135) zeq157).trans (by decide +kernel)
theorem d157_138 : decode (zB 157) 138 = .ok (.iconst 0, 1) := (congrArg (fun c => decode c 138) zeq157).trans (by decide +kernel)
theorem d157_139 : decode (zB 157) 139 = .ok (.ireturn, 1) := (congrArg (fun c => decode c 139) zeq157).trans (by decide +kernel)
theorem c157 {d : Nat} {M : zM} {Q : Option Value → zM → Prop} {T : yT} {P : yP} {t i : Nat} {n : Int32} (hX : SX M) (hP : XPu M P) (hT : XT1 M t T) (hTo : OKT T) (hOP : OKP P) (ht : t < 6) (hi : i < tn T) (k : ∀ M', XPu M' (xdo T P i n 1) → Fi GP M M' → Q (some (.int (yob T P i n 1))) M') : qC (d + 3) 157 [.ref 136, .int (nI t), .int (nI i), .int n] M Q := by
  refine qC_of (by decide) (Nat.le_of_ble_eq_true rfl) ?_
  have ho := hTo.2.2.2 _ hi
  have hk6 := hTo.k hi
  have hn := hTo.n
  rcases (show tk T i = 0 ∨ tk T i = 1 ∨ tk T i = 2 ∨ tk T i = 3 ∨ tk T i = 4 ∨ tk T i = 5 by omega) with hk | hk | hk | hk | hk | hk
  · obtain ⟨a, ha, hf⟩ := ho.2.2.2.1 (by omega)
    have hs := ho.2.2.2.2.2.1 (by omega) (by omega)
    obtain ⟨e1, e2⟩ := xdo_1 (P := P) (n := n) (w := 1) (v := n) (Or.inl hk) hf ha hs (by rw [hk]; show 1 * n = n; rw [i1m])
    rw [e1, e2] at k
    refine q_aload_n d157_0 rfl ?_
    refine q_getr (c := 8) (f := 4) d157_1 ⟨rfl, rfl⟩ (xk_136 hX) (xf_firsts hX) ?_
    refine q_iload_n d157_4 rfl ?_
    refine n_aald d157_5 (xk_firsts hX) (by decide) (by omega) (by decide) (xr_firsts hX (by omega)) ?_
    refine q_iload_n d157_6 rfl ?_
    refine n_iald d157_7 (xa_firsts hX (by omega)) (by omega) (by decide) (((hT.2.2 _ hi).2.1).trans hf) ?_
    refine q_istore d157_8 (by decide) rfl ?_
    refine q_aload_n d157_10 rfl ?_
    refine q_getr (c := 8) (f := 3) d157_11 ⟨rfl, rfl⟩ (xk_136 hX) (xf_kinds hX) ?_
    refine q_iload_n d157_14 rfl ?_
    refine n_aald d157_15 (xk_kinds hX) (by decide) (by omega) (by decide) (xr_kinds hX (by omega)) ?_
    refine q_iload_n d157_16 rfl ?_
    refine n_iald d157_17 (xa_kinds hX (by omega)) (by omega) (by decide) (((hT.2.2 _ hi).1).trans (congrArg nI hk)) ?_
    refine n_tsI (34) 52 d157_18 (by decide) (by decide) rfl (by decide) ?_
    refine q_aload_n d157_52 rfl ?_
    refine q_iload d157_53 rfl ?_
    refine q_iload_n d157_55 rfl ?_
    refine q_v2 d157_56 rfl rfl (xk_136 hX) (Nat.le_of_ble_eq_true rfl) (c158 hX hP ha (fun M1 hP1 f1 => ?_))
    refine q_iret d157_59 rfl ?_
    exact k _ hP1 f1
  · obtain ⟨a, ha, hf⟩ := ho.2.2.2.1 (by omega)
    have hs := ho.2.2.2.2.2.1 (by omega) (by omega)
    obtain ⟨e1, e2⟩ := xdo_1 (P := P) (n := n) (w := 1) (v := (-n)) (Or.inr hk) hf ha hs (by rw [hk]; show 1 * (-n) = (-n); rw [i1m])
    rw [e1, e2] at k
    refine q_aload_n d157_0 rfl ?_
    refine q_getr (c := 8) (f := 4) d157_1 ⟨rfl, rfl⟩ (xk_136 hX) (xf_firsts hX) ?_
    refine q_iload_n d157_4 rfl ?_
    refine n_aald d157_5 (xk_firsts hX) (by decide) (by omega) (by decide) (xr_firsts hX (by omega)) ?_
    refine q_iload_n d157_6 rfl ?_
    refine n_iald d157_7 (xa_firsts hX (by omega)) (by omega) (by decide) (((hT.2.2 _ hi).2.1).trans hf) ?_
    refine q_istore d157_8 (by decide) rfl ?_
    refine q_aload_n d157_10 rfl ?_
    refine q_getr (c := 8) (f := 3) d157_11 ⟨rfl, rfl⟩ (xk_136 hX) (xf_kinds hX) ?_
    refine q_iload_n d157_14 rfl ?_
    refine n_aald d157_15 (xk_kinds hX) (by decide) (by omega) (by decide) (xr_kinds hX (by omega)) ?_
    refine q_iload_n d157_16 rfl ?_
    refine n_iald d157_17 (xa_kinds hX (by omega)) (by omega) (by decide) (((hT.2.2 _ hi).1).trans (congrArg nI hk)) ?_
    refine n_tsI (42) 60 d157_18 (by decide) (by decide) rfl (by decide) ?_
    refine q_aload_n d157_60 rfl ?_
    refine q_iload d157_61 rfl ?_
    refine q_iload_n d157_63 rfl ?_
    refine q_ineg d157_64 ?_
    refine q_v2 d157_65 rfl rfl (xk_136 hX) (Nat.le_of_ble_eq_true rfl) (c158 hX hP ha (fun M1 hP1 f1 => ?_))
    refine q_iret d157_68 rfl ?_
    exact k _ hP1 f1
  · obtain ⟨a, ha, hf⟩ := ho.2.2.2.1 (by omega)
    obtain ⟨b, hb, hs⟩ := ho.2.2.2.2.1 (by omega)
    obtain ⟨e1, e2⟩ := xdo_2 (P := P) (n := n) (w := 1) (m := n) hk hf ha hs hb (by rw [hk]; show 1 * (-n) = -n; rw [i1m]) (by rw [hk]; show 1 * n = n; rw [i1m])
    rw [e1, e2] at k
    refine q_aload_n d157_0 rfl ?_
    refine q_getr (c := 8) (f := 4) d157_1 ⟨rfl, rfl⟩ (xk_136 hX) (xf_firsts hX) ?_
    refine q_iload_n d157_4 rfl ?_
    refine n_aald d157_5 (xk_firsts hX) (by decide) (by omega) (by decide) (xr_firsts hX (by omega)) ?_
    refine q_iload_n d157_6 rfl ?_
    refine n_iald d157_7 (xa_firsts hX (by omega)) (by omega) (by decide) (((hT.2.2 _ hi).2.1).trans hf) ?_
    refine q_istore d157_8 (by decide) rfl ?_
    refine q_aload_n d157_10 rfl ?_
    refine q_getr (c := 8) (f := 3) d157_11 ⟨rfl, rfl⟩ (xk_136 hX) (xf_kinds hX) ?_
    refine q_iload_n d157_14 rfl ?_
    refine n_aald d157_15 (xk_kinds hX) (by decide) (by omega) (by decide) (xr_kinds hX (by omega)) ?_
    refine q_iload_n d157_16 rfl ?_
    refine n_iald d157_17 (xa_kinds hX (by omega)) (by omega) (by decide) (((hT.2.2 _ hi).1).trans (congrArg nI hk)) ?_
    refine n_tsI (51) 69 d157_18 (by decide) (by decide) rfl (by decide) ?_
    refine q_aload_n d157_69 rfl ?_
    refine q_iload d157_70 rfl ?_
    refine q_aload_n d157_72 rfl ?_
    refine q_getr (c := 8) (f := 5) d157_73 ⟨rfl, rfl⟩ (xk_136 hX) (xf_seconds hX) ?_
    refine q_iload_n d157_76 rfl ?_
    refine n_aald d157_77 (xk_seconds hX) (by decide) (by omega) (by decide) (xr_seconds hX (by omega)) ?_
    refine q_iload_n d157_78 rfl ?_
    refine n_iald d157_79 (xa_seconds hX (by omega)) (by omega) (by decide) (((hT.2.2 _ hi).2.2.1).trans hs) ?_
    refine q_iload_n d157_80 rfl ?_
    refine q_v3 d157_81 rfl rfl (xk_136 hX) (Nat.le_of_ble_eq_true rfl) (c160 hX hP ha hb (fun M1 hP1 f1 => ?_))
    refine q_iret d157_84 rfl ?_
    exact k _ hP1 f1
  · obtain ⟨a, ha, hf⟩ := ho.2.2.2.1 (by omega)
    have hs := ho.2.2.2.2.2.1 (by omega) (by omega)
    obtain ⟨e1, e2⟩ := xdo_3 (P := P) (n := n) (w := 1) (v := (-n)) hk hf ha hs (by rw [hk]; show 1 * (-n) = (-n); rw [i1m])
    rw [e1, e2] at k
    refine q_aload_n d157_0 rfl ?_
    refine q_getr (c := 8) (f := 4) d157_1 ⟨rfl, rfl⟩ (xk_136 hX) (xf_firsts hX) ?_
    refine q_iload_n d157_4 rfl ?_
    refine n_aald d157_5 (xk_firsts hX) (by decide) (by omega) (by decide) (xr_firsts hX (by omega)) ?_
    refine q_iload_n d157_6 rfl ?_
    refine n_iald d157_7 (xa_firsts hX (by omega)) (by omega) (by decide) (((hT.2.2 _ hi).2.1).trans hf) ?_
    refine q_istore d157_8 (by decide) rfl ?_
    refine q_aload_n d157_10 rfl ?_
    refine q_getr (c := 8) (f := 3) d157_11 ⟨rfl, rfl⟩ (xk_136 hX) (xf_kinds hX) ?_
    refine q_iload_n d157_14 rfl ?_
    refine n_aald d157_15 (xk_kinds hX) (by decide) (by omega) (by decide) (xr_kinds hX (by omega)) ?_
    refine q_iload_n d157_16 rfl ?_
    refine n_iald d157_17 (xa_kinds hX (by omega)) (by omega) (by decide) (((hT.2.2 _ hi).1).trans (congrArg nI hk)) ?_
    refine n_tsI (67) 85 d157_18 (by decide) (by decide) rfl (by decide) ?_
    refine q_aload_n d157_85 rfl ?_
    refine q_iload d157_86 rfl ?_
    refine q_iload_n d157_88 rfl ?_
    refine q_ineg d157_89 ?_
    refine q_v2 d157_90 rfl rfl (xk_136 hX) (Nat.le_of_ble_eq_true rfl) (c158 hX hP ha (fun M1 hP1 f1 => ?_))
    have hX1 := SX_fi hX f1
    refine q_istore d157_93 (by decide) rfl ?_
    refine q_iload d157_95 rfl ?_
    refine i0_ne 110 d157_97 (by decide) (fun h97 => ?_) (fun h97 => ?_)
    · refine q_iload d157_110 rfl ?_
      refine q_iret d157_112 rfl ?_
      have e3 : xch P a (-n) = P := if_neg h97
      rw [e3] at hP1
      rw [if_neg h97] at k
      exact k _ hP1 f1
    · refine q_aload_n d157_100 rfl ?_
      refine q_dup d157_101 rfl ?_
      refine q_getv (c := 8) (f := 9) d157_102 ⟨rfl, by decide⟩ (xk_136 hX1) hP1.2.1 ?_
      refine q_iload_n d157_105 rfl ?_
      refine q_iadd d157_106 ?_
      refine q_puti (c := 8) (f := 9) d157_107 ⟨rfl, rfl, by decide⟩ (xk_136 hX1) ?_
      refine q_iload d157_110 rfl ?_
      refine q_iret d157_112 rfl ?_
      have e3 : xch P a (-n) = (yu P.1 a (P.1 a + (-n)), P.2) := if_pos h97
      rw [e3] at hP1 ⊢
      rw [if_pos h97, i1m] at k
      exact k _ (XPu_h hP1) (f1.wi (Or.inr ⟨rfl, Or.inl rfl⟩))
  · obtain ⟨a, ha, hf⟩ := ho.2.2.2.1 (by omega)
    obtain ⟨b, hb, hs⟩ := ho.2.2.2.2.1 (by omega)
    obtain ⟨e1, e2⟩ := xdo_4 (P := P) (n := n) (w := 1) hk hf ha hs hb hOP
    rw [e1, e2] at k
    refine q_aload_n d157_0 rfl ?_
    refine q_getr (c := 8) (f := 4) d157_1 ⟨rfl, rfl⟩ (xk_136 hX) (xf_firsts hX) ?_
    refine q_iload_n d157_4 rfl ?_
    refine n_aald d157_5 (xk_firsts hX) (by decide) (by omega) (by decide) (xr_firsts hX (by omega)) ?_
    refine q_iload_n d157_6 rfl ?_
    refine n_iald d157_7 (xa_firsts hX (by omega)) (by omega) (by decide) (((hT.2.2 _ hi).2.1).trans hf) ?_
    refine q_istore d157_8 (by decide) rfl ?_
    refine q_aload_n d157_10 rfl ?_
    refine q_getr (c := 8) (f := 3) d157_11 ⟨rfl, rfl⟩ (xk_136 hX) (xf_kinds hX) ?_
    refine q_iload_n d157_14 rfl ?_
    refine n_aald d157_15 (xk_kinds hX) (by decide) (by omega) (by decide) (xr_kinds hX (by omega)) ?_
    refine q_iload_n d157_16 rfl ?_
    refine n_iald d157_17 (xa_kinds hX (by omega)) (by omega) (by decide) (((hT.2.2 _ hi).1).trans (congrArg nI hk)) ?_
    refine n_tsI (95) 113 d157_18 (by decide) (by decide) rfl (by decide) ?_
    refine q_aload_n d157_113 rfl ?_
    refine q_iload d157_114 rfl ?_
    refine q_aload_n d157_116 rfl ?_
    refine q_getr (c := 8) (f := 5) d157_117 ⟨rfl, rfl⟩ (xk_136 hX) (xf_seconds hX) ?_
    refine q_iload_n d157_120 rfl ?_
    refine n_aald d157_121 (xk_seconds hX) (by decide) (by omega) (by decide) (xr_seconds hX (by omega)) ?_
    refine q_iload_n d157_122 rfl ?_
    refine n_iald d157_123 (xa_seconds hX (by omega)) (by omega) (by decide) (((hT.2.2 _ hi).2.2.1).trans hs) ?_
    refine q_v2 d157_124 rfl rfl (xk_136 hX) (Nat.le_of_ble_eq_true rfl) (c161 hX hP ha hb (fun M1 hP1 f1 => ?_))
    refine q_iret d157_127 rfl ?_
    exact k _ hP1 f1
  · have hf := ho.2.2.1 hk
    have hs := ho.2.2.2.2.2.1 (by omega) (by omega)
    obtain ⟨e1, e2⟩ := xdo_5 (P := P) (n := n) (w := 1) hk hf hs
    rw [e1, e2] at k
    rw [if_pos rfl] at k
    refine q_aload_n d157_0 rfl ?_
    refine q_getr (c := 8) (f := 4) d157_1 ⟨rfl, rfl⟩ (xk_136 hX) (xf_firsts hX) ?_
    refine q_iload_n d157_4 rfl ?_
    refine n_aald d157_5 (xk_firsts hX) (by decide) (by omega) (by decide) (xr_firsts hX (by omega)) ?_
    refine q_iload_n d157_6 rfl ?_
    refine n_iald d157_7 (xa_firsts hX (by omega)) (by omega) (by decide) (((hT.2.2 _ hi).2.1).trans hf) ?_
    refine q_istore d157_8 (by decide) rfl ?_
    refine q_aload_n d157_10 rfl ?_
    refine q_getr (c := 8) (f := 3) d157_11 ⟨rfl, rfl⟩ (xk_136 hX) (xf_kinds hX) ?_
    refine q_iload_n d157_14 rfl ?_
    refine n_aald d157_15 (xk_kinds hX) (by decide) (by omega) (by decide) (xr_kinds hX (by omega)) ?_
    refine q_iload_n d157_16 rfl ?_
    refine n_iald d157_17 (xa_kinds hX (by omega)) (by omega) (by decide) (((hT.2.2 _ hi).1).trans (congrArg nI hk)) ?_
    refine n_tsO 128 d157_18 (by decide) (Or.inr (by decide)) (by decide) ?_
    refine q_aload_n d157_128 rfl ?_
    refine q_dup d157_129 rfl ?_
    refine q_getv (c := 8) (f := 10) d157_130 ⟨rfl, by decide⟩ (xk_136 hX) hP.2.2 ?_
    refine q_iconstN (z := 1) d157_133 ?_
    refine q_iadd d157_134 ?_
    refine q_puti (c := 8) (f := 10) d157_135 ⟨rfl, rfl, by decide⟩ (xk_136 hX) ?_
    refine q_iconstN (z := 0) d157_138 ?_
    refine q_iret d157_139 rfl ?_
    exact k _ (XPu_m hP) ((Fi.refl _ _).wi (Or.inr ⟨rfl, Or.inr rfl⟩))
theorem d180_0 : decode (zB 180) 0 = .ok (.aload_n 0, 1) := (congrArg (fun c => decode c 0) zeq180).trans (by decide +kernel)
theorem d180_1 : decode (zB 180) 1 = .ok (.getfield 21, 3) := (congrArg (fun c => decode c 1) zeq180).trans (by decide +kernel)
theorem d180_4 : decode (zB 180) 4 = .ok (.iload_n 1, 1) := (congrArg (fun c => decode c 4) zeq180).trans (by decide +kernel)
theorem d180_5 : decode (zB 180) 5 = .ok (.aaload, 1) := (congrArg (fun c => decode c 5) zeq180).trans (by decide +kernel)
theorem d180_6 : decode (zB 180) 6 = .ok (.iload_n 2, 1) := (congrArg (fun c => decode c 6) zeq180).trans (by decide +kernel)
theorem d180_7 : decode (zB 180) 7 = .ok (.iaload, 1) := (congrArg (fun c => decode c 7) zeq180).trans (by decide +kernel)
theorem d180_8 : decode (zB 180) 8 = .ok (.istore 4, 2) := (congrArg (fun c => decode c 8) zeq180).trans (by decide +kernel)
theorem d180_10 : decode (zB 180) 10 = .ok (.aload_n 0, 1) := (congrArg (fun c => decode c 10) zeq180).trans (by decide +kernel)
theorem d180_11 : decode (zB 180) 11 = .ok (.getfield 18, 3) := (congrArg (fun c => decode c 11) zeq180).trans (by decide +kernel)
theorem d180_14 : decode (zB 180) 14 = .ok (.iload_n 1, 1) := (congrArg (fun c => decode c 14) zeq180).trans (by decide +kernel)
theorem d180_15 : decode (zB 180) 15 = .ok (.aaload, 1) := (congrArg (fun c => decode c 15) zeq180).trans (by decide +kernel)
theorem d180_16 : decode (zB 180) 16 = .ok (.iload_n 2, 1) := (congrArg (fun c => decode c 16) zeq180).trans (by decide +kernel)
theorem d180_17 : decode (zB 180) 17 = .ok (.iaload, 1) := (congrArg (fun c => decode c 17) zeq180).trans (by decide +kernel)
theorem d180_18 : decode (zB 180) 18 = .ok (.tableswitch 110 0 4 #[34, 43, 51, 68, 95], 34) := (congrArg (fun c => decode c 18) zeq180).trans (by decide +kernel)
theorem d180_52 : decode (zB 180) 52 = .ok (.aload_n 0, 1) := (congrArg (fun c => decode c 52) zeq180).trans (by decide +kernel)
theorem d180_53 : decode (zB 180) 53 = .ok (.iload 4, 2) := (congrArg (fun c => decode c 53) zeq180).trans (by decide +kernel)
theorem d180_55 : decode (zB 180) 55 = .ok (.iload_n 3, 1) := (congrArg (fun c => decode c 55) zeq180).trans (by decide +kernel)
theorem d180_56 : decode (zB 180) 56 = .ok (.ineg, 1) := (congrArg (fun c => decode c 56) zeq180).trans (by decide +kernel)
theorem d180_57 : decode (zB 180) 57 = .ok (.invokevirtual 270, 3) := (congrArg (fun c => decode c 57) zeq180).trans (by decide +kernel)
theorem d180_60 : decode (zB 180) 60 = .ok (.ireturn, 1) := (congrArg (fun c => decode c 60) zeq180).trans (by decide +kernel)
theorem d180_61 : decode (zB 180) 61 = .ok (.aload_n 0, 1) := (congrArg (fun c => decode c 61) zeq180).trans (by decide +kernel)
theorem d180_62 : decode (zB 180) 62 = .ok (.iload 4, 2) := (congrArg (fun c => decode c 62) zeq180).trans (by decide +kernel)
theorem d180_64 : decode (zB 180) 64 = .ok (.iload_n 3, 1) := (congrArg (fun c => decode c 64) zeq180).trans (by decide +kernel)
theorem d180_65 : decode (zB 180) 65 = .ok (.invokevirtual 270, 3) := (congrArg (fun c => decode c 65) zeq180).trans (by decide +kernel)
theorem d180_68 : decode (zB 180) 68 = .ok (.ireturn, 1) := (congrArg (fun c => decode c 68) zeq180).trans (by decide +kernel)
theorem d180_69 : decode (zB 180) 69 = .ok (.aload_n 0, 1) := (congrArg (fun c => decode c 69) zeq180).trans (by decide +kernel)
theorem d180_70 : decode (zB 180) 70 = .ok (.iload 4, 2) := (congrArg (fun c => decode c 70) zeq180).trans (by decide +kernel)
theorem d180_72 : decode (zB 180) 72 = .ok (.aload_n 0, 1) := (congrArg (fun c => decode c 72) zeq180).trans (by decide +kernel)
theorem d180_73 : decode (zB 180) 73 = .ok (.getfield 24, 3) := (congrArg (fun c => decode c 73) zeq180).trans (by decide +kernel)
theorem d180_76 : decode (zB 180) 76 = .ok (.iload_n 1, 1) := (congrArg (fun c => decode c 76) zeq180).trans (by decide +kernel)
theorem d180_77 : decode (zB 180) 77 = .ok (.aaload, 1) := (congrArg (fun c => decode c 77) zeq180).trans (by decide +kernel)
theorem d180_78 : decode (zB 180) 78 = .ok (.iload_n 2, 1) := (congrArg (fun c => decode c 78) zeq180).trans (by decide +kernel)
theorem d180_79 : decode (zB 180) 79 = .ok (.iaload, 1) := (congrArg (fun c => decode c 79) zeq180).trans (by decide +kernel)
theorem d180_80 : decode (zB 180) 80 = .ok (.iload_n 3, 1) := (congrArg (fun c => decode c 80) zeq180).trans (by decide +kernel)
theorem d180_81 : decode (zB 180) 81 = .ok (.ineg, 1) := (congrArg (fun c => decode c 81) zeq180).trans (by decide +kernel)
theorem d180_82 : decode (zB 180) 82 = .ok (.invokevirtual 273, 3) := (congrArg (fun c => decode c 82) zeq180).trans (by decide +kernel)
theorem d180_85 : decode (zB 180) 85 = .ok (.ireturn, 1) := (congrArg (fun c => decode c 85) zeq180).trans (by decide +kernel)
theorem d180_86 : decode (zB 180) 86 = .ok (.aload_n 0, 1) := (congrArg (fun c => decode c 86) zeq180).trans (by decide +kernel)
theorem d180_87 : decode (zB 180) 87 = .ok (.iload 4, 2) := (congrArg (fun c => decode c 87) zeq180).trans (by decide +kernel)
theorem d180_89 : decode (zB 180) 89 = .ok (.iload_n 3, 1) := (congrArg (fun c => decode c 89) zeq180).trans (by decide +kernel)
theorem d180_90 : decode (zB 180) 90 = .ok (.invokevirtual 270, 3) := (congrArg (fun c => decode c 90) zeq180).trans (by decide +kernel)
theorem d180_93 : decode (zB 180) 93 = .ok (.istore 5, 2) := (congrArg (fun c => decode c 93) zeq180).trans (by decide +kernel)
theorem d180_95 : decode (zB 180) 95 = .ok (.iload 5, 2) := (congrArg (fun c => decode c 95) zeq180).trans (by decide +kernel)
theorem d180_97 : decode (zB 180) 97 = .ok (.ifCond .ne 13, 3) := (congrArg (fun c => decode c 97) zeq180).trans (by decide +kernel)
theorem d180_100 : decode (zB 180) 100 = .ok (.aload_n 0, 1) := (congrArg (fun c => decode c 100) zeq180).trans (by decide +kernel)
theorem d180_101 : decode (zB 180) 101 = .ok (.dup, 1) := (congrArg (fun c => decode c 101) zeq180).trans (by decide +kernel)
theorem d180_102 : decode (zB 180) 102 = .ok (.getfield 276, 3) := (congrArg (fun c => decode c 102) zeq180).trans (by decide +kernel)
theorem d180_105 : decode (zB 180) 105 = .ok (.iload_n 3, 1) := (congrArg (fun c => decode c 105) zeq180).trans (by decide +kernel)
theorem d180_106 : decode (zB 180) 106 = .ok (.isub, 1) := (congrArg (fun c => decode c 106) zeq180).trans (by decide +kernel)
theorem d180_107 : decode (zB 180) 107 = .ok (.putfield 276, 3) := (congrArg (fun c => decode c 107) zeq180).trans (by decide +kernel)
theorem d180_110 : decode (zB 180) 110 = .ok (.iload 5, 2) := (congrArg (fun c => decode c 110) zeq180).trans (by decide +kernel)
theorem d180_112 : decode (zB 180) 112 = .ok (.ireturn, 1) := (congrArg (fun c => decode c 112) zeq180).trans (by decide +kernel)
theorem d180_113 : decode (zB 180) 113 = .ok (.aload_n 0, 1) := (congrArg (fun c => decode c 113) zeq180).trans (by decide +kernel)
theorem d180_114 : decode (zB 180) 114 = .ok (.iload 4, 2) := (congrArg (fun c => decode c 114) zeq180).trans (by decide +kernel)
theorem d180_116 : decode (zB 180) 116 = .ok (.aload_n 0, 1) := (congrArg (fun c => decode c 116) zeq180).trans (by decide +kernel)
theorem d180_117 : decode (zB 180) 117 = .ok (.getfield 24, 3) := (congrArg (fun c => decode c 117) zeq180).trans (by decide +kernel)
theorem d180_120 : decode (zB 180) 120 = .ok (.iload_n 1, 1) := (congrArg (fun c => decode c 120) zeq180).trans (by decide +kernel)
theorem d180_121 : decode (zB 180) 121 = .ok (.aaload, 1) := (congrArg (fun c => decode c 121) zeq180).trans (by decide +kernel)
theorem d180_122 : decode (zB 180) 122 = .ok (.iload_n 2, 1) := (congrArg (fun c => decode c 122) zeq180).trans (by decide +kernel)
theorem d180_123 : decode (zB 180) 123 = .ok (.iaload, 1) := (congrArg (fun c => decode c 123) zeq180).trans (by decide +kernel)
theorem d180_124 : decode (zB 180) 124 = .ok (.invokevirtual 279, 3) := (congrArg (fun c => decode c 124) zeq180).trans (by decide +kernel)
theorem d180_127 : decode (zB 180) 127 = .ok (.ireturn, 1) := (congrArg (fun c => decode c 127) zeq180).trans (by decide +kernel)
theorem d180_128 : decode (zB 180) 128 = .ok (.iconst 0, 1) := (congrArg (fun c => decode c 128) zeq180).trans (by decide +kernel)
theorem d180_129 : decode (zB 180) 129 = .ok (.ireturn, 1) := (congrArg (fun c => decode c 129) zeq180).trans (by decide +kernel)
theorem c180 {d : Nat} {M : zM} {Q : Option Value → zM → Prop} {T : yT} {P : yP} {t i : Nat} {n : Int32} (hX : SX M) (hP : XPu M P) (hT : XT1 M t T) (hTo : OKT T) (hOP : OKP P) (ht : t < 6) (hi : i < tn T) (k : ∀ M', XPu M' (xdo T P i n (-1)) → Fi GP M M' → Q (some (.int (yob T P i n (-1)))) M') : qC (d + 3) 180 [.ref 136, .int (nI t), .int (nI i), .int n] M Q := by
  refine qC_of (by decide) (Nat.le_of_ble_eq_true rfl) ?_
  have ho := hTo.2.2.2 _ hi
  have hk6 := hTo.k hi
  have hn := hTo.n
  rcases (show tk T i = 0 ∨ tk T i = 1 ∨ tk T i = 2 ∨ tk T i = 3 ∨ tk T i = 4 ∨ tk T i = 5 by omega) with hk | hk | hk | hk | hk | hk
  · obtain ⟨a, ha, hf⟩ := ho.2.2.2.1 (by omega)
    have hs := ho.2.2.2.2.2.1 (by omega) (by omega)
    obtain ⟨e1, e2⟩ := xdo_1 (P := P) (n := n) (w := (-1)) (v := (-n)) (Or.inl hk) hf ha hs (by rw [hk]; show (-1) * n = (-n); rw [im1])
    rw [e1, e2] at k
    refine q_aload_n d180_0 rfl ?_
    refine q_getr (c := 8) (f := 4) d180_1 ⟨rfl, rfl⟩ (xk_136 hX) (xf_firsts hX) ?_
    refine q_iload_n d180_4 rfl ?_
    refine n_aald d180_5 (xk_firsts hX) (by decide) (by omega) (by decide) (xr_firsts hX (by omega)) ?_
    refine q_iload_n d180_6 rfl ?_
    refine n_iald d180_7 (xa_firsts hX (by omega)) (by omega) (by decide) (((hT.2.2 _ hi).2.1).trans hf) ?_
    refine q_istore d180_8 (by decide) rfl ?_
    refine q_aload_n d180_10 rfl ?_
    refine q_getr (c := 8) (f := 3) d180_11 ⟨rfl, rfl⟩ (xk_136 hX) (xf_kinds hX) ?_
    refine q_iload_n d180_14 rfl ?_
    refine n_aald d180_15 (xk_kinds hX) (by decide) (by omega) (by decide) (xr_kinds hX (by omega)) ?_
    refine q_iload_n d180_16 rfl ?_
    refine n_iald d180_17 (xa_kinds hX (by omega)) (by omega) (by decide) (((hT.2.2 _ hi).1).trans (congrArg nI hk)) ?_
    refine n_tsI (34) 52 d180_18 (by decide) (by decide) rfl (by decide) ?_
    refine q_aload_n d180_52 rfl ?_
    refine q_iload d180_53 rfl ?_
    refine q_iload_n d180_55 rfl ?_
    refine q_ineg d180_56 ?_
    refine q_v2 d180_57 rfl rfl (xk_136 hX) (Nat.le_of_ble_eq_true rfl) (c158 hX hP ha (fun M1 hP1 f1 => ?_))
    refine q_iret d180_60 rfl ?_
    exact k _ hP1 f1
  · obtain ⟨a, ha, hf⟩ := ho.2.2.2.1 (by omega)
    have hs := ho.2.2.2.2.2.1 (by omega) (by omega)
    obtain ⟨e1, e2⟩ := xdo_1 (P := P) (n := n) (w := (-1)) (v := n) (Or.inr hk) hf ha hs (by rw [hk]; show (-1) * (-n) = n; rw [im1, Int32.neg_neg])
    rw [e1, e2] at k
    refine q_aload_n d180_0 rfl ?_
    refine q_getr (c := 8) (f := 4) d180_1 ⟨rfl, rfl⟩ (xk_136 hX) (xf_firsts hX) ?_
    refine q_iload_n d180_4 rfl ?_
    refine n_aald d180_5 (xk_firsts hX) (by decide) (by omega) (by decide) (xr_firsts hX (by omega)) ?_
    refine q_iload_n d180_6 rfl ?_
    refine n_iald d180_7 (xa_firsts hX (by omega)) (by omega) (by decide) (((hT.2.2 _ hi).2.1).trans hf) ?_
    refine q_istore d180_8 (by decide) rfl ?_
    refine q_aload_n d180_10 rfl ?_
    refine q_getr (c := 8) (f := 3) d180_11 ⟨rfl, rfl⟩ (xk_136 hX) (xf_kinds hX) ?_
    refine q_iload_n d180_14 rfl ?_
    refine n_aald d180_15 (xk_kinds hX) (by decide) (by omega) (by decide) (xr_kinds hX (by omega)) ?_
    refine q_iload_n d180_16 rfl ?_
    refine n_iald d180_17 (xa_kinds hX (by omega)) (by omega) (by decide) (((hT.2.2 _ hi).1).trans (congrArg nI hk)) ?_
    refine n_tsI (43) 61 d180_18 (by decide) (by decide) rfl (by decide) ?_
    refine q_aload_n d180_61 rfl ?_
    refine q_iload d180_62 rfl ?_
    refine q_iload_n d180_64 rfl ?_
    refine q_v2 d180_65 rfl rfl (xk_136 hX) (Nat.le_of_ble_eq_true rfl) (c158 hX hP ha (fun M1 hP1 f1 => ?_))
    refine q_iret d180_68 rfl ?_
    exact k _ hP1 f1
  · obtain ⟨a, ha, hf⟩ := ho.2.2.2.1 (by omega)
    obtain ⟨b, hb, hs⟩ := ho.2.2.2.2.1 (by omega)
    obtain ⟨e1, e2⟩ := xdo_2 (P := P) (n := n) (w := (-1)) (m := (-n)) hk hf ha hs hb (by rw [hk]; show (-1) * (-n) = -(-n); rw [im1]) (by rw [hk]; show (-1) * n = (-n); rw [im1])
    rw [e1, e2] at k
    refine q_aload_n d180_0 rfl ?_
    refine q_getr (c := 8) (f := 4) d180_1 ⟨rfl, rfl⟩ (xk_136 hX) (xf_firsts hX) ?_
    refine q_iload_n d180_4 rfl ?_
    refine n_aald d180_5 (xk_firsts hX) (by decide) (by omega) (by decide) (xr_firsts hX (by omega)) ?_
    refine q_iload_n d180_6 rfl ?_
    refine n_iald d180_7 (xa_firsts hX (by omega)) (by omega) (by decide) (((hT.2.2 _ hi).2.1).trans hf) ?_
    refine q_istore d180_8 (by decide) rfl ?_
    refine q_aload_n d180_10 rfl ?_
    refine q_getr (c := 8) (f := 3) d180_11 ⟨rfl, rfl⟩ (xk_136 hX) (xf_kinds hX) ?_
    refine q_iload_n d180_14 rfl ?_
    refine n_aald d180_15 (xk_kinds hX) (by decide) (by omega) (by decide) (xr_kinds hX (by omega)) ?_
    refine q_iload_n d180_16 rfl ?_
    refine n_iald d180_17 (xa_kinds hX (by omega)) (by omega) (by decide) (((hT.2.2 _ hi).1).trans (congrArg nI hk)) ?_
    refine n_tsI (51) 69 d180_18 (by decide) (by decide) rfl (by decide) ?_
    refine q_aload_n d180_69 rfl ?_
    refine q_iload d180_70 rfl ?_
    refine q_aload_n d180_72 rfl ?_
    refine q_getr (c := 8) (f := 5) d180_73 ⟨rfl, rfl⟩ (xk_136 hX) (xf_seconds hX) ?_
    refine q_iload_n d180_76 rfl ?_
    refine n_aald d180_77 (xk_seconds hX) (by decide) (by omega) (by decide) (xr_seconds hX (by omega)) ?_
    refine q_iload_n d180_78 rfl ?_
    refine n_iald d180_79 (xa_seconds hX (by omega)) (by omega) (by decide) (((hT.2.2 _ hi).2.2.1).trans hs) ?_
    refine q_iload_n d180_80 rfl ?_
    refine q_ineg d180_81 ?_
    refine q_v3 d180_82 rfl rfl (xk_136 hX) (Nat.le_of_ble_eq_true rfl) (c160 hX hP ha hb (fun M1 hP1 f1 => ?_))
    refine q_iret d180_85 rfl ?_
    exact k _ hP1 f1
  · obtain ⟨a, ha, hf⟩ := ho.2.2.2.1 (by omega)
    have hs := ho.2.2.2.2.2.1 (by omega) (by omega)
    obtain ⟨e1, e2⟩ := xdo_3 (P := P) (n := n) (w := (-1)) (v := n) hk hf ha hs (by rw [hk]; show (-1) * (-n) = n; rw [im1, Int32.neg_neg])
    rw [e1, e2] at k
    refine q_aload_n d180_0 rfl ?_
    refine q_getr (c := 8) (f := 4) d180_1 ⟨rfl, rfl⟩ (xk_136 hX) (xf_firsts hX) ?_
    refine q_iload_n d180_4 rfl ?_
    refine n_aald d180_5 (xk_firsts hX) (by decide) (by omega) (by decide) (xr_firsts hX (by omega)) ?_
    refine q_iload_n d180_6 rfl ?_
    refine n_iald d180_7 (xa_firsts hX (by omega)) (by omega) (by decide) (((hT.2.2 _ hi).2.1).trans hf) ?_
    refine q_istore d180_8 (by decide) rfl ?_
    refine q_aload_n d180_10 rfl ?_
    refine q_getr (c := 8) (f := 3) d180_11 ⟨rfl, rfl⟩ (xk_136 hX) (xf_kinds hX) ?_
    refine q_iload_n d180_14 rfl ?_
    refine n_aald d180_15 (xk_kinds hX) (by decide) (by omega) (by decide) (xr_kinds hX (by omega)) ?_
    refine q_iload_n d180_16 rfl ?_
    refine n_iald d180_17 (xa_kinds hX (by omega)) (by omega) (by decide) (((hT.2.2 _ hi).1).trans (congrArg nI hk)) ?_
    refine n_tsI (68) 86 d180_18 (by decide) (by decide) rfl (by decide) ?_
    refine q_aload_n d180_86 rfl ?_
    refine q_iload d180_87 rfl ?_
    refine q_iload_n d180_89 rfl ?_
    refine q_v2 d180_90 rfl rfl (xk_136 hX) (Nat.le_of_ble_eq_true rfl) (c158 hX hP ha (fun M1 hP1 f1 => ?_))
    have hX1 := SX_fi hX f1
    refine q_istore d180_93 (by decide) rfl ?_
    refine q_iload d180_95 rfl ?_
    refine i0_ne 110 d180_97 (by decide) (fun h97 => ?_) (fun h97 => ?_)
    · refine q_iload d180_110 rfl ?_
      refine q_iret d180_112 rfl ?_
      have e3 : xch P a n = P := if_neg h97
      rw [e3] at hP1
      rw [if_neg h97] at k
      exact k _ hP1 f1
    · refine q_aload_n d180_100 rfl ?_
      refine q_dup d180_101 rfl ?_
      refine q_getv (c := 8) (f := 9) d180_102 ⟨rfl, by decide⟩ (xk_136 hX1) hP1.2.1 ?_
      refine q_iload_n d180_105 rfl ?_
      refine q_isub d180_106 ?_
      refine q_puti (c := 8) (f := 9) d180_107 ⟨rfl, rfl, by decide⟩ (xk_136 hX1) ?_
      refine q_iload d180_110 rfl ?_
      refine q_iret d180_112 rfl ?_
      have e3 : xch P a n = (yu P.1 a (P.1 a + n), P.2) := if_pos h97
      rw [e3] at hP1 ⊢
      rw [if_pos h97, im1, ← Int32.sub_eq_add_neg] at k
      exact k _ (XPu_h hP1) (f1.wi (Or.inr ⟨rfl, Or.inl rfl⟩))
  · obtain ⟨a, ha, hf⟩ := ho.2.2.2.1 (by omega)
    obtain ⟨b, hb, hs⟩ := ho.2.2.2.2.1 (by omega)
    obtain ⟨e1, e2⟩ := xdo_4 (P := P) (n := n) (w := (-1)) hk hf ha hs hb hOP
    rw [e1, e2] at k
    refine q_aload_n d180_0 rfl ?_
    refine q_getr (c := 8) (f := 4) d180_1 ⟨rfl, rfl⟩ (xk_136 hX) (xf_firsts hX) ?_
    refine q_iload_n d180_4 rfl ?_
    refine n_aald d180_5 (xk_firsts hX) (by decide) (by omega) (by decide) (xr_firsts hX (by omega)) ?_
    refine q_iload_n d180_6 rfl ?_
    refine n_iald d180_7 (xa_firsts hX (by omega)) (by omega) (by decide) (((hT.2.2 _ hi).2.1).trans hf) ?_
    refine q_istore d180_8 (by decide) rfl ?_
    refine q_aload_n d180_10 rfl ?_
    refine q_getr (c := 8) (f := 3) d180_11 ⟨rfl, rfl⟩ (xk_136 hX) (xf_kinds hX) ?_
    refine q_iload_n d180_14 rfl ?_
    refine n_aald d180_15 (xk_kinds hX) (by decide) (by omega) (by decide) (xr_kinds hX (by omega)) ?_
    refine q_iload_n d180_16 rfl ?_
    refine n_iald d180_17 (xa_kinds hX (by omega)) (by omega) (by decide) (((hT.2.2 _ hi).1).trans (congrArg nI hk)) ?_
    refine n_tsI (95) 113 d180_18 (by decide) (by decide) rfl (by decide) ?_
    refine q_aload_n d180_113 rfl ?_
    refine q_iload d180_114 rfl ?_
    refine q_aload_n d180_116 rfl ?_
    refine q_getr (c := 8) (f := 5) d180_117 ⟨rfl, rfl⟩ (xk_136 hX) (xf_seconds hX) ?_
    refine q_iload_n d180_120 rfl ?_
    refine n_aald d180_121 (xk_seconds hX) (by decide) (by omega) (by decide) (xr_seconds hX (by omega)) ?_
    refine q_iload_n d180_122 rfl ?_
    refine n_iald d180_123 (xa_seconds hX (by omega)) (by omega) (by decide) (((hT.2.2 _ hi).2.2.1).trans hs) ?_
    refine q_v2 d180_124 rfl rfl (xk_136 hX) (Nat.le_of_ble_eq_true rfl) (c161 hX hP ha hb (fun M1 hP1 f1 => ?_))
    refine q_iret d180_127 rfl ?_
    exact k _ hP1 f1
  · have hf := ho.2.2.1 hk
    have hs := ho.2.2.2.2.2.1 (by omega) (by omega)
    obtain ⟨e1, e2⟩ := xdo_5 (P := P) (n := n) (w := (-1)) hk hf hs
    rw [e1, e2] at k
    rw [if_neg (by decide)] at k
    refine q_aload_n d180_0 rfl ?_
    refine q_getr (c := 8) (f := 4) d180_1 ⟨rfl, rfl⟩ (xk_136 hX) (xf_firsts hX) ?_
    refine q_iload_n d180_4 rfl ?_
    refine n_aald d180_5 (xk_firsts hX) (by decide) (by omega) (by decide) (xr_firsts hX (by omega)) ?_
    refine q_iload_n d180_6 rfl ?_
    refine n_iald d180_7 (xa_firsts hX (by omega)) (by omega) (by decide) (((hT.2.2 _ hi).2.1).trans hf) ?_
    refine q_istore d180_8 (by decide) rfl ?_
    refine q_aload_n d180_10 rfl ?_
    refine q_getr (c := 8) (f := 3) d180_11 ⟨rfl, rfl⟩ (xk_136 hX) (xf_kinds hX) ?_
    refine q_iload_n d180_14 rfl ?_
    refine n_aald d180_15 (xk_kinds hX) (by decide) (by omega) (by decide) (xr_kinds hX (by omega)) ?_
    refine q_iload_n d180_16 rfl ?_
    refine n_iald d180_17 (xa_kinds hX (by omega)) (by omega) (by decide) (((hT.2.2 _ hi).1).trans (congrArg nI hk)) ?_
    refine n_tsO 128 d180_18 (by decide) (Or.inr (by decide)) (by decide) ?_
    refine q_iconstN (z := 0) d180_128 ?_
    refine q_iret d180_129 rfl ?_
    exact k _ hP (Fi.refl _ _)
/-! ===== the reference: its sagas ===== -/
/-! a saga -/
def XSa (M : zM) (s : Nat) (S : yS) (κ : Nat) : Prop := (zi M 175 s = nI (gt S) ∧ zi M 176 s = txt S) ∧ (∀ k, k < 12 → zi M (178 + s) k = nI (gd S k) ∧ zi M (190 + s) k = gf S k ∧ zi M (194 + s) k = gw S k ∧ zi M (198 + s) k = gp S k ∧ zi M (202 + s) k = gq S k) ∧ (∀ k, k < 12 → gd S k = 1 → zi M (186 + s) k = gb S k) ∧
  ∃ w : Nat → Nat, (∀ i, i ∈ go S → zi M (182 + s) i = nI (w i) ∧ w i ≤ κ) ∧ (go S).Pairwise (fun i j => w j < w i)
/-- texts, as they are needed -/
def XTk (M : zM) (T : Nat → yT) (c : Nat) : Prop := XTx M T c ∧ c ≤ 6 ∧ ∀ i, i < c → OKT (T i)
theorem gm_0 {T : Nat → yT} {c v : Nat} {S : yS} (ho : OKS T c S) (h0 : gt S = 0) (hv : v ≠ 0) : gm S v = 0 := by
  have hz : ∀ i, gd S i = 0 := fun i => ho.2.2.2.2.1 i (by unfold gz; rw [if_pos h0]; omega)
  unfold gm
  apply Nat.eq_of_testBit_eq
  intro i
  rw [ymk_bit, Nat.zero_testBit, hz i]
  cases h : ((0 : Nat) == v) with
  | true => exact absurd (eq_of_beq h).symm hv
  | false => exact Bool.and_false _
theorem gm_n {T : Nat → yT} {c v : Nat} {S : yS} (ho : OKS T c S) (hv : v ≠ 0) (hn : gz T S ≤ 12) : ymk (fun k => gd S k == v) (gz T S) = gm S v := by
  unfold gm
  apply ymk_eq
  intro i
  by_cases h : i < gz T S
  · rw [decide_eq_true h, decide_eq_true (show i < 12 by omega)]
  · rw [ho.2.2.2.2.1 i (by omega)]
    cases h2 : ((0 : Nat) == v) with
    | true => exact absurd (eq_of_beq h2).symm hv
    | false => rw [Bool.and_false, Bool.and_false]
theorem gz_n {T : Nat → yT} {S : yS} (h0 : gt S ≠ 0) : gz T S = tn (T (gx S)) := if_neg h0
theorem d179_0 : decode (zB 179) 0 = .ok (.iconst 0, 1) := (congrArg (fun c => decode c 0) zeq179).trans (by decide +kernel)
theorem d179_1 : decode (zB 179) 1 = .ok (.istore_n 3, 1) := (congrArg (fun c => decode c 1) zeq179).trans (by decide +kernel)
theorem d179_2 : decode (zB 179) 2 = .ok (.iconst 0, 1) := (congrArg (fun c => decode c 2) zeq179).trans (by decide +kernel)
theorem d179_3 : decode (zB 179) 3 = .ok (.istore 4, 2) := (congrArg (fun c => decode c 3) zeq179).trans (by decide +kernel)
theorem d179_5 : decode (zB 179) 5 = .ok (.aload_n 0, 1) := (congrArg (fun c => decode c 5) zeq179).trans (by decide +kernel)
theorem d179_6 : decode (zB 179) 6 = .ok (.getfield 36, 3) := (congrArg (fun c => decode c 6) zeq179).trans (by decide +kernel)
theorem d179_9 : decode (zB 179) 9 = .ok (.iload_n 1, 1) := (congrArg (fun c => decode c 9) zeq179).trans (by decide +kernel)
theorem d179_10 : decode (zB 179) 10 = .ok (.iaload, 1) := (congrArg (fun c => decode c 10) zeq179).trans (by decide +kernel)
theorem d179_11 : decode (zB 179) 11 = .ok (.ifCond .eq 45, 3) := (congrArg (fun c => decode c 11) zeq179).trans (by decide +kernel)
theorem d179_14 : decode (zB 179) 14 = .ok (.iload 4, 2) := (congrArg (fun c => decode c 14) zeq179).trans (by decide +kernel)
theorem d179_16 : decode (zB 179) 16 = .ok (.aload_n 0, 1) := (congrArg (fun c => decode c 16) zeq179).trans (by decide +kernel)
theorem d179_17 : decode (zB 179) 17 = .ok (.getfield 9, 3) := (congrArg (fun c => decode c 17) zeq179).trans (by decide +kernel)
theorem d179_20 : decode (zB 179) 20 = .ok (.aload_n 0, 1) := (congrArg (fun c => decode c 20) zeq179).trans (by decide +kernel)
theorem d179_21 : decode (zB 179) 21 = .ok (.getfield 39, 3) := (congrArg (fun c => decode c 21) zeq179).trans (by decide +kernel)
theorem d179_24 : decode (zB 179) 24 = .ok (.iload_n 1, 1) := (congrArg (fun c => decode c 24) zeq179).trans (by decide +kernel)
theorem d179_25 : decode (zB 179) 25 = .ok (.iaload, 1) := (congrArg (fun c => decode c 25) zeq179).trans (by decide +kernel)
theorem d179_26 : decode (zB 179) 26 = .ok (.iaload, 1) := (congrArg (fun c => decode c 26) zeq179).trans (by decide +kernel)
theorem d179_27 : decode (zB 179) 27 = .ok (.if_icmp .ge 29, 3) := (congrArg (fun c => decode c 27) zeq179).trans (by decide +kernel)
theorem d179_30 : decode (zB 179) 30 = .ok (.aload_n 0, 1) := (congrArg (fun c => decode c 30) zeq179).trans (by decide +kernel)
theorem d179_31 : decode (zB 179) 31 = .ok (.getfield 42, 3) := (congrArg (fun c => decode c 31) zeq179).trans (by decide +kernel)
theorem d179_34 : decode (zB 179) 34 = .ok (.iload_n 1, 1) := (congrArg (fun c => decode c 34) zeq179).trans (by decide +kernel)
theorem d179_35 : decode (zB 179) 35 = .ok (.aaload, 1) := (congrArg (fun c => decode c 35) zeq179).trans (by decide +kernel)
theorem d179_36 : decode (zB 179) 36 = .ok (.iload 4, 2) := (congrArg (fun c => decode c 36) zeq179).trans (by decide +kernel)
theorem d179_38 : decode (zB 179) 38 = .ok (.iaload, 1) := (congrArg (fun c => decode c 38) zeq179).trans (by decide +kernel)
theorem d179_39 : decode (zB 179) 39 = .ok (.iload_n 2, 1) := (congrArg (fun c => decode c 39) zeq179).trans (by decide +kernel)
theorem d179_40 : decode (zB 179) 40 = .ok (.if_icmp .ne 10, 3) := (congrArg (fun c => decode c 40) zeq179).trans (by decide +kernel)
theorem d179_43 : decode (zB 179) 43 = .ok (.iload_n 3, 1) := (congrArg (fun c => decode c 43) zeq179).trans (by decide +kernel)
theorem d179_44 : decode (zB 179) 44 = .ok (.iconst 1, 1) := (congrArg (fun c => decode c 44) zeq179).trans (by decide +kernel)
theorem d179_45 : decode (zB 179) 45 = .ok (.iload 4, 2) := (congrArg (fun c => decode c 45) zeq179).trans (by decide +kernel)
theorem d179_47 : decode (zB 179) 47 = .ok (.ishl, 1) := (congrArg (fun c => decode c 47) zeq179).trans (by decide +kernel)
theorem d179_48 : decode (zB 179) 48 = .ok (.ior, 1) := (congrArg (fun c => decode c 48) zeq179).trans (by decide +kernel)
theorem d179_49 : decode (zB 179) 49 = .ok (.istore_n 3, 1) := (congrArg (fun c => decode c 49) zeq179).trans (by decide +kernel)
theorem d179_50 : decode (zB 179) 50 = .ok (.iinc 4 1, 3) := (congrArg (fun c => decode c 50) zeq179).trans (by decide +kernel)
theorem d179_53 : decode (zB 179) 53 = .ok (.goto (-48), 3) := (congrArg (fun c => decode c 53) zeq179).trans (by decide +kernel)
theorem d179_56 : decode (zB 179) 56 = .ok (.iload_n 3, 1) := (congrArg (fun c => decode c 56) zeq179).trans (by decide +kernel)
theorem d179_57 : decode (zB 179) 57 = .ok (.ireturn, 1) := (congrArg (fun c => decode c 57) zeq179).trans (by decide +kernel)
theorem l179 {d : Nat} {M : zM} {Q : Option Value → zM → Prop} {T : Nat → yT} {c s κ : Nat} {S : yS} {v : Nat} (hX : SX M) (hs : s < 3) (hsa : XSa M s S κ) (hT : XTk M T c) (ho : OKS T c S) (h0 : gt S ≠ 0) (hv : v < 4) (k : Q (some (.int (nI (ymk (fun k => gd S k == v) (tn (T (gx S))))))) M) : ∀ (r i : Nat), i ≤ tn (T (gx S)) → tn (T (gx S)) < i + r → qW (zEv (d + 0)) 179 Q 5 [(4, .int (nI i)), (3, .int (nI (ymk (fun k => gd S k == v) i))), (0, .ref 136), (1, .int (nI s)), (2, .int (nI v))] [] M := by
  intro r
  induction r with
  | zero => intros; omega
  | succ r ih =>
    intro i  h1 h2 
    have hg5 := ho.1
    have hx : gx S < c := ho.2.1 h0
    have hx1 : zi M 176 s = nI (gx S) := hsa.1.2.trans (if_neg h0)
    have hoT := hT.2.2 _ hx
    have hn := hoT.n
    have hc6 := hT.2.1
    have hd3 := ho.2.2.2.2.2 i
    refine q_aload_n d179_5 rfl ?_
    refine q_getr (c := 8) (f := 11) d179_6 ⟨rfl, rfl⟩ (xk_136 hX) (xf_states hX) ?_
    refine q_iload_n d179_9 rfl ?_
    refine n_iald d179_10 (xk_states hX) (by omega) (by decide) hsa.1.1 ?_
    refine n0_eq 56 d179_11 (by decide) (by omega) (fun h11 => (False.elim (h0 h11))) (fun h11 => ?_)
    refine q_iload d179_14 rfl ?_
    refine q_aload_n d179_16 rfl ?_
    refine q_getr (c := 8) (f := 1) d179_17 ⟨rfl, rfl⟩ (xk_136 hX) (xf_stepMany hX) ?_
    refine q_aload_n d179_20 rfl ?_
    refine q_getr (c := 8) (f := 12) d179_21 ⟨rfl, rfl⟩ (xk_136 hX) (xf_textOf hX) ?_
    refine q_iload_n d179_24 rfl ?_
    refine n_iald d179_25 (xk_textOf hX) (by omega) (by decide) hx1 ?_
    refine n_iald d179_26 (xk_stepMany hX) (by omega) (by decide) (hT.1 _ hx).1 ?_
    refine nc_ge 56 d179_27 (by decide) (by omega) (by omega) (fun h27 => ?_) (fun h27 => ?_)
    · refine q_iload_n d179_56 rfl ?_
      refine q_iret d179_57 rfl ?_
      rw [show i = tn (T (gx S)) by omega]
      exact k
    · refine q_aload_n d179_30 rfl ?_
      refine q_getr (c := 8) (f := 13) d179_31 ⟨rfl, rfl⟩ (xk_136 hX) (xf_stands hX) ?_
      refine q_iload_n d179_34 rfl ?_
      refine n_aald d179_35 (xk_stands hX) (by decide) (by omega) (by decide) (xr_stands hX (by omega)) ?_
      refine q_iload d179_36 rfl ?_
      refine n_iald d179_38 (xa_stands hX (by omega)) (by omega) (by decide) (hsa.2.1 _ (by omega)).1 ?_
      refine q_iload_n d179_39 rfl ?_
      refine nc_ne 50 d179_40 (by decide) (by omega) (by omega) (fun h40 => ?_) (fun h40 => ?_)
      · refine n_iinc 1 d179_50 (by decide) rfl rfl ?_
        refine q_goto 5 d179_53 (by decide) ?_
        rw [show ymk (fun k => gd S k == v) i = ymk (fun k => gd S k == v) (i + 1) from (ymk_f (by show (gd S i == v) = false; exact beq_false_of_ne h40)).symm]
        exact ih (i + 1) (by omega) (by omega)
      · refine q_iload_n d179_43 rfl ?_
        refine q_iconstN (z := 1) d179_44 ?_
        refine q_iload d179_45 rfl ?_
        refine n_ishl1 d179_47 (by omega) ?_
        refine n_ior d179_48 ?_
        refine q_istore_n d179_49 (by decide) rfl ?_
        refine n_iinc 1 d179_50 (by decide) rfl rfl ?_
        refine q_goto 5 d179_53 (by decide) ?_
        rw [show ymk (fun k => gd S k == v) i ||| 2 ^ i = ymk (fun k => gd S k == v) (i + 1) from (ymk_t (by show (gd S i == v) = true; rw [h40]; exact beq_self_eq_true v)).symm]
        exact ih (i + 1) (by omega) (by omega)
theorem c179 {d : Nat} {M : zM} {Q : Option Value → zM → Prop} {T : Nat → yT} {c s κ : Nat} {S : yS} {v : Nat} (hX : SX M) (hs : s < 3) (hsa : XSa M s S κ) (hT : XTk M T c) (ho : OKS T c S) (hv : 1 ≤ v ∧ v < 4) (k : Q (some (.int (nI (gm S v)))) M) : qC (d + 1) 179 [.ref 136, .int (nI s), .int (nI v)] M Q := by
  refine qC_of (by decide) (Nat.le_of_ble_eq_true rfl) ?_
  have hg5 := ho.1
  by_cases h0 : gt S = 0
  · rw [gm_0 ho h0 (by omega)] at k
    refine q_iconstN (z := 0) d179_0 ?_
    refine q_istore_n d179_1 (by decide) rfl ?_
    refine q_iconstN (z := 0) d179_2 ?_
    refine q_istore d179_3 (by decide) rfl ?_
    refine q_aload_n d179_5 rfl ?_
    refine q_getr (c := 8) (f := 11) d179_6 ⟨rfl, rfl⟩ (xk_136 hX) (xf_states hX) ?_
    refine q_iload_n d179_9 rfl ?_
    refine n_iald d179_10 (xk_states hX) (by omega) (by decide) hsa.1.1 ?_
    refine n0_eq 56 d179_11 (by decide) (by omega) (fun h11 => ?_) (fun h11 => (False.elim (h11 h0)))
    refine q_iload_n d179_56 rfl ?_
    refine q_iret d179_57 rfl ?_
    exact k
  · have hn := (hT.2.2 _ (ho.2.1 h0)).n
    rw [← gm_n ho (by omega) (by rw [gz_n h0]; omega), gz_n h0] at k
    refine q_iconstN (z := 0) d179_0 ?_
    refine q_istore_n d179_1 (by decide) rfl ?_
    refine q_iconstN (z := 0) d179_2 ?_
    refine q_istore d179_3 (by decide) rfl ?_
    exact l179 hX hs hsa hT ho h0 hv.2 k (tn (T (gx S)) + 1) 0 (Nat.zero_le _) (by omega)
theorem d185_0 : decode (zB 185) 0 = .ok (.aload_n 0, 1) := (congrArg (fun c => decode c 0) zeq185).trans (by decide +kernel)
theorem d185_1 : decode (zB 185) 1 = .ok (.getfield 36, 3) := (congrArg (fun c => decode c 1) zeq185).trans (by decide +kernel)
theorem d185_4 : decode (zB 185) 4 = .ok (.iload_n 1, 1) := (congrArg (fun c => decode c 4) zeq185).trans (by decide +kernel)
theorem d185_5 : decode (zB 185) 5 = .ok (.iaload, 1) := (congrArg (fun c => decode c 5) zeq185).trans (by decide +kernel)
theorem d185_6 : decode (zB 185) 6 = .ok (.ifCond .ne 7, 3) := (congrArg (fun c => decode c 6) zeq185).trans (by decide +kernel)
theorem d185_9 : decode (zB 185) 9 = .ok (.iconst (-1), 1) := (congrArg (fun c => decode c 9) zeq185).trans (by decide +kernel)
theorem d185_10 : decode (zB 185) 10 = .ok (.goto 14, 3) := (congrArg (fun c => decode c 10) zeq185).trans (by decide +kernel)
theorem d185_13 : decode (zB 185) 13 = .ok (.aload_n 0, 1) := (congrArg (fun c => decode c 13) zeq185).trans (by decide +kernel)
theorem d185_14 : decode (zB 185) 14 = .ok (.getfield 13, 3) := (congrArg (fun c => decode c 14) zeq185).trans (by decide +kernel)
theorem d185_17 : decode (zB 185) 17 = .ok (.aload_n 0, 1) := (congrArg (fun c => decode c 17) zeq185).trans (by decide +kernel)
theorem d185_18 : decode (zB 185) 18 = .ok (.getfield 39, 3) := (congrArg (fun c => decode c 18) zeq185).trans (by decide +kernel)
theorem d185_21 : decode (zB 185) 21 = .ok (.iload_n 1, 1) := (congrArg (fun c => decode c 21) zeq185).trans (by decide +kernel)
theorem d185_22 : decode (zB 185) 22 = .ok (.iaload, 1) := (congrArg (fun c => decode c 22) zeq185).trans (by decide +kernel)
theorem d185_23 : decode (zB 185) 23 = .ok (.iaload, 1) := (congrArg (fun c => decode c 23) zeq185).trans (by decide +kernel)
theorem d185_24 : decode (zB 185) 24 = .ok (.istore_n 2, 1) := (congrArg (fun c => decode c 24) zeq185).trans (by decide +kernel)
theorem d185_25 : decode (zB 185) 25 = .ok (.iload_n 2, 1) := (congrArg (fun c => decode c 25) zeq185).trans (by decide +kernel)
theorem d185_26 : decode (zB 185) 26 = .ok (.iconst (-1), 1) := (congrArg (fun c => decode c 26) zeq185).trans (by decide +kernel)
theorem d185_27 : decode (zB 185) 27 = .ok (.if_icmp .eq 20, 3) := (congrArg (fun c => decode c 27) zeq185).trans (by decide +kernel)
theorem d185_30 : decode (zB 185) 30 = .ok (.iload_n 2, 1) := (congrArg (fun c => decode c 30) zeq185).trans (by decide +kernel)
theorem d185_31 : decode (zB 185) 31 = .ok (.aload_n 0, 1) := (congrArg (fun c => decode c 31) zeq185).trans (by decide +kernel)
theorem d185_32 : decode (zB 185) 32 = .ok (.iload_n 1, 1) := (congrArg (fun c => decode c 32) zeq185).trans (by decide +kernel)
theorem d185_33 : decode (zB 185) 33 = .ok (.iconst 1, 1) := (congrArg (fun c => decode c 33) zeq185).trans (by decide +kernel)
theorem d185_34 : decode (zB 185) 34 = .ok (.invokevirtual 304, 3) := (congrArg (fun c => decode c 34) zeq185).trans (by decide +kernel)
theorem d185_37 : decode (zB 185) 37 = .ok (.iconst (-1), 1) := (congrArg (fun c => decode c 37) zeq185).trans (by decide +kernel)
theorem d185_38 : decode (zB 185) 38 = .ok (.ixor, 1) := (congrArg (fun c => decode c 38) zeq185).trans (by decide +kernel)
theorem d185_39 : decode (zB 185) 39 = .ok (.iand, 1) := (congrArg (fun c => decode c 39) zeq185).trans (by decide +kernel)
theorem d185_40 : decode (zB 185) 40 = .ok (.ifCond .ne 7, 3) := (congrArg (fun c => decode c 40) zeq185).trans (by decide +kernel)
theorem d185_43 : decode (zB 185) 43 = .ok (.iconst 1, 1) := (congrArg (fun c => decode c 43) zeq185).trans (by decide +kernel)
theorem d185_44 : decode (zB 185) 44 = .ok (.goto 4, 3) := (congrArg (fun c => decode c 44) zeq185).trans (by decide +kernel)
theorem d185_47 : decode (zB 185) 47 = .ok (.iconst 0, 1) := (congrArg (fun c => decode c 47) zeq185).trans (by decide +kernel)
theorem d185_48 : decode (zB 185) 48 = .ok (.ireturn, 1) := (congrArg (fun c => decode c 48) zeq185).trans (by decide +kernel)
/-- whether a saga's pivot is passed -/
def yps (T : Nat → yT) (S : yS) : Bool := if gt S = 0 then false else ypa (T (gx S)) (gm S 1)
theorem c185 {d : Nat} {M : zM} {Q : Option Value → zM → Prop} {T : Nat → yT} {c s κ : Nat} {S : yS} (hX : SX M) (hs : s < 3) (hsa : XSa M s S κ) (hT : XTk M T c) (ho : OKS T c S) (k : Q (some (.int (bI (yps T S)))) M) : qC (d + 2) 185 [.ref 136, .int (nI s)] M Q := by
  refine qC_of (by decide) (Nat.le_of_ble_eq_true rfl) ?_
  have hg5 := ho.1
  unfold yps at k
  by_cases h0 : gt S = 0
  · rw [if_pos h0] at k
    refine q_aload_n d185_0 rfl ?_
    refine q_getr (c := 8) (f := 11) d185_1 ⟨rfl, rfl⟩ (xk_136 hX) (xf_states hX) ?_
    refine q_iload_n d185_4 rfl ?_
    refine n_iald d185_5 (xk_states hX) (by omega) (by decide) hsa.1.1 ?_
    refine n0_ne 13 d185_6 (by decide) (by omega) (fun h6 => (False.elim (h6 h0))) (fun h6 => ?_)
    refine q_iconst (x := (-1)) d185_9 rfl ?_
    refine q_goto 24 d185_10 (by decide) ?_
    refine q_istore_n d185_24 (by decide) rfl ?_
    refine q_iload_n d185_25 rfl ?_
    refine q_iconst (x := (-1)) d185_26 rfl ?_
    refine ic_eq 47 d185_27 (by decide) (fun h27 => ?_) (fun h27 => (False.elim (h27 rfl)))
    refine q_iconstN (z := 0) d185_47 ?_
    refine q_zret d185_48 rfl (by decide) ?_
    exact k
  · rw [if_neg h0] at k
    have hx : gx S < c := ho.2.1 h0
    have hx1 : zi M 176 s = nI (gx S) := hsa.1.2.trans (if_neg h0)
    have hoT := hT.2.2 _ hx
    have hn := hoT.n
    have hc6 := hT.2.1

    refine q_aload_n d185_0 rfl ?_
    refine q_getr (c := 8) (f := 11) d185_1 ⟨rfl, rfl⟩ (xk_136 hX) (xf_states hX) ?_
    refine q_iload_n d185_4 rfl ?_
    refine n_iald d185_5 (xk_states hX) (by omega) (by decide) hsa.1.1 ?_
    refine n0_ne 13 d185_6 (by decide) (by omega) (fun h6 => ?_) (fun h6 => (False.elim (h0 h6)))
    refine q_aload_n d185_13 rfl ?_
    refine q_getr (c := 8) (f := 2) d185_14 ⟨rfl, rfl⟩ (xk_136 hX) (xf_pivots hX) ?_
    refine q_aload_n d185_17 rfl ?_
    refine q_getr (c := 8) (f := 12) d185_18 ⟨rfl, rfl⟩ (xk_136 hX) (xf_textOf hX) ?_
    refine q_iload_n d185_21 rfl ?_
    refine n_iald d185_22 (xk_textOf hX) (by omega) (by decide) hx1 ?_
    refine n_iald d185_23 (xk_pivots hX) (by omega) (by decide) (hT.1 _ hx).2.1 ?_
    refine q_istore_n d185_24 (by decide) rfl ?_
    refine q_iload_n d185_25 rfl ?_
    refine q_iconst (x := (-1)) d185_26 rfl ?_
    refine ic_eq 47 d185_27 (by decide) (fun h27 => ?_) (fun h27 => ?_)
    · refine q_iconstN (z := 0) d185_47 ?_
      refine q_zret d185_48 rfl (by decide) ?_
      have e : ypa (T (gx S)) (gm S 1) = false := decide_eq_false (fun q => q.1 h27)
      rw [e] at k
      exact k
    · refine q_iload_n d185_30 rfl ?_
      refine q_aload_n d185_31 rfl ?_
      refine q_iload_n d185_32 rfl ?_
      refine q_iconstN (z := 1) d185_33 ?_
      refine q_v2 d185_34 rfl rfl (xk_136 hX) (Nat.le_of_ble_eq_true rfl) (c179 hX hs hsa hT ho (by omega) ?_)
      refine q_iconst (x := (-1)) d185_37 rfl ?_
      refine q_ixor d185_38 ?_
      refine q_iand d185_39 ?_
      refine i0_ne 47 d185_40 (by decide) (fun h40 => ?_) (fun h40 => ?_)
      · refine q_iconstN (z := 0) d185_47 ?_
        refine q_zret d185_48 rfl (by decide) ?_
        have e : ypa (T (gx S)) (gm S 1) = false := decide_eq_false (fun q => h40 q.2)
        rw [e] at k
        exact k
      · refine q_iconstN (z := 1) d185_43 ?_
        refine q_goto 48 d185_44 (by decide) ?_
        refine q_zret d185_48 rfl (by decide) ?_
        have e : ypa (T (gx S)) (gm S 1) = true := decide_eq_true ⟨h27, h40⟩
        rw [e] at k
        exact k
theorem d182_0 : decode (zB 182) 0 = .ok (.aload_n 0, 1) := (congrArg (fun c => decode c 0) zeq182).trans (by decide +kernel)
theorem d182_1 : decode (zB 182) 1 = .ok (.getfield 36, 3) := (congrArg (fun c => decode c 1) zeq182).trans (by decide +kernel)
theorem d182_4 : decode (zB 182) 4 = .ok (.iload_n 1, 1) := (congrArg (fun c => decode c 4) zeq182).trans (by decide +kernel)
theorem d182_5 : decode (zB 182) 5 = .ok (.iaload, 1) := (congrArg (fun c => decode c 5) zeq182).trans (by decide +kernel)
theorem d182_6 : decode (zB 182) 6 = .ok (.iconst 1, 1) := (congrArg (fun c => decode c 6) zeq182).trans (by decide +kernel)
theorem d182_7 : decode (zB 182) 7 = .ok (.if_icmp .eq 5, 3) := (congrArg (fun c => decode c 7) zeq182).trans (by decide +kernel)
theorem d182_10 : decode (zB 182) 10 = .ok (.iconst 0, 1) := (congrArg (fun c => decode c 10) zeq182).trans (by decide +kernel)
theorem d182_11 : decode (zB 182) 11 = .ok (.ireturn, 1) := (congrArg (fun c => decode c 11) zeq182).trans (by decide +kernel)
theorem d182_12 : decode (zB 182) 12 = .ok (.iconst 0, 1) := (congrArg (fun c => decode c 12) zeq182).trans (by decide +kernel)
theorem d182_13 : decode (zB 182) 13 = .ok (.istore_n 2, 1) := (congrArg (fun c => decode c 13) zeq182).trans (by decide +kernel)
theorem d182_14 : decode (zB 182) 14 = .ok (.aload_n 0, 1) := (congrArg (fun c => decode c 14) zeq182).trans (by decide +kernel)
theorem d182_15 : decode (zB 182) 15 = .ok (.iload_n 1, 1) := (congrArg (fun c => decode c 15) zeq182).trans (by decide +kernel)
theorem d182_16 : decode (zB 182) 16 = .ok (.iconst 1, 1) := (congrArg (fun c => decode c 16) zeq182).trans (by decide +kernel)
theorem d182_17 : decode (zB 182) 17 = .ok (.invokevirtual 304, 3) := (congrArg (fun c => decode c 17) zeq182).trans (by decide +kernel)
theorem d182_20 : decode (zB 182) 20 = .ok (.istore_n 3, 1) := (congrArg (fun c => decode c 20) zeq182).trans (by decide +kernel)
theorem d182_21 : decode (zB 182) 21 = .ok (.iconst 0, 1) := (congrArg (fun c => decode c 21) zeq182).trans (by decide +kernel)
theorem d182_22 : decode (zB 182) 22 = .ok (.istore 4, 2) := (congrArg (fun c => decode c 22) zeq182).trans (by decide +kernel)
theorem d182_24 : decode (zB 182) 24 = .ok (.iload 4, 2) := (congrArg (fun c => decode c 24) zeq182).trans (by decide +kernel)
theorem d182_26 : decode (zB 182) 26 = .ok (.aload_n 0, 1) := (congrArg (fun c => decode c 26) zeq182).trans (by decide +kernel)
theorem d182_27 : decode (zB 182) 27 = .ok (.getfield 9, 3) := (congrArg (fun c => decode c 27) zeq182).trans (by decide +kernel)
theorem d182_30 : decode (zB 182) 30 = .ok (.aload_n 0, 1) := (congrArg (fun c => decode c 30) zeq182).trans (by decide +kernel)
theorem d182_31 : decode (zB 182) 31 = .ok (.getfield 39, 3) := (congrArg (fun c => decode c 31) zeq182).trans (by decide +kernel)
theorem d182_34 : decode (zB 182) 34 = .ok (.iload_n 1, 1) := (congrArg (fun c => decode c 34) zeq182).trans (by decide +kernel)
theorem d182_35 : decode (zB 182) 35 = .ok (.iaload, 1) := (congrArg (fun c => decode c 35) zeq182).trans (by decide +kernel)
theorem d182_36 : decode (zB 182) 36 = .ok (.iaload, 1) := (congrArg (fun c => decode c 36) zeq182).trans (by decide +kernel)
theorem d182_37 : decode (zB 182) 37 = .ok (.if_icmp .ge 49, 3) := (congrArg (fun c => decode c 37) zeq182).trans (by decide +kernel)
theorem d182_40 : decode (zB 182) 40 = .ok (.aload_n 0, 1) := (congrArg (fun c => decode c 40) zeq182).trans (by decide +kernel)
theorem d182_41 : decode (zB 182) 41 = .ok (.getfield 42, 3) := (congrArg (fun c => decode c 41) zeq182).trans (by decide +kernel)
theorem d182_44 : decode (zB 182) 44 = .ok (.iload_n 1, 1) := (congrArg (fun c => decode c 44) zeq182).trans (by decide +kernel)
theorem d182_45 : decode (zB 182) 45 = .ok (.aaload, 1) := (congrArg (fun c => decode c 45) zeq182).trans (by decide +kernel)
theorem d182_46 : decode (zB 182) 46 = .ok (.iload 4, 2) := (congrArg (fun c => decode c 46) zeq182).trans (by decide +kernel)
theorem d182_48 : decode (zB 182) 48 = .ok (.iaload, 1) := (congrArg (fun c => decode c 48) zeq182).trans (by decide +kernel)
theorem d182_49 : decode (zB 182) 49 = .ok (.ifCond .ne 31, 3) := (congrArg (fun c => decode c 49) zeq182).trans (by decide +kernel)
theorem d182_52 : decode (zB 182) 52 = .ok (.aload_n 0, 1) := (congrArg (fun c => decode c 52) zeq182).trans (by decide +kernel)
theorem d182_53 : decode (zB 182) 53 = .ok (.getfield 30, 3) := (congrArg (fun c => decode c 53) zeq182).trans (by decide +kernel)
theorem d182_56 : decode (zB 182) 56 = .ok (.aload_n 0, 1) := (congrArg (fun c => decode c 56) zeq182).trans (by decide +kernel)
theorem d182_57 : decode (zB 182) 57 = .ok (.getfield 39, 3) := (congrArg (fun c => decode c 57) zeq182).trans (by decide +kernel)
theorem d182_60 : decode (zB 182) 60 = .ok (.iload_n 1, 1) := (congrArg (fun c => decode c 60) zeq182).trans (by decide +kernel)
theorem d182_61 : decode (zB 182) 61 = .ok (.iaload, 1) := (congrArg (fun c => decode c 61) zeq182).trans (by decide +kernel)
theorem d182_62 : decode (zB 182) 62 = .ok (.aaload, 1) := (congrArg (fun c => decode c 62) zeq182).trans (by decide +kernel)
theorem d182_63 : decode (zB 182) 63 = .ok (.iload 4, 2) := (congrArg (fun c => decode c 63) zeq182).trans (by decide +kernel)
theorem d182_65 : decode (zB 182) 65 = .ok (.iaload, 1) := (congrArg (fun c => decode c 65) zeq182).trans (by decide +kernel)
theorem d182_66 : decode (zB 182) 66 = .ok (.iload_n 3, 1) := (congrArg (fun c => decode c 66) zeq182).trans (by decide +kernel)
theorem d182_67 : decode (zB 182) 67 = .ok (.iconst (-1), 1) := (congrArg (fun c => decode c 67) zeq182).trans (by decide +kernel)
theorem d182_68 : decode (zB 182) 68 = .ok (.ixor, 1) := (congrArg (fun c => decode c 68) zeq182).trans (by decide +kernel)
theorem d182_69 : decode (zB 182) 69 = .ok (.iand, 1) := (congrArg (fun c => decode c 69) zeq182).trans (by decide +kernel)
theorem d182_70 : decode (zB 182) 70 = .ok (.ifCond .ne 10, 3) := (congrArg (fun c => decode c 70) zeq182).trans (by decide +kernel)
theorem d182_73 : decode (zB 182) 73 = .ok (.iload_n 2, 1) := (congrArg (fun c => decode c 73) zeq182).trans (by decide +kernel)
theorem d182_74 : decode (zB 182) 74 = .ok (.iconst 1, 1) := (congrArg (fun c => decode c 74) zeq182).trans (by decide +kernel)
theorem d182_75 : decode (zB 182) 75 = .ok (.iload 4, 2) := (congrArg (fun c => decode c 75) zeq182).trans (by decide +kernel)
theorem d182_77 : decode (zB 182) 77 = .ok (.ishl, 1) := (congrArg (fun c => decode c 77) zeq182).trans (by decide +kernel)
theorem d182_78 : decode (zB 182) 78 = .ok (.ior, 1) := (congrArg (fun c => decode c 78) zeq182).trans (by decide +kernel)
theorem d182_79 : decode (zB 182) 79 = .ok (.istore_n 2, 1) := (congrArg (fun c => decode c 79) zeq182).trans (by decide +kernel)
theorem d182_80 : decode (zB 182) 80 = .ok (.iinc 4 1, 3) := (congrArg (fun c => decode c 80) zeq182).trans (by decide +kernel)
theorem d182_83 : decode (zB 182) 83 = .ok (.goto (-59), 3) := (congrArg (fun c => decode c 83) zeq182).trans (by decide +kernel)
theorem d182_86 : decode (zB 182) 86 = .ok (.iload_n 2, 1) := (congrArg (fun c => decode c 86) zeq182).trans (by decide +kernel)
theorem d182_87 : decode (zB 182) 87 = .ok (.ireturn, 1) := (congrArg (fun c => decode c 87) zeq182).trans (by decide +kernel)
theorem l182 {d : Nat} {M : zM} {Q : Option Value → zM → Prop} {T : Nat → yT} {c s κ : Nat} {S : yS} (hX : SX M) (hs : s < 3) (hsa : XSa M s S κ) (hT : XTk M T c) (ho : OKS T c S) (h0 : gt S ≠ 0) (k : Q (some (.int (nI (yfr (T (gx S)) S)))) M) : ∀ (r i : Nat), i ≤ tn (T (gx S)) → tn (T (gx S)) < i + r → qW (zEv (d + 1)) 182 Q 24 [(0, .ref 136), (1, .int (nI s)), (2, .int (nI (ymk (fun i => gd S i == 0 && zdf (ta (T (gx S)) i) (gm S 1) == 0) i))), (3, .int (nI (gm S 1))), (4, .int (nI i))] [] M := by
  intro r
  induction r with
  | zero => intros; omega
  | succ r ih =>
    intro i  h1 h2 
    have hg5 := ho.1
    have hx : gx S < c := ho.2.1 h0
    have hx1 : zi M 176 s = nI (gx S) := hsa.1.2.trans (if_neg h0)
    have hoT := hT.2.2 _ hx
    have hn := hoT.n
    have hc6 := hT.2.1
    have hd3 := ho.2.2.2.2.2 i
    have hz1 : ∀ x, x < tn (T (gx S)) → zdf (ta (T (gx S)) x) (gm S 1) < 2147483648 := fun x hx => Nat.lt_trans (zdf_lt (n := 12) (show _ < 2 ^ 12 from hoT.a hx)) (by decide)
    refine q_iload d182_24 rfl ?_
    refine q_aload_n d182_26 rfl ?_
    refine q_getr (c := 8) (f := 1) d182_27 ⟨rfl, rfl⟩ (xk_136 hX) (xf_stepMany hX) ?_
    refine q_aload_n d182_30 rfl ?_
    refine q_getr (c := 8) (f := 12) d182_31 ⟨rfl, rfl⟩ (xk_136 hX) (xf_textOf hX) ?_
    refine q_iload_n d182_34 rfl ?_
    refine n_iald d182_35 (xk_textOf hX) (by omega) (by decide) hx1 ?_
    refine n_iald d182_36 (xk_stepMany hX) (by omega) (by decide) (hT.1 _ hx).1 ?_
    refine nc_ge 86 d182_37 (by decide) (by omega) (by omega) (fun h37 => ?_) (fun h37 => ?_)
    · refine q_iload_n d182_86 rfl ?_
      refine q_iret d182_87 rfl ?_
      rw [show i = tn (T (gx S)) by omega]
      exact k
    · refine q_aload_n d182_40 rfl ?_
      refine q_getr (c := 8) (f := 13) d182_41 ⟨rfl, rfl⟩ (xk_136 hX) (xf_stands hX) ?_
      refine q_iload_n d182_44 rfl ?_
      refine n_aald d182_45 (xk_stands hX) (by decide) (by omega) (by decide) (xr_stands hX (by omega)) ?_
      refine q_iload d182_46 rfl ?_
      refine n_iald d182_48 (xa_stands hX (by omega)) (by omega) (by decide) (hsa.2.1 _ (by omega)).1 ?_
      refine n0_ne 80 d182_49 (by decide) (by omega) (fun h49 => ?_) (fun h49 => ?_)
      · refine n_iinc 1 d182_80 (by decide) rfl rfl ?_
        refine q_goto 24 d182_83 (by decide) ?_
        refine qW_srt rfl rfl ?_
        rw [show ymk (fun i => gd S i == 0 && zdf (ta (T (gx S)) i) (gm S 1) == 0) i = ymk (fun i => gd S i == 0 && zdf (ta (T (gx S)) i) (gm S 1) == 0) (i + 1) from (ymk_f (by show (gd S i == 0 && zdf (ta (T (gx S)) i) (gm S 1) == 0) = false; rw [beq_false_of_ne h49]; rfl)).symm]
        exact ih (i + 1) (by omega) (by omega)
      · refine q_aload_n d182_52 rfl ?_
        refine q_getr (c := 8) (f := 7) d182_53 ⟨rfl, rfl⟩ (xk_136 hX) (xf_aheads hX) ?_
        refine q_aload_n d182_56 rfl ?_
        refine q_getr (c := 8) (f := 12) d182_57 ⟨rfl, rfl⟩ (xk_136 hX) (xf_textOf hX) ?_
        refine q_iload_n d182_60 rfl ?_
        refine n_iald d182_61 (xk_textOf hX) (by omega) (by decide) hx1 ?_
        refine n_aald d182_62 (xk_aheads hX) (by decide) (by omega) (by decide) (xr_aheads hX (by omega)) ?_
        refine q_iload d182_63 rfl ?_
        refine n_iald d182_65 (xa_aheads hX (by omega)) (by omega) (by decide) ((hT.1 _ hx).2.2 _ (by omega)).2.2.2.2 ?_
        refine q_iload_n d182_66 rfl ?_
        refine q_iconst (x := (-1)) d182_67 rfl ?_
        refine q_ixor d182_68 ?_
        refine n_iandn d182_69 ?_
        refine n0_ne 80 d182_70 (by decide) (hz1 _ (by omega)) (fun h70 => ?_) (fun h70 => ?_)
        · refine n_iinc 1 d182_80 (by decide) rfl rfl ?_
          refine q_goto 24 d182_83 (by decide) ?_
          refine qW_srt rfl rfl ?_
          rw [show ymk (fun i => gd S i == 0 && zdf (ta (T (gx S)) i) (gm S 1) == 0) i = ymk (fun i => gd S i == 0 && zdf (ta (T (gx S)) i) (gm S 1) == 0) (i + 1) from (ymk_f (by show (gd S i == 0 && zdf (ta (T (gx S)) i) (gm S 1) == 0) = false; rw [beq_false_of_ne h70, Bool.and_false])).symm]
          exact ih (i + 1) (by omega) (by omega)
        · refine q_iload_n d182_73 rfl ?_
          refine q_iconstN (z := 1) d182_74 ?_
          refine q_iload d182_75 rfl ?_
          refine n_ishl1 d182_77 (by omega) ?_
          refine n_ior d182_78 ?_
          refine q_istore_n d182_79 (by decide) rfl ?_
          refine n_iinc 1 d182_80 (by decide) rfl rfl ?_
          refine q_goto 24 d182_83 (by decide) ?_
          refine qW_srt rfl rfl ?_
          rw [show ymk (fun i => gd S i == 0 && zdf (ta (T (gx S)) i) (gm S 1) == 0) i ||| 2 ^ i = ymk (fun i => gd S i == 0 && zdf (ta (T (gx S)) i) (gm S 1) == 0) (i + 1) from (ymk_t (by show (gd S i == 0 && zdf (ta (T (gx S)) i) (gm S 1) == 0) = true; rw [h49, h70]; rfl)).symm]
          exact ih (i + 1) (by omega) (by omega)
theorem c182 {d : Nat} {M : zM} {Q : Option Value → zM → Prop} {T : Nat → yT} {c s κ : Nat} {S : yS} (hX : SX M) (hs : s < 3) (hsa : XSa M s S κ) (hT : XTk M T c) (ho : OKS T c S) (k : Q (some (.int (nI (if gt S = 1 then yfr (T (gx S)) S else 0)))) M) : qC (d + 2) 182 [.ref 136, .int (nI s)] M Q := by
  refine qC_of (by decide) (Nat.le_of_ble_eq_true rfl) ?_
  have hg5 := ho.1
  by_cases h1 : gt S = 1
  · rw [if_pos h1] at k
    have h0 : gt S ≠ 0 := by omega
    refine q_aload_n d182_0 rfl ?_
    refine q_getr (c := 8) (f := 11) d182_1 ⟨rfl, rfl⟩ (xk_136 hX) (xf_states hX) ?_
    refine q_iload_n d182_4 rfl ?_
    refine n_iald d182_5 (xk_states hX) (by omega) (by decide) hsa.1.1 ?_
    refine q_iconstN (z := 1) d182_6 ?_
    refine nc_eq 12 d182_7 (by decide) (by omega) (by omega) (fun h7 => ?_) (fun h7 => (False.elim (h7 h1)))
    refine q_iconstN (z := 0) d182_12 ?_
    refine q_istore_n d182_13 (by decide) rfl ?_
    refine q_aload_n d182_14 rfl ?_
    refine q_iload_n d182_15 rfl ?_
    refine q_iconstN (z := 1) d182_16 ?_
    refine q_v2 d182_17 rfl rfl (xk_136 hX) (Nat.le_of_ble_eq_true rfl) (c179 hX hs hsa hT ho (by omega) ?_)
    refine q_istore_n d182_20 (by decide) rfl ?_
    refine q_iconstN (z := 0) d182_21 ?_
    refine q_istore d182_22 (by decide) rfl ?_
    refine qW_srt rfl rfl ?_
    exact l182 hX hs hsa hT ho h0 k (tn (T (gx S)) + 1) 0 (Nat.zero_le _) (by omega)
  · rw [if_neg h1] at k
    refine q_aload_n d182_0 rfl ?_
    refine q_getr (c := 8) (f := 11) d182_1 ⟨rfl, rfl⟩ (xk_136 hX) (xf_states hX) ?_
    refine q_iload_n d182_4 rfl ?_
    refine n_iald d182_5 (xk_states hX) (by omega) (by decide) hsa.1.1 ?_
    refine q_iconstN (z := 1) d182_6 ?_
    refine nc_eq 12 d182_7 (by decide) (by omega) (by omega) (fun h7 => (False.elim (h1 h7))) (fun h7 => ?_)
    refine q_iconstN (z := 0) d182_10 ?_
    refine q_iret d182_11 rfl ?_
    exact k
/-- the one of the done steps below i that came last -/
def yfd_ (L : List Nat) (i : Nat) : Option Nat := L.find? (fun j => decide (j < i))
def yfi (o : Option Nat) : Int32 := match o with
  | none => -1
  | some j => nI j
theorem yls_n {L : List Nat} {i : Nat} (h : i ∉ L) : yfd_ L (i + 1) = yfd_ L i := by
  unfold yfd_
  induction L with
  | nil => rfl
  | cons a t ih =>
    have ha : a ≠ i := fun e => h (by rw [e]; exact List.mem_cons_self)
    rw [List.find?_cons, List.find?_cons, ih (fun q => h (List.mem_cons_of_mem _ q))]
    rw [show decide (a < i + 1) = decide (a < i) by simp only [decide_eq_decide]; omega]
theorem yls_m {L : List Nat} {i j : Nat} (h : yfd_ L i = some j) : j ∈ L ∧ j < i := by
  unfold yfd_ at h
  have h2 := List.find?_some h
  exact ⟨List.mem_of_find?_eq_some h, of_decide_eq_true (show decide (j < i) = true from h2)⟩
theorem yls_s {w : Nat → Nat} {L : List Nat} {i : Nat} (hp : L.Pairwise (fun i j => w j < w i)) (h : i ∈ L) : (∀ j, yfd_ L i = some j → w j < w i) → yfd_ L (i + 1) = some i := by
  induction L with
  | nil => cases h
  | cons a t ih =>
    intro hj
    obtain ⟨h1, h2⟩ := List.pairwise_cons.mp hp
    unfold yfd_ at hj ⊢
    rw [List.find?_cons] at hj ⊢
    by_cases e : a = i
    · subst e
      rw [decide_eq_true (show a < a + 1 by omega)]
    · have hi : i ∈ t := (List.mem_cons.mp h).resolve_left (fun q => e q.symm)
      by_cases h3 : a < i
      · exfalso
        have := hj a (by rw [decide_eq_true h3])
        have := h1 i hi
        omega
      · rw [decide_eq_false (show ¬ a < i + 1 by omega)]
        exact ih h2 hi (fun j q => hj j (by rw [decide_eq_false h3]; exact q))
theorem yls_k {w : Nat → Nat} {L : List Nat} {i j : Nat} (hp : L.Pairwise (fun i j => w j < w i)) (h : i ∈ L) (hj : yfd_ L i = some j) (hw : w i ≤ w j) : yfd_ L (i + 1) = some j := by
  induction L with
  | nil => cases h
  | cons a t ih =>
    obtain ⟨h1, h2⟩ := List.pairwise_cons.mp hp
    unfold yfd_ at hj ⊢
    rw [List.find?_cons] at hj ⊢
    by_cases h3 : a < i
    · rw [decide_eq_true h3] at hj
      rw [decide_eq_true (show a < i + 1 by omega)]
      exact hj
    · rw [decide_eq_false h3] at hj
      by_cases e : a = i
      · subst e
        have hm : j ∈ t := List.mem_of_find?_eq_some hj
        have := h1 j hm
        omega
      · rw [decide_eq_false (show ¬ a < i + 1 by omega)]
        exact ih h2 ((List.mem_cons.mp h).resolve_left (fun q => e q.symm)) hj
theorem yls_12 {L : List Nat} (h : ∀ i, i ∈ L → i < 12) : yfi (yfd_ L 12) = ylast L := by
  cases L with
  | nil => rfl
  | cons a t =>
    unfold yfd_
    rw [List.find?_cons, decide_eq_true (h a List.mem_cons_self)]
    rfl
theorem yls_z (L : List Nat) : yfd_ L 0 = none := by
  unfold yfd_
  rw [List.find?_eq_none]
  intro x _
  simp
theorem d178_0 : decode (zB 178) 0 = .ok (.iconst (-1), 1) := (congrArg (fun c => decode c 0) zeq178).trans (by decide +kernel)
theorem d178_1 : decode (zB 178) 1 = .ok (.istore_n 2, 1) := (congrArg (fun c => decode c 1) zeq178).trans (by decide +kernel)
theorem d178_2 : decode (zB 178) 2 = .ok (.aload_n 0, 1) := (congrArg (fun c => decode c 2) zeq178).trans (by decide +kernel)
theorem d178_3 : decode (zB 178) 3 = .ok (.iload_n 1, 1) := (congrArg (fun c => decode c 3) zeq178).trans (by decide +kernel)
theorem d178_4 : decode (zB 178) 4 = .ok (.iconst 1, 1) := (congrArg (fun c => decode c 4) zeq178).trans (by decide +kernel)
theorem d178_5 : decode (zB 178) 5 = .ok (.invokevirtual 304, 3) := (congrArg (fun c => decode c 5) zeq178).trans (by decide +kernel)
theorem d178_8 : decode (zB 178) 8 = .ok (.istore_n 3, 1) := (congrArg (fun c => decode c 8) zeq178).trans (by decide +kernel)
theorem d178_9 : decode (zB 178) 9 = .ok (.iconst 0, 1) := (congrArg (fun c => decode c 9) zeq178).trans (by decide +kernel)
theorem d178_10 : decode (zB 178) 10 = .ok (.istore 4, 2) := (congrArg (fun c => decode c 10) zeq178).trans (by decide +kernel)
theorem d178_12 : decode (zB 178) 12 = .ok (.iload 4, 2) := (congrArg (fun c => decode c 12) zeq178).trans (by decide +kernel)
theorem d178_14 : decode (zB 178) 14 = .ok (.bipush 12, 2) := (congrArg (fun c => decode c 14) zeq178).trans (by decide +kernel)
theorem d178_16 : decode (zB 178) 16 = .ok (.if_icmp .ge 47, 3) := (congrArg (fun c => decode c 16) zeq178).trans (by decide +kernel)
theorem d178_19 : decode (zB 178) 19 = .ok (.iload_n 3, 1) := (congrArg (fun c => decode c 19) zeq178).trans (by decide +kernel)
theorem d178_20 : decode (zB 178) 20 = .ok (.iload 4, 2) := (congrArg (fun c => decode c 20) zeq178).trans (by decide +kernel)
theorem d178_22 : decode (zB 178) 22 = .ok (.ishr, 1) := (congrArg (fun c => decode c 22) zeq178).trans (by decide +kernel)
theorem d178_23 : decode (zB 178) 23 = .ok (.iconst 1, 1) := (congrArg (fun c => decode c 23) zeq178).trans (by decide +kernel)
theorem d178_24 : decode (zB 178) 24 = .ok (.iand, 1) := (congrArg (fun c => decode c 24) zeq178).trans (by decide +kernel)
theorem d178_25 : decode (zB 178) 25 = .ok (.iconst 1, 1) := (congrArg (fun c => decode c 25) zeq178).trans (by decide +kernel)
theorem d178_26 : decode (zB 178) 26 = .ok (.if_icmp .ne 31, 3) := (congrArg (fun c => decode c 26) zeq178).trans (by decide +kernel)
theorem d178_29 : decode (zB 178) 29 = .ok (.iload_n 2, 1) := (congrArg (fun c => decode c 29) zeq178).trans (by decide +kernel)
theorem d178_30 : decode (zB 178) 30 = .ok (.iconst (-1), 1) := (congrArg (fun c => decode c 30) zeq178).trans (by decide +kernel)
theorem d178_31 : decode (zB 178) 31 = .ok (.if_icmp .eq 23, 3) := (congrArg (fun c => decode c 31) zeq178).trans (by decide +kernel)
theorem d178_34 : decode (zB 178) 34 = .ok (.aload_n 0, 1) := (congrArg (fun c => decode c 34) zeq178).trans (by decide +kernel)
theorem d178_35 : decode (zB 178) 35 = .ok (.getfield 45, 3) := (congrArg (fun c => decode c 35) zeq178).trans (by decide +kernel)
theorem d178_38 : decode (zB 178) 38 = .ok (.iload_n 1, 1) := (congrArg (fun c => decode c 38) zeq178).trans (by decide +kernel)
theorem d178_39 : decode (zB 178) 39 = .ok (.aaload, 1) := (congrArg (fun c => decode c 39) zeq178).trans (by decide +kernel)
theorem d178_40 : decode (zB 178) 40 = .ok (.iload 4, 2) := (congrArg (fun c => decode c 40) zeq178).trans (by decide +kernel)
theorem d178_42 : decode (zB 178) 42 = .ok (.iaload, 1) := (congrArg (fun c => decode c 42) zeq178).trans (by decide +kernel)
theorem d178_43 : decode (zB 178) 43 = .ok (.aload_n 0, 1) := (congrArg (fun c => decode c 43) zeq178).trans (by decide +kernel)
theorem d178_44 : decode (zB 178) 44 = .ok (.getfield 45, 3) := (congrArg (fun c => decode c 44) zeq178).trans (by decide +kernel)
theorem d178_47 : decode (zB 178) 47 = .ok (.iload_n 1, 1) := (congrArg (fun c => decode c 47) zeq178).trans (by decide +kernel)
theorem d178_48 : decode (zB 178) 48 = .ok (.aaload, 1) := (congrArg (fun c => decode c 48) zeq178).trans (by decide +kernel)
theorem d178_49 : decode (zB 178) 49 = .ok (.iload_n 2, 1) := (congrArg (fun c => decode c 49) zeq178).trans (by decide +kernel)
theorem d178_50 : decode (zB 178) 50 = .ok (.iaload, 1) := (congrArg (fun c => decode c 50) zeq178).trans (by decide +kernel)
theorem d178_51 : decode (zB 178) 51 = .ok (.if_icmp .le 6, 3) := (congrArg (fun c => decode c 51) zeq178).trans (by decide +kernel)
theorem d178_54 : decode (zB 178) 54 = .ok (.iload 4, 2) := (congrArg (fun c => decode c 54) zeq178).trans (by decide +kernel)
theorem d178_56 : decode (zB 178) 56 = .ok (.istore_n 2, 1) := (congrArg (fun c => decode c 56) zeq178).trans (by decide +kernel)
theorem d178_57 : decode (zB 178) 57 = .ok (.iinc 4 1, 3) := (congrArg (fun c => decode c 57) zeq178).trans (by decide +kernel)
theorem d178_60 : decode (zB 178) 60 = .ok (.goto (-48), 3) := (congrArg (fun c => decode c 60) zeq178).trans (by decide +kernel)
theorem d178_63 : decode (zB 178) 63 = .ok (.iload_n 2, 1) := (congrArg (fun c => decode c 63) zeq178).trans (by decide +kernel)
theorem d178_64 : decode (zB 178) 64 = .ok (.ireturn, 1) := (congrArg (fun c => decode c 64) zeq178).trans (by decide +kernel)
theorem l178 {d : Nat} {M : zM} {Q : Option Value → zM → Prop} {T : Nat → yT} {c s κ : Nat} {S : yS} {w : Nat → Nat} (hX : SX M) (hs : s < 3) (hsa : XSa M s S κ) (hT : XTk M T c) (ho : OKS T c S) (hk : κ < 2147483648) (hw1 : ∀ i, i ∈ go S → zi M (182 + s) i = nI (w i) ∧ w i ≤ κ) (hw2 : (go S).Pairwise (fun i j => w j < w i)) (k : Q (some (.int (ylast (go S)))) M) : ∀ (r i : Nat), i ≤ 12 → 12 < i + r → qW (zEv (d + 1)) 178 Q 12 [(0, .ref 136), (1, .int (nI s)), (2, .int (yfi (yfd_ (go S) i))), (3, .int (nI (gm S 1))), (4, .int (nI i))] [] M := by
  intro r
  induction r with
  | zero => intros; omega
  | succ r ih =>
    intro i  h1 h2 
    have h12 : ∀ j, j ∈ go S → j < 12 := fun j hj => by
      have e := (ho.2.2.2.1 j).mp hj
      apply Classical.byContradiction
      intro q
      have := ho.2.2.2.2.1 j (by
        unfold gz
        by_cases h0 : gt S = 0
        · rw [if_pos h0]; omega
        · rw [if_neg h0]; have := (hT.2.2 _ (ho.2.1 h0)).n; omega)
      omega
    have hbit := gm_bit S 1 i
    have hg4 := gm_lt S 1
    by_cases h16 : i = 12
    · refine q_iload d178_12 rfl ?_
      refine q_bipush (x := nI 12) d178_14 rfl ?_
      refine nc_ge 63 d178_16 (by decide) (by omega) (by omega) (fun h16 => ?_) (fun h16 => (False.elim (by omega)))
      refine q_iload_n d178_63 rfl ?_
      refine q_iret d178_64 rfl ?_
      have e12 : i = 12 := by omega
      rw [e12, yls_12 h12]
      exact k
    · cases ef : yfd_ (go S) i with
      | none =>
        refine q_iload d178_12 rfl ?_
        refine q_bipush (x := nI 12) d178_14 rfl ?_
        refine nc_ge 63 d178_16 (by decide) (by omega) (by omega) (fun h16 => (False.elim (by omega))) (fun h16 => ?_)
        refine q_iload_n d178_19 rfl ?_
        refine q_iload d178_20 rfl ?_
        refine q_ishr d178_22 ?_
        refine q_iconstN (z := 1) d178_23 ?_
        refine q_iand d178_24 ?_
        rw [n_bit (by omega) (by omega)]
        refine q_iconstN (z := 1) d178_25 ?_
        refine ic_ne 57 d178_26 (by decide) (fun h26 => ?_) (fun h26 => ?_)
        · refine n_iinc 1 d178_57 (by decide) rfl rfl ?_
          refine q_goto 12 d178_60 (by decide) ?_
          refine qW_srt rfl rfl ?_
          have hni : i ∉ go S := fun q => h26 (by rw [hbit, (ho.2.2.2.1 i).mp q, decide_eq_true (show i < 12 by omega)]; rfl)
          rw [show yfi none = yfi (yfd_ (go S) (i + 1)) by rw [yls_n hni, ef]]
          exact ih (i + 1) (by omega) (by omega)
        · refine q_iload_n d178_29 rfl ?_
          refine q_iconst (x := (-1)) d178_30 rfl ?_
          refine ic_eq 54 d178_31 (by decide) (fun h31 => ?_) (fun h31 => (False.elim (h31 rfl)))
          refine q_iload d178_54 rfl ?_
          refine q_istore_n d178_56 (by decide) rfl ?_
          refine n_iinc 1 d178_57 (by decide) rfl rfl ?_
          refine q_goto 12 d178_60 (by decide) ?_
          refine qW_srt rfl rfl ?_
          have hmem : i ∈ go S := (ho.2.2.2.1 i).mpr (by
            apply Classical.byContradiction
            intro q
            rw [hbit, beq_false_of_ne q, Bool.and_false] at h26
            exact absurd h26 (by decide))
          rw [show nI i = yfi (yfd_ (go S) (i + 1)) by rw [yls_s hw2 hmem (fun j q => by rw [ef] at q; cases q)]; rfl]
          exact ih (i + 1) (by omega) (by omega)
      | some j =>
        obtain ⟨hjm, hji⟩ := yls_m ef
        refine q_iload d178_12 rfl ?_
        refine q_bipush (x := nI 12) d178_14 rfl ?_
        refine nc_ge 63 d178_16 (by decide) (by omega) (by omega) (fun h16 => (False.elim (by omega))) (fun h16 => ?_)
        refine q_iload_n d178_19 rfl ?_
        refine q_iload d178_20 rfl ?_
        refine q_ishr d178_22 ?_
        refine q_iconstN (z := 1) d178_23 ?_
        refine q_iand d178_24 ?_
        rw [n_bit (by omega) (by omega)]
        refine q_iconstN (z := 1) d178_25 ?_
        refine ic_ne 57 d178_26 (by decide) (fun h26 => ?_) (fun h26 => ?_)
        · refine n_iinc 1 d178_57 (by decide) rfl rfl ?_
          refine q_goto 12 d178_60 (by decide) ?_
          refine qW_srt rfl rfl ?_
          have hni : i ∉ go S := fun q => h26 (by rw [hbit, (ho.2.2.2.1 i).mp q, decide_eq_true (show i < 12 by omega)]; rfl)
          rw [show yfi (some j) = yfi (yfd_ (go S) (i + 1)) by rw [yls_n hni, ef]]
          exact ih (i + 1) (by omega) (by omega)
        · refine q_iload_n d178_29 rfl ?_
          refine q_iconst (x := (-1)) d178_30 rfl ?_
          refine ic_eq 54 d178_31 (by decide) (fun h31 => (False.elim (nI_m1 (by omega) h31))) (fun h31 => ?_)
          have hmem : i ∈ go S := (ho.2.2.2.1 i).mpr (by
            apply Classical.byContradiction
            intro q
            rw [hbit, beq_false_of_ne q, Bool.and_false] at h26
            exact absurd h26 (by decide))
          have hwi := (hw1 i hmem).2
          have hwj := (hw1 j hjm).2
          refine q_aload_n d178_34 rfl ?_
          refine q_getr (c := 8) (f := 14) d178_35 ⟨rfl, rfl⟩ (xk_136 hX) (xf_when hX) ?_
          refine q_iload_n d178_38 rfl ?_
          refine n_aald d178_39 (xk_when hX) (by decide) (by omega) (by decide) (xr_when hX (by omega)) ?_
          refine q_iload d178_40 rfl ?_
          refine n_iald d178_42 (xa_when hX (by omega)) (by omega) (by decide) (hw1 _ hmem).1 ?_
          refine q_aload_n d178_43 rfl ?_
          refine q_getr (c := 8) (f := 14) d178_44 ⟨rfl, rfl⟩ (xk_136 hX) (xf_when hX) ?_
          refine q_iload_n d178_47 rfl ?_
          refine n_aald d178_48 (xk_when hX) (by decide) (by omega) (by decide) (xr_when hX (by omega)) ?_
          refine q_iload_n d178_49 rfl ?_
          refine n_iald d178_50 (xa_when hX (by omega)) (by omega) (by decide) (hw1 _ hjm).1 ?_
          refine nc_le 57 d178_51 (by decide) (by omega) (by omega) (fun h51 => ?_) (fun h51 => ?_)
          · refine n_iinc 1 d178_57 (by decide) rfl rfl ?_
            refine q_goto 12 d178_60 (by decide) ?_
            refine qW_srt rfl rfl ?_
            rw [show yfi (some j) = yfi (yfd_ (go S) (i + 1)) by rw [yls_k hw2 hmem ef h51]]
            exact ih (i + 1) (by omega) (by omega)
          · refine q_iload d178_54 rfl ?_
            refine q_istore_n d178_56 (by decide) rfl ?_
            refine n_iinc 1 d178_57 (by decide) rfl rfl ?_
            refine q_goto 12 d178_60 (by decide) ?_
            refine qW_srt rfl rfl ?_
            rw [show nI i = yfi (yfd_ (go S) (i + 1)) by rw [yls_s hw2 hmem (fun j2 q => by rw [ef] at q; cases q; exact h51)]; rfl]
            exact ih (i + 1) (by omega) (by omega)
theorem c178 {d : Nat} {M : zM} {Q : Option Value → zM → Prop} {T : Nat → yT} {c s κ : Nat} {S : yS} (hX : SX M) (hs : s < 3) (hsa : XSa M s S κ) (hT : XTk M T c) (ho : OKS T c S) (hk : κ < 2147483648) (k : Q (some (.int (ylast (go S)))) M) : qC (d + 2) 178 [.ref 136, .int (nI s)] M Q := by
  refine qC_of (by decide) (Nat.le_of_ble_eq_true rfl) ?_
  obtain ⟨w, hw1, hw2⟩ := hsa.2.2.2
  refine q_iconst (x := (-1)) d178_0 rfl ?_
  refine q_istore_n d178_1 (by decide) rfl ?_
  refine q_aload_n d178_2 rfl ?_
  refine q_iload_n d178_3 rfl ?_
  refine q_iconstN (z := 1) d178_4 ?_
  refine q_v2 d178_5 rfl rfl (xk_136 hX) (Nat.le_of_ble_eq_true rfl) (c179 hX hs hsa hT ho (by omega) ?_)
  refine q_istore_n d178_8 (by decide) rfl ?_
  refine q_iconstN (z := 0) d178_9 ?_
  refine q_istore d178_10 (by decide) rfl ?_
  refine qW_srt rfl rfl ?_
  rw [show (-1 : Int32) = yfi (yfd_ (go S) 0) by rw [yls_z]; rfl]
  exact l178 hX hs hsa hT ho hk hw1 hw2 k 13 0 (by omega) (by omega)
/-! ===== the reference: sagas and the log change ===== -/
section RG
variable {G : List yL}
/-! a saga's cells change -/
/-- a saga's own cells -/
def GS (s : Nat) : Nat → Nat → Prop := fun b k => ((b = 175 ∨ b = 176) ∧ k = s) ∨ b = 178 + s ∨ b = 182 + s ∨ b = 186 + s ∨ b = 190 + s ∨ b = 194 + s ∨ b = 198 + s ∨ b = 202 + s
theorem XSa.fi {M M' : zM} {F : Nat → Nat → Prop} {s κ : Nat} {S : yS} (h : XSa M s S κ) (f : Fi F M M') (hs : ∀ b k, GS s b k → ¬ F b k) : XSa M' s S κ := by
  have g : ∀ b k, GS s b k → zi M' b k = zi M b k := fun b k q => f.1 b k (hs b k q)
  obtain ⟨⟨h1, h2⟩, h3, h4, w, h5, h6⟩ := h
  refine ⟨⟨(g _ _ (Or.inl ⟨Or.inl rfl, rfl⟩)).trans h1, (g _ _ (Or.inl ⟨Or.inr rfl, rfl⟩)).trans h2⟩, fun k hk => ⟨(g _ _ (by unfold GS; omega)).trans (h3 k hk).1, (g _ _ (by unfold GS; omega)).trans (h3 k hk).2.1, (g _ _ (by unfold GS; omega)).trans (h3 k hk).2.2.1, (g _ _ (by unfold GS; omega)).trans (h3 k hk).2.2.2.1, (g _ _ (by unfold GS; omega)).trans (h3 k hk).2.2.2.2⟩,
    fun k hk q => (g _ _ (by unfold GS; omega)).trans (h4 k hk q), w, fun i hi => ⟨(g _ _ (by unfold GS; omega)).trans (h5 i hi).1, (h5 i hi).2⟩, h6⟩
theorem XSa.up {M : zM} {s κ κ' : Nat} {S : yS} (h : XSa M s S κ) (hk : κ ≤ κ') : XSa M s S κ' := by
  obtain ⟨h1, h3, h4, w, h5, h6⟩ := h
  exact ⟨h1, h3, h4, w, fun i hi => ⟨(h5 i hi).1, Nat.le_trans (h5 i hi).2 hk⟩, h6⟩
theorem wi_or {M : zM} {a k b j : Nat} {v : Int32} {f : Nat → Int32} (hb : b = a) (h : zi M b j = f j) : zi (zwi M a k v) b j = yu f k v j := by
  subst hb
  by_cases e : j = k
  · subst e; rw [wi_s, yu_s]
  · rw [wi_n (Or.inr e), yu_n e]; exact h
theorem XSa.wf {M : zM} {s i κ : Nat} {v : Int32} {S : yS} (h : XSa M s S κ) (hs : s < 3) : XSa (zwi M (190 + s) i v) s (gfS S (yu (gf S) i v)) κ := by
  obtain ⟨⟨h1, h2⟩, h3, h4, w, h5, h6⟩ := h
  exact ⟨⟨(wi_n (Or.inl (by omega))).trans h1, (wi_n (Or.inl (by omega))).trans h2⟩, fun k hk => ⟨(wi_n (Or.inl (by omega))).trans (h3 k hk).1, wi_or rfl ((h3 k hk).2.1), (wi_n (Or.inl (by omega))).trans (h3 k hk).2.2.1, (wi_n (Or.inl (by omega))).trans (h3 k hk).2.2.2.1, (wi_n (Or.inl (by omega))).trans (h3 k hk).2.2.2.2⟩, fun k hk q => (wi_n (Or.inl (by omega))).trans (h4 k hk q), w, fun j hj => ⟨(wi_n (Or.inl (by omega))).trans (h5 j hj).1, (h5 j hj).2⟩, h6⟩
theorem XSa.ww {M : zM} {s i κ : Nat} {v : Int32} {S : yS} (h : XSa M s S κ) (hs : s < 3) : XSa (zwi M (194 + s) i v) s (gwS S (yu (gw S) i v)) κ := by
  obtain ⟨⟨h1, h2⟩, h3, h4, w, h5, h6⟩ := h
  exact ⟨⟨(wi_n (Or.inl (by omega))).trans h1, (wi_n (Or.inl (by omega))).trans h2⟩, fun k hk => ⟨(wi_n (Or.inl (by omega))).trans (h3 k hk).1, (wi_n (Or.inl (by omega))).trans (h3 k hk).2.1, wi_or rfl ((h3 k hk).2.2.1), (wi_n (Or.inl (by omega))).trans (h3 k hk).2.2.2.1, (wi_n (Or.inl (by omega))).trans (h3 k hk).2.2.2.2⟩, fun k hk q => (wi_n (Or.inl (by omega))).trans (h4 k hk q), w, fun j hj => ⟨(wi_n (Or.inl (by omega))).trans (h5 j hj).1, (h5 j hj).2⟩, h6⟩
theorem XSa.wp {M : zM} {s i κ : Nat} {v : Int32} {S : yS} (h : XSa M s S κ) (hs : s < 3) : XSa (zwi M (198 + s) i v) s (gpS S (yu (gp S) i v)) κ := by
  obtain ⟨⟨h1, h2⟩, h3, h4, w, h5, h6⟩ := h
  exact ⟨⟨(wi_n (Or.inl (by omega))).trans h1, (wi_n (Or.inl (by omega))).trans h2⟩, fun k hk => ⟨(wi_n (Or.inl (by omega))).trans (h3 k hk).1, (wi_n (Or.inl (by omega))).trans (h3 k hk).2.1, (wi_n (Or.inl (by omega))).trans (h3 k hk).2.2.1, wi_or rfl ((h3 k hk).2.2.2.1), (wi_n (Or.inl (by omega))).trans (h3 k hk).2.2.2.2⟩, fun k hk q => (wi_n (Or.inl (by omega))).trans (h4 k hk q), w, fun j hj => ⟨(wi_n (Or.inl (by omega))).trans (h5 j hj).1, (h5 j hj).2⟩, h6⟩
theorem XSa.wq {M : zM} {s i κ : Nat} {v : Int32} {S : yS} (h : XSa M s S κ) (hs : s < 3) : XSa (zwi M (202 + s) i v) s (gqS S (yu (gq S) i v)) κ := by
  obtain ⟨⟨h1, h2⟩, h3, h4, w, h5, h6⟩ := h
  exact ⟨⟨(wi_n (Or.inl (by omega))).trans h1, (wi_n (Or.inl (by omega))).trans h2⟩, fun k hk => ⟨(wi_n (Or.inl (by omega))).trans (h3 k hk).1, (wi_n (Or.inl (by omega))).trans (h3 k hk).2.1, (wi_n (Or.inl (by omega))).trans (h3 k hk).2.2.1, (wi_n (Or.inl (by omega))).trans (h3 k hk).2.2.2.1, wi_or rfl ((h3 k hk).2.2.2.2)⟩, fun k hk q => (wi_n (Or.inl (by omega))).trans (h4 k hk q), w, fun j hj => ⟨(wi_n (Or.inl (by omega))).trans (h5 j hj).1, (h5 j hj).2⟩, h6⟩
theorem XSa.wt {M : zM} {s t κ : Nat} {S : yS} (h : XSa M s S κ) (h0 : gt S ≠ 0) (ht : t ≠ 0) : XSa (zwi M 175 s (nI t)) s (gtS S t) κ := by
  obtain ⟨⟨h1, h2⟩, h3, h4, w, h5, h6⟩ := h
  refine ⟨⟨wi_s _ _ _ _, (wi_n (Or.inl (by omega))).trans (h2.trans ?_)⟩, fun k hk => ⟨(wi_n (Or.inl (by omega))).trans (h3 k hk).1, (wi_n (Or.inl (by omega))).trans (h3 k hk).2.1, (wi_n (Or.inl (by omega))).trans (h3 k hk).2.2.1, (wi_n (Or.inl (by omega))).trans (h3 k hk).2.2.2.1, (wi_n (Or.inl (by omega))).trans (h3 k hk).2.2.2.2⟩, fun k hk q => (wi_n (Or.inl (by omega))).trans (h4 k hk q), w, fun j hj => ⟨(wi_n (Or.inl (by omega))).trans (h5 j hj).1, (h5 j hj).2⟩, h6⟩
  show txt S = txt (gtS S t)
  unfold txt
  rw [if_neg h0]
  exact (if_neg ht).symm
/-- a step is undone, or parked -/
theorem XSa.wu {M : zM} {s i v κ : Nat} {S : yS} {l : List Nat} (h : XSa M s S κ) (hs : s < 3) (hg : go S = i :: l) (hv : v ≠ 1) : XSa (zwi M (178 + s) i (nI v)) s (goS (gdS S (yu (gd S) i v)) l) κ := by
  obtain ⟨⟨h1, h2⟩, h3, h4, w, h5, h6⟩ := h
  rw [hg] at h5 h6
  refine ⟨⟨(wi_n (Or.inl (by omega))).trans h1, (wi_n (Or.inl (by omega))).trans h2⟩, fun k hk => ⟨?_, (wi_n (Or.inl (by omega))).trans (h3 k hk).2.1, (wi_n (Or.inl (by omega))).trans (h3 k hk).2.2.1, (wi_n (Or.inl (by omega))).trans (h3 k hk).2.2.2.1, (wi_n (Or.inl (by omega))).trans (h3 k hk).2.2.2.2⟩, fun k hk q => ?_, w, fun j hj => ⟨(wi_n (Or.inl (by omega))).trans (h5 j (List.mem_cons_of_mem _ hj)).1, (h5 j (List.mem_cons_of_mem _ hj)).2⟩, (List.pairwise_cons.mp h6).2⟩
  · show zi (zwi M (178 + s) i (nI v)) (178 + s) k = nI (yu (gd S) i v k)
    by_cases e : k = i
    · subst e; rw [wi_s, yu_s]
    · rw [wi_n (Or.inr e), yu_n e]; exact (h3 k hk).1
  · have q : yu (gd S) i v k = 1 := q
    have hk2 : k ≠ i := fun e => by rw [e, yu_s] at q; exact hv q
    rw [yu_n hk2] at q
    exact (wi_n (Or.inl (by omega))).trans (h4 k hk q)
/-- a step is done -/
theorem XSa.wd {M : zM} {s i κ : Nat} {n : Int32} {S : yS} (h : XSa M s S κ) (hs : s < 3) (hi : i ∉ go S) : XSa (zwi (zwi (zwi (zwi M (178 + s) i (nI 1)) 136 20 (nI (κ + 1))) (182 + s) i (nI (κ + 1))) (186 + s) i n) s (yDn S i n) (κ + 1) := by
  obtain ⟨⟨h1, h2⟩, h3, h4, w, h5, h6⟩ := h
  have o : ∀ b j, b ≠ 178 + s → b ≠ 136 → b ≠ 182 + s → b ≠ 186 + s → zi (zwi (zwi (zwi (zwi M (178 + s) i (nI 1)) 136 20 (nI (κ + 1))) (182 + s) i (nI (κ + 1))) (186 + s) i n) b j = zi M b j := fun b j a1 a2 a3 a4 => by
    rw [wi_n (Or.inl a4), wi_n (Or.inl a3), wi_n (Or.inl a2), wi_n (Or.inl a1)]
  refine ⟨⟨(o _ _ (by omega) (by omega) (by omega) (by omega)).trans h1, (o _ _ (by omega) (by omega) (by omega) (by omega)).trans h2⟩, fun k hk => ⟨?_, (o _ _ (by omega) (by omega) (by omega) (by omega)).trans (h3 k hk).2.1, (o _ _ (by omega) (by omega) (by omega) (by omega)).trans (h3 k hk).2.2.1, (o _ _ (by omega) (by omega) (by omega) (by omega)).trans (h3 k hk).2.2.2.1, (o _ _ (by omega) (by omega) (by omega) (by omega)).trans (h3 k hk).2.2.2.2⟩, fun k hk q => ?_, yu w i (κ + 1), fun j hj => ?_, ?_⟩
  · show zi _ (178 + s) k = nI (yu (gd S) i 1 k)
    rw [wi_n (Or.inl (by omega)), wi_n (Or.inl (by omega)), wi_n (Or.inl (by omega))]
    by_cases e : k = i
    · subst e; rw [wi_s, yu_s]
    · rw [wi_n (Or.inr e), yu_n e]; exact (h3 k hk).1
  · show zi _ (186 + s) k = yu (gb S) i n k
    have q : yu (gd S) i 1 k = 1 := q
    by_cases e : k = i
    · subst e; rw [wi_s, yu_s]
    · rw [yu_n e] at q
      rw [wi_n (Or.inr e), wi_n (Or.inl (by omega)), wi_n (Or.inl (by omega)), wi_n (Or.inl (by omega)), yu_n e]
      exact h4 k hk q
  · rw [wi_n (Or.inl (by omega))]
    by_cases e : j = i
    · subst e; rw [wi_s, yu_s]; exact ⟨rfl, Nat.le_refl _⟩
    · rw [wi_n (Or.inr e), wi_n (Or.inl (by omega)), wi_n (Or.inl (by omega)), yu_n e]
      have hj2 := h5 j ((List.mem_cons.mp hj).resolve_left e)
      exact ⟨hj2.1, Nat.le_succ_of_le hj2.2⟩
  · refine List.pairwise_cons.mpr ⟨fun j hj => ?_, ?_⟩
    · have e : j ≠ i := fun q => hi (by rw [← q]; exact hj)
      rw [yu_s, yu_n e]
      exact Nat.lt_succ_of_le (h5 j hj).2
    · refine List.Pairwise.imp_of_mem (fun {a b} ha hb q => ?_) h6
      have ea : a ≠ i := fun q => hi (by rw [← q]; exact ha)
      have eb : b ≠ i := fun q => hi (by rw [← q]; exact hb)
      rw [yu_n ea, yu_n eb]; exact q
/-! the log -/
def XLg (M : zM) (L : List yL) : Prop := zi M 136 24 = nI L.length ∧ ∀ k, k < L.length → zi M 205 k = nI (L.getD k (0, 0, 0)).1 ∧ zi M 206 k = nI (L.getD k (0, 0, 0)).2.1 ∧ zi M 207 k = nI (L.getD k (0, 0, 0)).2.2
def XLo (G : List yL) (M : zM) (g : Option (List yL)) : Prop := match g with
  | none => zi M 136 25 = nI 1 ∧ XLg M G
  | some L => zi M 136 25 = nI 0 ∧ XLg M L
def GL : Nat → Nat → Prop := fun b k => (b = 136 ∧ k = 24) ∨ (204 < b ∧ b < 208)
theorem XLo.fi {M M' : zM} {F : Nat → Nat → Prop} {g : Option (List yL)} (h : XLo G M g) (f : Fi F M M') (hs : ∀ b k, (GL b k ∨ (b = 136 ∧ k = 25)) → ¬ F b k) : XLo G M' g := by
  have e : ∀ b k, (GL b k ∨ (b = 136 ∧ k = 25)) → zi M' b k = zi M b k := fun b k q => f.1 b k (hs b k q)
  cases g with
  | none => exact ⟨(e _ _ (Or.inr ⟨rfl, rfl⟩)).trans h.1, (e _ _ (Or.inl (Or.inl ⟨rfl, rfl⟩))).trans h.2.1, fun k hk => ⟨(e _ _ (Or.inl (by unfold GL; omega))).trans (h.2.2 k hk).1, (e _ _ (Or.inl (by unfold GL; omega))).trans (h.2.2 k hk).2.1, (e _ _ (Or.inl (by unfold GL; omega))).trans (h.2.2 k hk).2.2⟩⟩
  | some L => exact ⟨(e _ _ (Or.inr ⟨rfl, rfl⟩)).trans h.1, (e _ _ (Or.inl (Or.inl ⟨rfl, rfl⟩))).trans h.2.1, fun k hk => ⟨(e _ _ (Or.inl (by unfold GL; omega))).trans (h.2.2 k hk).1, (e _ _ (Or.inl (by unfold GL; omega))).trans (h.2.2 k hk).2.1, (e _ _ (Or.inl (by unfold GL; omega))).trans (h.2.2 k hk).2.2⟩⟩
theorem XLg_n {M : zM} {L : List yL} {a o w : Nat} (h : XLg M L) : XLg (zwi (zwi (zwi (zwi M 205 L.length (nI a)) 206 L.length (nI o)) 207 L.length (nI w)) 136 24 (nI (L.length + 1))) (L ++ [(a, o, w)]) := by
  refine ⟨by rw [wi_s, List.length_append]; rfl, fun k hk => ?_⟩
  rw [List.length_append] at hk
  have hk : k < L.length + 1 := hk
  by_cases e : k = L.length
  · subst e
    have g : (L ++ [(a, o, w)]).getD L.length (0, 0, 0) = (a, o, w) := by
      rw [List.getD_eq_getElem?_getD, List.getElem?_append_right (Nat.le_refl _), Nat.sub_self]; rfl
    rw [g]
    refine ⟨?_, ?_, ?_⟩
    · rw [wi_n (Or.inl (by omega)), wi_n (Or.inl (by omega)), wi_n (Or.inl (by omega)), wi_s]
    · rw [wi_n (Or.inl (by omega)), wi_n (Or.inl (by omega)), wi_s]
    · rw [wi_n (Or.inl (by omega)), wi_s]
  · have g : (L ++ [(a, o, w)]).getD k (0, 0, 0) = L.getD k (0, 0, 0) := by
      rw [List.getD_eq_getElem?_getD, List.getD_eq_getElem?_getD, List.getElem?_append_left (by omega)]
    rw [g]
    refine ⟨?_, ?_, ?_⟩
    · rw [wi_n (Or.inl (by omega)), wi_n (Or.inl (by omega)), wi_n (Or.inl (by omega)), wi_n (Or.inr e)]; exact (h.2 k (by omega)).1
    · rw [wi_n (Or.inl (by omega)), wi_n (Or.inl (by omega)), wi_n (Or.inr e), wi_n (Or.inl (by omega))]; exact (h.2 k (by omega)).2.1
    · rw [wi_n (Or.inl (by omega)), wi_n (Or.inr e), wi_n (Or.inl (by omega)), wi_n (Or.inl (by omega))]; exact (h.2 k (by omega)).2.2
theorem d171_0 : decode (zB 171) 0 = .ok (.aload_n 0, 1) := (congrArg (fun c => decode c 0) zeq171).trans (by decide +kernel)
theorem d171_1 : decode (zB 171) 1 = .ok (.getfield 298, 3) := (congrArg (fun c => decode c 1) zeq171).trans (by decide +kernel)
theorem d171_4 : decode (zB 171) 4 = .ok (.ifCond .eq 4, 3) := (congrArg (fun c => decode c 4) zeq171).trans (by decide +kernel)
theorem d171_7 : decode (zB 171) 7 = .ok (.return_, 1) := (congrArg (fun c => decode c 7) zeq171).trans (by decide +kernel)
theorem d171_8 : decode (zB 171) 8 = .ok (.aload_n 0, 1) := (congrArg (fun c => decode c 8) zeq171).trans (by decide +kernel)
theorem d171_9 : decode (zB 171) 9 = .ok (.getfield 67, 3) := (congrArg (fun c => decode c 9) zeq171).trans (by decide +kernel)
theorem d171_12 : decode (zB 171) 12 = .ok (.aload_n 0, 1) := (congrArg (fun c => decode c 12) zeq171).trans (by decide +kernel)
theorem d171_13 : decode (zB 171) 13 = .ok (.getfield 301, 3) := (congrArg (fun c => decode c 13) zeq171).trans (by decide +kernel)
theorem d171_16 : decode (zB 171) 16 = .ok (.iload_n 1, 1) := (congrArg (fun c => decode c 16) zeq171).trans (by decide +kernel)
theorem d171_17 : decode (zB 171) 17 = .ok (.iastore, 1) := (congrArg (fun c => decode c 17) zeq171).trans (by decide +kernel)
theorem d171_18 : decode (zB 171) 18 = .ok (.aload_n 0, 1) := (congrArg (fun c => decode c 18) zeq171).trans (by decide +kernel)
theorem d171_19 : decode (zB 171) 19 = .ok (.getfield 70, 3) := (congrArg (fun c => decode c 19) zeq171).trans (by decide +kernel)
theorem d171_22 : decode (zB 171) 22 = .ok (.aload_n 0, 1) := (congrArg (fun c => decode c 22) zeq171).trans (by decide +kernel)
theorem d171_23 : decode (zB 171) 23 = .ok (.getfield 301, 3) := (congrArg (fun c => decode c 23) zeq171).trans (by decide +kernel)
theorem d171_26 : decode (zB 171) 26 = .ok (.iload_n 2, 1) := (congrArg (fun c => decode c 26) zeq171).trans (by decide +kernel)
theorem d171_27 : decode (zB 171) 27 = .ok (.iastore, 1) := (congrArg (fun c => decode c 27) zeq171).trans (by decide +kernel)
theorem d171_28 : decode (zB 171) 28 = .ok (.aload_n 0, 1) := (congrArg (fun c => decode c 28) zeq171).trans (by decide +kernel)
theorem d171_29 : decode (zB 171) 29 = .ok (.getfield 73, 3) := (congrArg (fun c => decode c 29) zeq171).trans (by decide +kernel)
theorem d171_32 : decode (zB 171) 32 = .ok (.aload_n 0, 1) := (congrArg (fun c => decode c 32) zeq171).trans (by decide +kernel)
theorem d171_33 : decode (zB 171) 33 = .ok (.getfield 301, 3) := (congrArg (fun c => decode c 33) zeq171).trans (by decide +kernel)
theorem d171_36 : decode (zB 171) 36 = .ok (.iload_n 3, 1) := (congrArg (fun c => decode c 36) zeq171).trans (by decide +kernel)
theorem d171_37 : decode (zB 171) 37 = .ok (.iastore, 1) := (congrArg (fun c => decode c 37) zeq171).trans (by decide +kernel)
theorem d171_38 : decode (zB 171) 38 = .ok (.aload_n 0, 1) := (congrArg (fun c => decode c 38) zeq171).trans (by decide +kernel)
theorem d171_39 : decode (zB 171) 39 = .ok (.dup, 1) := (congrArg (fun c => decode c 39) zeq171).trans (by decide +kernel)
theorem d171_40 : decode (zB 171) 40 = .ok (.getfield 301, 3) := (congrArg (fun c => decode c 40) zeq171).trans (by decide +kernel)
theorem d171_43 : decode (zB 171) 43 = .ok (.iconst 1, 1) := (congrArg (fun c => decode c 43) zeq171).trans (by decide +kernel)
theorem d171_44 : decode (zB 171) 44 = .ok (.iadd, 1) := (congrArg (fun c => decode c 44) zeq171).trans (by decide +kernel)
theorem d171_45 : decode (zB 171) 45 = .ok (.putfield 301, 3) := (congrArg (fun c => decode c 45) zeq171).trans (by decide +kernel)
theorem d171_48 : decode (zB 171) 48 = .ok (.return_, 1) := (congrArg (fun c => decode c 48) zeq171).trans (by decide +kernel)
theorem c171 {d : Nat} {M : zM} {Q : Option Value → zM → Prop} {g : Option (List yL)} {a o w : Nat} (hX : SX M) (hL : XLo G M g) (hl : yln g + 1 ≤ 240) (k : ∀ M', XLo G M' (ylg g (a, o, w)) → Fi GL M M' → Q none M') : qC (d + 1) 171 [.ref 136, .int (nI a), .int (nI o), .int (nI w)] M Q := by
  refine qC_of (by decide) (Nat.le_of_ble_eq_true rfl) ?_
  cases g with
  | none =>
    refine q_aload_n d171_0 rfl ?_
    refine q_getv (c := 8) (f := 25) d171_1 ⟨rfl, by decide⟩ (xk_136 hX) hL.1 ?_
    refine n0_eq 8 d171_4 (by decide) (by decide) (fun q => absurd q (by decide)) (fun _ => ?_)
    refine q_ret d171_7 rfl ?_
    exact k _ hL (Fi.refl _ _)
  | some L =>
    have hl : L.length + 1 ≤ 240 := hl
    refine q_aload_n d171_0 rfl ?_
    refine q_getv (c := 8) (f := 25) d171_1 ⟨rfl, by decide⟩ (xk_136 hX) hL.1 ?_
    refine n0_eq 8 d171_4 (by decide) (by decide) (fun _ => ?_) (fun q => absurd q (by decide))
    refine q_aload_n d171_8 rfl ?_
    refine q_getr (c := 8) (f := 26) d171_9 ⟨rfl, rfl⟩ (xk_136 hX) (xf_acts hX) ?_
    refine q_aload_n d171_12 rfl ?_
    refine q_getv (c := 8) (f := 24) d171_13 ⟨rfl, by decide⟩ (xk_136 hX) hL.2.1 ?_
    refine q_iload_n d171_16 rfl ?_
    refine n_iast d171_17 (xk_acts hX) (by omega) (by decide) ?_
    refine q_aload_n d171_18 rfl ?_
    refine q_getr (c := 8) (f := 27) d171_19 ⟨rfl, rfl⟩ (xk_136 hX) (xf_whose hX) ?_
    refine q_aload_n d171_22 rfl ?_
    refine q_getv (c := 8) (f := 24) d171_23 ⟨rfl, by decide⟩ (xk_136 hX) (Eq.trans (by (repeat (first | rw [wi_n (Or.inl (by omega))] | rw [wi_n (Or.inr (by omega))] | rw [wi_s] | rw [wr_i] | rw [cp_n (by omega)]))) hL.2.1) ?_
    refine q_iload_n d171_26 rfl ?_
    refine n_iast d171_27 (xk_whose hX) (by omega) (by decide) ?_
    refine q_aload_n d171_28 rfl ?_
    refine q_getr (c := 8) (f := 28) d171_29 ⟨rfl, rfl⟩ (xk_136 hX) (xf_which hX) ?_
    refine q_aload_n d171_32 rfl ?_
    refine q_getv (c := 8) (f := 24) d171_33 ⟨rfl, by decide⟩ (xk_136 hX) (Eq.trans (by (repeat (first | rw [wi_n (Or.inl (by omega))] | rw [wi_n (Or.inr (by omega))] | rw [wi_s] | rw [wr_i] | rw [cp_n (by omega)]))) hL.2.1) ?_
    refine q_iload_n d171_36 rfl ?_
    refine n_iast d171_37 (xk_which hX) (by omega) (by decide) ?_
    refine q_aload_n d171_38 rfl ?_
    refine q_dup d171_39 rfl ?_
    refine q_getv (c := 8) (f := 24) d171_40 ⟨rfl, by decide⟩ (xk_136 hX) (Eq.trans (by (repeat (first | rw [wi_n (Or.inl (by omega))] | rw [wi_n (Or.inr (by omega))] | rw [wi_s] | rw [wr_i] | rw [cp_n (by omega)]))) hL.2.1) ?_
    refine q_iconstN (z := 1) d171_43 ?_
    refine n_iadd d171_44 ?_
    refine q_puti (c := 8) (f := 24) d171_45 ⟨rfl, rfl, by decide⟩ (xk_136 hX) ?_
    refine q_ret d171_48 rfl ?_
    exact k _ ⟨(wi_n (Or.inr (by omega))).trans ((wi_n (Or.inl (by omega))).trans ((wi_n (Or.inl (by omega))).trans ((wi_n (Or.inl (by omega))).trans hL.1))), XLg_n hL.2⟩ (((((Fi.refl _ _).wi (by unfold GL; omega)).wi (by unfold GL; omega)).wi (by unfold GL; omega)).wi (by unfold GL; omega))
theorem d184_0 : decode (zB 184) 0 = .ok (.aload_n 0, 1) := (congrArg (fun c => decode c 0) zeq184).trans (by decide +kernel)
theorem d184_1 : decode (zB 184) 1 = .ok (.getfield 42, 3) := (congrArg (fun c => decode c 1) zeq184).trans (by decide +kernel)
theorem d184_4 : decode (zB 184) 4 = .ok (.iload_n 1, 1) := (congrArg (fun c => decode c 4) zeq184).trans (by decide +kernel)
theorem d184_5 : decode (zB 184) 5 = .ok (.aaload, 1) := (congrArg (fun c => decode c 5) zeq184).trans (by decide +kernel)
theorem d184_6 : decode (zB 184) 6 = .ok (.iload_n 2, 1) := (congrArg (fun c => decode c 6) zeq184).trans (by decide +kernel)
theorem d184_7 : decode (zB 184) 7 = .ok (.iconst 1, 1) := (congrArg (fun c => decode c 7) zeq184).trans (by decide +kernel)
theorem d184_8 : decode (zB 184) 8 = .ok (.iastore, 1) := (congrArg (fun c => decode c 8) zeq184).trans (by decide +kernel)
theorem d184_9 : decode (zB 184) 9 = .ok (.aload_n 0, 1) := (congrArg (fun c => decode c 9) zeq184).trans (by decide +kernel)
theorem d184_10 : decode (zB 184) 10 = .ok (.dup, 1) := (congrArg (fun c => decode c 10) zeq184).trans (by decide +kernel)
theorem d184_11 : decode (zB 184) 11 = .ok (.getfield 291, 3) := (congrArg (fun c => decode c 11) zeq184).trans (by decide +kernel)
theorem d184_14 : decode (zB 184) 14 = .ok (.iconst 1, 1) := (congrArg (fun c => decode c 14) zeq184).trans (by decide +kernel)
theorem d184_15 : decode (zB 184) 15 = .ok (.iadd, 1) := (congrArg (fun c => decode c 15) zeq184).trans (by decide +kernel)
theorem d184_16 : decode (zB 184) 16 = .ok (.putfield 291, 3) := (congrArg (fun c => decode c 16) zeq184).trans (by decide +kernel)
theorem d184_19 : decode (zB 184) 19 = .ok (.aload_n 0, 1) := (congrArg (fun c => decode c 19) zeq184).trans (by decide +kernel)
theorem d184_20 : decode (zB 184) 20 = .ok (.getfield 45, 3) := (congrArg (fun c => decode c 20) zeq184).trans (by decide +kernel)
theorem d184_23 : decode (zB 184) 23 = .ok (.iload_n 1, 1) := (congrArg (fun c => decode c 23) zeq184).trans (by decide +kernel)
theorem d184_24 : decode (zB 184) 24 = .ok (.aaload, 1) := (congrArg (fun c => decode c 24) zeq184).trans (by decide +kernel)
theorem d184_25 : decode (zB 184) 25 = .ok (.iload_n 2, 1) := (congrArg (fun c => decode c 25) zeq184).trans (by decide +kernel)
theorem d184_26 : decode (zB 184) 26 = .ok (.aload_n 0, 1) := (congrArg (fun c => decode c 26) zeq184).trans (by decide +kernel)
theorem d184_27 : decode (zB 184) 27 = .ok (.getfield 291, 3) := (congrArg (fun c => decode c 27) zeq184).trans (by decide +kernel)
theorem d184_30 : decode (zB 184) 30 = .ok (.iastore, 1) := (congrArg (fun c => decode c 30) zeq184).trans (by decide +kernel)
theorem d184_31 : decode (zB 184) 31 = .ok (.aload_n 0, 1) := (congrArg (fun c => decode c 31) zeq184).trans (by decide +kernel)
theorem d184_32 : decode (zB 184) 32 = .ok (.getfield 48, 3) := (congrArg (fun c => decode c 32) zeq184).trans (by decide +kernel)
theorem d184_35 : decode (zB 184) 35 = .ok (.iload_n 1, 1) := (congrArg (fun c => decode c 35) zeq184).trans (by decide +kernel)
theorem d184_36 : decode (zB 184) 36 = .ok (.aaload, 1) := (congrArg (fun c => decode c 36) zeq184).trans (by decide +kernel)
theorem d184_37 : decode (zB 184) 37 = .ok (.iload_n 2, 1) := (congrArg (fun c => decode c 37) zeq184).trans (by decide +kernel)
theorem d184_38 : decode (zB 184) 38 = .ok (.iload_n 3, 1) := (congrArg (fun c => decode c 38) zeq184).trans (by decide +kernel)
theorem d184_39 : decode (zB 184) 39 = .ok (.iastore, 1) := (congrArg (fun c => decode c 39) zeq184).trans (by decide +kernel)
theorem d184_40 : decode (zB 184) 40 = .ok (.return_, 1) := (congrArg (fun c => decode c 40) zeq184).trans (by decide +kernel)
theorem c184 {d : Nat} {M : zM} {Q : Option Value → zM → Prop} {s i κ : Nat} {n : Int32} {S : yS} (hX : SX M) (hs : s < 3) (hi : i < 12) (hsa : XSa M s S κ) (hc : zi M 136 20 = nI κ) (hκ : κ + 1 < 2147483648) (hni : i ∉ go S) (k : ∀ M', XSa M' s (yDn S i n) (κ + 1) → zi M' 136 20 = nI (κ + 1) → Fi (fun b k => (b = 136 ∧ k = 20) ∨ b = 178 + s ∨ b = 182 + s ∨ b = 186 + s) M M' → Q none M') : qC (d + 1) 184 [.ref 136, .int (nI s), .int (nI i), .int n] M Q := by
  refine qC_of (by decide) (Nat.le_of_ble_eq_true rfl) ?_
  refine q_aload_n d184_0 rfl ?_
  refine q_getr (c := 8) (f := 13) d184_1 ⟨rfl, rfl⟩ (xk_136 hX) (xf_stands hX) ?_
  refine q_iload_n d184_4 rfl ?_
  refine n_aald d184_5 (xk_stands hX) (by decide) (by omega) (by decide) (xr_stands hX (by omega)) ?_
  refine q_iload_n d184_6 rfl ?_
  refine q_iconstN (z := 1) d184_7 ?_
  refine n_iast d184_8 (xa_stands hX (by omega)) (by omega) (by decide) ?_
  refine q_aload_n d184_9 rfl ?_
  refine q_dup d184_10 rfl ?_
  refine q_getv (c := 8) (f := 20) d184_11 ⟨rfl, by decide⟩ (xk_136 hX) (Eq.trans (by (repeat (first | rw [wi_n (Or.inl (by omega))] | rw [wi_n (Or.inr (by omega))] | rw [wi_s] | rw [wr_i] | rw [cp_n (by omega)]))) hc) ?_
  refine q_iconstN (z := 1) d184_14 ?_
  refine n_iadd d184_15 ?_
  refine q_puti (c := 8) (f := 20) d184_16 ⟨rfl, rfl, by decide⟩ (xk_136 hX) ?_
  refine q_aload_n d184_19 rfl ?_
  refine q_getr (c := 8) (f := 14) d184_20 ⟨rfl, rfl⟩ (xk_136 hX) (xf_when hX) ?_
  refine q_iload_n d184_23 rfl ?_
  refine n_aald d184_24 (xk_when hX) (by decide) (by omega) (by decide) (xr_when hX (by omega)) ?_
  refine q_iload_n d184_25 rfl ?_
  refine q_aload_n d184_26 rfl ?_
  refine q_getv (c := 8) (f := 20) d184_27 ⟨rfl, by decide⟩ (xk_136 hX) (wi_s _ _ _ _) ?_
  refine n_iast d184_30 (xa_when hX (by omega)) (by omega) (by decide) ?_
  refine q_aload_n d184_31 rfl ?_
  refine q_getr (c := 8) (f := 15) d184_32 ⟨rfl, rfl⟩ (xk_136 hX) (xf_by hX) ?_
  refine q_iload_n d184_35 rfl ?_
  refine n_aald d184_36 (xk_by hX) (by decide) (by omega) (by decide) (xr_by hX (by omega)) ?_
  refine q_iload_n d184_37 rfl ?_
  refine q_iload_n d184_38 rfl ?_
  refine n_iast d184_39 (xa_by hX (by omega)) (by omega) (by decide) ?_
  refine q_ret d184_40 rfl ?_
  exact k _ (hsa.wd hs hni) ((wi_n (Or.inl (by omega))).trans ((wi_n (Or.inl (by omega))).trans (wi_s _ _ _ _))) (((((Fi.refl _ _).wi (by omega)).wi (by omega)).wi (by omega)).wi (by omega))
theorem d181_0 : decode (zB 181) 0 = .ok (.aload_n 0, 1) := (congrArg (fun c => decode c 0) zeq181).trans (by decide +kernel)
theorem d181_1 : decode (zB 181) 1 = .ok (.getfield 36, 3) := (congrArg (fun c => decode c 1) zeq181).trans (by decide +kernel)
theorem d181_4 : decode (zB 181) 4 = .ok (.iload_n 1, 1) := (congrArg (fun c => decode c 4) zeq181).trans (by decide +kernel)
theorem d181_5 : decode (zB 181) 5 = .ok (.iload_n 2, 1) := (congrArg (fun c => decode c 5) zeq181).trans (by decide +kernel)
theorem d181_6 : decode (zB 181) 6 = .ok (.iastore, 1) := (congrArg (fun c => decode c 6) zeq181).trans (by decide +kernel)
theorem d181_7 : decode (zB 181) 7 = .ok (.aload_n 0, 1) := (congrArg (fun c => decode c 7) zeq181).trans (by decide +kernel)
theorem d181_8 : decode (zB 181) 8 = .ok (.iconst 5, 1) := (congrArg (fun c => decode c 8) zeq181).trans (by decide +kernel)
theorem d181_9 : decode (zB 181) 9 = .ok (.iload_n 1, 1) := (congrArg (fun c => decode c 9) zeq181).trans (by decide +kernel)
theorem d181_10 : decode (zB 181) 10 = .ok (.iload_n 2, 1) := (congrArg (fun c => decode c 10) zeq181).trans (by decide +kernel)
theorem d181_11 : decode (zB 181) 11 = .ok (.invokevirtual 307, 3) := (congrArg (fun c => decode c 11) zeq181).trans (by decide +kernel)
theorem d181_14 : decode (zB 181) 14 = .ok (.return_, 1) := (congrArg (fun c => decode c 14) zeq181).trans (by decide +kernel)
theorem c181 {d : Nat} {M : zM} {Q : Option Value → zM → Prop} {s t κ : Nat} {S : yS} {g : Option (List yL)} (hX : SX M) (hs : s < 3) (hsa : XSa M s S κ) (h0 : gt S ≠ 0) (ht : t ≠ 0) (hL : XLo G M g) (hl : yln g + 1 ≤ 240) (k : ∀ M', XSa M' s (gtS S t) κ → XLo G M' (ylg g (5, s, t)) → Fi (fun b k => (b = 175 ∧ k = s) ∨ GL b k) M M' → Q none M') : qC (d + 2) 181 [.ref 136, .int (nI s), .int (nI t)] M Q := by
  refine qC_of (by decide) (Nat.le_of_ble_eq_true rfl) ?_
  refine q_aload_n d181_0 rfl ?_
  refine q_getr (c := 8) (f := 11) d181_1 ⟨rfl, rfl⟩ (xk_136 hX) (xf_states hX) ?_
  refine q_iload_n d181_4 rfl ?_
  refine q_iload_n d181_5 rfl ?_
  refine n_iast d181_6 (xk_states hX) (by omega) (by decide) ?_
  have h1 := hsa.wt h0 ht
  have f0 : Fi (fun b k => (b = 175 ∧ k = s)) M (zwi M 175 s (nI t)) := (Fi.refl _ _).wi ⟨rfl, rfl⟩
  have hL1 := hL.fi f0 (fun b k q => by unfold GL at q; omega)
  refine q_aload_n d181_7 rfl ?_
  refine q_iconstN (z := 5) d181_8 ?_
  refine q_iload_n d181_9 rfl ?_
  refine q_iload_n d181_10 rfl ?_
  refine q_v3 d181_11 rfl rfl (xk_136 hX) (Nat.le_of_ble_eq_true rfl) (c171 hX hL1 hl (fun M2 hL2 f2 => ?_))
  refine q_ret d181_14 rfl ?_
  exact k _ (h1.fi f2 (fun b k q => by unfold GS at q; unfold GL; omega)) hL2 ((f0.mono (fun b k q => Or.inl q)).trans (f2.mono (fun b k q => Or.inr q)))
end RG
/-! ===== the reference: a try ===== -/
section RG
variable {G : List yL}
/-! the reference's world -/
def XO (M : zM) (o : Option (Nat × Nat × Int32)) : Prop := match o with
  | none => zi M 136 21 = -1
  | some q => zi M 136 21 = nI q.1 ∧ zi M 136 22 = nI q.2.1 ∧ zi M 136 23 = q.2.2 ∧ q.1 < 3 ∧ q.2.1 < 12
def xnv (o : Option (Nat × Nat × Int32)) (T : Nat → yT) (x s k : Nat) : Int32 := match o with
  | none => tu (T x) k
  | some q => if q.1 = s ∧ q.2.1 = k then q.2.2 else tu (T x) k
def XN (M : zM) (T : Nat → yT) (nm : Nat → Nat → Int32) (W : yW) : Prop := ∃ o, XO M o ∧ ∀ s, s < 3 → gt (W.2 s) ≠ 0 → ∀ k, k < tn (T (gx (W.2 s))) → nm s k = xnv o T (gx (W.2 s)) s k
def CX (G : List yL) (M : zM) (T : Nat → yT) (c : Nat) (nm : Nat → Nat → Int32) (X : yX) (κ : Nat) : Prop := SX M ∧ XTx M T c ∧ OKW T c X.1 ∧ XPu M X.1.1 ∧ (∀ s, s < 3 → XSa M s (X.1.2 s) κ) ∧ zi M 136 20 = nI κ ∧ XLo G M X.2 ∧ XN M T nm X.1
theorem CX.k {M : zM} {T : Nat → yT} {c κ : Nat} {nm : Nat → Nat → Int32} {X : yX} (h : CX G M T c nm X κ) : XTk M T c := ⟨h.2.1, h.2.2.1.1⟩
/-- what ticks write -/
def FX : Nat → Nat → Prop := fun b k => (b = 136 ∧ (k = 9 ∨ k = 10 ∨ k = 20 ∨ k = 24)) ∨ b = 174 ∨ b = 175 ∨ (177 < b ∧ b < 208)
/-- what a turn of a saga writes -/
def F2 (s : Nat) : Nat → Nat → Prop := fun b k => GP b k ∨ GL b k ∨ (b = 136 ∧ k = 20) ∨ (b = 175 ∧ k = s) ∨ b = 178 + s ∨ b = 182 + s ∨ b = 186 + s ∨ b = 190 + s ∨ b = 194 + s ∨ b = 198 + s ∨ b = 202 + s
theorem F2_X {s b k : Nat} (hs : s < 3) (h : F2 s b k) : FX b k := by unfold F2 GP GL at h; unfold FX; omega
theorem XN.fi {M M' : zM} {T : Nat → yT} {nm : Nat → Nat → Int32} {W W' : yW} (h : XN M T nm W) (e : ∀ k, k = 21 ∨ k = 22 ∨ k = 23 → zi M' 136 k = zi M 136 k) (hW : ∀ s, s < 3 → gt (W'.2 s) ≠ 0 → gt (W.2 s) ≠ 0 ∧ gx (W'.2 s) = gx (W.2 s)) : XN M' T nm W' := by
  obtain ⟨o, h1, h2⟩ := h
  refine ⟨o, ?_, fun s hs h0 k hk => ?_⟩
  · cases o with
    | none => exact (e _ (Or.inl rfl)).trans h1
    | some q => exact ⟨(e _ (Or.inl rfl)).trans h1.1, (e _ (Or.inr (Or.inl rfl))).trans h1.2.1, (e _ (Or.inr (Or.inr rfl))).trans h1.2.2.1, h1.2.2.2⟩
  · obtain ⟨g1, g2⟩ := hW s hs h0
    rw [g2] at hk ⊢
    exact h2 s hs g1 k hk
/-- a saga's turn keeps the world -/
theorem CX.sg {M M' : zM} {T : Nat → yT} {c s κ κ' : Nat} {nm : Nat → Nat → Int32} {X X' : yX} (h : CX G M T c nm X κ) (hs : s < 3) (f : Fi (F2 s) M M') (hP : XPu M' X'.1.1) (hS : XSa M' s (X'.1.2 s) κ') (hk : κ ≤ κ') (hc : zi M' 136 20 = nI κ') (hL : XLo G M' X'.2) (hr : ∀ r, r ≠ s → X'.1.2 r = X.1.2 r) (hO : OKW T c X'.1) (hx : gx (X'.1.2 s) = gx (X.1.2 s)) (h0 : gt (X.1.2 s) ≠ 0) : CX G M' T c nm X' κ' := by
  obtain ⟨h1, h2, h3, h4, h5, h6, h7, h8⟩ := h
  refine ⟨SX_fi h1 f, XTx_fi h2 h3.1.1 f (fun b k b1 b2 q => by unfold F2 GP GL at q; omega), hO, hP, fun r hr3 => ?_, hc, hL, h8.fi (fun k hk => f.1 _ _ (fun q => by unfold F2 GP GL at q; omega)) (fun r hr3 hg => ?_)⟩
  · by_cases e : r = s
    · subst e; exact hS
    · rw [hr r e]
      exact ((h5 r hr3).fi f (fun b k q1 q2 => by unfold GS at q1; unfold F2 GP GL at q2; omega)).up hk
  · by_cases e : r = s
    · subst e; exact ⟨h0, hx⟩
    · rw [hr r e] at hg ⊢; exact ⟨hg, rfl⟩

theorem yA1 {X : yX} {s : Nat} {A : yS} {x : yL} : (yno (yss X s A) x).1.2 s = A := yu_s _ _ _
theorem yA1n {X : yX} {s r : Nat} {A : yS} {x : yL} (h : r ≠ s) : (yno (yss X s A) x).1.2 r = X.1.2 r := yu_n h
theorem yA2 {X : yX} {s v : Nat} : (yen X s v).1.2 s = gtS (X.1.2 s) v := yu_s _ _ _
theorem yA2n {X : yX} {s r v : Nat} (h : r ≠ s) : (yen X s v).1.2 r = X.1.2 r := yu_n h
theorem d183_0 : decode (zB 183) 0 = .ok (.aload_n 0, 1) := (congrArg (fun c => decode c 0) zeq183).trans (by decide +kernel)
theorem d183_1 : decode (zB 183) 1 = .ok (.getfield 39, 3) := (congrArg (fun c => decode c 1) zeq183).trans (by decide +kernel)
theorem d183_4 : decode (zB 183) 4 = .ok (.iload_n 1, 1) := (congrArg (fun c => decode c 4) zeq183).trans (by decide +kernel)
theorem d183_5 : decode (zB 183) 5 = .ok (.iaload, 1) := (congrArg (fun c => decode c 5) zeq183).trans (by decide +kernel)
theorem d183_6 : decode (zB 183) 6 = .ok (.istore_n 3, 1) := (congrArg (fun c => decode c 6) zeq183).trans (by decide +kernel)
theorem d183_7 : decode (zB 183) 7 = .ok (.aload_n 0, 1) := (congrArg (fun c => decode c 7) zeq183).trans (by decide +kernel)
theorem d183_8 : decode (zB 183) 8 = .ok (.getfield 63, 3) := (congrArg (fun c => decode c 8) zeq183).trans (by decide +kernel)
theorem d183_11 : decode (zB 183) 11 = .ok (.iload_n 1, 1) := (congrArg (fun c => decode c 11) zeq183).trans (by decide +kernel)
theorem d183_12 : decode (zB 183) 12 = .ok (.if_icmp .ne 18, 3) := (congrArg (fun c => decode c 12) zeq183).trans (by decide +kernel)
theorem d183_15 : decode (zB 183) 15 = .ok (.aload_n 0, 1) := (congrArg (fun c => decode c 15) zeq183).trans (by decide +kernel)
theorem d183_16 : decode (zB 183) 16 = .ok (.getfield 311, 3) := (congrArg (fun c => decode c 16) zeq183).trans (by decide +kernel)
theorem d183_19 : decode (zB 183) 19 = .ok (.iload_n 2, 1) := (congrArg (fun c => decode c 19) zeq183).trans (by decide +kernel)
theorem d183_20 : decode (zB 183) 20 = .ok (.if_icmp .ne 10, 3) := (congrArg (fun c => decode c 20) zeq183).trans (by decide +kernel)
theorem d183_23 : decode (zB 183) 23 = .ok (.aload_n 0, 1) := (congrArg (fun c => decode c 23) zeq183).trans (by decide +kernel)
theorem d183_24 : decode (zB 183) 24 = .ok (.getfield 314, 3) := (congrArg (fun c => decode c 24) zeq183).trans (by decide +kernel)
theorem d183_27 : decode (zB 183) 27 = .ok (.goto 11, 3) := (congrArg (fun c => decode c 27) zeq183).trans (by decide +kernel)
theorem d183_30 : decode (zB 183) 30 = .ok (.aload_n 0, 1) := (congrArg (fun c => decode c 30) zeq183).trans (by decide +kernel)
theorem d183_31 : decode (zB 183) 31 = .ok (.getfield 27, 3) := (congrArg (fun c => decode c 31) zeq183).trans (by decide +kernel)
theorem d183_34 : decode (zB 183) 34 = .ok (.iload_n 3, 1) := (congrArg (fun c => decode c 34) zeq183).trans (by decide +kernel)
theorem d183_35 : decode (zB 183) 35 = .ok (.aaload, 1) := (congrArg (fun c => decode c 35) zeq183).trans (by decide +kernel)
theorem d183_36 : decode (zB 183) 36 = .ok (.iload_n 2, 1) := (congrArg (fun c => decode c 36) zeq183).trans (by decide +kernel)
theorem d183_37 : decode (zB 183) 37 = .ok (.iaload, 1) := (congrArg (fun c => decode c 37) zeq183).trans (by decide +kernel)
theorem d183_38 : decode (zB 183) 38 = .ok (.istore 4, 2) := (congrArg (fun c => decode c 38) zeq183).trans (by decide +kernel)
theorem d183_40 : decode (zB 183) 40 = .ok (.aload_n 0, 1) := (congrArg (fun c => decode c 40) zeq183).trans (by decide +kernel)
theorem d183_41 : decode (zB 183) 41 = .ok (.getfield 57, 3) := (congrArg (fun c => decode c 41) zeq183).trans (by decide +kernel)
theorem d183_44 : decode (zB 183) 44 = .ok (.iload_n 1, 1) := (congrArg (fun c => decode c 44) zeq183).trans (by decide +kernel)
theorem d183_45 : decode (zB 183) 45 = .ok (.aaload, 1) := (congrArg (fun c => decode c 45) zeq183).trans (by decide +kernel)
theorem d183_46 : decode (zB 183) 46 = .ok (.iload_n 2, 1) := (congrArg (fun c => decode c 46) zeq183).trans (by decide +kernel)
theorem d183_47 : decode (zB 183) 47 = .ok (.iaload, 1) := (congrArg (fun c => decode c 47) zeq183).trans (by decide +kernel)
theorem d183_48 : decode (zB 183) 48 = .ok (.ifCond .le 21, 3) := (congrArg (fun c => decode c 48) zeq183).trans (by decide +kernel)
theorem d183_51 : decode (zB 183) 51 = .ok (.aload_n 0, 1) := (congrArg (fun c => decode c 51) zeq183).trans (by decide +kernel)
theorem d183_52 : decode (zB 183) 52 = .ok (.getfield 57, 3) := (congrArg (fun c => decode c 52) zeq183).trans (by decide +kernel)
theorem d183_55 : decode (zB 183) 55 = .ok (.iload_n 1, 1) := (congrArg (fun c => decode c 55) zeq183).trans (by decide +kernel)
theorem d183_56 : decode (zB 183) 56 = .ok (.aaload, 1) := (congrArg (fun c => decode c 56) zeq183).trans (by decide +kernel)
theorem d183_57 : decode (zB 183) 57 = .ok (.iload_n 2, 1) := (congrArg (fun c => decode c 57) zeq183).trans (by decide +kernel)
theorem d183_58 : decode (zB 183) 58 = .ok (.dup2, 1) := (congrArg (fun c => decode c 58) zeq183).trans (by decide +kernel)
theorem d183_59 : decode (zB 183) 59 = .ok (.iaload, 1) := (congrArg (fun c => decode c 59) zeq183).trans (by decide +kernel)
theorem d183_60 : decode (zB 183) 60 = .ok (.iconst 1, 1) := (congrArg (fun c => decode c 60) zeq183).trans (by decide +kernel)
theorem d183_61 : decode (zB 183) 61 = .ok (.isub, 1) := (congrArg (fun c => decode c 61) zeq183).trans (by decide +kernel)
theorem d183_62 : decode (zB 183) 62 = .ok (.iastore, 1) := (congrArg (fun c => decode c 62) zeq183).trans (by decide +kernel)
theorem d183_63 : decode (zB 183) 63 = .ok (.iconst 1, 1) := (congrArg (fun c => decode c 63) zeq183).trans (by decide +kernel)
theorem d183_64 : decode (zB 183) 64 = .ok (.istore 5, 2) := (congrArg (fun c => decode c 64) zeq183).trans (by decide +kernel)
theorem d183_66 : decode (zB 183) 66 = .ok (.goto 13, 3) := (congrArg (fun c => decode c 66) zeq183).trans (by decide +kernel)
theorem d183_69 : decode (zB 183) 69 = .ok (.aload_n 0, 1) := (congrArg (fun c => decode c 69) zeq183).trans (by decide +kernel)
theorem d183_70 : decode (zB 183) 70 = .ok (.iload_n 3, 1) := (congrArg (fun c => decode c 70) zeq183).trans (by decide +kernel)
theorem d183_71 : decode (zB 183) 71 = .ok (.iload_n 2, 1) := (congrArg (fun c => decode c 71) zeq183).trans (by decide +kernel)
theorem d183_72 : decode (zB 183) 72 = .ok (.iload 4, 2) := (congrArg (fun c => decode c 72) zeq183).trans (by decide +kernel)
theorem d183_74 : decode (zB 183) 74 = .ok (.invokevirtual 229, 3) := (congrArg (fun c => decode c 74) zeq183).trans (by decide +kernel)
theorem d183_77 : decode (zB 183) 77 = .ok (.istore 5, 2) := (congrArg (fun c => decode c 77) zeq183).trans (by decide +kernel)
theorem d183_79 : decode (zB 183) 79 = .ok (.iload 5, 2) := (congrArg (fun c => decode c 79) zeq183).trans (by decide +kernel)
theorem d183_81 : decode (zB 183) 81 = .ok (.ifCond .ne 20, 3) := (congrArg (fun c => decode c 81) zeq183).trans (by decide +kernel)
theorem d183_84 : decode (zB 183) 84 = .ok (.aload_n 0, 1) := (congrArg (fun c => decode c 84) zeq183).trans (by decide +kernel)
theorem d183_85 : decode (zB 183) 85 = .ok (.iload_n 1, 1) := (congrArg (fun c => decode c 85) zeq183).trans (by decide +kernel)
theorem d183_86 : decode (zB 183) 86 = .ok (.iload_n 2, 1) := (congrArg (fun c => decode c 86) zeq183).trans (by decide +kernel)
theorem d183_87 : decode (zB 183) 87 = .ok (.iload 4, 2) := (congrArg (fun c => decode c 87) zeq183).trans (by decide +kernel)
theorem d183_89 : decode (zB 183) 89 = .ok (.invokevirtual 317, 3) := (congrArg (fun c => decode c 89) zeq183).trans (by decide +kernel)
theorem d183_92 : decode (zB 183) 92 = .ok (.aload_n 0, 1) := (congrArg (fun c => decode c 92) zeq183).trans (by decide +kernel)
theorem d183_93 : decode (zB 183) 93 = .ok (.iconst 1, 1) := (congrArg (fun c => decode c 93) zeq183).trans (by decide +kernel)
theorem d183_94 : decode (zB 183) 94 = .ok (.iload_n 1, 1) := (congrArg (fun c => decode c 94) zeq183).trans (by decide +kernel)
theorem d183_95 : decode (zB 183) 95 = .ok (.iload_n 2, 1) := (congrArg (fun c => decode c 95) zeq183).trans (by decide +kernel)
theorem d183_96 : decode (zB 183) 96 = .ok (.invokevirtual 307, 3) := (congrArg (fun c => decode c 96) zeq183).trans (by decide +kernel)
theorem d183_99 : decode (zB 183) 99 = .ok (.iconst 1, 1) := (congrArg (fun c => decode c 99) zeq183).trans (by decide +kernel)
theorem d183_100 : decode (zB 183) 100 = .ok (.ireturn, 1) := (congrArg (fun c => decode c 100) zeq183).trans (by decide +kernel)
theorem d183_101 : decode (zB 183) 101 = .ok (.aload_n 0, 1) := (congrArg (fun c => decode c 101) zeq183).trans (by decide +kernel)
theorem d183_102 : decode (zB 183) 102 = .ok (.getfield 51, 3) := (congrArg (fun c => decode c 102) zeq183).trans (by decide +kernel)
theorem d183_105 : decode (zB 183) 105 = .ok (.iload_n 1, 1) := (congrArg (fun c => decode c 105) zeq183).trans (by decide +kernel)
theorem d183_106 : decode (zB 183) 106 = .ok (.aaload, 1) := (congrArg (fun c => decode c 106) zeq183).trans (by decide +kernel)
theorem d183_107 : decode (zB 183) 107 = .ok (.iload_n 2, 1) := (congrArg (fun c => decode c 107) zeq183).trans (by decide +kernel)
theorem d183_108 : decode (zB 183) 108 = .ok (.dup2, 1) := (congrArg (fun c => decode c 108) zeq183).trans (by decide +kernel)
theorem d183_109 : decode (zB 183) 109 = .ok (.iaload, 1) := (congrArg (fun c => decode c 109) zeq183).trans (by decide +kernel)
theorem d183_110 : decode (zB 183) 110 = .ok (.iconst 1, 1) := (congrArg (fun c => decode c 110) zeq183).trans (by decide +kernel)
theorem d183_111 : decode (zB 183) 111 = .ok (.iadd, 1) := (congrArg (fun c => decode c 111) zeq183).trans (by decide +kernel)
theorem d183_112 : decode (zB 183) 112 = .ok (.iastore, 1) := (congrArg (fun c => decode c 112) zeq183).trans (by decide +kernel)
theorem d183_113 : decode (zB 183) 113 = .ok (.aload_n 0, 1) := (congrArg (fun c => decode c 113) zeq183).trans (by decide +kernel)
theorem d183_114 : decode (zB 183) 114 = .ok (.getfield 54, 3) := (congrArg (fun c => decode c 114) zeq183).trans (by decide +kernel)
theorem d183_117 : decode (zB 183) 117 = .ok (.iload_n 1, 1) := (congrArg (fun c => decode c 117) zeq183).trans (by decide +kernel)
theorem d183_118 : decode (zB 183) 118 = .ok (.aaload, 1) := (congrArg (fun c => decode c 118) zeq183).trans (by decide +kernel)
theorem d183_119 : decode (zB 183) 119 = .ok (.iload_n 2, 1) := (congrArg (fun c => decode c 119) zeq183).trans (by decide +kernel)
theorem d183_120 : decode (zB 183) 120 = .ok (.iload 5, 2) := (congrArg (fun c => decode c 120) zeq183).trans (by decide +kernel)
theorem d183_122 : decode (zB 183) 122 = .ok (.iastore, 1) := (congrArg (fun c => decode c 122) zeq183).trans (by decide +kernel)
theorem d183_123 : decode (zB 183) 123 = .ok (.aload_n 0, 1) := (congrArg (fun c => decode c 123) zeq183).trans (by decide +kernel)
theorem d183_124 : decode (zB 183) 124 = .ok (.iconst 2, 1) := (congrArg (fun c => decode c 124) zeq183).trans (by decide +kernel)
theorem d183_125 : decode (zB 183) 125 = .ok (.iload_n 1, 1) := (congrArg (fun c => decode c 125) zeq183).trans (by decide +kernel)
theorem d183_126 : decode (zB 183) 126 = .ok (.iload_n 2, 1) := (congrArg (fun c => decode c 126) zeq183).trans (by decide +kernel)
theorem d183_127 : decode (zB 183) 127 = .ok (.invokevirtual 307, 3) := (congrArg (fun c => decode c 127) zeq183).trans (by decide +kernel)
theorem d183_130 : decode (zB 183) 130 = .ok (.aload_n 0, 1) := (congrArg (fun c => decode c 130) zeq183).trans (by decide +kernel)
theorem d183_131 : decode (zB 183) 131 = .ok (.iload_n 1, 1) := (congrArg (fun c => decode c 131) zeq183).trans (by decide +kernel)
theorem d183_132 : decode (zB 183) 132 = .ok (.invokevirtual 320, 3) := (congrArg (fun c => decode c 132) zeq183).trans (by decide +kernel)
theorem d183_135 : decode (zB 183) 135 = .ok (.ifCond .ne 12, 3) := (congrArg (fun c => decode c 135) zeq183).trans (by decide +kernel)
theorem d183_138 : decode (zB 183) 138 = .ok (.aload_n 0, 1) := (congrArg (fun c => decode c 138) zeq183).trans (by decide +kernel)
theorem d183_139 : decode (zB 183) 139 = .ok (.getfield 36, 3) := (congrArg (fun c => decode c 139) zeq183).trans (by decide +kernel)
theorem d183_142 : decode (zB 183) 142 = .ok (.iload_n 1, 1) := (congrArg (fun c => decode c 142) zeq183).trans (by decide +kernel)
theorem d183_143 : decode (zB 183) 143 = .ok (.iconst 2, 1) := (congrArg (fun c => decode c 143) zeq183).trans (by decide +kernel)
theorem d183_144 : decode (zB 183) 144 = .ok (.iastore, 1) := (congrArg (fun c => decode c 144) zeq183).trans (by decide +kernel)
theorem d183_145 : decode (zB 183) 145 = .ok (.iconst 0, 1) := (congrArg (fun c => decode c 145) zeq183).trans (by decide +kernel)
theorem d183_146 : decode (zB 183) 146 = .ok (.ireturn, 1) := (congrArg (fun c => decode c 146) zeq183).trans (by decide +kernel)
theorem d183_147 : decode (zB 183) 147 = .ok (.aload_n 0, 1) := (congrArg (fun c => decode c 147) zeq183).trans (by decide +kernel)
theorem d183_148 : decode (zB 183) 148 = .ok (.getfield 51, 3) := (congrArg (fun c => decode c 148) zeq183).trans (by decide +kernel)
theorem d183_151 : decode (zB 183) 151 = .ok (.iload_n 1, 1) := (congrArg (fun c => decode c 151) zeq183).trans (by decide +kernel)
theorem d183_152 : decode (zB 183) 152 = .ok (.aaload, 1) := (congrArg (fun c => decode c 152) zeq183).trans (by decide +kernel)
theorem d183_153 : decode (zB 183) 153 = .ok (.iload_n 2, 1) := (congrArg (fun c => decode c 153) zeq183).trans (by decide +kernel)
theorem d183_154 : decode (zB 183) 154 = .ok (.iaload, 1) := (congrArg (fun c => decode c 154) zeq183).trans (by decide +kernel)
theorem d183_155 : decode (zB 183) 155 = .ok (.iconst 3, 1) := (congrArg (fun c => decode c 155) zeq183).trans (by decide +kernel)
theorem d183_156 : decode (zB 183) 156 = .ok (.if_icmp .ge 5, 3) := (congrArg (fun c => decode c 156) zeq183).trans (by decide +kernel)
theorem d183_159 : decode (zB 183) 159 = .ok (.iconst 1, 1) := (congrArg (fun c => decode c 159) zeq183).trans (by decide +kernel)
theorem d183_160 : decode (zB 183) 160 = .ok (.ireturn, 1) := (congrArg (fun c => decode c 160) zeq183).trans (by decide +kernel)
theorem d183_161 : decode (zB 183) 161 = .ok (.aload_n 0, 1) := (congrArg (fun c => decode c 161) zeq183).trans (by decide +kernel)
theorem d183_162 : decode (zB 183) 162 = .ok (.iload_n 1, 1) := (congrArg (fun c => decode c 162) zeq183).trans (by decide +kernel)
theorem d183_163 : decode (zB 183) 163 = .ok (.iconst 5, 1) := (congrArg (fun c => decode c 163) zeq183).trans (by decide +kernel)
theorem d183_164 : decode (zB 183) 164 = .ok (.invokevirtual 323, 3) := (congrArg (fun c => decode c 164) zeq183).trans (by decide +kernel)
theorem d183_167 : decode (zB 183) 167 = .ok (.iconst 0, 1) := (congrArg (fun c => decode c 167) zeq183).trans (by decide +kernel)
theorem d183_168 : decode (zB 183) 168 = .ok (.ireturn, 1) := (congrArg (fun c => decode c 168) zeq183).trans (by decide +kernel)
theorem e183 {d : Nat} {Q : Option Value → zM → Prop} {M M1 : zM} {T : Nat → yT} {c s i κ : Nat} {nm : Nat → Nat → Int32} {X : yX} {n r : Int32} (hC : CX G M T c nm X κ) (hs : s < 3) (hi : i < tn (T (gx (yxs X s)))) (h1 : gt (yxs X s) = 1) (hd : gd (yxs X s) i = 0) (hl : yln X.2 + 2 ≤ 240) (hκ : κ + 1 < 2147483648) (f1 : Fi (F2 s) M M1) (hP1 : XPu M1 X.1.1) (hS1 : XSa M1 s (gpS (yxs X s) (ysd (gp (yxs X s)) i)) κ) (hL1 : XLo G M1 X.2) (hc1 : zi M1 136 20 = nI κ) (hr : (if ypl (gp (yxs X s)) i then 1 else yob (T (gx (yxs X s))) X.1.1 i n 1) = r) (h0 : ¬ r = 0) (k : ∀ M' κ', κ' ≤ κ + 1 → CX G M' T c nm (ytr (T (gx (yxs X s))) n s i X) κ' → Fi FX M M' → Q (some (.int (bI (decide (gt (yxs (ytr (T (gx (yxs X s))) n s i X) s) = 1))))) M') : qW (zEv (d + 3)) 183 Q 101 [(5, .int r), (4, .int n), (3, .int (nI (gx (yxs X s)))), (0, .ref 136), (1, .int (nI s)), (2, .int (nI i))] [] M1 := by
  have hX := hC.1
  have hOs : OKS T c (yxs X s) := hC.2.2.1.2.2 s hs
  have hx : gx (yxs X s) < c := hOs.2.1 (by omega)
  have hT := hC.k
  have hoT := hT.2.2 _ hx
  have hn := hoT.n
  have hc6 := hT.2.1
  have hOK := ytr_ok (n := n) hC.2.2.1 hs h1 hi hd
  have hX1 := SX_fi hX f1
  have e := ytr_B (T := T (gx (yxs X s))) (s := s) (i := i) (X := X) hr h0
  refine q_aload_n d183_101 rfl ?_
  refine q_getr (c := 8) (f := 16) d183_102 ⟨rfl, rfl⟩ (xk_136 hX1) (xf_fails hX1) ?_
  refine q_iload_n d183_105 rfl ?_
  refine n_aald d183_106 (xk_fails hX1) (by decide) (by omega) (by decide) (xr_fails hX1 (by omega)) ?_
  refine q_iload_n d183_107 rfl ?_
  refine q_dup2 d183_108 rfl rfl ?_
  refine n_iald d183_109 (xa_fails hX1 (by omega)) (by omega) (by decide) ((hS1.2.1 _ (by omega)).2.1) ?_
  refine q_iconstN (z := 1) d183_110 ?_
  refine q_iadd d183_111 ?_
  refine n_iast d183_112 (xa_fails hX1 (by omega)) (by omega) (by decide) ?_
  have hS2 : XSa _ s (gfS (gpS (yxs X s) (ysd (gp (yxs X s)) i)) (yu (gf (yxs X s)) i (gf (yxs X s) i + 1))) κ := hS1.wf (i := i) (v := gf (yxs X s) i + 1) hs
  refine q_aload_n d183_113 rfl ?_
  refine q_getr (c := 8) (f := 17) d183_114 ⟨rfl, rfl⟩ (xk_136 hX1) (xf_whys hX1) ?_
  refine q_iload_n d183_117 rfl ?_
  refine n_aald d183_118 (xk_whys hX1) (by decide) (by omega) (by decide) (xr_whys hX1 (by omega)) ?_
  refine q_iload_n d183_119 rfl ?_
  refine q_iload d183_120 rfl ?_
  refine n_iast d183_122 (xa_whys hX1 (by omega)) (by omega) (by decide) ?_
  have hS3 : XSa _ s (gwS (gfS (gpS (yxs X s) (ysd (gp (yxs X s)) i)) (yu (gf (yxs X s)) i (gf (yxs X s) i + 1))) (yu (gw (yxs X s)) i r)) κ := hS2.ww (i := i) (v := r) hs
  have f3 : Fi (fun b _ => b = 190 + s ∨ b = 194 + s) M1 (zwi (zwi M1 (190 + s) i (gf (yxs X s) i + 1)) (194 + s) i r) := ((Fi.refl _ _).wi (Or.inl rfl)).wi (Or.inr rfl)
  have hL3 := hL1.fi f3 (fun b k q1 q2 => by unfold GL at q1; omega)
  have hP3 := XPu_fi hP1 f3 (fun b k q1 q2 => by unfold GP at q1; omega)
  refine q_aload_n d183_123 rfl ?_
  refine q_iconstN (z := 2) d183_124 ?_
  refine q_iload_n d183_125 rfl ?_
  refine q_iload_n d183_126 rfl ?_
  refine q_v3 d183_127 rfl rfl (xk_136 hX1) (Nat.le_of_ble_eq_true rfl) (c171 hX1 hL3 (by omega) (fun M4 hL4 f4 => ?_))
  have hX4 := SX_fi hX1 f3
  have hX4 := SX_fi hX4 f4
  have hS4 := hS3.fi f4 (fun b k q1 q2 => by unfold GS at q1; unfold GL at q2; omega)
  have fa : Fi (F2 s) M M4 := f1.trans ((f3.mono (fun b k q => by unfold F2; omega)).trans (f4.mono (fun b k q => Or.inr (Or.inl q))))
  have hT4 : XTk M4 T c := ⟨XTx_fi hC.2.1 hc6 fa (fun b k b1 b2 q => by unfold F2 GP GL at q; omega), hT.2⟩
  have hP4 := XPu_fi hP3 f4 (fun b k q1 q2 => by unfold GP at q1; unfold GL at q2; omega)
  have hc4 : zi M4 136 20 = nI κ := (f4.1 _ _ (by unfold GL; omega)).trans ((f3.1 _ _ (by omega)).trans hc1)
  have hyp : yps T (gwS (gfS (gpS (yxs X s) (ysd (gp (yxs X s)) i)) (yu (gf (yxs X s)) i (gf (yxs X s) i + 1))) (yu (gw (yxs X s)) i r)) = ypa (T (gx (yxs X s))) (gm (yxs X s) 1) := if_neg (by show ¬ gt (yxs X s) = 0; omega)
  refine q_aload_n d183_130 rfl ?_
  refine q_iload_n d183_131 rfl ?_
  refine q_v1 d183_132 rfl rfl (xk_136 hX4) (Nat.le_of_ble_eq_true rfl) (c185 (S := (gwS (gfS (gpS (yxs X s) (ysd (gp (yxs X s)) i)) (yu (gf (yxs X s)) i (gf (yxs X s) i + 1))) (yu (gw (yxs X s)) i r))) hX4 hs hS4 hT4 hOs ?_)
  refine b0_ne 147 d183_135 (by decide) (fun h135 => ?_) (fun h135 => ?_)
  · refine q_aload_n d183_147 rfl ?_
    refine q_getr (c := 8) (f := 16) d183_148 ⟨rfl, rfl⟩ (xk_136 hX4) (xf_fails hX4) ?_
    refine q_iload_n d183_151 rfl ?_
    refine n_aald d183_152 (xk_fails hX4) (by decide) (by omega) (by decide) (xr_fails hX4 (by omega)) ?_
    refine q_iload_n d183_153 rfl ?_
    refine n_iald d183_154 (xa_fails hX4 (by omega)) (by omega) (by decide) ((hS4.2.1 _ (by omega)).2.1.trans (yu_s _ _ _)) ?_
    refine q_iconstN (z := 3) d183_155 ?_
    refine ic_ge 161 d183_156 (by decide) (fun h156 => ?_) (fun h156 => ?_)
    · refine q_aload_n d183_161 rfl ?_
      refine q_iload_n d183_162 rfl ?_
      refine q_iconstN (z := 5) d183_163 ?_
      refine q_v2 d183_164 rfl rfl (xk_136 hX4) (Nat.le_of_ble_eq_true rfl) (c181 (S := (gwS (gfS (gpS (yxs X s) (ysd (gp (yxs X s)) i)) (yu (gf (yxs X s)) i (gf (yxs X s) i + 1))) (yu (gw (yxs X s)) i r))) hX4 hs hS4 (by show gt (yxs X s) ≠ 0; omega) (by decide) hL4 (by have := yln_lg X.2 (2, s, i); omega) (fun M5 hS5 hL5 f5 => ?_))
      refine q_iconstN (z := 0) d183_167 ?_
      refine q_zret d183_168 rfl (by decide) ?_
      rw [hyp] at h135
      rw [if_pos ⟨h135, Int32.not_lt.mpr h156⟩] at e
      rw [h135] at e
      rw [e] at k hOK
      exact k M5 κ (Nat.le_succ κ) (hC.sg hs (fa.trans (f5.mono (fun b k q => by unfold GL at q; unfold F2 GL; omega))) (XPu_fi hP4 f5 (fun b k q1 q2 => by unfold GP at q1; unfold GL at q2; omega)) (by rw [yA2, yA1]; exact hS5) (Nat.le_refl _) ((f5.1 _ _ (by unfold GL; omega)).trans hc4) hL5 (fun r hr => by rw [yA2n hr, yA1n hr]) hOK (by rw [yA2, yA1]; rfl) (by show gt (yxs X s) ≠ 0; omega)) ((fa.trans (f5.mono (fun b k q => by unfold GL at q; unfold F2 GL; omega))).mono (fun b k q => F2_X hs q)) |> (fun h => by rw [show gt (yxs (yen (yno (yss X s (yfS (gpS (yxs X s) (ysd (gp (yxs X s)) i)) i r true)) (2, s, i)) s 5) s) = 5 by show gt ((yen _ s 5).1.2 s) = 5; rw [yA2]; rfl] at h; exact h)
    · refine q_iconstN (z := 1) d183_159 ?_
      refine q_zret d183_160 rfl (by decide) ?_
      rw [hyp] at h135
      rw [if_neg (fun q => q.2 (Int32.not_le.mp h156))] at e
      rw [h135] at e
      rw [e] at k hOK
      exact k M4 κ (Nat.le_succ κ) (hC.sg hs fa hP4 (by rw [yA1]; exact hS4) (Nat.le_refl _) hc4 hL4 (fun r hr => by rw [yA1n hr]) hOK (by rw [yA1]; rfl) (by show gt (yxs X s) ≠ 0; omega)) (fa.mono (fun b k q => F2_X hs q)) |> (fun h => by rw [show gt (yxs (yno (yss X s (yfS (gpS (yxs X s) (ysd (gp (yxs X s)) i)) i r true)) (2, s, i)) s) = 1 by show gt ((yno _ _).1.2 s) = 1; rw [yA1]; exact h1] at h; exact h)
  · refine q_aload_n d183_138 rfl ?_
    refine q_getr (c := 8) (f := 11) d183_139 ⟨rfl, rfl⟩ (xk_136 hX4) (xf_states hX4) ?_
    refine q_iload_n d183_142 rfl ?_
    refine q_iconstN (z := 2) d183_143 ?_
    refine n_iast d183_144 (xk_states hX4) (by omega) (by decide) ?_
    refine q_iconstN (z := 0) d183_145 ?_
    refine q_zret d183_146 rfl (by decide) ?_
    rw [hyp] at h135
    rw [if_neg (fun q => by rw [h135] at q; exact absurd q.1 (by decide))] at e
    rw [h135] at e
    rw [e] at k hOK
    have hS5 := hS4.wt (t := 2) (by show gt (yxs X s) ≠ 0; omega) (by decide)
    have f5 : Fi (fun b k => b = 175 ∧ k = s) M4 (zwi M4 175 s (nI 2)) := (Fi.refl _ _).wi ⟨rfl, rfl⟩
    have fz := fa.trans (f5.mono (fun b k q => by unfold F2; omega))
    exact k _ κ (Nat.le_succ κ) (hC.sg hs fz (XPu_fi hP4 f5 (fun b k q1 q2 => by unfold GP at q1; omega)) (by rw [yA1]; exact hS5) (Nat.le_refl _) ((f5.1 _ _ (by omega)).trans hc4) (hL4.fi f5 (fun b k q1 q2 => by unfold GL at q1; omega)) (fun r hr => by rw [yA1n hr]) hOK (by rw [yA1]; rfl) (by show gt (yxs X s) ≠ 0; omega)) (fz.mono (fun b k q => F2_X hs q)) |> (fun h => by rw [show gt (yxs (yno (yss X s (yfS (gpS (yxs X s) (ysd (gp (yxs X s)) i)) i r false)) (2, s, i)) s) = 2 by show gt ((yno _ _).1.2 s) = 2; rw [yA1]; rfl] at h; exact h)
theorem e183b {d : Nat} {Q : Option Value → zM → Prop} {M : zM} {T : Nat → yT} {c s i κ : Nat} {nm : Nat → Nat → Int32} {X : yX} {n : Int32} (hC : CX G M T c nm X κ) (hs : s < 3) (hi : i < tn (T (gx (yxs X s)))) (h1 : gt (yxs X s) = 1) (hd : gd (yxs X s) i = 0) (hl : yln X.2 + 2 ≤ 240) (hκ : κ + 1 < 2147483648) (k : ∀ M' κ', κ' ≤ κ + 1 → CX G M' T c nm (ytr (T (gx (yxs X s))) n s i X) κ' → Fi FX M M' → Q (some (.int (bI (decide (gt (yxs (ytr (T (gx (yxs X s))) n s i X) s) = 1))))) M') : qW (zEv (d + 3)) 183 Q 38 [(3, .int (nI (gx (yxs X s)))), (0, .ref 136), (1, .int (nI s)), (2, .int (nI i))] [.int n] M := by
  have hX := hC.1
  have hOs : OKS T c (yxs X s) := hC.2.2.1.2.2 s hs
  have hx : gx (yxs X s) < c := hOs.2.1 (by omega)
  have hT := hC.k
  have hoT := hT.2.2 _ hx
  have hn := hoT.n
  have hc6 := hT.2.1
  have hOK := ytr_ok (n := n) hC.2.2.1 hs h1 hi hd
  have hsa := hC.2.2.2.2.1 s hs
  have hc0 := hC.2.2.2.2.2.1
  have hL := hC.2.2.2.2.2.2.1
  have hx1 : zi M 176 s = nI (gx (yxs X s)) := hsa.1.2.trans (if_neg (by show ¬ gt (yxs X s) = 0; omega))
  have hni : i ∉ go (yxs X s) := fun q => by have := (hOs.2.2.2.1 i).mp q; omega
  refine q_istore d183_38 (by decide) rfl ?_
  refine q_aload_n d183_40 rfl ?_
  refine q_getr (c := 8) (f := 18) d183_41 ⟨rfl, rfl⟩ (xk_136 hX) (xf_plans hX) ?_
  refine q_iload_n d183_44 rfl ?_
  refine n_aald d183_45 (xk_plans hX) (by decide) (by omega) (by decide) (xr_plans hX (by omega)) ?_
  refine q_iload_n d183_46 rfl ?_
  refine n_iald d183_47 (xa_plans hX (by omega)) (by omega) (by decide) ((hsa.2.1 _ (by omega)).2.2.2.1) ?_
  refine i0_le 69 d183_48 (by decide) (fun h48 => ?_) (fun h48 => ?_)
  · refine q_aload_n d183_69 rfl ?_
    refine q_iload_n d183_70 rfl ?_
    refine q_iload_n d183_71 rfl ?_
    refine q_iload d183_72 rfl ?_
    refine q_v3 d183_74 rfl rfl (xk_136 hX) (Nat.le_of_ble_eq_true rfl) (c157 hX hC.2.2.2.1 (hC.2.1 _ hx) hoT hC.2.2.1.2.1 (by omega) hi (fun M1 hP1 f1 => ?_))
    have hX1 := SX_fi hX f1
    refine q_istore d183_77 (by decide) rfl ?_
    refine q_iload d183_79 rfl ?_
    refine i0_ne 101 d183_81 (by decide) (fun h81 => ?_) (fun h81 => ?_)
    · have ep : ypl (gp (yxs X s)) i = false := decide_eq_false (Int32.not_lt.mpr h48)
      have es : gpS (yxs X s) (ysd (gp (yxs X s)) i) = yxs X s := by unfold ysd; rw [ep]; rfl
      have hP2 : XPu M1 X.1.1 := by have h := hP1; unfold xdo at h; rw [if_neg h81] at h; exact h
      exact e183 hC hs hi h1 hd hl hκ (f1.mono (fun b k q => Or.inl q)) hP2 (by rw [es]; exact hsa.fi f1 (fun b k q1 q2 => by unfold GS at q1; unfold GP at q2; omega)) (hL.fi f1 (fun b k q1 q2 => by unfold GL at q1; unfold GP at q2; omega)) ((f1.1 _ _ (by unfold GP; omega)).trans hc0) (by rw [ep]; rfl) h81 k
    · have hsa1 := hsa.fi f1 (fun b k q1 q2 => by unfold GS at q1; unfold GP at q2; omega)
      have hL1 := hL.fi f1 (fun b k q1 q2 => by unfold GL at q1; unfold GP at q2; omega)
      have hc1 : zi M1 136 20 = nI κ := (f1.1 _ _ (by unfold GP; omega)).trans hc0
      refine q_aload_n d183_84 rfl ?_
      refine q_iload_n d183_85 rfl ?_
      refine q_iload_n d183_86 rfl ?_
      refine q_iload d183_87 rfl ?_
      refine q_v3 d183_89 rfl rfl (xk_136 hX1) (Nat.le_of_ble_eq_true rfl) (c184 hX1 hs (by omega) hsa1 hc1 hκ hni (fun M2 hS2 hc2 f2 => ?_))
      have hX2 := SX_fi hX1 f2
      have hL2 := hL1.fi f2 (fun b k q1 q2 => by unfold GL at q1; omega)
      refine q_aload_n d183_92 rfl ?_
      refine q_iconstN (z := 1) d183_93 ?_
      refine q_iload_n d183_94 rfl ?_
      refine q_iload_n d183_95 rfl ?_
      refine q_v3 d183_96 rfl rfl (xk_136 hX2) (Nat.le_of_ble_eq_true rfl) (c171 hX2 hL2 (by omega) (fun M3 hL3 f3 => ?_))
      refine q_iconstN (z := 1) d183_99 ?_
      refine q_zret d183_100 rfl (by decide) ?_
      have ep : ypl (gp (yxs X s)) i = false := decide_eq_false (Int32.not_lt.mpr h48)
      have es : gpS (yxs X s) (ysd (gp (yxs X s)) i) = yxs X s := by unfold ysd; rw [ep]; rfl
      have e := ytr_A (T := T (gx (yxs X s))) (s := s) (i := i) (n := n) (X := X) ep h81
      rw [es] at e
      rw [e] at k hOK
      have hP2 : XPu M1 (ych (T (gx (yxs X s))) X.1.1 i n 1) := by have h := hP1; unfold xdo at h; rw [if_pos h81] at h; exact h
      have fz : Fi (F2 s) M M3 := (f1.mono (fun b k q => Or.inl q)).trans ((f2.mono (fun b k q => by first | (unfold F2; omega) | omega)).trans (f3.mono (fun b k q => Or.inr (Or.inl q))))
      exact k M3 (κ + 1) (Nat.le_refl _) (hC.sg hs fz (XPu_fi (XPu_fi hP2 f2 (fun b k q1 q2 => by unfold GP at q1; omega)) f3 (fun b k q1 q2 => by unfold GP at q1; unfold GL at q2; omega)) (by rw [yA1]; exact hS2.fi f3 (fun b k q1 q2 => by unfold GS at q1; unfold GL at q2; omega)) (Nat.le_succ κ) ((f3.1 _ _ (by unfold GL; omega)).trans hc2) hL3 (fun r hr => by rw [yA1n hr]; rfl) hOK (by rw [yA1]; rfl) (by show gt (yxs X s) ≠ 0; omega)) (fz.mono (fun b k q => F2_X hs q)) |> (fun h => by rw [show gt (yxs (yno (yss (ysp X (ych (T (gx (yxs X s))) X.1.1 i n 1)) s (yDn (yxs X s) i n)) (1, s, i)) s) = 1 by show gt ((yno _ _).1.2 s) = 1; rw [yA1]; exact h1] at h; exact h)
  · refine q_aload_n d183_51 rfl ?_
    refine q_getr (c := 8) (f := 18) d183_52 ⟨rfl, rfl⟩ (xk_136 hX) (xf_plans hX) ?_
    refine q_iload_n d183_55 rfl ?_
    refine n_aald d183_56 (xk_plans hX) (by decide) (by omega) (by decide) (xr_plans hX (by omega)) ?_
    refine q_iload_n d183_57 rfl ?_
    refine q_dup2 d183_58 rfl rfl ?_
    refine n_iald d183_59 (xa_plans hX (by omega)) (by omega) (by decide) ((hsa.2.1 _ (by omega)).2.2.2.1) ?_
    refine q_iconstN (z := 1) d183_60 ?_
    refine q_isub d183_61 ?_
    refine n_iast d183_62 (xa_plans hX (by omega)) (by omega) (by decide) ?_
    refine q_iconstN (z := 1) d183_63 ?_
    refine q_istore d183_64 (by decide) rfl ?_
    refine q_goto 79 d183_66 (by decide) ?_
    refine q_iload d183_79 rfl ?_
    refine n0_ne 101 d183_81 (by decide) (by decide) (fun _ => ?_) (fun q => absurd q (by decide))
    have ep : ypl (gp (yxs X s)) i = true := decide_eq_true (Int32.not_le.mp h48)
    have f1 : Fi (fun b _ => b = 198 + s) M (zwi M (198 + s) i (gp (yxs X s) i - 1)) := (Fi.refl _ _).wi rfl
    exact e183 (r := 1) hC hs hi h1 hd hl hκ (f1.mono (fun b k q => by unfold F2; omega)) (XPu_fi hC.2.2.2.1 f1 (fun b k q1 q2 => by unfold GP at q1; omega)) (by unfold ysd; rw [ep]; exact hsa.wp hs) (hL.fi f1 (fun b k q1 q2 => by unfold GL at q1; omega)) ((f1.1 _ _ (by omega)).trans hc0) (by rw [ep]; rfl) (by decide) k
theorem c183 {d : Nat} {M : zM} {Q : Option Value → zM → Prop} {T : Nat → yT} {c s i κ : Nat} {nm : Nat → Nat → Int32} {X : yX} (hC : CX G M T c nm X κ) (hs : s < 3) (hi : i < tn (T (gx (yxs X s)))) (h1 : gt (yxs X s) = 1) (hd : gd (yxs X s) i = 0) (hl : yln X.2 + 2 ≤ 240) (hκ : κ + 1 < 2147483648) (k : ∀ M' κ', κ' ≤ κ + 1 → CX G M' T c nm (ytr (T (gx (yxs X s))) (nm s i) s i X) κ' → Fi FX M M' → Q (some (.int (bI (decide (gt (yxs (ytr (T (gx (yxs X s))) (nm s i) s i X) s) = 1))))) M') : qC (d + 4) 183 [.ref 136, .int (nI s), .int (nI i)] M Q := by
  refine qC_of (by decide) (Nat.le_of_ble_eq_true rfl) ?_
  have hX := hC.1
  have hOs : OKS T c (yxs X s) := hC.2.2.1.2.2 s hs
  have hx : gx (yxs X s) < c := hOs.2.1 (by omega)
  have hT := hC.k
  have hoT := hT.2.2 _ hx
  have hn := hoT.n
  have hc6 := hT.2.1
  have hsa := hC.2.2.2.2.1 s hs
  have hc0 := hC.2.2.2.2.2.1
  have hL := hC.2.2.2.2.2.2.1
  have hx1 : zi M 176 s = nI (gx (yxs X s)) := hsa.1.2.trans (if_neg (by show ¬ gt (yxs X s) = 0; omega))
  have hni : i ∉ go (yxs X s) := fun q => by have := (hOs.2.2.2.1 i).mp q; omega
  obtain ⟨o, ho, hn2⟩ := hC.2.2.2.2.2.2.2
  have hn2 := hn2 s hs (by show gt (yxs X s) ≠ 0; omega) i hi
  cases o with
  | none =>
    refine q_aload_n d183_0 rfl ?_
    refine q_getr (c := 8) (f := 12) d183_1 ⟨rfl, rfl⟩ (xk_136 hX) (xf_textOf hX) ?_
    refine q_iload_n d183_4 rfl ?_
    refine n_iald d183_5 (xk_textOf hX) (by omega) (by decide) hx1 ?_
    refine q_istore_n d183_6 (by decide) rfl ?_
    refine q_aload_n d183_7 rfl ?_
    refine q_getv (c := 8) (f := 21) d183_8 ⟨rfl, by decide⟩ (xk_136 hX) ho ?_
    refine q_iload_n d183_11 rfl ?_
    refine ic_ne 30 d183_12 (by decide) (fun h12 => ?_) (fun h12 => (False.elim (nI_m1 (by omega) h12.symm)))
    refine q_aload_n d183_30 rfl ?_
    refine q_getr (c := 8) (f := 6) d183_31 ⟨rfl, rfl⟩ (xk_136 hX) (xf_numbers hX) ?_
    refine q_iload_n d183_34 rfl ?_
    refine n_aald d183_35 (xk_numbers hX) (by decide) (by omega) (by decide) (xr_numbers hX (by omega)) ?_
    refine q_iload_n d183_36 rfl ?_
    refine n_iald d183_37 (xa_numbers hX (by omega)) (by omega) (by decide) ((hC.2.1 _ hx).2.2 _ (by omega)).2.2.2.1 ?_
    rw [show tu (T (gx (yxs X s))) i = nm s i from hn2.symm]
    exact e183b hC hs hi h1 hd hl hκ k
  | some q =>
    have hq3 := ho.2.2.2.1
    have hq12 := ho.2.2.2.2
    refine q_aload_n d183_0 rfl ?_
    refine q_getr (c := 8) (f := 12) d183_1 ⟨rfl, rfl⟩ (xk_136 hX) (xf_textOf hX) ?_
    refine q_iload_n d183_4 rfl ?_
    refine n_iald d183_5 (xk_textOf hX) (by omega) (by decide) hx1 ?_
    refine q_istore_n d183_6 (by decide) rfl ?_
    refine q_aload_n d183_7 rfl ?_
    refine q_getv (c := 8) (f := 21) d183_8 ⟨rfl, by decide⟩ (xk_136 hX) ho.1 ?_
    refine q_iload_n d183_11 rfl ?_
    refine nc_ne 30 d183_12 (by decide) (by omega) (by omega) (fun h12 => ?_) (fun h12 => ?_)
    · refine q_aload_n d183_30 rfl ?_
      refine q_getr (c := 8) (f := 6) d183_31 ⟨rfl, rfl⟩ (xk_136 hX) (xf_numbers hX) ?_
      refine q_iload_n d183_34 rfl ?_
      refine n_aald d183_35 (xk_numbers hX) (by decide) (by omega) (by decide) (xr_numbers hX (by omega)) ?_
      refine q_iload_n d183_36 rfl ?_
      refine n_iald d183_37 (xa_numbers hX (by omega)) (by omega) (by decide) ((hC.2.1 _ hx).2.2 _ (by omega)).2.2.2.1 ?_
      rw [show tu (T (gx (yxs X s))) i = nm s i from (hn2.trans (if_neg (fun e => h12 e.1))).symm]
      exact e183b hC hs hi h1 hd hl hκ k
    · refine q_aload_n d183_15 rfl ?_
      refine q_getv (c := 8) (f := 22) d183_16 ⟨rfl, by decide⟩ (xk_136 hX) ho.2.1 ?_
      refine q_iload_n d183_19 rfl ?_
      refine nc_ne 30 d183_20 (by decide) (by omega) (by omega) (fun h20 => ?_) (fun h20 => ?_)
      · refine q_aload_n d183_30 rfl ?_
        refine q_getr (c := 8) (f := 6) d183_31 ⟨rfl, rfl⟩ (xk_136 hX) (xf_numbers hX) ?_
        refine q_iload_n d183_34 rfl ?_
        refine n_aald d183_35 (xk_numbers hX) (by decide) (by omega) (by decide) (xr_numbers hX (by omega)) ?_
        refine q_iload_n d183_36 rfl ?_
        refine n_iald d183_37 (xa_numbers hX (by omega)) (by omega) (by decide) ((hC.2.1 _ hx).2.2 _ (by omega)).2.2.2.1 ?_
        rw [show tu (T (gx (yxs X s))) i = nm s i from (hn2.trans (if_neg (fun e => h20 e.2))).symm]
        exact e183b hC hs hi h1 hd hl hκ k
      · refine q_aload_n d183_23 rfl ?_
        refine q_getv (c := 8) (f := 23) d183_24 ⟨rfl, by decide⟩ (xk_136 hX) ho.2.2.1 ?_
        refine q_goto 38 d183_27 (by decide) ?_
        rw [show q.2.2 = nm s i from (hn2.trans (if_pos ⟨h12, h20⟩)).symm]
        exact e183b hC hs hi h1 hd hl hκ k
end RG
/-! ===== the reference: an undoing ===== -/
section RG
variable {G : List yL}
theorem CX.over {d : Nat} {M : zM} {Q : Option Value → zM → Prop} {T : Nat → yT} {c s v κ : Nat} {nm : Nat → Nat → Int32} {X : yX} (hC : CX G M T c nm X κ) (hs : s < 3) (h0 : gt (yxs X s) ≠ 0) (hv : v ≠ 0) (hv5 : v ≤ 5) (hl : yln X.2 + 1 ≤ 240) (k : ∀ M', CX G M' T c nm (yen X s v) κ → Fi FX M M' → Q none M') : qC (d + 2) 181 [.ref 136, .int (nI s), .int (nI v)] M Q := by
  refine c181 hC.1 hs (hC.2.2.2.2.1 s hs) h0 hv hC.2.2.2.2.2.2.1 hl (fun M1 h1 h2 f1 => ?_)
  have f2 : Fi (F2 s) M M1 := f1.mono (fun b k q => by unfold F2; rcases q with q | q; exact Or.inr (Or.inr (Or.inr (Or.inl q))); exact Or.inr (Or.inl q))
  exact k _ (hC.sg hs f2 (XPu_fi hC.2.2.2.1 f1 (fun b k q1 q2 => by unfold GP at q1; unfold GL at q2; omega)) (by rw [yA2]; exact h1) (Nat.le_refl _) ((f1.1 _ _ (by unfold GL; omega)).trans hC.2.2.2.2.2.1) h2 (fun r hr => yA2n hr) (yen_ok hC.2.2.1 hs h0 hv hv5) (by rw [yA2]; rfl) h0) (f2.mono (fun b k q => F2_X hs q))
theorem d177_0 : decode (zB 177) 0 = .ok (.aload_n 0, 1) := (congrArg (fun c => decode c 0) zeq177).trans (by decide +kernel)
theorem d177_1 : decode (zB 177) 1 = .ok (.iload_n 1, 1) := (congrArg (fun c => decode c 1) zeq177).trans (by decide +kernel)
theorem d177_2 : decode (zB 177) 2 = .ok (.invokevirtual 327, 3) := (congrArg (fun c => decode c 2) zeq177).trans (by decide +kernel)
theorem d177_5 : decode (zB 177) 5 = .ok (.istore_n 2, 1) := (congrArg (fun c => decode c 5) zeq177).trans (by decide +kernel)
theorem d177_6 : decode (zB 177) 6 = .ok (.iload_n 2, 1) := (congrArg (fun c => decode c 6) zeq177).trans (by decide +kernel)
theorem d177_7 : decode (zB 177) 7 = .ok (.iconst (-1), 1) := (congrArg (fun c => decode c 7) zeq177).trans (by decide +kernel)
theorem d177_8 : decode (zB 177) 8 = .ok (.if_icmp .eq 96, 3) := (congrArg (fun c => decode c 8) zeq177).trans (by decide +kernel)
theorem d177_11 : decode (zB 177) 11 = .ok (.aload_n 0, 1) := (congrArg (fun c => decode c 11) zeq177).trans (by decide +kernel)
theorem d177_12 : decode (zB 177) 12 = .ok (.getfield 60, 3) := (congrArg (fun c => decode c 12) zeq177).trans (by decide +kernel)
theorem d177_15 : decode (zB 177) 15 = .ok (.iload_n 1, 1) := (congrArg (fun c => decode c 15) zeq177).trans (by decide +kernel)
theorem d177_16 : decode (zB 177) 16 = .ok (.aaload, 1) := (congrArg (fun c => decode c 16) zeq177).trans (by decide +kernel)
theorem d177_17 : decode (zB 177) 17 = .ok (.iload_n 2, 1) := (congrArg (fun c => decode c 17) zeq177).trans (by decide +kernel)
theorem d177_18 : decode (zB 177) 18 = .ok (.iaload, 1) := (congrArg (fun c => decode c 18) zeq177).trans (by decide +kernel)
theorem d177_19 : decode (zB 177) 19 = .ok (.ifCond .le 20, 3) := (congrArg (fun c => decode c 19) zeq177).trans (by decide +kernel)
theorem d177_22 : decode (zB 177) 22 = .ok (.aload_n 0, 1) := (congrArg (fun c => decode c 22) zeq177).trans (by decide +kernel)
theorem d177_23 : decode (zB 177) 23 = .ok (.getfield 60, 3) := (congrArg (fun c => decode c 23) zeq177).trans (by decide +kernel)
theorem d177_26 : decode (zB 177) 26 = .ok (.iload_n 1, 1) := (congrArg (fun c => decode c 26) zeq177).trans (by decide +kernel)
theorem d177_27 : decode (zB 177) 27 = .ok (.aaload, 1) := (congrArg (fun c => decode c 27) zeq177).trans (by decide +kernel)
theorem d177_28 : decode (zB 177) 28 = .ok (.iload_n 2, 1) := (congrArg (fun c => decode c 28) zeq177).trans (by decide +kernel)
theorem d177_29 : decode (zB 177) 29 = .ok (.dup2, 1) := (congrArg (fun c => decode c 29) zeq177).trans (by decide +kernel)
theorem d177_30 : decode (zB 177) 30 = .ok (.iaload, 1) := (congrArg (fun c => decode c 30) zeq177).trans (by decide +kernel)
theorem d177_31 : decode (zB 177) 31 = .ok (.iconst 1, 1) := (congrArg (fun c => decode c 31) zeq177).trans (by decide +kernel)
theorem d177_32 : decode (zB 177) 32 = .ok (.isub, 1) := (congrArg (fun c => decode c 32) zeq177).trans (by decide +kernel)
theorem d177_33 : decode (zB 177) 33 = .ok (.iastore, 1) := (congrArg (fun c => decode c 33) zeq177).trans (by decide +kernel)
theorem d177_34 : decode (zB 177) 34 = .ok (.iconst 1, 1) := (congrArg (fun c => decode c 34) zeq177).trans (by decide +kernel)
theorem d177_35 : decode (zB 177) 35 = .ok (.istore_n 3, 1) := (congrArg (fun c => decode c 35) zeq177).trans (by decide +kernel)
theorem d177_36 : decode (zB 177) 36 = .ok (.goto 23, 3) := (congrArg (fun c => decode c 36) zeq177).trans (by decide +kernel)
theorem d177_39 : decode (zB 177) 39 = .ok (.aload_n 0, 1) := (congrArg (fun c => decode c 39) zeq177).trans (by decide +kernel)
theorem d177_40 : decode (zB 177) 40 = .ok (.aload_n 0, 1) := (congrArg (fun c => decode c 40) zeq177).trans (by decide +kernel)
theorem d177_41 : decode (zB 177) 41 = .ok (.getfield 39, 3) := (congrArg (fun c => decode c 41) zeq177).trans (by decide +kernel)
theorem d177_44 : decode (zB 177) 44 = .ok (.iload_n 1, 1) := (congrArg (fun c => decode c 44) zeq177).trans (by decide +kernel)
theorem d177_45 : decode (zB 177) 45 = .ok (.iaload, 1) := (congrArg (fun c => decode c 45) zeq177).trans (by decide +kernel)
theorem d177_46 : decode (zB 177) 46 = .ok (.iload_n 2, 1) := (congrArg (fun c => decode c 46) zeq177).trans (by decide +kernel)
theorem d177_47 : decode (zB 177) 47 = .ok (.aload_n 0, 1) := (congrArg (fun c => decode c 47) zeq177).trans (by decide +kernel)
theorem d177_48 : decode (zB 177) 48 = .ok (.getfield 48, 3) := (congrArg (fun c => decode c 48) zeq177).trans (by decide +kernel)
theorem d177_51 : decode (zB 177) 51 = .ok (.iload_n 1, 1) := (congrArg (fun c => decode c 51) zeq177).trans (by decide +kernel)
theorem d177_52 : decode (zB 177) 52 = .ok (.aaload, 1) := (congrArg (fun c => decode c 52) zeq177).trans (by decide +kernel)
theorem d177_53 : decode (zB 177) 53 = .ok (.iload_n 2, 1) := (congrArg (fun c => decode c 53) zeq177).trans (by decide +kernel)
theorem d177_54 : decode (zB 177) 54 = .ok (.iaload, 1) := (congrArg (fun c => decode c 54) zeq177).trans (by decide +kernel)
theorem d177_55 : decode (zB 177) 55 = .ok (.invokevirtual 330, 3) := (congrArg (fun c => decode c 55) zeq177).trans (by decide +kernel)
theorem d177_58 : decode (zB 177) 58 = .ok (.istore_n 3, 1) := (congrArg (fun c => decode c 58) zeq177).trans (by decide +kernel)
theorem d177_59 : decode (zB 177) 59 = .ok (.iload_n 3, 1) := (congrArg (fun c => decode c 59) zeq177).trans (by decide +kernel)
theorem d177_60 : decode (zB 177) 60 = .ok (.ifCond .eq 12, 3) := (congrArg (fun c => decode c 60) zeq177).trans (by decide +kernel)
theorem d177_63 : decode (zB 177) 63 = .ok (.aload_n 0, 1) := (congrArg (fun c => decode c 63) zeq177).trans (by decide +kernel)
theorem d177_64 : decode (zB 177) 64 = .ok (.getfield 54, 3) := (congrArg (fun c => decode c 64) zeq177).trans (by decide +kernel)
theorem d177_67 : decode (zB 177) 67 = .ok (.iload_n 1, 1) := (congrArg (fun c => decode c 67) zeq177).trans (by decide +kernel)
theorem d177_68 : decode (zB 177) 68 = .ok (.aaload, 1) := (congrArg (fun c => decode c 68) zeq177).trans (by decide +kernel)
theorem d177_69 : decode (zB 177) 69 = .ok (.iload_n 2, 1) := (congrArg (fun c => decode c 69) zeq177).trans (by decide +kernel)
theorem d177_70 : decode (zB 177) 70 = .ok (.iload_n 3, 1) := (congrArg (fun c => decode c 70) zeq177).trans (by decide +kernel)
theorem d177_71 : decode (zB 177) 71 = .ok (.iastore, 1) := (congrArg (fun c => decode c 71) zeq177).trans (by decide +kernel)
theorem d177_72 : decode (zB 177) 72 = .ok (.aload_n 0, 1) := (congrArg (fun c => decode c 72) zeq177).trans (by decide +kernel)
theorem d177_73 : decode (zB 177) 73 = .ok (.getfield 42, 3) := (congrArg (fun c => decode c 73) zeq177).trans (by decide +kernel)
theorem d177_76 : decode (zB 177) 76 = .ok (.iload_n 1, 1) := (congrArg (fun c => decode c 76) zeq177).trans (by decide +kernel)
theorem d177_77 : decode (zB 177) 77 = .ok (.aaload, 1) := (congrArg (fun c => decode c 77) zeq177).trans (by decide +kernel)
theorem d177_78 : decode (zB 177) 78 = .ok (.iload_n 2, 1) := (congrArg (fun c => decode c 78) zeq177).trans (by decide +kernel)
theorem d177_79 : decode (zB 177) 79 = .ok (.iload_n 3, 1) := (congrArg (fun c => decode c 79) zeq177).trans (by decide +kernel)
theorem d177_80 : decode (zB 177) 80 = .ok (.ifCond .ne 7, 3) := (congrArg (fun c => decode c 80) zeq177).trans (by decide +kernel)
theorem d177_83 : decode (zB 177) 83 = .ok (.iconst 2, 1) := (congrArg (fun c => decode c 83) zeq177).trans (by decide +kernel)
theorem d177_84 : decode (zB 177) 84 = .ok (.goto 4, 3) := (congrArg (fun c => decode c 84) zeq177).trans (by decide +kernel)
theorem d177_87 : decode (zB 177) 87 = .ok (.iconst 3, 1) := (congrArg (fun c => decode c 87) zeq177).trans (by decide +kernel)
theorem d177_88 : decode (zB 177) 88 = .ok (.iastore, 1) := (congrArg (fun c => decode c 88) zeq177).trans (by decide +kernel)
theorem d177_89 : decode (zB 177) 89 = .ok (.aload_n 0, 1) := (congrArg (fun c => decode c 89) zeq177).trans (by decide +kernel)
theorem d177_90 : decode (zB 177) 90 = .ok (.iload_n 3, 1) := (congrArg (fun c => decode c 90) zeq177).trans (by decide +kernel)
theorem d177_91 : decode (zB 177) 91 = .ok (.ifCond .ne 7, 3) := (congrArg (fun c => decode c 91) zeq177).trans (by decide +kernel)
theorem d177_94 : decode (zB 177) 94 = .ok (.iconst 3, 1) := (congrArg (fun c => decode c 94) zeq177).trans (by decide +kernel)
theorem d177_95 : decode (zB 177) 95 = .ok (.goto 4, 3) := (congrArg (fun c => decode c 95) zeq177).trans (by decide +kernel)
theorem d177_98 : decode (zB 177) 98 = .ok (.iconst 4, 1) := (congrArg (fun c => decode c 98) zeq177).trans (by decide +kernel)
theorem d177_99 : decode (zB 177) 99 = .ok (.iload_n 1, 1) := (congrArg (fun c => decode c 99) zeq177).trans (by decide +kernel)
theorem d177_100 : decode (zB 177) 100 = .ok (.iload_n 2, 1) := (congrArg (fun c => decode c 100) zeq177).trans (by decide +kernel)
theorem d177_101 : decode (zB 177) 101 = .ok (.invokevirtual 307, 3) := (congrArg (fun c => decode c 101) zeq177).trans (by decide +kernel)
theorem d177_104 : decode (zB 177) 104 = .ok (.aload_n 0, 1) := (congrArg (fun c => decode c 104) zeq177).trans (by decide +kernel)
theorem d177_105 : decode (zB 177) 105 = .ok (.iload_n 1, 1) := (congrArg (fun c => decode c 105) zeq177).trans (by decide +kernel)
theorem d177_106 : decode (zB 177) 106 = .ok (.iconst 1, 1) := (congrArg (fun c => decode c 106) zeq177).trans (by decide +kernel)
theorem d177_107 : decode (zB 177) 107 = .ok (.invokevirtual 304, 3) := (congrArg (fun c => decode c 107) zeq177).trans (by decide +kernel)
theorem d177_110 : decode (zB 177) 110 = .ok (.ifCond .ne 9, 3) := (congrArg (fun c => decode c 110) zeq177).trans (by decide +kernel)
theorem d177_113 : decode (zB 177) 113 = .ok (.aload_n 0, 1) := (congrArg (fun c => decode c 113) zeq177).trans (by decide +kernel)
theorem d177_114 : decode (zB 177) 114 = .ok (.iload_n 1, 1) := (congrArg (fun c => decode c 114) zeq177).trans (by decide +kernel)
theorem d177_115 : decode (zB 177) 115 = .ok (.iconst 4, 1) := (congrArg (fun c => decode c 115) zeq177).trans (by decide +kernel)
theorem d177_116 : decode (zB 177) 116 = .ok (.invokevirtual 323, 3) := (congrArg (fun c => decode c 116) zeq177).trans (by decide +kernel)
theorem d177_119 : decode (zB 177) 119 = .ok (.return_, 1) := (congrArg (fun c => decode c 119) zeq177).trans (by decide +kernel)
/-- behind what was undone: whether the saga is over -/
theorem e177 {d : Nat} {M1 : zM} {Q : Option Value → zM → Prop} {T : Nat → yT} {c s κ : Nat} {nm : Nat → Nat → Int32} {X : yX} {l : List (Nat × Value)} (hC : CX G M1 T c nm X κ) (hs : s < 3) (h0 : gt (yxs X s) ≠ 0) (hl : yln X.2 + 1 ≤ 240) (e0 : zld l 0 = some (.ref 136)) (e1 : zld l 1 = some (.int (nI s))) (k : ∀ M', CX G M' T c nm (if gm (yxs X s) 1 = 0 then yen X s 4 else X) κ → Fi FX M1 M' → Q none M') : qW (zEv (d + 3)) 177 Q 104 l [] M1 := by
  have hg := gm_lt (yxs X s) 1
  refine q_aload_n (j := 0) d177_104 e0 ?_
  refine q_iload_n (j := 1) d177_105 e1 ?_
  refine q_iconstN (z := 1) d177_106 ?_
  refine q_v2 d177_107 rfl rfl (xk_136 hC.1) (Nat.le_of_ble_eq_true rfl) (c179 (S := yxs X s) hC.1 hs (hC.2.2.2.2.1 s hs) hC.k (hC.2.2.1.2.2 s hs) (by omega) ?_)
  refine n0_ne 119 d177_110 (by decide) (by omega) (fun h110 => ?_) (fun h110 => ?_)
  · refine q_ret d177_119 rfl ?_
    rw [if_neg (show ¬ gm (yxs X s) 1 = 0 from h110)] at k
    exact k _ hC (Fi.refl _ _)
  · refine q_aload_n (j := 0) d177_113 e0 ?_
    refine q_iload_n (j := 1) d177_114 e1 ?_
    refine q_iconstN (z := 4) d177_115 ?_
    refine q_v2 d177_116 rfl rfl (xk_136 hC.1) (Nat.le_of_ble_eq_true rfl) (hC.over hs h0 (by decide) (by decide) hl (fun M2 hC2 f2 => ?_))
    refine q_ret d177_119 rfl ?_
    rw [if_pos (show gm (yxs X s) 1 = 0 from h110)] at k
    exact k _ hC2 f2
theorem e177a {d : Nat} {M M1 : zM} {Q : Option Value → zM → Prop} {T : Nat → yT} {c s i κ : Nat} {nm : Nat → Nat → Int32} {X : yX} {l : List Nat} (hC : CX G M T c nm X κ) (hs : s < 3) (h1 : gt (yxs X s) ≠ 0) (hg : go (yxs X s) = i :: l) (hl : yln X.2 + 2 ≤ 240) (f1 : Fi (F2 s) M M1) (hP1 : XPu M1 (ych (T (gx (yxs X s))) X.1.1 i (gb (yxs X s) i) (-1))) (hL1 : XLo G M1 X.2) (hc1 : zi M1 136 20 = nI κ) (hS1 : XSa M1 s (gqS (yxs X s) (ysd (gq (yxs X s)) i)) κ) (ep : ypl (gq (yxs X s)) i = false) (hy : yob (T (gx (yxs X s))) X.1.1 i (gb (yxs X s) i) (-1) = 0) (k : ∀ M', CX G M' T c nm (yba (T (gx (yxs X s))) s X) κ → Fi FX M M' → Q none M') : qW (zEv (d + 3)) 177 Q 59 [(3, .int (nI 0)), (2, .int (nI i)), (0, .ref 136), (1, .int (nI s))] [] M1 := by
  have hX := hC.1
  have hOs : OKS T c (yxs X s) := hC.2.2.1.2.2 s hs
  have hx : gx (yxs X s) < c := hOs.2.1 h1
  have hT := hC.k
  have hoT := hT.2.2 _ hx
  have hn := hoT.n
  have hc6 := hT.2.1
  have hgd : gd (yxs X s) i = 1 := (hOs.2.2.2.1 i).mp (by rw [hg]; exact List.mem_cons_self)
  have hi : i < tn (T (gx (yxs X s))) := by
    apply Classical.byContradiction
    intro q
    have := hOs.2.2.2.2.1 i (by rw [gz_n h1]; omega)
    omega
  obtain ⟨a1, a2, a3, a4, a5⟩ := yun_ok hC.2.2.1 hs h1
  have hX1 := SX_fi hX f1
  refine q_iload_n d177_59 rfl ?_
  refine n0_eq 72 d177_60 (by decide) (by decide) (fun _ => ?_) (fun q => absurd q (by decide))
  refine q_aload_n d177_72 rfl ?_
  refine q_getr (c := 8) (f := 13) d177_73 ⟨rfl, rfl⟩ (xk_136 hX1) (xf_stands hX1) ?_
  refine q_iload_n d177_76 rfl ?_
  refine n_aald d177_77 (xk_stands hX1) (by decide) (by omega) (by decide) (xr_stands hX1 (by omega)) ?_
  refine q_iload_n d177_78 rfl ?_
  refine q_iload_n d177_79 rfl ?_
  refine n0_ne 87 d177_80 (by decide) (by decide) (fun q => absurd q (by decide)) (fun _ => ?_)
  refine q_iconstN (z := 2) d177_83 ?_
  refine q_goto 88 d177_84 (by decide) ?_
  refine n_iast d177_88 (xa_stands hX1 (by omega)) (by omega) (by decide) ?_
  have hS3 : XSa _ s (goS (gdS (gqS (yxs X s) (ysd (gq (yxs X s)) i)) (yu (gd (yxs X s)) i 2)) l) κ := hS1.wu (v := 2) hs hg (by decide)
  have f3 : Fi (fun b _ => b = 194 + s ∨ b = 178 + s) M1 (zwi M1 (178 + s) i (nI 2)) := ((Fi.refl _ _).wi (Or.inr rfl))
  have hL3 := hL1.fi f3 (fun b k q1 q2 => by unfold GL at q1; omega)
  refine q_aload_n d177_89 rfl ?_
  refine q_iload_n d177_90 rfl ?_
  refine n0_ne 98 d177_91 (by decide) (by decide) (fun q => absurd q (by decide)) (fun _ => ?_)
  refine q_iconstN (z := 3) d177_94 ?_
  refine q_goto 99 d177_95 (by decide) ?_
  refine q_iload_n d177_99 rfl ?_
  refine q_iload_n d177_100 rfl ?_
  refine q_v3 d177_101 rfl rfl (xk_136 hX1) (Nat.le_of_ble_eq_true rfl) (c171 hX1 hL3 (by omega) (fun M4 hL4 f4 => ?_))
  have fa : Fi (F2 s) M M4 := f1.trans ((f3.mono (fun b k q => by unfold F2; omega)).trans (f4.mono (fun b k q => Or.inr (Or.inl q))))
  have e := yun_A (T := T (gx (yxs X s))) hg ep hy
  have hC4 : CX G M4 T c nm (yun (T (gx (yxs X s))) s X) κ := by
    rw [e] at a1 ⊢
    exact hC.sg hs fa (XPu_fi (XPu_fi hP1 f3 (fun b k q1 q2 => by unfold GP at q1; omega)) f4 (fun b k q1 q2 => by unfold GP at q1; unfold GL at q2; omega)) (by rw [yA1]; exact hS3.fi f4 (fun b k q1 q2 => by unfold GS at q1; unfold GL at q2; omega)) (Nat.le_refl _) ((f4.1 _ _ (by unfold GL; omega)).trans ((f3.1 _ _ (by omega)).trans hc1)) hL4 (fun r hr => by rw [yA1n hr]; try rfl) a1 (by rw [yA1]; rfl) h1
  exact e177 hC4 hs (by rw [a3]; exact h1) (by omega) rfl rfl (fun M5 h5 f5 => k M5 h5 ((fa.mono (fun b k q => F2_X hs q)).trans f5))
theorem e177b {d : Nat} {M M1 : zM} {Q : Option Value → zM → Prop} {T : Nat → yT} {c s i κ : Nat} {nm : Nat → Nat → Int32} {X : yX} {l : List Nat} (hC : CX G M T c nm X κ) (hs : s < 3) (h1 : gt (yxs X s) ≠ 0) (hg : go (yxs X s) = i :: l) (hl : yln X.2 + 2 ≤ 240) (f1 : Fi (F2 s) M M1) (hP1 : XPu M1 X.1.1) (hL1 : XLo G M1 X.2) (hc1 : zi M1 136 20 = nI κ) {r : Int32} (hS1 : XSa M1 s (gqS (yxs X s) (ysd (gq (yxs X s)) i)) κ) (hr : (if ypl (gq (yxs X s)) i then 1 else yob (T (gx (yxs X s))) X.1.1 i (gb (yxs X s) i) (-1)) = r) (h0 : ¬ r = 0) (k : ∀ M', CX G M' T c nm (yba (T (gx (yxs X s))) s X) κ → Fi FX M M' → Q none M') : qW (zEv (d + 3)) 177 Q 59 [(3, .int r), (2, .int (nI i)), (0, .ref 136), (1, .int (nI s))] [] M1 := by
  have hX := hC.1
  have hOs : OKS T c (yxs X s) := hC.2.2.1.2.2 s hs
  have hx : gx (yxs X s) < c := hOs.2.1 h1
  have hT := hC.k
  have hoT := hT.2.2 _ hx
  have hn := hoT.n
  have hc6 := hT.2.1
  have hgd : gd (yxs X s) i = 1 := (hOs.2.2.2.1 i).mp (by rw [hg]; exact List.mem_cons_self)
  have hi : i < tn (T (gx (yxs X s))) := by
    apply Classical.byContradiction
    intro q
    have := hOs.2.2.2.2.1 i (by rw [gz_n h1]; omega)
    omega
  obtain ⟨a1, a2, a3, a4, a5⟩ := yun_ok hC.2.2.1 hs h1
  have hX1 := SX_fi hX f1
  refine q_iload_n d177_59 rfl ?_
  refine i0_eq 72 d177_60 (by decide) (fun h60 => (False.elim (h0 h60))) (fun h60 => ?_)
  refine q_aload_n d177_63 rfl ?_
  refine q_getr (c := 8) (f := 17) d177_64 ⟨rfl, rfl⟩ (xk_136 hX1) (xf_whys hX1) ?_
  refine q_iload_n d177_67 rfl ?_
  refine n_aald d177_68 (xk_whys hX1) (by decide) (by omega) (by decide) (xr_whys hX1 (by omega)) ?_
  refine q_iload_n d177_69 rfl ?_
  refine q_iload_n d177_70 rfl ?_
  refine n_iast d177_71 (xa_whys hX1 (by omega)) (by omega) (by decide) ?_
  have hS2 : XSa _ s (gwS (gqS (yxs X s) (ysd (gq (yxs X s)) i)) (yu (gw (yxs X s)) i r)) κ := hS1.ww (i := i) (v := r) hs
  refine q_aload_n d177_72 rfl ?_
  refine q_getr (c := 8) (f := 13) d177_73 ⟨rfl, rfl⟩ (xk_136 hX1) (xf_stands hX1) ?_
  refine q_iload_n d177_76 rfl ?_
  refine n_aald d177_77 (xk_stands hX1) (by decide) (by omega) (by decide) (xr_stands hX1 (by omega)) ?_
  refine q_iload_n d177_78 rfl ?_
  refine q_iload_n d177_79 rfl ?_
  refine i0_ne 87 d177_80 (by decide) (fun h80 => ?_) (fun h80 => (False.elim (h0 h80)))
  refine q_iconstN (z := 3) d177_87 ?_
  refine n_iast d177_88 (xa_stands hX1 (by omega)) (by omega) (by decide) ?_
  have hS3 : XSa _ s (goS (gdS (gwS (gqS (yxs X s) (ysd (gq (yxs X s)) i)) (yu (gw (yxs X s)) i r)) (yu (gd (yxs X s)) i 3)) l) κ := hS2.wu (v := 3) hs hg (by decide)
  have f3 : Fi (fun b _ => b = 194 + s ∨ b = 178 + s) M1 (zwi (zwi M1 (194 + s) i r) (178 + s) i (nI 3)) := (((Fi.refl _ _).wi (Or.inl rfl)).wi (Or.inr rfl))
  have hL3 := hL1.fi f3 (fun b k q1 q2 => by unfold GL at q1; omega)
  refine q_aload_n d177_89 rfl ?_
  refine q_iload_n d177_90 rfl ?_
  refine i0_ne 98 d177_91 (by decide) (fun h91 => ?_) (fun h91 => (False.elim (h0 h91)))
  refine q_iconstN (z := 4) d177_98 ?_
  refine q_iload_n d177_99 rfl ?_
  refine q_iload_n d177_100 rfl ?_
  refine q_v3 d177_101 rfl rfl (xk_136 hX1) (Nat.le_of_ble_eq_true rfl) (c171 hX1 hL3 (by omega) (fun M4 hL4 f4 => ?_))
  have fa : Fi (F2 s) M M4 := f1.trans ((f3.mono (fun b k q => by unfold F2; omega)).trans (f4.mono (fun b k q => Or.inr (Or.inl q))))
  have e := yun_B (T := T (gx (yxs X s))) hg hr h0
  have hC4 : CX G M4 T c nm (yun (T (gx (yxs X s))) s X) κ := by
    rw [e] at a1 ⊢
    exact hC.sg hs fa (XPu_fi (XPu_fi hP1 f3 (fun b k q1 q2 => by unfold GP at q1; omega)) f4 (fun b k q1 q2 => by unfold GP at q1; unfold GL at q2; omega)) (by rw [yA1]; exact hS3.fi f4 (fun b k q1 q2 => by unfold GS at q1; unfold GL at q2; omega)) (Nat.le_refl _) ((f4.1 _ _ (by unfold GL; omega)).trans ((f3.1 _ _ (by omega)).trans hc1)) hL4 (fun r hr => by rw [yA1n hr]; try rfl) a1 (by rw [yA1]; rfl) h1
  exact e177 hC4 hs (by rw [a3]; exact h1) (by omega) rfl rfl (fun M5 h5 f5 => k M5 h5 ((fa.mono (fun b k q => F2_X hs q)).trans f5))
theorem c177 {d : Nat} {M : zM} {Q : Option Value → zM → Prop} {T : Nat → yT} {c s κ : Nat} {nm : Nat → Nat → Int32} {X : yX} (hC : CX G M T c nm X κ) (hs : s < 3) (h1 : gt (yxs X s) ≠ 0) (hl : yln X.2 + 2 ≤ 240) (hκ : κ < 2147483648) (k : ∀ M', CX G M' T c nm (yba (T (gx (yxs X s))) s X) κ → Fi FX M M' → Q none M') : qC (d + 4) 177 [.ref 136, .int (nI s)] M Q := by
  refine qC_of (by decide) (Nat.le_of_ble_eq_true rfl) ?_
  have hsa : XSa M s (yxs X s) κ := hC.2.2.2.2.1 s hs
  have hc0 := hC.2.2.2.2.2.1
  have hL := hC.2.2.2.2.2.2.1
  have hX := hC.1
  have hOs : OKS T c (yxs X s) := hC.2.2.1.2.2 s hs
  cases eg : go (yxs X s) with
  | nil =>
    refine q_aload_n d177_0 rfl ?_
    refine q_iload_n d177_1 rfl ?_
    refine q_v1 d177_2 rfl rfl (xk_136 hX) (Nat.le_of_ble_eq_true rfl) (c178 (S := yxs X s) hX hs hsa hC.k hOs hκ ?_)
    rw [eg, show ylast [] = -1 from rfl]
    refine q_istore_n d177_5 (by decide) rfl ?_
    refine q_iload_n d177_6 rfl ?_
    refine q_iconst (x := (-1)) d177_7 rfl ?_
    refine ic_eq 104 d177_8 (by decide) (fun h8 => ?_) (fun h8 => (False.elim (h8 rfl)))
    have e := yun_N (T := T (gx (yxs X s))) eg
    exact e177 hC hs h1 (by omega) rfl rfl (fun M5 h5 f5 => k M5 (by unfold yba; simp only []; rw [e]; exact h5) f5)
  | cons i l =>
    have hX := hC.1
    have hOs : OKS T c (yxs X s) := hC.2.2.1.2.2 s hs
    have hx : gx (yxs X s) < c := hOs.2.1 h1
    have hT := hC.k
    have hoT := hT.2.2 _ hx
    have hn := hoT.n
    have hc6 := hT.2.1
    have hgd : gd (yxs X s) i = 1 := (hOs.2.2.2.1 i).mp (by rw [eg]; exact List.mem_cons_self)
    have hi : i < tn (T (gx (yxs X s))) := by
      apply Classical.byContradiction
      intro q
      have := hOs.2.2.2.2.1 i (by rw [gz_n h1]; omega)
      omega
    obtain ⟨a1, a2, a3, a4, a5⟩ := yun_ok hC.2.2.1 hs h1
    have hx1 : zi M 176 s = nI (gx (yxs X s)) := hsa.1.2.trans (if_neg h1)
    refine q_aload_n d177_0 rfl ?_
    refine q_iload_n d177_1 rfl ?_
    refine q_v1 d177_2 rfl rfl (xk_136 hX) (Nat.le_of_ble_eq_true rfl) (c178 (S := yxs X s) hX hs hsa hC.k hOs hκ ?_)
    rw [eg, show ylast (i :: l) = nI i from rfl]
    refine q_istore_n d177_5 (by decide) rfl ?_
    refine q_iload_n d177_6 rfl ?_
    refine q_iconst (x := (-1)) d177_7 rfl ?_
    refine ic_eq 104 d177_8 (by decide) (fun h8 => (False.elim (nI_m1 (by omega) h8))) (fun h8 => ?_)
    refine q_aload_n d177_11 rfl ?_
    refine q_getr (c := 8) (f := 19) d177_12 ⟨rfl, rfl⟩ (xk_136 hX) (xf_undoPlans hX) ?_
    refine q_iload_n d177_15 rfl ?_
    refine n_aald d177_16 (xk_undoPlans hX) (by decide) (by omega) (by decide) (xr_undoPlans hX (by omega)) ?_
    refine q_iload_n d177_17 rfl ?_
    refine n_iald d177_18 (xa_undoPlans hX (by omega)) (by omega) (by decide) ((hsa.2.1 _ (by omega)).2.2.2.2) ?_
    refine i0_le 39 d177_19 (by decide) (fun h19 => ?_) (fun h19 => ?_)
    · refine q_aload_n d177_39 rfl ?_
      refine q_aload_n d177_40 rfl ?_
      refine q_getr (c := 8) (f := 12) d177_41 ⟨rfl, rfl⟩ (xk_136 hX) (xf_textOf hX) ?_
      refine q_iload_n d177_44 rfl ?_
      refine n_iald d177_45 (xk_textOf hX) (by omega) (by decide) hx1 ?_
      refine q_iload_n d177_46 rfl ?_
      refine q_aload_n d177_47 rfl ?_
      refine q_getr (c := 8) (f := 15) d177_48 ⟨rfl, rfl⟩ (xk_136 hX) (xf_by hX) ?_
      refine q_iload_n d177_51 rfl ?_
      refine n_aald d177_52 (xk_by hX) (by decide) (by omega) (by decide) (xr_by hX (by omega)) ?_
      refine q_iload_n d177_53 rfl ?_
      refine n_iald d177_54 (xa_by hX (by omega)) (by omega) (by decide) (hsa.2.2.1 _ (by omega) hgd) ?_
      refine q_v3 d177_55 rfl rfl (xk_136 hX) (Nat.le_of_ble_eq_true rfl) (c180 hX hC.2.2.2.1 (hC.2.1 _ hx) hoT hC.2.2.1.2.1 (by omega) hi (fun M1 hP1 f1 => ?_))
      refine q_istore_n d177_58 (by decide) rfl ?_
      have ep : ypl (gq (yxs X s)) i = false := decide_eq_false (Int32.not_lt.mpr h19)
      have es : gqS (yxs X s) (ysd (gq (yxs X s)) i) = yxs X s := by unfold ysd; rw [ep]; rfl
      have hsa1 := hsa.fi f1 (fun b k q1 q2 => by unfold GS at q1; unfold GP at q2; omega)
      have hL1 := hL.fi f1 (fun b k q1 q2 => by unfold GL at q1; unfold GP at q2; omega)
      have hc1 : zi M1 136 20 = nI κ := (f1.1 _ _ (by unfold GP; omega)).trans hc0
      by_cases hy : yob (T (gx (yxs X s))) X.1.1 i (gb (yxs X s) i) (-1) = 0
      · rw [show yob (T (gx (yxs X s))) X.1.1 i (gb (yxs X s) i) (-1) = nI 0 from hy]
        exact e177a hC hs h1 eg hl (f1.mono (fun b k q => Or.inl q)) (by have h := hP1; unfold xdo at h; rw [if_pos hy] at h; exact h) hL1 hc1 (by rw [es]; exact hsa1) ep hy k
      · exact e177b hC hs h1 eg hl (f1.mono (fun b k q => Or.inl q)) (by have h := hP1; unfold xdo at h; rw [if_neg hy] at h; exact h) hL1 hc1 (by rw [es]; exact hsa1) (by rw [ep]; rfl) hy k
    · refine q_aload_n d177_22 rfl ?_
      refine q_getr (c := 8) (f := 19) d177_23 ⟨rfl, rfl⟩ (xk_136 hX) (xf_undoPlans hX) ?_
      refine q_iload_n d177_26 rfl ?_
      refine n_aald d177_27 (xk_undoPlans hX) (by decide) (by omega) (by decide) (xr_undoPlans hX (by omega)) ?_
      refine q_iload_n d177_28 rfl ?_
      refine q_dup2 d177_29 rfl rfl ?_
      refine n_iald d177_30 (xa_undoPlans hX (by omega)) (by omega) (by decide) ((hsa.2.1 _ (by omega)).2.2.2.2) ?_
      refine q_iconstN (z := 1) d177_31 ?_
      refine q_isub d177_32 ?_
      refine n_iast d177_33 (xa_undoPlans hX (by omega)) (by omega) (by decide) ?_
      refine q_iconstN (z := 1) d177_34 ?_
      refine q_istore_n d177_35 (by decide) rfl ?_
      refine q_goto 59 d177_36 (by decide) ?_
      have ep : ypl (gq (yxs X s)) i = true := decide_eq_true (Int32.not_le.mp h19)
      have f1 : Fi (fun b _ => b = 202 + s) M (zwi M (202 + s) i (gq (yxs X s) i - 1)) := (Fi.refl _ _).wi rfl
      exact e177b (r := 1) hC hs h1 eg hl (f1.mono (fun b k q => by unfold F2; omega)) (XPu_fi hC.2.2.2.1 f1 (fun b k q1 q2 => by unfold GP at q1; omega)) (hL.fi f1 (fun b k q1 q2 => by unfold GL at q1; omega)) ((f1.1 _ _ (by omega)).trans hc0) (by unfold ysd; rw [ep]; exact hsa.wq hs) (by rw [ep]; rfl) (by decide) k
end RG
/-! ===== the reference: a tick ===== -/
section RG
variable {G : List yL}
theorem bI_is {p : Bool} (h : bI p = nI 1) : p = true := by
  cases p with
  | true => rfl
  | false => exact absurd h (by decide)
theorem bI_not {p : Bool} (h : ¬ bI p = nI 1) : p = false := by
  cases p with
  | false => rfl
  | true => exact absurd rfl h
theorem d176_0 : decode (zB 176) 0 = .ok (.aload_n 0, 1) := (congrArg (fun c => decode c 0) zeq176).trans (by decide +kernel)
theorem d176_1 : decode (zB 176) 1 = .ok (.getfield 36, 3) := (congrArg (fun c => decode c 1) zeq176).trans (by decide +kernel)
theorem d176_4 : decode (zB 176) 4 = .ok (.iload_n 1, 1) := (congrArg (fun c => decode c 4) zeq176).trans (by decide +kernel)
theorem d176_5 : decode (zB 176) 5 = .ok (.iaload, 1) := (congrArg (fun c => decode c 5) zeq176).trans (by decide +kernel)
theorem d176_6 : decode (zB 176) 6 = .ok (.iconst 2, 1) := (congrArg (fun c => decode c 6) zeq176).trans (by decide +kernel)
theorem d176_7 : decode (zB 176) 7 = .ok (.if_icmp .ne 11, 3) := (congrArg (fun c => decode c 7) zeq176).trans (by decide +kernel)
theorem d176_10 : decode (zB 176) 10 = .ok (.aload_n 0, 1) := (congrArg (fun c => decode c 10) zeq176).trans (by decide +kernel)
theorem d176_11 : decode (zB 176) 11 = .ok (.iload_n 1, 1) := (congrArg (fun c => decode c 11) zeq176).trans (by decide +kernel)
theorem d176_12 : decode (zB 176) 12 = .ok (.invokevirtual 333, 3) := (congrArg (fun c => decode c 12) zeq176).trans (by decide +kernel)
theorem d176_15 : decode (zB 176) 15 = .ok (.goto 99, 3) := (congrArg (fun c => decode c 15) zeq176).trans (by decide +kernel)
theorem d176_18 : decode (zB 176) 18 = .ok (.aload_n 0, 1) := (congrArg (fun c => decode c 18) zeq176).trans (by decide +kernel)
theorem d176_19 : decode (zB 176) 19 = .ok (.getfield 36, 3) := (congrArg (fun c => decode c 19) zeq176).trans (by decide +kernel)
theorem d176_22 : decode (zB 176) 22 = .ok (.iload_n 1, 1) := (congrArg (fun c => decode c 22) zeq176).trans (by decide +kernel)
theorem d176_23 : decode (zB 176) 23 = .ok (.iaload, 1) := (congrArg (fun c => decode c 23) zeq176).trans (by decide +kernel)
theorem d176_24 : decode (zB 176) 24 = .ok (.iconst 1, 1) := (congrArg (fun c => decode c 24) zeq176).trans (by decide +kernel)
theorem d176_25 : decode (zB 176) 25 = .ok (.if_icmp .ne 89, 3) := (congrArg (fun c => decode c 25) zeq176).trans (by decide +kernel)
theorem d176_28 : decode (zB 176) 28 = .ok (.aload_n 0, 1) := (congrArg (fun c => decode c 28) zeq176).trans (by decide +kernel)
theorem d176_29 : decode (zB 176) 29 = .ok (.iload_n 1, 1) := (congrArg (fun c => decode c 29) zeq176).trans (by decide +kernel)
theorem d176_30 : decode (zB 176) 30 = .ok (.invokevirtual 336, 3) := (congrArg (fun c => decode c 30) zeq176).trans (by decide +kernel)
theorem d176_33 : decode (zB 176) 33 = .ok (.istore_n 2, 1) := (congrArg (fun c => decode c 33) zeq176).trans (by decide +kernel)
theorem d176_34 : decode (zB 176) 34 = .ok (.iconst 1, 1) := (congrArg (fun c => decode c 34) zeq176).trans (by decide +kernel)
theorem d176_35 : decode (zB 176) 35 = .ok (.istore_n 3, 1) := (congrArg (fun c => decode c 35) zeq176).trans (by decide +kernel)
theorem d176_36 : decode (zB 176) 36 = .ok (.iconst 0, 1) := (congrArg (fun c => decode c 36) zeq176).trans (by decide +kernel)
theorem d176_37 : decode (zB 176) 37 = .ok (.istore 4, 2) := (congrArg (fun c => decode c 37) zeq176).trans (by decide +kernel)
theorem d176_39 : decode (zB 176) 39 = .ok (.iload 4, 2) := (congrArg (fun c => decode c 39) zeq176).trans (by decide +kernel)
theorem d176_41 : decode (zB 176) 41 = .ok (.bipush 12, 2) := (congrArg (fun c => decode c 41) zeq176).trans (by decide +kernel)
theorem d176_43 : decode (zB 176) 43 = .ok (.if_icmp .ge 31, 3) := (congrArg (fun c => decode c 43) zeq176).trans (by decide +kernel)
theorem d176_46 : decode (zB 176) 46 = .ok (.iload_n 3, 1) := (congrArg (fun c => decode c 46) zeq176).trans (by decide +kernel)
theorem d176_47 : decode (zB 176) 47 = .ok (.ifCond .eq 27, 3) := (congrArg (fun c => decode c 47) zeq176).trans (by decide +kernel)
theorem d176_50 : decode (zB 176) 50 = .ok (.iload_n 2, 1) := (congrArg (fun c => decode c 50) zeq176).trans (by decide +kernel)
theorem d176_51 : decode (zB 176) 51 = .ok (.iload 4, 2) := (congrArg (fun c => decode c 51) zeq176).trans (by decide +kernel)
theorem d176_53 : decode (zB 176) 53 = .ok (.ishr, 1) := (congrArg (fun c => decode c 53) zeq176).trans (by decide +kernel)
theorem d176_54 : decode (zB 176) 54 = .ok (.iconst 1, 1) := (congrArg (fun c => decode c 54) zeq176).trans (by decide +kernel)
theorem d176_55 : decode (zB 176) 55 = .ok (.iand, 1) := (congrArg (fun c => decode c 55) zeq176).trans (by decide +kernel)
theorem d176_56 : decode (zB 176) 56 = .ok (.iconst 1, 1) := (congrArg (fun c => decode c 56) zeq176).trans (by decide +kernel)
theorem d176_57 : decode (zB 176) 57 = .ok (.if_icmp .ne 11, 3) := (congrArg (fun c => decode c 57) zeq176).trans (by decide +kernel)
theorem d176_60 : decode (zB 176) 60 = .ok (.aload_n 0, 1) := (congrArg (fun c => decode c 60) zeq176).trans (by decide +kernel)
theorem d176_61 : decode (zB 176) 61 = .ok (.iload_n 1, 1) := (congrArg (fun c => decode c 61) zeq176).trans (by decide +kernel)
theorem d176_62 : decode (zB 176) 62 = .ok (.iload 4, 2) := (congrArg (fun c => decode c 62) zeq176).trans (by decide +kernel)
theorem d176_64 : decode (zB 176) 64 = .ok (.invokevirtual 339, 3) := (congrArg (fun c => decode c 64) zeq176).trans (by decide +kernel)
theorem d176_67 : decode (zB 176) 67 = .ok (.istore_n 3, 1) := (congrArg (fun c => decode c 67) zeq176).trans (by decide +kernel)
theorem d176_68 : decode (zB 176) 68 = .ok (.iinc 4 1, 3) := (congrArg (fun c => decode c 68) zeq176).trans (by decide +kernel)
theorem d176_71 : decode (zB 176) 71 = .ok (.goto (-32), 3) := (congrArg (fun c => decode c 71) zeq176).trans (by decide +kernel)
theorem d176_74 : decode (zB 176) 74 = .ok (.aload_n 0, 1) := (congrArg (fun c => decode c 74) zeq176).trans (by decide +kernel)
theorem d176_75 : decode (zB 176) 75 = .ok (.getfield 36, 3) := (congrArg (fun c => decode c 75) zeq176).trans (by decide +kernel)
theorem d176_78 : decode (zB 176) 78 = .ok (.iload_n 1, 1) := (congrArg (fun c => decode c 78) zeq176).trans (by decide +kernel)
theorem d176_79 : decode (zB 176) 79 = .ok (.iaload, 1) := (congrArg (fun c => decode c 79) zeq176).trans (by decide +kernel)
theorem d176_80 : decode (zB 176) 80 = .ok (.iconst 1, 1) := (congrArg (fun c => decode c 80) zeq176).trans (by decide +kernel)
theorem d176_81 : decode (zB 176) 81 = .ok (.if_icmp .ne 33, 3) := (congrArg (fun c => decode c 81) zeq176).trans (by decide +kernel)
theorem d176_84 : decode (zB 176) 84 = .ok (.aload_n 0, 1) := (congrArg (fun c => decode c 84) zeq176).trans (by decide +kernel)
theorem d176_85 : decode (zB 176) 85 = .ok (.iload_n 1, 1) := (congrArg (fun c => decode c 85) zeq176).trans (by decide +kernel)
theorem d176_86 : decode (zB 176) 86 = .ok (.iconst 1, 1) := (congrArg (fun c => decode c 86) zeq176).trans (by decide +kernel)
theorem d176_87 : decode (zB 176) 87 = .ok (.invokevirtual 304, 3) := (congrArg (fun c => decode c 87) zeq176).trans (by decide +kernel)
theorem d176_90 : decode (zB 176) 90 = .ok (.iconst 1, 1) := (congrArg (fun c => decode c 90) zeq176).trans (by decide +kernel)
theorem d176_91 : decode (zB 176) 91 = .ok (.aload_n 0, 1) := (congrArg (fun c => decode c 91) zeq176).trans (by decide +kernel)
theorem d176_92 : decode (zB 176) 92 = .ok (.getfield 9, 3) := (congrArg (fun c => decode c 92) zeq176).trans (by decide +kernel)
theorem d176_95 : decode (zB 176) 95 = .ok (.aload_n 0, 1) := (congrArg (fun c => decode c 95) zeq176).trans (by decide +kernel)
theorem d176_96 : decode (zB 176) 96 = .ok (.getfield 39, 3) := (congrArg (fun c => decode c 96) zeq176).trans (by decide +kernel)
theorem d176_99 : decode (zB 176) 99 = .ok (.iload_n 1, 1) := (congrArg (fun c => decode c 99) zeq176).trans (by decide +kernel)
theorem d176_100 : decode (zB 176) 100 = .ok (.iaload, 1) := (congrArg (fun c => decode c 100) zeq176).trans (by decide +kernel)
theorem d176_101 : decode (zB 176) 101 = .ok (.iaload, 1) := (congrArg (fun c => decode c 101) zeq176).trans (by decide +kernel)
theorem d176_102 : decode (zB 176) 102 = .ok (.ishl, 1) := (congrArg (fun c => decode c 102) zeq176).trans (by decide +kernel)
theorem d176_103 : decode (zB 176) 103 = .ok (.iconst 1, 1) := (congrArg (fun c => decode c 103) zeq176).trans (by decide +kernel)
theorem d176_104 : decode (zB 176) 104 = .ok (.isub, 1) := (congrArg (fun c => decode c 104) zeq176).trans (by decide +kernel)
theorem d176_105 : decode (zB 176) 105 = .ok (.if_icmp .ne 9, 3) := (congrArg (fun c => decode c 105) zeq176).trans (by decide +kernel)
theorem d176_108 : decode (zB 176) 108 = .ok (.aload_n 0, 1) := (congrArg (fun c => decode c 108) zeq176).trans (by decide +kernel)
theorem d176_109 : decode (zB 176) 109 = .ok (.iload_n 1, 1) := (congrArg (fun c => decode c 109) zeq176).trans (by decide +kernel)
theorem d176_110 : decode (zB 176) 110 = .ok (.iconst 3, 1) := (congrArg (fun c => decode c 110) zeq176).trans (by decide +kernel)
theorem d176_111 : decode (zB 176) 111 = .ok (.invokevirtual 323, 3) := (congrArg (fun c => decode c 111) zeq176).trans (by decide +kernel)
theorem d176_114 : decode (zB 176) 114 = .ok (.return_, 1) := (congrArg (fun c => decode c 114) zeq176).trans (by decide +kernel)
theorem l176 {d : Nat} {Q : Option Value → zM → Prop} {M0 : zM} {T : Nat → yT} {c s g0 fr L0 κ : Nat} {nm : Nat → Nat → Int32} {XF : yX} (hs : s < 3) (hfr : fr < 4096) (hL : L0 + 13 ≤ 240) (hκ : κ + 12 < 2147483648) (k : ∀ M' κ', κ' ≤ κ + 12 → CX G M' T c nm (if gt (yxs XF s) = 1 ∧ gm (yxs XF s) 1 = 2 ^ tn (T g0) - 1 then yen XF s 3 else XF) κ' → Fi FX M0 M' → Q none M') : ∀ (r i : Nat) (κ1 : Nat) (M1 : zM) (X1 : yX), i ≤ 12 → 12 < i + r →  CX G M1 T c nm X1 κ1 → Fi FX M0 M1 → κ1 ≤ κ + i → gx (yxs X1 s) = g0 → (∀ j, i ≤ j → fr.testBit j = true → j < tn (T g0) ∧ gd (yxs X1 s) j = 0) → (gt (yxs X1 s) = 1 ∨ gt (yxs X1 s) = 2 ∨ gt (yxs X1 s) = 5) → ym1 X1 s ≤ L0 + 1 + i → yfl (T g0) (nm s) s fr (12 - i) i X1 = XF → qW (zEv (d + 4)) 176 Q 39 [(4, .int (nI i)), (3, .int (bI (decide (gt (yxs X1 s) = 1)))), (2, .int (nI fr)), (0, .ref 136), (1, .int (nI s))] [] M1 := by
  intro r
  induction r with
  | zero => intros; omega
  | succ r ih =>
    intro i κ1 M1 X1 h1 h2 hC1 hF hk1 hgx hf hg hm hy
    have hX := hC1.1
    have hOs : OKS T c (yxs X1 s) := hC1.2.2.1.2.2 s hs
    have hx : gx (yxs X1 s) < c := hOs.2.1 (by omega)
    have hT := hC1.k
    have hoT := hT.2.2 _ hx
    have hn := hoT.n
    have hc6 := hT.2.1
    have hm4 := gm_lt (yxs X1 s) 1
    have hsa : XSa M1 s (yxs X1 s) κ1 := hC1.2.2.2.2.1 s hs
    have hx1 : zi M1 176 s = nI (gx (yxs X1 s)) := hsa.1.2.trans (if_neg (by omega))
    have hpw : 2 ^ tn (T (gx (yxs X1 s))) ≤ 2 ^ 12 := Nat.pow_le_pow_right (by omega) hn
    have hpw : 2 ^ tn (T (gx (yxs X1 s))) ≤ 4096 := hpw
    have hpw1 : 1 ≤ 2 ^ tn (T (gx (yxs X1 s))) := Nat.one_le_two_pow
    refine q_iload d176_39 rfl ?_
    refine q_bipush (x := nI 12) d176_41 rfl ?_
    refine nc_ge 74 d176_43 (by decide) (by omega) (by omega) (fun h43 => ?_) (fun h43 => ?_)
    · have hXF : XF = X1 := by
        first
        | (rw [show 12 - i = 0 by omega] at hy; exact hy.symm)
        | (rw [show 12 - i = (12 - (i + 1)) + 1 by omega, yfl, if_neg (of_decide_eq_false h47)] at hy; exact hy.symm)
      subst hXF
      rw [← hgx] at k
      refine q_aload_n d176_74 rfl ?_
      refine q_getr (c := 8) (f := 11) d176_75 ⟨rfl, rfl⟩ (xk_136 hX) (xf_states hX) ?_
      refine q_iload_n d176_78 rfl ?_
      refine n_iald d176_79 (xk_states hX) (by omega) (by decide) hsa.1.1 ?_
      refine q_iconstN (z := 1) d176_80 ?_
      refine nc_ne 114 d176_81 (by decide) (by omega) (by omega) (fun h81 => ?_) (fun h81 => ?_)
      · refine q_ret d176_114 rfl ?_
        first
        | (rw [if_pos ⟨h81, h105⟩] at k; exact k _ _ (by omega) hC2 (hF.trans f2))
        | (rw [if_neg (fun q => h105 q.2)] at k; exact k _ _ (by omega) hC1 hF)
        | (rw [if_neg (fun q => h81 q.1)] at k; exact k _ _ (by omega) hC1 hF)
      · refine q_aload_n d176_84 rfl ?_
        refine q_iload_n d176_85 rfl ?_
        refine q_iconstN (z := 1) d176_86 ?_
        refine q_v2 d176_87 rfl rfl (xk_136 hX) (Nat.le_of_ble_eq_true rfl) (c179 (S := yxs _ s) hX hs hsa hT hOs (by omega) ?_)
        refine q_iconstN (z := 1) d176_90 ?_
        refine q_aload_n d176_91 rfl ?_
        refine q_getr (c := 8) (f := 1) d176_92 ⟨rfl, rfl⟩ (xk_136 hX) (xf_stepMany hX) ?_
        refine q_aload_n d176_95 rfl ?_
        refine q_getr (c := 8) (f := 12) d176_96 ⟨rfl, rfl⟩ (xk_136 hX) (xf_textOf hX) ?_
        refine q_iload_n d176_99 rfl ?_
        refine n_iald d176_100 (xk_textOf hX) (by omega) (by decide) hx1 ?_
        refine n_iald d176_101 (xk_stepMany hX) (by omega) (by decide) (hT.1 _ hx).1 ?_
        refine n_ishl1 d176_102 (by omega) ?_
        refine q_iconstN (z := 1) d176_103 ?_
        refine n_isub d176_104 hpw1 ?_
        refine nc_ne 114 d176_105 (by decide) (by omega) (by omega) (fun h105 => ?_) (fun h105 => ?_)
        · refine q_ret d176_114 rfl ?_
          first
          | (rw [if_pos ⟨h81, h105⟩] at k; exact k _ _ (by omega) hC2 (hF.trans f2))
          | (rw [if_neg (fun q => h105 q.2)] at k; exact k _ _ (by omega) hC1 hF)
          | (rw [if_neg (fun q => h81 q.1)] at k; exact k _ _ (by omega) hC1 hF)
        · refine q_aload_n d176_108 rfl ?_
          refine q_iload_n d176_109 rfl ?_
          refine q_iconstN (z := 3) d176_110 ?_
          refine q_v2 d176_111 rfl rfl (xk_136 hX) (Nat.le_of_ble_eq_true rfl) (hC1.over hs (by omega) (by decide) (by decide) (by unfold ym1 at hm; rw [if_pos h81] at hm; omega) (fun M2 hC2 f2 => ?_))
          refine q_ret d176_114 rfl ?_
          first
          | (rw [if_pos ⟨h81, h105⟩] at k; exact k _ _ (by omega) hC2 (hF.trans f2))
          | (rw [if_neg (fun q => h105 q.2)] at k; exact k _ _ (by omega) hC1 hF)
          | (rw [if_neg (fun q => h81 q.1)] at k; exact k _ _ (by omega) hC1 hF)
    · refine q_iload_n d176_46 rfl ?_
      refine b0_eq 74 d176_47 (by decide) (fun h47 => ?_) (fun h47 => ?_)
      · have hXF : XF = X1 := by
          first
          | (rw [show 12 - i = 0 by omega] at hy; exact hy.symm)
          | (rw [show 12 - i = (12 - (i + 1)) + 1 by omega, yfl, if_neg (of_decide_eq_false h47)] at hy; exact hy.symm)
        subst hXF
        rw [← hgx] at k
        refine q_aload_n d176_74 rfl ?_
        refine q_getr (c := 8) (f := 11) d176_75 ⟨rfl, rfl⟩ (xk_136 hX) (xf_states hX) ?_
        refine q_iload_n d176_78 rfl ?_
        refine n_iald d176_79 (xk_states hX) (by omega) (by decide) hsa.1.1 ?_
        refine q_iconstN (z := 1) d176_80 ?_
        refine nc_ne 114 d176_81 (by decide) (by omega) (by omega) (fun h81 => ?_) (fun h81 => ?_)
        · refine q_ret d176_114 rfl ?_
          first
          | (rw [if_pos ⟨h81, h105⟩] at k; exact k _ _ (by omega) hC2 (hF.trans f2))
          | (rw [if_neg (fun q => h105 q.2)] at k; exact k _ _ (by omega) hC1 hF)
          | (rw [if_neg (fun q => h81 q.1)] at k; exact k _ _ (by omega) hC1 hF)
        · refine q_aload_n d176_84 rfl ?_
          refine q_iload_n d176_85 rfl ?_
          refine q_iconstN (z := 1) d176_86 ?_
          refine q_v2 d176_87 rfl rfl (xk_136 hX) (Nat.le_of_ble_eq_true rfl) (c179 (S := yxs _ s) hX hs hsa hT hOs (by omega) ?_)
          refine q_iconstN (z := 1) d176_90 ?_
          refine q_aload_n d176_91 rfl ?_
          refine q_getr (c := 8) (f := 1) d176_92 ⟨rfl, rfl⟩ (xk_136 hX) (xf_stepMany hX) ?_
          refine q_aload_n d176_95 rfl ?_
          refine q_getr (c := 8) (f := 12) d176_96 ⟨rfl, rfl⟩ (xk_136 hX) (xf_textOf hX) ?_
          refine q_iload_n d176_99 rfl ?_
          refine n_iald d176_100 (xk_textOf hX) (by omega) (by decide) hx1 ?_
          refine n_iald d176_101 (xk_stepMany hX) (by omega) (by decide) (hT.1 _ hx).1 ?_
          refine n_ishl1 d176_102 (by omega) ?_
          refine q_iconstN (z := 1) d176_103 ?_
          refine n_isub d176_104 hpw1 ?_
          refine nc_ne 114 d176_105 (by decide) (by omega) (by omega) (fun h105 => ?_) (fun h105 => ?_)
          · refine q_ret d176_114 rfl ?_
            first
            | (rw [if_pos ⟨h81, h105⟩] at k; exact k _ _ (by omega) hC2 (hF.trans f2))
            | (rw [if_neg (fun q => h105 q.2)] at k; exact k _ _ (by omega) hC1 hF)
            | (rw [if_neg (fun q => h81 q.1)] at k; exact k _ _ (by omega) hC1 hF)
          · refine q_aload_n d176_108 rfl ?_
            refine q_iload_n d176_109 rfl ?_
            refine q_iconstN (z := 3) d176_110 ?_
            refine q_v2 d176_111 rfl rfl (xk_136 hX) (Nat.le_of_ble_eq_true rfl) (hC1.over hs (by omega) (by decide) (by decide) (by unfold ym1 at hm; rw [if_pos h81] at hm; omega) (fun M2 hC2 f2 => ?_))
            refine q_ret d176_114 rfl ?_
            first
            | (rw [if_pos ⟨h81, h105⟩] at k; exact k _ _ (by omega) hC2 (hF.trans f2))
            | (rw [if_neg (fun q => h105 q.2)] at k; exact k _ _ (by omega) hC1 hF)
            | (rw [if_neg (fun q => h81 q.1)] at k; exact k _ _ (by omega) hC1 hF)
      · refine q_iload_n d176_50 rfl ?_
        refine q_iload d176_51 rfl ?_
        refine q_ishr d176_53 ?_
        refine q_iconstN (z := 1) d176_54 ?_
        refine q_iand d176_55 ?_
        rw [n_bit (by omega) (by omega)]
        refine q_iconstN (z := 1) d176_56 ?_
        refine ic_ne 68 d176_57 (by decide) (fun h57 => ?_) (fun h57 => ?_)
        · refine n_iinc 1 d176_68 (by decide) rfl rfl ?_
          refine q_goto 39 d176_71 (by decide) ?_
          first
          | (have h1 : gt (yxs X1 s) = 1 := of_decide_eq_true h47
             rw [hgx] at hC2
             have hb := bI_is h57
             have hd1 := ytr_d (T := T g0) (n := nm s i) (i := i) h1
             have hm1 := ytr_m (T := T g0) (n := nm s i) (i := i) h1
             rw [hgx]
             exact ih (i + 1) _ _ _ (by omega) (by omega) hC2 (hF.trans f2) (by omega) (hd1.2.1.trans hgx) (fun j hj hb => ⟨(hf j (by omega) hb).1, by rw [hd1.1 j (by omega)]; exact (hf j (by omega) hb).2⟩) hd1.2.2.2 (by omega) (by rw [show 12 - i = (12 - (i + 1)) + 1 by omega, yfl, if_pos h1, if_pos hb] at hy; exact hy))
          | (have h1 : gt (yxs X1 s) = 1 := of_decide_eq_true h47
             have hb := bI_not h57
             exact ih (i + 1) _ _ _ (by omega) (by omega) hC1 hF (by omega) hgx (fun j hj hb => hf j (by omega) hb) hg (by omega) (by rw [show 12 - i = (12 - (i + 1)) + 1 by omega, yfl, if_pos h1, hb, if_neg (by decide)] at hy; exact hy))
        · refine q_aload_n d176_60 rfl ?_
          refine q_iload_n d176_61 rfl ?_
          refine q_iload d176_62 rfl ?_
          refine q_v2 d176_64 rfl rfl (xk_136 hX) (Nat.le_of_ble_eq_true rfl) (c183 hC1 hs (by rw [hgx]; exact (hf i (Nat.le_refl _) (bI_is h57)).1) (of_decide_eq_true h47) (hf i (Nat.le_refl _) (bI_is h57)).2 (by have h1 : gt (yxs X1 s) = 1 := of_decide_eq_true h47; unfold ym1 at hm; rw [if_pos h1] at hm; omega) (by omega) (fun M2 κ2 hk2 hC2 f2 => ?_))
          refine q_istore_n d176_67 (by decide) rfl ?_
          refine n_iinc 1 d176_68 (by decide) rfl rfl ?_
          refine q_goto 39 d176_71 (by decide) ?_
          first
          | (have h1 : gt (yxs X1 s) = 1 := of_decide_eq_true h47
             rw [hgx] at hC2
             have hb := bI_is h57
             have hd1 := ytr_d (T := T g0) (n := nm s i) (i := i) h1
             have hm1 := ytr_m (T := T g0) (n := nm s i) (i := i) h1
             rw [hgx]
             exact ih (i + 1) _ _ _ (by omega) (by omega) hC2 (hF.trans f2) (by omega) (hd1.2.1.trans hgx) (fun j hj hb => ⟨(hf j (by omega) hb).1, by rw [hd1.1 j (by omega)]; exact (hf j (by omega) hb).2⟩) hd1.2.2.2 (by omega) (by rw [show 12 - i = (12 - (i + 1)) + 1 by omega, yfl, if_pos h1, if_pos hb] at hy; exact hy))
          | (have h1 : gt (yxs X1 s) = 1 := of_decide_eq_true h47
             have hb := bI_not h57
             exact ih (i + 1) _ _ _ (by omega) (by omega) hC1 hF (by omega) hgx (fun j hj hb => hf j (by omega) hb) hg (by omega) (by rw [show 12 - i = (12 - (i + 1)) + 1 by omega, yfl, if_pos h1, hb, if_neg (by decide)] at hy; exact hy))
theorem c176 {d : Nat} {M : zM} {Q : Option Value → zM → Prop} {T : Nat → yT} {c s κ : Nat} {nm : Nat → Nat → Int32} {X : yX} (hC : CX G M T c nm X κ) (hs : s < 3) (hl : yln X.2 + 13 ≤ 240) (hκ : κ + 12 < 2147483648) (k : ∀ M' κ', κ' ≤ κ + 12 → CX G M' T c nm (ytu T nm s X) κ' → Fi FX M M' → Q none M') : qC (d + 5) 176 [.ref 136, .int (nI s)] M Q := by
  refine qC_of (by decide) (Nat.le_of_ble_eq_true rfl) ?_
  have hX := hC.1
  have hOs : OKS T c (yxs X s) := hC.2.2.1.2.2 s hs
  have hg5 := hOs.1
  have hT := hC.k
  have hsa : XSa M s (yxs X s) κ := hC.2.2.2.2.1 s hs
  by_cases g2 : gt (yxs X s) = 2
  · rw [ytu_2 g2] at k
    refine q_aload_n d176_0 rfl ?_
    refine q_getr (c := 8) (f := 11) d176_1 ⟨rfl, rfl⟩ (xk_136 hX) (xf_states hX) ?_
    refine q_iload_n d176_4 rfl ?_
    refine n_iald d176_5 (xk_states hX) (by omega) (by decide) hsa.1.1 ?_
    refine q_iconstN (z := 2) d176_6 ?_
    refine nc_ne 18 d176_7 (by decide) (by omega) (by omega) (fun h7 => (False.elim (h7 g2))) (fun h7 => ?_)
    refine q_aload_n d176_10 rfl ?_
    refine q_iload_n d176_11 rfl ?_
    refine q_v1 d176_12 rfl rfl (xk_136 hX) (Nat.le_of_ble_eq_true rfl) (c177 hC hs (by omega) (by omega) (by omega) (fun M1 hC1 f1 => ?_))
    refine q_goto 114 d176_15 (by decide) ?_
    refine q_ret d176_114 rfl ?_
    exact k _ _ (by omega) hC1 f1
  · by_cases g1 : gt (yxs X s) = 1
    · rw [ytu_1 g1] at k
      have hn := (hT.2.2 _ (hOs.2.1 (by omega))).n
      refine q_aload_n d176_0 rfl ?_
      refine q_getr (c := 8) (f := 11) d176_1 ⟨rfl, rfl⟩ (xk_136 hX) (xf_states hX) ?_
      refine q_iload_n d176_4 rfl ?_
      refine n_iald d176_5 (xk_states hX) (by omega) (by decide) hsa.1.1 ?_
      refine q_iconstN (z := 2) d176_6 ?_
      refine nc_ne 18 d176_7 (by decide) (by omega) (by omega) (fun h7 => ?_) (fun h7 => (False.elim (g2 h7)))
      refine q_aload_n d176_18 rfl ?_
      refine q_getr (c := 8) (f := 11) d176_19 ⟨rfl, rfl⟩ (xk_136 hX) (xf_states hX) ?_
      refine q_iload_n d176_22 rfl ?_
      refine n_iald d176_23 (xk_states hX) (by omega) (by decide) hsa.1.1 ?_
      refine q_iconstN (z := 1) d176_24 ?_
      refine nc_ne 114 d176_25 (by decide) (by omega) (by omega) (fun h25 => (False.elim (h25 g1))) (fun h25 => ?_)
      refine q_aload_n d176_28 rfl ?_
      refine q_iload_n d176_29 rfl ?_
      refine q_v1 d176_30 rfl rfl (xk_136 hX) (Nat.le_of_ble_eq_true rfl) (c182 (S := yxs X s) hX hs hsa hT hOs ?_)
      rw [if_pos g1]
      refine q_istore_n d176_33 (by decide) rfl ?_
      refine q_iconstN (z := 1) d176_34 ?_
      refine q_istore_n d176_35 (by decide) rfl ?_
      refine q_iconstN (z := 0) d176_36 ?_
      refine q_istore d176_37 (by decide) rfl ?_
      rw [show nI 1 = bI (decide (gt (yxs X s) = 1)) by rw [g1]; rfl]
      exact l176 (XF := yfl (T (gx (yxs X s))) (nm s) s (yfr (T (gx (yxs X s))) (yxs X s)) 12 0 X) (L0 := yln X.2) hs (yfr_lt _ _ hn) (by omega) hκ (fun M' κ' q1 q2 f => k M' κ' q1 q2 f) 13 0 κ M X (by omega) (by omega) hC (Fi.refl _ _) (by omega) rfl (fun j _ hj => front_bit hj) (Or.inl g1) (by unfold ym1; rw [if_pos g1]; omega) rfl
    · rw [ytu_0 g1 g2] at k
      refine q_aload_n d176_0 rfl ?_
      refine q_getr (c := 8) (f := 11) d176_1 ⟨rfl, rfl⟩ (xk_136 hX) (xf_states hX) ?_
      refine q_iload_n d176_4 rfl ?_
      refine n_iald d176_5 (xk_states hX) (by omega) (by decide) hsa.1.1 ?_
      refine q_iconstN (z := 2) d176_6 ?_
      refine nc_ne 18 d176_7 (by decide) (by omega) (by omega) (fun h7 => ?_) (fun h7 => (False.elim (g2 h7)))
      refine q_aload_n d176_18 rfl ?_
      refine q_getr (c := 8) (f := 11) d176_19 ⟨rfl, rfl⟩ (xk_136 hX) (xf_states hX) ?_
      refine q_iload_n d176_22 rfl ?_
      refine n_iald d176_23 (xk_states hX) (by omega) (by decide) hsa.1.1 ?_
      refine q_iconstN (z := 1) d176_24 ?_
      refine nc_ne 114 d176_25 (by decide) (by omega) (by omega) (fun h25 => ?_) (fun h25 => (False.elim (g1 h25)))
      refine q_ret d176_114 rfl ?_
      exact k _ _ (by omega) hC (Fi.refl _ _)
theorem d175_0 : decode (zB 175) 0 = .ok (.iconst 0, 1) := (congrArg (fun c => decode c 0) zeq175).trans (by decide +kernel)
theorem d175_1 : decode (zB 175) 1 = .ok (.istore_n 1, 1) := (congrArg (fun c => decode c 1) zeq175).trans (by decide +kernel)
theorem d175_2 : decode (zB 175) 2 = .ok (.iload_n 1, 1) := (congrArg (fun c => decode c 2) zeq175).trans (by decide +kernel)
theorem d175_3 : decode (zB 175) 3 = .ok (.iconst 3, 1) := (congrArg (fun c => decode c 3) zeq175).trans (by decide +kernel)
theorem d175_4 : decode (zB 175) 4 = .ok (.if_icmp .ge 14, 3) := (congrArg (fun c => decode c 4) zeq175).trans (by decide +kernel)
theorem d175_7 : decode (zB 175) 7 = .ok (.aload_n 0, 1) := (congrArg (fun c => decode c 7) zeq175).trans (by decide +kernel)
theorem d175_8 : decode (zB 175) 8 = .ok (.iload_n 1, 1) := (congrArg (fun c => decode c 8) zeq175).trans (by decide +kernel)
theorem d175_9 : decode (zB 175) 9 = .ok (.invokevirtual 342, 3) := (congrArg (fun c => decode c 9) zeq175).trans (by decide +kernel)
theorem d175_12 : decode (zB 175) 12 = .ok (.iinc 1 1, 3) := (congrArg (fun c => decode c 12) zeq175).trans (by decide +kernel)
theorem d175_15 : decode (zB 175) 15 = .ok (.goto (-13), 3) := (congrArg (fun c => decode c 15) zeq175).trans (by decide +kernel)
theorem d175_18 : decode (zB 175) 18 = .ok (.return_, 1) := (congrArg (fun c => decode c 18) zeq175).trans (by decide +kernel)
theorem l175 {d : Nat} {Q : Option Value → zM → Prop} {M0 : zM} {T : Nat → yT} {c κ : Nat} {nm : Nat → Nat → Int32} {XF : yX} (hκ : κ + 36 < 2147483648) (k : ∀ M' κ', κ' ≤ κ + 36 → CX G M' T c nm XF κ' → Fi FX M0 M' → Q none M') : ∀ (r i : Nat) (κ1 : Nat) (M1 : zM) (X1 : yX), i ≤ 3 → 3 < i + r →  CX G M1 T c nm X1 κ1 → Fi FX M0 M1 → κ1 ≤ κ + 12 * i → yln X1.2 + 13 * (3 - i) ≤ 240 → ytf T nm (3 - i) i X1 = XF → qW (zEv (d + 5)) 175 Q 2 [(1, .int (nI i)), (0, .ref 136)] [] M1 := by
  intro r
  induction r with
  | zero => intros; omega
  | succ r ih =>
    intro i κ1 M1 X1 h1 h2 hC1 hF hk1 hl hy
    refine q_iload_n d175_2 rfl ?_
    refine q_iconstN (z := 3) d175_3 ?_
    refine nc_ge 18 d175_4 (by decide) (by omega) (by omega) (fun h4 => ?_) (fun h4 => ?_)
    · refine q_ret d175_18 rfl ?_
      rw [show 3 - i = 0 by omega] at hy
      have hy : X1 = XF := hy
      rw [hy] at hC1
      exact k _ _ (by omega) hC1 hF
    · refine q_aload_n d175_7 rfl ?_
      refine q_iload_n d175_8 rfl ?_
      refine q_v1 d175_9 rfl rfl (xk_136 hC1.1) (Nat.le_of_ble_eq_true rfl) (c176 hC1 (by omega) (by omega) (by omega) (fun M2 κ2 hk2 hC2 f2 => ?_))
      refine n_iinc 1 d175_12 (by decide) rfl rfl ?_
      refine q_goto 2 d175_15 (by decide) ?_
      exact ih (i + 1) _ _ _ (by omega) (by omega) hC2 (hF.trans f2) (by omega) (by have := (ytu_ok (nm := nm) hC1.2.2.1 (show i < 3 by omega)).2.2; omega) (by rw [show 3 - i = (3 - (i + 1)) + 1 by omega, ytf] at hy; exact hy)
/-- a tick of the reference's world -/
theorem c175 {d : Nat} {M : zM} {Q : Option Value → zM → Prop} {T : Nat → yT} {c κ : Nat} {nm : Nat → Nat → Int32} {X : yX} (hC : CX G M T c nm X κ) (hl : yln X.2 + 39 ≤ 240) (hκ : κ + 36 < 2147483648) (k : ∀ M' κ', κ' ≤ κ + 36 → CX G M' T c nm (yti T nm X) κ' → Fi FX M M' → Q none M') : qC (d + 6) 175 [.ref 136] M Q := by
  refine qC_of (by decide) (Nat.le_of_ble_eq_true rfl) ?_
  refine q_iconstN (z := 0) d175_0 ?_
  refine q_istore_n d175_1 (by decide) rfl ?_
  exact l175 (XF := yti T nm X) hκ k 4 0 κ M X (by omega) (by omega) hC (Fi.refl _ _) (by omega) (by omega) rfl
end RG
/-! ===== the reference: laid aside, laid back ===== -/
/-! the rows of a saga's steps; what is laid aside -/
theorem xa_row {M : zM} (h : SX M) {a s : Nat} (ha : a < 7) (hs : s < 3) : zk M (178 + 4 * a + s) = (20, 12) := by
  rcases (by omega : a = 0 ∨ a = 1 ∨ a = 2 ∨ a = 3 ∨ a = 4 ∨ a = 5 ∨ a = 6) with e | e | e | e | e | e | e <;> subst e
  · exact xa_stands h hs
  · exact xa_when h hs
  · exact xa_by h hs
  · exact xa_fails h hs
  · exact xa_whys h hs
  · exact xa_plans h hs
  · exact xa_undoPlans h hs
theorem d156_0 : decode (zB 156) 0 = .ok (.iload_n 1, 1) := (congrArg (fun c => decode c 0) zeq156).trans (by decide +kernel)
theorem d156_1 : decode (zB 156) 1 = .ok (.ifCond .ne 12, 3) := (congrArg (fun c => decode c 1) zeq156).trans (by decide +kernel)
theorem d156_4 : decode (zB 156) 4 = .ok (.aload_n 0, 1) := (congrArg (fun c => decode c 4) zeq156).trans (by decide +kernel)
theorem d156_5 : decode (zB 156) 5 = .ok (.getfield 42, 3) := (congrArg (fun c => decode c 5) zeq156).trans (by decide +kernel)
theorem d156_8 : decode (zB 156) 8 = .ok (.iload_n 2, 1) := (congrArg (fun c => decode c 8) zeq156).trans (by decide +kernel)
theorem d156_9 : decode (zB 156) 9 = .ok (.aaload, 1) := (congrArg (fun c => decode c 9) zeq156).trans (by decide +kernel)
theorem d156_10 : decode (zB 156) 10 = .ok (.goto 79, 3) := (congrArg (fun c => decode c 10) zeq156).trans (by decide +kernel)
theorem d156_13 : decode (zB 156) 13 = .ok (.iload_n 1, 1) := (congrArg (fun c => decode c 13) zeq156).trans (by decide +kernel)
theorem d156_14 : decode (zB 156) 14 = .ok (.iconst 1, 1) := (congrArg (fun c => decode c 14) zeq156).trans (by decide +kernel)
theorem d156_15 : decode (zB 156) 15 = .ok (.if_icmp .ne 12, 3) := (congrArg (fun c => decode c 15) zeq156).trans (by decide +kernel)
theorem d156_18 : decode (zB 156) 18 = .ok (.aload_n 0, 1) := (congrArg (fun c => decode c 18) zeq156).trans (by decide +kernel)
theorem d156_19 : decode (zB 156) 19 = .ok (.getfield 45, 3) := (congrArg (fun c => decode c 19) zeq156).trans (by decide +kernel)
theorem d156_22 : decode (zB 156) 22 = .ok (.iload_n 2, 1) := (congrArg (fun c => decode c 22) zeq156).trans (by decide +kernel)
theorem d156_23 : decode (zB 156) 23 = .ok (.aaload, 1) := (congrArg (fun c => decode c 23) zeq156).trans (by decide +kernel)
theorem d156_24 : decode (zB 156) 24 = .ok (.goto 65, 3) := (congrArg (fun c => decode c 24) zeq156).trans (by decide +kernel)
theorem d156_27 : decode (zB 156) 27 = .ok (.iload_n 1, 1) := (congrArg (fun c => decode c 27) zeq156).trans (by decide +kernel)
theorem d156_28 : decode (zB 156) 28 = .ok (.iconst 2, 1) := (congrArg (fun c => decode c 28) zeq156).trans (by decide +kernel)
theorem d156_29 : decode (zB 156) 29 = .ok (.if_icmp .ne 12, 3) := (congrArg (fun c => decode c 29) zeq156).trans (by decide +kernel)
theorem d156_32 : decode (zB 156) 32 = .ok (.aload_n 0, 1) := (congrArg (fun c => decode c 32) zeq156).trans (by decide +kernel)
theorem d156_33 : decode (zB 156) 33 = .ok (.getfield 48, 3) := (congrArg (fun c => decode c 33) zeq156).trans (by decide +kernel)
theorem d156_36 : decode (zB 156) 36 = .ok (.iload_n 2, 1) := (congrArg (fun c => decode c 36) zeq156).trans (by decide +kernel)
theorem d156_37 : decode (zB 156) 37 = .ok (.aaload, 1) := (congrArg (fun c => decode c 37) zeq156).trans (by decide +kernel)
theorem d156_38 : decode (zB 156) 38 = .ok (.goto 51, 3) := (congrArg (fun c => decode c 38) zeq156).trans (by decide +kernel)
theorem d156_41 : decode (zB 156) 41 = .ok (.iload_n 1, 1) := (congrArg (fun c => decode c 41) zeq156).trans (by decide +kernel)
theorem d156_42 : decode (zB 156) 42 = .ok (.iconst 3, 1) := (congrArg (fun c => decode c 42) zeq156).trans (by decide +kernel)
theorem d156_43 : decode (zB 156) 43 = .ok (.if_icmp .ne 12, 3) := (congrArg (fun c => decode c 43) zeq156).trans (by decide +kernel)
theorem d156_46 : decode (zB 156) 46 = .ok (.aload_n 0, 1) := (congrArg (fun c => decode c 46) zeq156).trans (by decide +kernel)
theorem d156_47 : decode (zB 156) 47 = .ok (.getfield 51, 3) := (congrArg (fun c => decode c 47) zeq156).trans (by decide +kernel)
theorem d156_50 : decode (zB 156) 50 = .ok (.iload_n 2, 1) := (congrArg (fun c => decode c 50) zeq156).trans (by decide +kernel)
theorem d156_51 : decode (zB 156) 51 = .ok (.aaload, 1) := (congrArg (fun c => decode c 51) zeq156).trans (by decide +kernel)
theorem d156_52 : decode (zB 156) 52 = .ok (.goto 37, 3) := (congrArg (fun c => decode c 52) zeq156).trans (by decide +kernel)
theorem d156_55 : decode (zB 156) 55 = .ok (.iload_n 1, 1) := (congrArg (fun c => decode c 55) zeq156).trans (by decide +kernel)
theorem d156_56 : decode (zB 156) 56 = .ok (.iconst 4, 1) := (congrArg (fun c => decode c 56) zeq156).trans (by decide +kernel)
theorem d156_57 : decode (zB 156) 57 = .ok (.if_icmp .ne 12, 3) := (congrArg (fun c => decode c 57) zeq156).trans (by decide +kernel)
theorem d156_60 : decode (zB 156) 60 = .ok (.aload_n 0, 1) := (congrArg (fun c => decode c 60) zeq156).trans (by decide +kernel)
theorem d156_61 : decode (zB 156) 61 = .ok (.getfield 54, 3) := (congrArg (fun c => decode c 61) zeq156).trans (by decide +kernel)
theorem d156_64 : decode (zB 156) 64 = .ok (.iload_n 2, 1) := (congrArg (fun c => decode c 64) zeq156).trans (by decide +kernel)
theorem d156_65 : decode (zB 156) 65 = .ok (.aaload, 1) := (congrArg (fun c => decode c 65) zeq156).trans (by decide +kernel)
theorem d156_66 : decode (zB 156) 66 = .ok (.goto 23, 3) := (congrArg (fun c => decode c 66) zeq156).trans (by decide +kernel)
theorem d156_69 : decode (zB 156) 69 = .ok (.iload_n 1, 1) := (congrArg (fun c => decode c 69) zeq156).trans (by decide +kernel)
theorem d156_70 : decode (zB 156) 70 = .ok (.iconst 5, 1) := (congrArg (fun c => decode c 70) zeq156).trans (by decide +kernel)
theorem d156_71 : decode (zB 156) 71 = .ok (.if_icmp .ne 12, 3) := (congrArg (fun c => decode c 71) zeq156).trans (by decide +kernel)
theorem d156_74 : decode (zB 156) 74 = .ok (.aload_n 0, 1) := (congrArg (fun c => decode c 74) zeq156).trans (by decide +kernel)
theorem d156_75 : decode (zB 156) 75 = .ok (.getfield 57, 3) := (congrArg (fun c => decode c 75) zeq156).trans (by decide +kernel)
theorem d156_78 : decode (zB 156) 78 = .ok (.iload_n 2, 1) := (congrArg (fun c => decode c 78) zeq156).trans (by decide +kernel)
theorem d156_79 : decode (zB 156) 79 = .ok (.aaload, 1) := (congrArg (fun c => decode c 79) zeq156).trans (by decide +kernel)
theorem d156_80 : decode (zB 156) 80 = .ok (.goto 9, 3) := (congrArg (fun c => decode c 80) zeq156).trans (by decide +kernel)
theorem d156_83 : decode (zB 156) 83 = .ok (.aload_n 0, 1) := (congrArg (fun c => decode c 83) zeq156).trans (by decide +kernel)
theorem d156_84 : decode (zB 156) 84 = .ok (.getfield 60, 3) := (congrArg (fun c => decode c 84) zeq156).trans (by decide +kernel)
theorem d156_87 : decode (zB 156) 87 = .ok (.iload_n 2, 1) := (congrArg (fun c => decode c 87) zeq156).trans (by decide +kernel)
theorem d156_88 : decode (zB 156) 88 = .ok (.aaload, 1) := (congrArg (fun c => decode c 88) zeq156).trans (by decide +kernel)
theorem d156_89 : decode (zB 156) 89 = .ok (.areturn, 1) := (congrArg (fun c => decode c 89) zeq156).trans (by decide +kernel)
theorem c156 {d : Nat} {M : zM} {Q : Option Value → zM → Prop} {a s : Nat} (hX : SX M) (ha : a < 7) (hs : s < 3) (k : Q (some (.ref (178 + 4 * a + s))) M) : qC (d + 1) 156 [.ref 136, .int (nI a), .int (nI s)] M Q := by
  refine qC_of (by decide) (Nat.le_of_ble_eq_true rfl) ?_
  refine q_iload_n d156_0 rfl ?_
  refine n0_ne 13 d156_1 (by decide) (by omega) (fun h1 => ?_) (fun h1 => ?_)
  · refine q_iload_n d156_13 rfl ?_
    refine q_iconstN (z := 1) d156_14 ?_
    refine nc_ne 27 d156_15 (by decide) (by omega) (by omega) (fun h15 => ?_) (fun h15 => ?_)
    · refine q_iload_n d156_27 rfl ?_
      refine q_iconstN (z := 2) d156_28 ?_
      refine nc_ne 41 d156_29 (by decide) (by omega) (by omega) (fun h29 => ?_) (fun h29 => ?_)
      · refine q_iload_n d156_41 rfl ?_
        refine q_iconstN (z := 3) d156_42 ?_
        refine nc_ne 55 d156_43 (by decide) (by omega) (by omega) (fun h43 => ?_) (fun h43 => ?_)
        · refine q_iload_n d156_55 rfl ?_
          refine q_iconstN (z := 4) d156_56 ?_
          refine nc_ne 69 d156_57 (by decide) (by omega) (by omega) (fun h57 => ?_) (fun h57 => ?_)
          · refine q_iload_n d156_69 rfl ?_
            refine q_iconstN (z := 5) d156_70 ?_
            refine nc_ne 83 d156_71 (by decide) (by omega) (by omega) (fun h71 => ?_) (fun h71 => ?_)
            · refine q_aload_n d156_83 rfl ?_
              refine q_getr (c := 8) (f := 19) d156_84 ⟨rfl, rfl⟩ (xk_136 hX) (xf_undoPlans hX) ?_
              refine q_iload_n d156_87 rfl ?_
              refine n_aald d156_88 (xk_undoPlans hX) (by decide) (by omega) (by decide) (xr_undoPlans hX (by omega)) ?_
              refine q_aret (r := some _) d156_89 rfl ?_
              first
              | (have e : a = 0 := by omega
                 subst e
                 exact k)
              | (have e : a = 1 := by omega
                 subst e
                 exact k)
              | (have e : a = 2 := by omega
                 subst e
                 exact k)
              | (have e : a = 3 := by omega
                 subst e
                 exact k)
              | (have e : a = 4 := by omega
                 subst e
                 exact k)
              | (have e : a = 5 := by omega
                 subst e
                 exact k)
              | (have e : a = 6 := by omega
                 subst e
                 exact k)
            · refine q_aload_n d156_74 rfl ?_
              refine q_getr (c := 8) (f := 18) d156_75 ⟨rfl, rfl⟩ (xk_136 hX) (xf_plans hX) ?_
              refine q_iload_n d156_78 rfl ?_
              refine n_aald d156_79 (xk_plans hX) (by decide) (by omega) (by decide) (xr_plans hX (by omega)) ?_
              refine q_goto 89 d156_80 (by decide) ?_
              refine q_aret (r := some _) d156_89 rfl ?_
              first
              | (have e : a = 0 := by omega
                 subst e
                 exact k)
              | (have e : a = 1 := by omega
                 subst e
                 exact k)
              | (have e : a = 2 := by omega
                 subst e
                 exact k)
              | (have e : a = 3 := by omega
                 subst e
                 exact k)
              | (have e : a = 4 := by omega
                 subst e
                 exact k)
              | (have e : a = 5 := by omega
                 subst e
                 exact k)
              | (have e : a = 6 := by omega
                 subst e
                 exact k)
          · refine q_aload_n d156_60 rfl ?_
            refine q_getr (c := 8) (f := 17) d156_61 ⟨rfl, rfl⟩ (xk_136 hX) (xf_whys hX) ?_
            refine q_iload_n d156_64 rfl ?_
            refine n_aald d156_65 (xk_whys hX) (by decide) (by omega) (by decide) (xr_whys hX (by omega)) ?_
            refine q_goto 89 d156_66 (by decide) ?_
            refine q_aret (r := some _) d156_89 rfl ?_
            first
            | (have e : a = 0 := by omega
               subst e
               exact k)
            | (have e : a = 1 := by omega
               subst e
               exact k)
            | (have e : a = 2 := by omega
               subst e
               exact k)
            | (have e : a = 3 := by omega
               subst e
               exact k)
            | (have e : a = 4 := by omega
               subst e
               exact k)
            | (have e : a = 5 := by omega
               subst e
               exact k)
            | (have e : a = 6 := by omega
               subst e
               exact k)
        · refine q_aload_n d156_46 rfl ?_
          refine q_getr (c := 8) (f := 16) d156_47 ⟨rfl, rfl⟩ (xk_136 hX) (xf_fails hX) ?_
          refine q_iload_n d156_50 rfl ?_
          refine n_aald d156_51 (xk_fails hX) (by decide) (by omega) (by decide) (xr_fails hX (by omega)) ?_
          refine q_goto 89 d156_52 (by decide) ?_
          refine q_aret (r := some _) d156_89 rfl ?_
          first
          | (have e : a = 0 := by omega
             subst e
             exact k)
          | (have e : a = 1 := by omega
             subst e
             exact k)
          | (have e : a = 2 := by omega
             subst e
             exact k)
          | (have e : a = 3 := by omega
             subst e
             exact k)
          | (have e : a = 4 := by omega
             subst e
             exact k)
          | (have e : a = 5 := by omega
             subst e
             exact k)
          | (have e : a = 6 := by omega
             subst e
             exact k)
      · refine q_aload_n d156_32 rfl ?_
        refine q_getr (c := 8) (f := 15) d156_33 ⟨rfl, rfl⟩ (xk_136 hX) (xf_by hX) ?_
        refine q_iload_n d156_36 rfl ?_
        refine n_aald d156_37 (xk_by hX) (by decide) (by omega) (by decide) (xr_by hX (by omega)) ?_
        refine q_goto 89 d156_38 (by decide) ?_
        refine q_aret (r := some _) d156_89 rfl ?_
        first
        | (have e : a = 0 := by omega
           subst e
           exact k)
        | (have e : a = 1 := by omega
           subst e
           exact k)
        | (have e : a = 2 := by omega
           subst e
           exact k)
        | (have e : a = 3 := by omega
           subst e
           exact k)
        | (have e : a = 4 := by omega
           subst e
           exact k)
        | (have e : a = 5 := by omega
           subst e
           exact k)
        | (have e : a = 6 := by omega
           subst e
           exact k)
    · refine q_aload_n d156_18 rfl ?_
      refine q_getr (c := 8) (f := 14) d156_19 ⟨rfl, rfl⟩ (xk_136 hX) (xf_when hX) ?_
      refine q_iload_n d156_22 rfl ?_
      refine n_aald d156_23 (xk_when hX) (by decide) (by omega) (by decide) (xr_when hX (by omega)) ?_
      refine q_goto 89 d156_24 (by decide) ?_
      refine q_aret (r := some _) d156_89 rfl ?_
      first
      | (have e : a = 0 := by omega
         subst e
         exact k)
      | (have e : a = 1 := by omega
         subst e
         exact k)
      | (have e : a = 2 := by omega
         subst e
         exact k)
      | (have e : a = 3 := by omega
         subst e
         exact k)
      | (have e : a = 4 := by omega
         subst e
         exact k)
      | (have e : a = 5 := by omega
         subst e
         exact k)
      | (have e : a = 6 := by omega
         subst e
         exact k)
  · refine q_aload_n d156_4 rfl ?_
    refine q_getr (c := 8) (f := 13) d156_5 ⟨rfl, rfl⟩ (xk_136 hX) (xf_stands hX) ?_
    refine q_iload_n d156_8 rfl ?_
    refine n_aald d156_9 (xk_stands hX) (by decide) (by omega) (by decide) (xr_stands hX (by omega)) ?_
    refine q_goto 89 d156_10 (by decide) ?_
    refine q_aret (r := some _) d156_89 rfl ?_
    first
    | (have e : a = 0 := by omega
       subst e
       exact k)
    | (have e : a = 1 := by omega
       subst e
       exact k)
    | (have e : a = 2 := by omega
       subst e
       exact k)
    | (have e : a = 3 := by omega
       subst e
       exact k)
    | (have e : a = 4 := by omega
       subst e
       exact k)
    | (have e : a = 5 := by omega
       subst e
       exact k)
    | (have e : a = 6 := by omega
       subst e
       exact k)
/-- a level's cells -/
def FA (l : Nat) : Nat → Nat → Prop := fun b _ => b = 211 + l ∨ b = 216 + l ∨ b = 221 + l ∨ b = 226 + l ∨ (231 + 22 * l < b ∧ b < 253 + 22 * l)
/-- the world's cells -/
def FB : Nat → Nat → Prop := fun b k => (b = 136 ∧ (k = 9 ∨ k = 10 ∨ k = 20)) ∨ b = 174 ∨ b = 175 ∨ b = 176 ∨ (177 < b ∧ b < 205)
def HA (M0 M : zM) (l : Nat) : Prop := (∀ k, k < 6 → zi M (211 + l) k = zi M0 174 k) ∧ zi M (216 + l) 0 = zi M0 136 9 ∧ zi M (216 + l) 1 = zi M0 136 10 ∧ zi M (216 + l) 2 = zi M0 136 20 ∧ (∀ k, k < 3 → zi M (221 + l) k = zi M0 175 k) ∧ ∀ k, k < 3 → zi M (226 + l) k = zi M0 176 k
def RA (M0 M : zM) (l i j : Nat) : Prop := ∀ a s, a < 7 → s < 3 → (a < i ∨ (a = i ∧ s < j)) → ∀ k, k < 12 → zi M (232 + 22 * l + (3 * a + s)) k = zi M0 (178 + 4 * a + s) k
/-- what is laid aside -/
def KA (M0 M : zM) (l : Nat) : Prop := HA M0 M l ∧ ∀ a s, a < 7 → s < 3 → ∀ k, k < 12 → zi M (232 + 22 * l + (3 * a + s)) k = zi M0 (178 + 4 * a + s) k
def HB (M0 M : zM) : Prop := (∀ k, k < 6 → zi M 174 k = zi M0 174 k) ∧ zi M 136 9 = zi M0 136 9 ∧ zi M 136 10 = zi M0 136 10 ∧ zi M 136 20 = zi M0 136 20 ∧ (∀ k, k < 3 → zi M 175 k = zi M0 175 k) ∧ ∀ k, k < 3 → zi M 176 k = zi M0 176 k
def RB (M0 M : zM) (i j : Nat) : Prop := ∀ a s, a < 7 → s < 3 → (a < i ∨ (a = i ∧ s < j)) → ∀ k, k < 12 → zi M (178 + 4 * a + s) k = zi M0 (178 + 4 * a + s) k
/-- the world as it was -/
def KB (M0 M : zM) : Prop := HB M0 M ∧ ∀ a s, a < 7 → s < 3 → ∀ k, k < 12 → zi M (178 + 4 * a + s) k = zi M0 (178 + 4 * a + s) k
theorem KA.fi {M0 M M' : zM} {F : Nat → Nat → Prop} {l : Nat} (h : KA M0 M l) (f : Fi F M M') (hs : ∀ b k, FA l b k → ¬ F b k) : KA M0 M' l := by
  have e : ∀ b k, FA l b k → zi M' b k = zi M b k := fun b k q => f.1 b k (hs b k q)
  obtain ⟨⟨h1, h2, h3, h4, h5, h6⟩, h7⟩ := h
  refine ⟨⟨fun k hk => (e _ _ (by unfold FA; omega)).trans (h1 k hk), (e _ _ (by unfold FA; omega)).trans h2, (e _ _ (by unfold FA; omega)).trans h3, (e _ _ (by unfold FA; omega)).trans h4, fun k hk => (e _ _ (by unfold FA; omega)).trans (h5 k hk), fun k hk => (e _ _ (by unfold FA; omega)).trans (h6 k hk)⟩, fun a s ha hs k hk => (e _ _ (by unfold FA; omega)).trans (h7 a s ha hs k hk)⟩
theorem HA_cp {M0 M : zM} {l a0 b : Nat} (h : HA M0 M l) (hb : 231 + 22 * l < b ∧ l < 4) (hb2 : 231 < b) : HA M0 (zcp M a0 0 b 0 12) l := by
  obtain ⟨h1, h2, h3, h4, h5, h6⟩ := h
  exact ⟨fun k hk => (cp_n (by omega)).trans (h1 k hk), (cp_n (by omega)).trans h2, (cp_n (by omega)).trans h3, (cp_n (by omega)).trans h4, fun k hk => (cp_n (by omega)).trans (h5 k hk), fun k hk => (cp_n (by omega)).trans (h6 k hk)⟩
theorem RA_cp {M0 M : zM} {l i j : Nat} (h : RA M0 M l i j) (f : Fi (FA l) M0 M) (hl : l < 4) (hi : i < 7) (hj : j < 3) : RA M0 (zcp M (178 + 4 * i + j) 0 (232 + 22 * l + (3 * i + j)) 0 12) l i (j + 1) := by
  intro a s ha hs hq k hk
  by_cases e : a = i ∧ s = j
  · obtain ⟨rfl, rfl⟩ := e
    rw [cp_0 hk]
    exact f.1 _ _ (by unfold FA; omega)
  · rw [cp_n (by omega)]; exact h a s ha hs (by omega) k hk
theorem HB_cp {M0 M : zM} {a0 b : Nat} (h : HB M0 M) (hb : 177 < b) : HB M0 (zcp M a0 0 b 0 12) := by
  obtain ⟨h1, h2, h3, h4, h5, h6⟩ := h
  exact ⟨fun k hk => (cp_n (by omega)).trans (h1 k hk), (cp_n (by omega)).trans h2, (cp_n (by omega)).trans h3, (cp_n (by omega)).trans h4, fun k hk => (cp_n (by omega)).trans (h5 k hk), fun k hk => (cp_n (by omega)).trans (h6 k hk)⟩
theorem RB_cp {M0 M : zM} {l i j : Nat} (h : RB M0 M i j) (hK : KA M0 M l) (hi : i < 7) (hj : j < 3) : RB M0 (zcp M (232 + 22 * l + (3 * i + j)) 0 (178 + 4 * i + j) 0 12) i (j + 1) := by
  intro a s ha hs hq k hk
  by_cases e : a = i ∧ s = j
  · obtain ⟨rfl, rfl⟩ := e
    rw [cp_0 hk]; exact hK.2 _ _ ha hs k hk
  · rw [cp_n (by omega)]; exact h a s ha hs (by omega) k hk
theorem d155_0 : decode (zB 155) 0 = .ok (.aload_n 0, 1) := (congrArg (fun c => decode c 0) zeq155).trans (by decide +kernel)
theorem d155_1 : decode (zB 155) 1 = .ok (.getfield 33, 3) := (congrArg (fun c => decode c 1) zeq155).trans (by decide +kernel)
theorem d155_4 : decode (zB 155) 4 = .ok (.iconst 0, 1) := (congrArg (fun c => decode c 4) zeq155).trans (by decide +kernel)
theorem d155_5 : decode (zB 155) 5 = .ok (.aload_n 0, 1) := (congrArg (fun c => decode c 5) zeq155).trans (by decide +kernel)
theorem d155_6 : decode (zB 155) 6 = .ok (.getfield 83, 3) := (congrArg (fun c => decode c 6) zeq155).trans (by decide +kernel)
theorem d155_9 : decode (zB 155) 9 = .ok (.iload_n 1, 1) := (congrArg (fun c => decode c 9) zeq155).trans (by decide +kernel)
theorem d155_10 : decode (zB 155) 10 = .ok (.aaload, 1) := (congrArg (fun c => decode c 10) zeq155).trans (by decide +kernel)
theorem d155_11 : decode (zB 155) 11 = .ok (.iconst 0, 1) := (congrArg (fun c => decode c 11) zeq155).trans (by decide +kernel)
theorem d155_12 : decode (zB 155) 12 = .ok (.bipush 6, 2) := (congrArg (fun c => decode c 12) zeq155).trans (by decide +kernel)
theorem d155_14 : decode (zB 155) 14 = .ok (.invokestatic 285, 3) := (congrArg (fun c => decode c 14) zeq155).trans (by decide +kernel)
theorem d155_17 : decode (zB 155) 17 = .ok (.aload_n 0, 1) := (congrArg (fun c => decode c 17) zeq155).trans (by decide +kernel)
theorem d155_18 : decode (zB 155) 18 = .ok (.getfield 86, 3) := (congrArg (fun c => decode c 18) zeq155).trans (by decide +kernel)
theorem d155_21 : decode (zB 155) 21 = .ok (.iload_n 1, 1) := (congrArg (fun c => decode c 21) zeq155).trans (by decide +kernel)
theorem d155_22 : decode (zB 155) 22 = .ok (.aaload, 1) := (congrArg (fun c => decode c 22) zeq155).trans (by decide +kernel)
theorem d155_23 : decode (zB 155) 23 = .ok (.iconst 0, 1) := (congrArg (fun c => decode c 23) zeq155).trans (by decide +kernel)
theorem d155_24 : decode (zB 155) 24 = .ok (.aload_n 0, 1) := (congrArg (fun c => decode c 24) zeq155).trans (by decide +kernel)
theorem d155_25 : decode (zB 155) 25 = .ok (.getfield 276, 3) := (congrArg (fun c => decode c 25) zeq155).trans (by decide +kernel)
theorem d155_28 : decode (zB 155) 28 = .ok (.iastore, 1) := (congrArg (fun c => decode c 28) zeq155).trans (by decide +kernel)
theorem d155_29 : decode (zB 155) 29 = .ok (.aload_n 0, 1) := (congrArg (fun c => decode c 29) zeq155).trans (by decide +kernel)
theorem d155_30 : decode (zB 155) 30 = .ok (.getfield 86, 3) := (congrArg (fun c => decode c 30) zeq155).trans (by decide +kernel)
theorem d155_33 : decode (zB 155) 33 = .ok (.iload_n 1, 1) := (congrArg (fun c => decode c 33) zeq155).trans (by decide +kernel)
theorem d155_34 : decode (zB 155) 34 = .ok (.aaload, 1) := (congrArg (fun c => decode c 34) zeq155).trans (by decide +kernel)
theorem d155_35 : decode (zB 155) 35 = .ok (.iconst 1, 1) := (congrArg (fun c => decode c 35) zeq155).trans (by decide +kernel)
theorem d155_36 : decode (zB 155) 36 = .ok (.aload_n 0, 1) := (congrArg (fun c => decode c 36) zeq155).trans (by decide +kernel)
theorem d155_37 : decode (zB 155) 37 = .ok (.getfield 282, 3) := (congrArg (fun c => decode c 37) zeq155).trans (by decide +kernel)
theorem d155_40 : decode (zB 155) 40 = .ok (.iastore, 1) := (congrArg (fun c => decode c 40) zeq155).trans (by decide +kernel)
theorem d155_41 : decode (zB 155) 41 = .ok (.aload_n 0, 1) := (congrArg (fun c => decode c 41) zeq155).trans (by decide +kernel)
theorem d155_42 : decode (zB 155) 42 = .ok (.getfield 86, 3) := (congrArg (fun c => decode c 42) zeq155).trans (by decide +kernel)
theorem d155_45 : decode (zB 155) 45 = .ok (.iload_n 1, 1) := (congrArg (fun c => decode c 45) zeq155).trans (by decide +kernel)
theorem d155_46 : decode (zB 155) 46 = .ok (.aaload, 1) := (congrArg (fun c => decode c 46) zeq155).trans (by decide +kernel)
theorem d155_47 : decode (zB 155) 47 = .ok (.iconst 2, 1) := (congrArg (fun c => decode c 47) zeq155).trans (by decide +kernel)
theorem d155_48 : decode (zB 155) 48 = .ok (.aload_n 0, 1) := (congrArg (fun c => decode c 48) zeq155).trans (by decide +kernel)
theorem d155_49 : decode (zB 155) 49 = .ok (.getfield 291, 3) := (congrArg (fun c => decode c 49) zeq155).trans (by decide +kernel)
theorem d155_52 : decode (zB 155) 52 = .ok (.iastore, 1) := (congrArg (fun c => decode c 52) zeq155).trans (by decide +kernel)
theorem d155_53 : decode (zB 155) 53 = .ok (.aload_n 0, 1) := (congrArg (fun c => decode c 53) zeq155).trans (by decide +kernel)
theorem d155_54 : decode (zB 155) 54 = .ok (.getfield 36, 3) := (congrArg (fun c => decode c 54) zeq155).trans (by decide +kernel)
theorem d155_57 : decode (zB 155) 57 = .ok (.iconst 0, 1) := (congrArg (fun c => decode c 57) zeq155).trans (by decide +kernel)
theorem d155_58 : decode (zB 155) 58 = .ok (.aload_n 0, 1) := (congrArg (fun c => decode c 58) zeq155).trans (by decide +kernel)
theorem d155_59 : decode (zB 155) 59 = .ok (.getfield 89, 3) := (congrArg (fun c => decode c 59) zeq155).trans (by decide +kernel)
theorem d155_62 : decode (zB 155) 62 = .ok (.iload_n 1, 1) := (congrArg (fun c => decode c 62) zeq155).trans (by decide +kernel)
theorem d155_63 : decode (zB 155) 63 = .ok (.aaload, 1) := (congrArg (fun c => decode c 63) zeq155).trans (by decide +kernel)
theorem d155_64 : decode (zB 155) 64 = .ok (.iconst 0, 1) := (congrArg (fun c => decode c 64) zeq155).trans (by decide +kernel)
theorem d155_65 : decode (zB 155) 65 = .ok (.iconst 3, 1) := (congrArg (fun c => decode c 65) zeq155).trans (by decide +kernel)
theorem d155_66 : decode (zB 155) 66 = .ok (.invokestatic 285, 3) := (congrArg (fun c => decode c 66) zeq155).trans (by decide +kernel)
theorem d155_69 : decode (zB 155) 69 = .ok (.aload_n 0, 1) := (congrArg (fun c => decode c 69) zeq155).trans (by decide +kernel)
theorem d155_70 : decode (zB 155) 70 = .ok (.getfield 39, 3) := (congrArg (fun c => decode c 70) zeq155).trans (by decide +kernel)
theorem d155_73 : decode (zB 155) 73 = .ok (.iconst 0, 1) := (congrArg (fun c => decode c 73) zeq155).trans (by decide +kernel)
theorem d155_74 : decode (zB 155) 74 = .ok (.aload_n 0, 1) := (congrArg (fun c => decode c 74) zeq155).trans (by decide +kernel)
theorem d155_75 : decode (zB 155) 75 = .ok (.getfield 92, 3) := (congrArg (fun c => decode c 75) zeq155).trans (by decide +kernel)
theorem d155_78 : decode (zB 155) 78 = .ok (.iload_n 1, 1) := (congrArg (fun c => decode c 78) zeq155).trans (by decide +kernel)
theorem d155_79 : decode (zB 155) 79 = .ok (.aaload, 1) := (congrArg (fun c => decode c 79) zeq155).trans (by decide +kernel)
theorem d155_80 : decode (zB 155) 80 = .ok (.iconst 0, 1) := (congrArg (fun c => decode c 80) zeq155).trans (by decide +kernel)
theorem d155_81 : decode (zB 155) 81 = .ok (.iconst 3, 1) := (congrArg (fun c => decode c 81) zeq155).trans (by decide +kernel)
theorem d155_82 : decode (zB 155) 82 = .ok (.invokestatic 285, 3) := (congrArg (fun c => decode c 82) zeq155).trans (by decide +kernel)
theorem d155_85 : decode (zB 155) 85 = .ok (.iconst 0, 1) := (congrArg (fun c => decode c 85) zeq155).trans (by decide +kernel)
theorem d155_86 : decode (zB 155) 86 = .ok (.istore_n 2, 1) := (congrArg (fun c => decode c 86) zeq155).trans (by decide +kernel)
theorem d155_87 : decode (zB 155) 87 = .ok (.iload_n 2, 1) := (congrArg (fun c => decode c 87) zeq155).trans (by decide +kernel)
theorem d155_88 : decode (zB 155) 88 = .ok (.bipush 7, 2) := (congrArg (fun c => decode c 88) zeq155).trans (by decide +kernel)
theorem d155_90 : decode (zB 155) 90 = .ok (.if_icmp .ge 47, 3) := (congrArg (fun c => decode c 90) zeq155).trans (by decide +kernel)
theorem d155_93 : decode (zB 155) 93 = .ok (.iconst 0, 1) := (congrArg (fun c => decode c 93) zeq155).trans (by decide +kernel)
theorem d155_94 : decode (zB 155) 94 = .ok (.istore_n 3, 1) := (congrArg (fun c => decode c 94) zeq155).trans (by decide +kernel)
theorem d155_95 : decode (zB 155) 95 = .ok (.iload_n 3, 1) := (congrArg (fun c => decode c 95) zeq155).trans (by decide +kernel)
theorem d155_96 : decode (zB 155) 96 = .ok (.iconst 3, 1) := (congrArg (fun c => decode c 96) zeq155).trans (by decide +kernel)
theorem d155_97 : decode (zB 155) 97 = .ok (.if_icmp .ge 34, 3) := (congrArg (fun c => decode c 97) zeq155).trans (by decide +kernel)
theorem d155_100 : decode (zB 155) 100 = .ok (.aload_n 0, 1) := (congrArg (fun c => decode c 100) zeq155).trans (by decide +kernel)
theorem d155_101 : decode (zB 155) 101 = .ok (.iload_n 2, 1) := (congrArg (fun c => decode c 101) zeq155).trans (by decide +kernel)
theorem d155_102 : decode (zB 155) 102 = .ok (.iload_n 3, 1) := (congrArg (fun c => decode c 102) zeq155).trans (by decide +kernel)
theorem d155_103 : decode (zB 155) 103 = .ok (.invokevirtual 294, 3) := (congrArg (fun c => decode c 103) zeq155).trans (by decide +kernel)
theorem d155_106 : decode (zB 155) 106 = .ok (.iconst 0, 1) := (congrArg (fun c => decode c 106) zeq155).trans (by decide +kernel)
theorem d155_107 : decode (zB 155) 107 = .ok (.aload_n 0, 1) := (congrArg (fun c => decode c 107) zeq155).trans (by decide +kernel)
theorem d155_108 : decode (zB 155) 108 = .ok (.getfield 97, 3) := (congrArg (fun c => decode c 108) zeq155).trans (by decide +kernel)
theorem d155_111 : decode (zB 155) 111 = .ok (.iload_n 1, 1) := (congrArg (fun c => decode c 111) zeq155).trans (by decide +kernel)
theorem d155_112 : decode (zB 155) 112 = .ok (.aaload, 1) := (congrArg (fun c => decode c 112) zeq155).trans (by decide +kernel)
theorem d155_113 : decode (zB 155) 113 = .ok (.iconst 3, 1) := (congrArg (fun c => decode c 113) zeq155).trans (by decide +kernel)
theorem d155_114 : decode (zB 155) 114 = .ok (.iload_n 2, 1) := (congrArg (fun c => decode c 114) zeq155).trans (by decide +kernel)
theorem d155_115 : decode (zB 155) 115 = .ok (.imul, 1) := (congrArg (fun c => decode c 115) zeq155).trans (by decide +kernel)
theorem d155_116 : decode (zB 155) 116 = .ok (.iload_n 3, 1) := (congrArg (fun c => decode c 116) zeq155).trans (by decide +kernel)
theorem d155_117 : decode (zB 155) 117 = .ok (.iadd, 1) := (congrArg (fun c => decode c 117) zeq155).trans (by decide +kernel)
theorem d155_118 : decode (zB 155) 118 = .ok (.aaload, 1) := (congrArg (fun c => decode c 118) zeq155).trans (by decide +kernel)
theorem d155_119 : decode (zB 155) 119 = .ok (.iconst 0, 1) := (congrArg (fun c => decode c 119) zeq155).trans (by decide +kernel)
theorem d155_120 : decode (zB 155) 120 = .ok (.bipush 12, 2) := (congrArg (fun c => decode c 120) zeq155).trans (by decide +kernel)
theorem d155_122 : decode (zB 155) 122 = .ok (.invokestatic 285, 3) := (congrArg (fun c => decode c 122) zeq155).trans (by decide +kernel)
theorem d155_125 : decode (zB 155) 125 = .ok (.iinc 3 1, 3) := (congrArg (fun c => decode c 125) zeq155).trans (by decide +kernel)
theorem d155_128 : decode (zB 155) 128 = .ok (.goto (-33), 3) := (congrArg (fun c => decode c 128) zeq155).trans (by decide +kernel)
theorem d155_131 : decode (zB 155) 131 = .ok (.iinc 2 1, 3) := (congrArg (fun c => decode c 131) zeq155).trans (by decide +kernel)
theorem d155_134 : decode (zB 155) 134 = .ok (.goto (-47), 3) := (congrArg (fun c => decode c 134) zeq155).trans (by decide +kernel)
theorem d155_137 : decode (zB 155) 137 = .ok (.return_, 1) := (congrArg (fun c => decode c 137) zeq155).trans (by decide +kernel)
theorem l155b {d : Nat} {Q : Option Value → zM → Prop} {M0 : zM} {l q : Nat} (hl : l < 4) (hq : q < 7) (k : ∀ M1, (SX M1 ∧ Fi (FA l) M0 M1 ∧ HA M0 M1 l ∧ RA M0 M1 l q 3) → qW (zEv (d + 1)) 155 Q 131 [(0, .ref 136), (1, .int (nI l)), (2, .int (nI q)), (3, .int (nI 3))] [] M1) : ∀ (r i : Nat) (M1 : zM), i ≤ 3 → 3 < i + r →  (SX M1 ∧ Fi (FA l) M0 M1 ∧ HA M0 M1 l ∧ RA M0 M1 l q i) → qW (zEv (d + 1)) 155 Q 95 [(0, .ref 136), (1, .int (nI l)), (2, .int (nI q)), (3, .int (nI i))] [] M1 := by
  intro r
  induction r with
  | zero => intros; omega
  | succ r ih =>
    intro i M1 h1 h2 hv
    have hX := hv.1
    refine q_iload_n d155_95 rfl ?_
    refine q_iconstN (z := 3) d155_96 ?_
    refine nc_ge 131 d155_97 (by decide) (by omega) (by omega) (fun h97 => ?_) (fun h97 => ?_)
    · refine qW_srt rfl rfl ?_
      have e3 : i = 3 := by omega
      rw [e3] at hv ⊢
      exact k _ hv
    · refine q_aload_n d155_100 rfl ?_
      refine q_iload_n d155_101 rfl ?_
      refine q_iload_n d155_102 rfl ?_
      refine q_v2 d155_103 rfl rfl (xk_136 hX) (Nat.le_of_ble_eq_true rfl) (c156 hX (by omega) (by omega) ?_)
      refine q_iconstN (z := 0) d155_106 ?_
      refine q_aload_n d155_107 rfl ?_
      refine q_getr (c := 8) (f := 44) d155_108 ⟨rfl, rfl⟩ (xk_136 hX) (xf_asideSteps hX) ?_
      refine q_iload_n d155_111 rfl ?_
      refine n_aald d155_112 (xk_asideSteps hX) (by decide) (by omega) (by decide) (xr_asideSteps hX (by omega)).1 ?_
      refine q_iconstN (z := 3) d155_113 ?_
      refine q_iload_n d155_114 rfl ?_
      refine n_imul d155_115 ?_
      refine q_iload_n d155_116 rfl ?_
      refine n_iadd d155_117 ?_
      refine n_aald d155_118 (xr_asideSteps hX (by omega)).2 (by decide) (by omega) (by decide) (xa_asideSteps hX (by omega) (by omega)).1 ?_
      refine q_iconstN (z := 0) d155_119 ?_
      refine q_bipush (x := nI 12) d155_120 rfl ?_
      refine n_copy d155_122 rfl (xa_row hX (by omega) (by omega)) (xa_asideSteps hX (by omega) (by omega)).2 (by decide) (by decide) (by omega) (by omega) (Nat.le_of_ble_eq_true rfl) ?_
      refine n_iinc 1 d155_125 (by decide) rfl rfl ?_
      refine q_goto 95 d155_128 (by decide) ?_
      refine qW_srt rfl rfl ?_
      exact ih (i + 1) _ (by omega) (by omega) (⟨SX_fi hX ((Fi.refl (FA l) _).cp (fun _ _ _ => by unfold FA; omega)), hv.2.1.cp (fun _ _ _ => by unfold FA; omega), HA_cp hv.2.2.1 (by omega) (by omega), RA_cp hv.2.2.2 hv.2.1 hl hq (by omega)⟩)
theorem l155 {d : Nat} {Q : Option Value → zM → Prop} {M0 : zM} {l : Nat} (hl : l < 4) (k : ∀ M', KA M0 M' l → Fi (FA l) M0 M' → Q none M') : ∀ (r i : Nat) (M1 : zM), i ≤ 7 → 7 < i + r →  (SX M1 ∧ Fi (FA l) M0 M1 ∧ HA M0 M1 l ∧ RA M0 M1 l i 0) → qW (zEv (d + 1)) 155 Q 87 [(0, .ref 136), (1, .int (nI l)), (2, .int (nI i)), (3, .int (nI 3))] [] M1 := by
  intro r
  induction r with
  | zero => intros; omega
  | succ r ih =>
    intro i M1 h1 h2 hv
    have hX := hv.1
    refine q_iload_n d155_87 rfl ?_
    refine q_bipush (x := nI 7) d155_88 rfl ?_
    refine nc_ge 137 d155_90 (by decide) (by omega) (by omega) (fun h90 => ?_) (fun h90 => ?_)
    · refine q_ret d155_137 rfl ?_
      exact k _ ⟨hv.2.2.1, fun a s ha hs k hk => hv.2.2.2 a s ha hs (by omega) k hk⟩ hv.2.1
    · refine q_iconstN (z := 0) d155_93 ?_
      refine q_istore_n d155_94 (by decide) rfl ?_
      refine qW_srt rfl rfl ?_
      exact l155b hl (by omega) (fun M2 hv2 => by
        refine n_iinc 1 d155_131 (by decide) rfl rfl ?_
        refine q_goto 87 d155_134 (by decide) ?_
        refine qW_srt rfl rfl ?_
        exact ih (i + 1) _ (by omega) (by omega) (⟨hv2.1, hv2.2.1, hv2.2.2.1, fun a s ha hs hq k hk => hv2.2.2.2 a s ha hs (by omega) k hk⟩)) 4 0 _ (by omega) (by omega) (hv)
/-- the world is laid aside -/
theorem c155 {d : Nat} {M : zM} {Q : Option Value → zM → Prop} {l : Nat} (hX : SX M) (hl : l < 4) (k : ∀ M', KA M M' l → Fi (FA l) M M' → Q none M') : qC (d + 2) 155 [.ref 136, .int (nI l)] M Q := by
  refine qC_of (by decide) (Nat.le_of_ble_eq_true rfl) ?_
  refine q_aload_n d155_0 rfl ?_
  refine q_getr (c := 8) (f := 8) d155_1 ⟨rfl, rfl⟩ (xk_136 hX) (xf_balances hX) ?_
  refine q_iconstN (z := 0) d155_4 ?_
  refine q_aload_n d155_5 rfl ?_
  refine q_getr (c := 8) (f := 40) d155_6 ⟨rfl, rfl⟩ (xk_136 hX) (xf_asideBalances hX) ?_
  refine q_iload_n d155_9 rfl ?_
  refine n_aald d155_10 (xk_asideBalances hX) (by decide) (by omega) (by decide) (xr_asideBalances hX (by omega)) ?_
  refine q_iconstN (z := 0) d155_11 ?_
  refine q_bipush (x := nI 6) d155_12 rfl ?_
  refine n_copy d155_14 rfl (xk_balances hX) (xa_asideBalances hX (by omega)) (by decide) (by decide) (by omega) (by omega) (Nat.le_of_ble_eq_true rfl) ?_
  refine q_aload_n d155_17 rfl ?_
  refine q_getr (c := 8) (f := 41) d155_18 ⟨rfl, rfl⟩ (xk_136 hX) (xf_asideNumbers hX) ?_
  refine q_iload_n d155_21 rfl ?_
  refine n_aald d155_22 (xk_asideNumbers hX) (by decide) (by omega) (by decide) (xr_asideNumbers hX (by omega)) ?_
  refine q_iconstN (z := 0) d155_23 ?_
  refine q_aload_n d155_24 rfl ?_
  refine q_getv (c := 8) (f := 9) d155_25 ⟨rfl, by decide⟩ (xk_136 hX) (Eq.trans (by (repeat (first | rw [wi_n (Or.inl (by omega))] | rw [wi_n (Or.inr (by omega))] | rw [wi_s] | rw [wr_i] | rw [cp_n (by omega)]))) (rfl : zi M 136 9 = zi M 136 9)) ?_
  refine n_iast d155_28 (xa_asideNumbers hX (by omega)) (by omega) (by decide) ?_
  refine q_aload_n d155_29 rfl ?_
  refine q_getr (c := 8) (f := 41) d155_30 ⟨rfl, rfl⟩ (xk_136 hX) (xf_asideNumbers hX) ?_
  refine q_iload_n d155_33 rfl ?_
  refine n_aald d155_34 (xk_asideNumbers hX) (by decide) (by omega) (by decide) (xr_asideNumbers hX (by omega)) ?_
  refine q_iconstN (z := 1) d155_35 ?_
  refine q_aload_n d155_36 rfl ?_
  refine q_getv (c := 8) (f := 10) d155_37 ⟨rfl, by decide⟩ (xk_136 hX) (Eq.trans (by (repeat (first | rw [wi_n (Or.inl (by omega))] | rw [wi_n (Or.inr (by omega))] | rw [wi_s] | rw [wr_i] | rw [cp_n (by omega)]))) (rfl : zi M 136 10 = zi M 136 10)) ?_
  refine n_iast d155_40 (xa_asideNumbers hX (by omega)) (by omega) (by decide) ?_
  refine q_aload_n d155_41 rfl ?_
  refine q_getr (c := 8) (f := 41) d155_42 ⟨rfl, rfl⟩ (xk_136 hX) (xf_asideNumbers hX) ?_
  refine q_iload_n d155_45 rfl ?_
  refine n_aald d155_46 (xk_asideNumbers hX) (by decide) (by omega) (by decide) (xr_asideNumbers hX (by omega)) ?_
  refine q_iconstN (z := 2) d155_47 ?_
  refine q_aload_n d155_48 rfl ?_
  refine q_getv (c := 8) (f := 20) d155_49 ⟨rfl, by decide⟩ (xk_136 hX) (Eq.trans (by (repeat (first | rw [wi_n (Or.inl (by omega))] | rw [wi_n (Or.inr (by omega))] | rw [wi_s] | rw [wr_i] | rw [cp_n (by omega)]))) (rfl : zi M 136 20 = zi M 136 20)) ?_
  refine n_iast d155_52 (xa_asideNumbers hX (by omega)) (by omega) (by decide) ?_
  refine q_aload_n d155_53 rfl ?_
  refine q_getr (c := 8) (f := 11) d155_54 ⟨rfl, rfl⟩ (xk_136 hX) (xf_states hX) ?_
  refine q_iconstN (z := 0) d155_57 ?_
  refine q_aload_n d155_58 rfl ?_
  refine q_getr (c := 8) (f := 42) d155_59 ⟨rfl, rfl⟩ (xk_136 hX) (xf_asideStates hX) ?_
  refine q_iload_n d155_62 rfl ?_
  refine n_aald d155_63 (xk_asideStates hX) (by decide) (by omega) (by decide) (xr_asideStates hX (by omega)) ?_
  refine q_iconstN (z := 0) d155_64 ?_
  refine q_iconstN (z := 3) d155_65 ?_
  refine n_copy d155_66 rfl (xk_states hX) (xa_asideStates hX (by omega)) (by decide) (by decide) (by omega) (by omega) (Nat.le_of_ble_eq_true rfl) ?_
  refine q_aload_n d155_69 rfl ?_
  refine q_getr (c := 8) (f := 12) d155_70 ⟨rfl, rfl⟩ (xk_136 hX) (xf_textOf hX) ?_
  refine q_iconstN (z := 0) d155_73 ?_
  refine q_aload_n d155_74 rfl ?_
  refine q_getr (c := 8) (f := 43) d155_75 ⟨rfl, rfl⟩ (xk_136 hX) (xf_asideTexts hX) ?_
  refine q_iload_n d155_78 rfl ?_
  refine n_aald d155_79 (xk_asideTexts hX) (by decide) (by omega) (by decide) (xr_asideTexts hX (by omega)) ?_
  refine q_iconstN (z := 0) d155_80 ?_
  refine q_iconstN (z := 3) d155_81 ?_
  refine n_copy d155_82 rfl (xk_textOf hX) (xa_asideTexts hX (by omega)) (by decide) (by decide) (by omega) (by omega) (Nat.le_of_ble_eq_true rfl) ?_
  refine q_iconstN (z := 0) d155_85 ?_
  refine q_istore_n d155_86 (by decide) rfl ?_
  refine q_iload_n d155_87 rfl ?_
  refine q_bipush (x := nI 7) d155_88 rfl ?_
  refine nc_ge 137 d155_90 (by decide) (by decide) (by decide) (fun q => absurd q (by decide)) (fun _ => ?_)
  refine q_iconstN (z := 0) d155_93 ?_
  refine q_istore_n d155_94 (by decide) rfl ?_
  refine qW_srt rfl rfl ?_
  have f : Fi (FA l) M _ := ((((((Fi.refl (FA l) M).cp (a0 := 174) (s := 0) (a := 211 + l) (d := 0) (n := 6) (fun _ _ _ => by unfold FA; omega)).wi (a := 216 + l) (k := 0) (v := zi M 136 9) (by unfold FA; omega)).wi (a := 216 + l) (k := 1) (v := zi M 136 10) (by unfold FA; omega)).wi (a := 216 + l) (k := 2) (v := zi M 136 20) (by unfold FA; omega)).cp (a0 := 175) (s := 0) (a := 221 + l) (d := 0) (n := 3) (fun _ _ _ => by unfold FA; omega)).cp (a0 := 176) (s := 0) (a := 226 + l) (d := 0) (n := 3) (fun _ _ _ => by unfold FA; omega)
  refine l155b hl (by omega) (fun M2 hv2 => by
    refine n_iinc 1 d155_131 (by decide) rfl rfl ?_
    refine q_goto 87 d155_134 (by decide) ?_
    refine qW_srt rfl rfl ?_
    exact l155 hl k 8 1 _ (by omega) (by omega) (⟨hv2.1, hv2.2.1, hv2.2.2.1, fun a s ha hs hq k hk => hv2.2.2.2 a s ha hs (by omega) k hk⟩)) 4 0 _ (by omega) (by omega) ⟨SX_fi hX f, f, ⟨fun k hk => ?_, ?_, ?_, ?_, fun k hk => ?_, fun k hk => ?_⟩, fun a s ha hs hq => by omega⟩
  · rw [cp_n (by omega), cp_n (by omega), wi_n (by omega), wi_n (by omega), wi_n (by omega), cp_0 hk]
  · rw [cp_n (by omega), cp_n (by omega), wi_n (by omega), wi_n (by omega), wi_s]
  · rw [cp_n (by omega), cp_n (by omega), wi_n (by omega), wi_s]
  · rw [cp_n (by omega), cp_n (by omega), wi_s]
  · rw [cp_n (by omega), cp_0 hk, wi_n (by omega), wi_n (by omega), wi_n (by omega), cp_n (by omega)]
  · rw [cp_0 hk, cp_n (by omega), wi_n (by omega), wi_n (by omega), wi_n (by omega), cp_n (by omega)]
theorem d162_0 : decode (zB 162) 0 = .ok (.aload_n 0, 1) := (congrArg (fun c => decode c 0) zeq162).trans (by decide +kernel)
theorem d162_1 : decode (zB 162) 1 = .ok (.getfield 83, 3) := (congrArg (fun c => decode c 1) zeq162).trans (by decide +kernel)
theorem d162_4 : decode (zB 162) 4 = .ok (.iload_n 1, 1) := (congrArg (fun c => decode c 4) zeq162).trans (by decide +kernel)
theorem d162_5 : decode (zB 162) 5 = .ok (.aaload, 1) := (congrArg (fun c => decode c 5) zeq162).trans (by decide +kernel)
theorem d162_6 : decode (zB 162) 6 = .ok (.iconst 0, 1) := (congrArg (fun c => decode c 6) zeq162).trans (by decide +kernel)
theorem d162_7 : decode (zB 162) 7 = .ok (.aload_n 0, 1) := (congrArg (fun c => decode c 7) zeq162).trans (by decide +kernel)
theorem d162_8 : decode (zB 162) 8 = .ok (.getfield 33, 3) := (congrArg (fun c => decode c 8) zeq162).trans (by decide +kernel)
theorem d162_11 : decode (zB 162) 11 = .ok (.iconst 0, 1) := (congrArg (fun c => decode c 11) zeq162).trans (by decide +kernel)
theorem d162_12 : decode (zB 162) 12 = .ok (.bipush 6, 2) := (congrArg (fun c => decode c 12) zeq162).trans (by decide +kernel)
theorem d162_14 : decode (zB 162) 14 = .ok (.invokestatic 285, 3) := (congrArg (fun c => decode c 14) zeq162).trans (by decide +kernel)
theorem d162_17 : decode (zB 162) 17 = .ok (.aload_n 0, 1) := (congrArg (fun c => decode c 17) zeq162).trans (by decide +kernel)
theorem d162_18 : decode (zB 162) 18 = .ok (.aload_n 0, 1) := (congrArg (fun c => decode c 18) zeq162).trans (by decide +kernel)
theorem d162_19 : decode (zB 162) 19 = .ok (.getfield 86, 3) := (congrArg (fun c => decode c 19) zeq162).trans (by decide +kernel)
theorem d162_22 : decode (zB 162) 22 = .ok (.iload_n 1, 1) := (congrArg (fun c => decode c 22) zeq162).trans (by decide +kernel)
theorem d162_23 : decode (zB 162) 23 = .ok (.aaload, 1) := (congrArg (fun c => decode c 23) zeq162).trans (by decide +kernel)
theorem d162_24 : decode (zB 162) 24 = .ok (.iconst 0, 1) := (congrArg (fun c => decode c 24) zeq162).trans (by decide +kernel)
theorem d162_25 : decode (zB 162) 25 = .ok (.iaload, 1) := (congrArg (fun c => decode c 25) zeq162).trans (by decide +kernel)
theorem d162_26 : decode (zB 162) 26 = .ok (.putfield 276, 3) := (congrArg (fun c => decode c 26) zeq162).trans (by decide +kernel)
theorem d162_29 : decode (zB 162) 29 = .ok (.aload_n 0, 1) := (congrArg (fun c => decode c 29) zeq162).trans (by decide +kernel)
theorem d162_30 : decode (zB 162) 30 = .ok (.aload_n 0, 1) := (congrArg (fun c => decode c 30) zeq162).trans (by decide +kernel)
theorem d162_31 : decode (zB 162) 31 = .ok (.getfield 86, 3) := (congrArg (fun c => decode c 31) zeq162).trans (by decide +kernel)
theorem d162_34 : decode (zB 162) 34 = .ok (.iload_n 1, 1) := (congrArg (fun c => decode c 34) zeq162).trans (by decide +kernel)
theorem d162_35 : decode (zB 162) 35 = .ok (.aaload, 1) := (congrArg (fun c => decode c 35) zeq162).trans (by decide +kernel)
theorem d162_36 : decode (zB 162) 36 = .ok (.iconst 1, 1) := (congrArg (fun c => decode c 36) zeq162).trans (by decide +kernel)
theorem d162_37 : decode (zB 162) 37 = .ok (.iaload, 1) := (congrArg (fun c => decode c 37) zeq162).trans (by decide +kernel)
theorem d162_38 : decode (zB 162) 38 = .ok (.putfield 282, 3) := (congrArg (fun c => decode c 38) zeq162).trans (by decide +kernel)
theorem d162_41 : decode (zB 162) 41 = .ok (.aload_n 0, 1) := (congrArg (fun c => decode c 41) zeq162).trans (by decide +kernel)
theorem d162_42 : decode (zB 162) 42 = .ok (.aload_n 0, 1) := (congrArg (fun c => decode c 42) zeq162).trans (by decide +kernel)
theorem d162_43 : decode (zB 162) 43 = .ok (.getfield 86, 3) := (congrArg (fun c => decode c 43) zeq162).trans (by decide +kernel)
theorem d162_46 : decode (zB 162) 46 = .ok (.iload_n 1, 1) := (congrArg (fun c => decode c 46) zeq162).trans (by decide +kernel)
theorem d162_47 : decode (zB 162) 47 = .ok (.aaload, 1) := (congrArg (fun c => decode c 47) zeq162).trans (by decide +kernel)
theorem d162_48 : decode (zB 162) 48 = .ok (.iconst 2, 1) := (congrArg (fun c => decode c 48) zeq162).trans (by decide +kernel)
theorem d162_49 : decode (zB 162) 49 = .ok (.iaload, 1) := (congrArg (fun c => decode c 49) zeq162).trans (by decide +kernel)
theorem d162_50 : decode (zB 162) 50 = .ok (.putfield 291, 3) := (congrArg (fun c => decode c 50) zeq162).trans (by decide +kernel)
theorem d162_53 : decode (zB 162) 53 = .ok (.aload_n 0, 1) := (congrArg (fun c => decode c 53) zeq162).trans (by decide +kernel)
theorem d162_54 : decode (zB 162) 54 = .ok (.getfield 89, 3) := (congrArg (fun c => decode c 54) zeq162).trans (by decide +kernel)
theorem d162_57 : decode (zB 162) 57 = .ok (.iload_n 1, 1) := (congrArg (fun c => decode c 57) zeq162).trans (by decide +kernel)
theorem d162_58 : decode (zB 162) 58 = .ok (.aaload, 1) := (congrArg (fun c => decode c 58) zeq162).trans (by decide +kernel)
theorem d162_59 : decode (zB 162) 59 = .ok (.iconst 0, 1) := (congrArg (fun c => decode c 59) zeq162).trans (by decide +kernel)
theorem d162_60 : decode (zB 162) 60 = .ok (.aload_n 0, 1) := (congrArg (fun c => decode c 60) zeq162).trans (by decide +kernel)
theorem d162_61 : decode (zB 162) 61 = .ok (.getfield 36, 3) := (congrArg (fun c => decode c 61) zeq162).trans (by decide +kernel)
theorem d162_64 : decode (zB 162) 64 = .ok (.iconst 0, 1) := (congrArg (fun c => decode c 64) zeq162).trans (by decide +kernel)
theorem d162_65 : decode (zB 162) 65 = .ok (.iconst 3, 1) := (congrArg (fun c => decode c 65) zeq162).trans (by decide +kernel)
theorem d162_66 : decode (zB 162) 66 = .ok (.invokestatic 285, 3) := (congrArg (fun c => decode c 66) zeq162).trans (by decide +kernel)
theorem d162_69 : decode (zB 162) 69 = .ok (.aload_n 0, 1) := (congrArg (fun c => decode c 69) zeq162).trans (by decide +kernel)
theorem d162_70 : decode (zB 162) 70 = .ok (.getfield 92, 3) := (congrArg (fun c => decode c 70) zeq162).trans (by decide +kernel)
theorem d162_73 : decode (zB 162) 73 = .ok (.iload_n 1, 1) := (congrArg (fun c => decode c 73) zeq162).trans (by decide +kernel)
theorem d162_74 : decode (zB 162) 74 = .ok (.aaload, 1) := (congrArg (fun c => decode c 74) zeq162).trans (by decide +kernel)
theorem d162_75 : decode (zB 162) 75 = .ok (.iconst 0, 1) := (congrArg (fun c => decode c 75) zeq162).trans (by decide +kernel)
theorem d162_76 : decode (zB 162) 76 = .ok (.aload_n 0, 1) := (congrArg (fun c => decode c 76) zeq162).trans (by decide +kernel)
theorem d162_77 : decode (zB 162) 77 = .ok (.getfield 39, 3) := (congrArg (fun c => decode c 77) zeq162).trans (by decide +kernel)
theorem d162_80 : decode (zB 162) 80 = .ok (.iconst 0, 1) := (congrArg (fun c => decode c 80) zeq162).trans (by decide +kernel)
theorem d162_81 : decode (zB 162) 81 = .ok (.iconst 3, 1) := (congrArg (fun c => decode c 81) zeq162).trans (by decide +kernel)
theorem d162_82 : decode (zB 162) 82 = .ok (.invokestatic 285, 3) := (congrArg (fun c => decode c 82) zeq162).trans (by decide +kernel)
theorem d162_85 : decode (zB 162) 85 = .ok (.iconst 0, 1) := (congrArg (fun c => decode c 85) zeq162).trans (by decide +kernel)
theorem d162_86 : decode (zB 162) 86 = .ok (.istore_n 2, 1) := (congrArg (fun c => decode c 86) zeq162).trans (by decide +kernel)
theorem d162_87 : decode (zB 162) 87 = .ok (.iload_n 2, 1) := (congrArg (fun c => decode c 87) zeq162).trans (by decide +kernel)
theorem d162_88 : decode (zB 162) 88 = .ok (.bipush 7, 2) := (congrArg (fun c => decode c 88) zeq162).trans (by decide +kernel)
theorem d162_90 : decode (zB 162) 90 = .ok (.if_icmp .ge 47, 3) := (congrArg (fun c => decode c 90) zeq162).trans (by decide +kernel)
theorem d162_93 : decode (zB 162) 93 = .ok (.iconst 0, 1) := (congrArg (fun c => decode c 93) zeq162).trans (by decide +kernel)
theorem d162_94 : decode (zB 162) 94 = .ok (.istore_n 3, 1) := (congrArg (fun c => decode c 94) zeq162).trans (by decide +kernel)
theorem d162_95 : decode (zB 162) 95 = .ok (.iload_n 3, 1) := (congrArg (fun c => decode c 95) zeq162).trans (by decide +kernel)
theorem d162_96 : decode (zB 162) 96 = .ok (.iconst 3, 1) := (congrArg (fun c => decode c 96) zeq162).trans (by decide +kernel)
theorem d162_97 : decode (zB 162) 97 = .ok (.if_icmp .ge 34, 3) := (congrArg (fun c => decode c 97) zeq162).trans (by decide +kernel)
theorem d162_100 : decode (zB 162) 100 = .ok (.aload_n 0, 1) := (congrArg (fun c => decode c 100) zeq162).trans (by decide +kernel)
theorem d162_101 : decode (zB 162) 101 = .ok (.getfield 97, 3) := (congrArg (fun c => decode c 101) zeq162).trans (by decide +kernel)
theorem d162_104 : decode (zB 162) 104 = .ok (.iload_n 1, 1) := (congrArg (fun c => decode c 104) zeq162).trans (by decide +kernel)
theorem d162_105 : decode (zB 162) 105 = .ok (.aaload, 1) := (congrArg (fun c => decode c 105) zeq162).trans (by decide +kernel)
theorem d162_106 : decode (zB 162) 106 = .ok (.iconst 3, 1) := (congrArg (fun c => decode c 106) zeq162).trans (by decide +kernel)
theorem d162_107 : decode (zB 162) 107 = .ok (.iload_n 2, 1) := (congrArg (fun c => decode c 107) zeq162).trans (by decide +kernel)
theorem d162_108 : decode (zB 162) 108 = .ok (.imul, 1) := (congrArg (fun c => decode c 108) zeq162).trans (by decide +kernel)
theorem d162_109 : decode (zB 162) 109 = .ok (.iload_n 3, 1) := (congrArg (fun c => decode c 109) zeq162).trans (by decide +kernel)
theorem d162_110 : decode (zB 162) 110 = .ok (.iadd, 1) := (congrArg (fun c => decode c 110) zeq162).trans (by decide +kernel)
theorem d162_111 : decode (zB 162) 111 = .ok (.aaload, 1) := (congrArg (fun c => decode c 111) zeq162).trans (by decide +kernel)
theorem d162_112 : decode (zB 162) 112 = .ok (.iconst 0, 1) := (congrArg (fun c => decode c 112) zeq162).trans (by decide +kernel)
theorem d162_113 : decode (zB 162) 113 = .ok (.aload_n 0, 1) := (congrArg (fun c => decode c 113) zeq162).trans (by decide +kernel)
theorem d162_114 : decode (zB 162) 114 = .ok (.iload_n 2, 1) := (congrArg (fun c => decode c 114) zeq162).trans (by decide +kernel)
theorem d162_115 : decode (zB 162) 115 = .ok (.iload_n 3, 1) := (congrArg (fun c => decode c 115) zeq162).trans (by decide +kernel)
theorem d162_116 : decode (zB 162) 116 = .ok (.invokevirtual 294, 3) := (congrArg (fun c => decode c 116) zeq162).trans (by decide +kernel)
theorem d162_119 : decode (zB 162) 119 = .ok (.iconst 0, 1) := (congrArg (fun c => decode c 119) zeq162).trans (by decide +kernel)
theorem d162_120 : decode (zB 162) 120 = .ok (.bipush 12, 2) := (congrArg (fun c => decode c 120) zeq162).trans (by decide +kernel)
theorem d162_122 : decode (zB 162) 122 = .ok (.invokestatic 285, 3) := (congrArg (fun c => decode c 122) zeq162).trans (by decide +kernel)
theorem d162_125 : decode (zB 162) 125 = .ok (.iinc 3 1, 3) := (congrArg (fun c => decode c 125) zeq162).trans (by decide +kernel)
theorem d162_128 : decode (zB 162) 128 = .ok (.goto (-33), 3) := (congrArg (fun c => decode c 128) zeq162).trans (by decide +kernel)
theorem d162_131 : decode (zB 162) 131 = .ok (.iinc 2 1, 3) := (congrArg (fun c => decode c 131) zeq162).trans (by decide +kernel)
theorem d162_134 : decode (zB 162) 134 = .ok (.goto (-47), 3) := (congrArg (fun c => decode c 134) zeq162).trans (by decide +kernel)
theorem d162_137 : decode (zB 162) 137 = .ok (.return_, 1) := (congrArg (fun c => decode c 137) zeq162).trans (by decide +kernel)
theorem l162b {d : Nat} {Q : Option Value → zM → Prop} {M00 M0 : zM} {l q : Nat} (hl : l < 4) (hq : q < 7) (k : ∀ M1, (SX M1 ∧ KA M0 M1 l ∧ Fi FB M00 M1 ∧ HB M0 M1 ∧ RB M0 M1 q 3) → qW (zEv (d + 1)) 162 Q 131 [(0, .ref 136), (1, .int (nI l)), (2, .int (nI q)), (3, .int (nI 3))] [] M1) : ∀ (r i : Nat) (M1 : zM), i ≤ 3 → 3 < i + r →  (SX M1 ∧ KA M0 M1 l ∧ Fi FB M00 M1 ∧ HB M0 M1 ∧ RB M0 M1 q i) → qW (zEv (d + 1)) 162 Q 95 [(0, .ref 136), (1, .int (nI l)), (2, .int (nI q)), (3, .int (nI i))] [] M1 := by
  intro r
  induction r with
  | zero => intros; omega
  | succ r ih =>
    intro i M1 h1 h2 hv
    have hX := hv.1
    refine q_iload_n d162_95 rfl ?_
    refine q_iconstN (z := 3) d162_96 ?_
    refine nc_ge 131 d162_97 (by decide) (by omega) (by omega) (fun h97 => ?_) (fun h97 => ?_)
    · refine qW_srt rfl rfl ?_
      have e3 : i = 3 := by omega
      rw [e3] at hv ⊢
      exact k _ hv
    · refine q_aload_n d162_100 rfl ?_
      refine q_getr (c := 8) (f := 44) d162_101 ⟨rfl, rfl⟩ (xk_136 hX) (xf_asideSteps hX) ?_
      refine q_iload_n d162_104 rfl ?_
      refine n_aald d162_105 (xk_asideSteps hX) (by decide) (by omega) (by decide) (xr_asideSteps hX (by omega)).1 ?_
      refine q_iconstN (z := 3) d162_106 ?_
      refine q_iload_n d162_107 rfl ?_
      refine n_imul d162_108 ?_
      refine q_iload_n d162_109 rfl ?_
      refine n_iadd d162_110 ?_
      refine n_aald d162_111 (xr_asideSteps hX (by omega)).2 (by decide) (by omega) (by decide) (xa_asideSteps hX (by omega) (by omega)).1 ?_
      refine q_iconstN (z := 0) d162_112 ?_
      refine q_aload_n d162_113 rfl ?_
      refine q_iload_n d162_114 rfl ?_
      refine q_iload_n d162_115 rfl ?_
      refine q_v2 d162_116 rfl rfl (xk_136 hX) (Nat.le_of_ble_eq_true rfl) (c156 hX (by omega) (by omega) ?_)
      refine q_iconstN (z := 0) d162_119 ?_
      refine q_bipush (x := nI 12) d162_120 rfl ?_
      refine n_copy d162_122 rfl (xa_asideSteps hX (by omega) (by omega)).2 (xa_row hX (by omega) (by omega)) (by decide) (by decide) (by omega) (by omega) (Nat.le_of_ble_eq_true rfl) ?_
      refine n_iinc 1 d162_125 (by decide) rfl rfl ?_
      refine q_goto 95 d162_128 (by decide) ?_
      refine qW_srt rfl rfl ?_
      exact ih (i + 1) _ (by omega) (by omega) (⟨SX_fi hX ((Fi.refl FB _).cp (fun _ _ _ => by unfold FB; omega)), hv.2.1.fi ((Fi.refl FB _).cp (fun _ _ _ => by unfold FB; omega)) (fun b k q1 q2 => by unfold FA at q1; unfold FB at q2; omega), hv.2.2.1.cp (fun _ _ _ => by unfold FB; omega), HB_cp hv.2.2.2.1 (by omega), RB_cp hv.2.2.2.2 hv.2.1 hq (by omega)⟩)
theorem l162 {d : Nat} {Q : Option Value → zM → Prop} {M00 M0 : zM} {l : Nat} (hl : l < 4) (k : ∀ M', KB M0 M' → Fi FB M00 M' → Q none M') : ∀ (r i : Nat) (M1 : zM), i ≤ 7 → 7 < i + r →  (SX M1 ∧ KA M0 M1 l ∧ Fi FB M00 M1 ∧ HB M0 M1 ∧ RB M0 M1 i 0) → qW (zEv (d + 1)) 162 Q 87 [(0, .ref 136), (1, .int (nI l)), (2, .int (nI i)), (3, .int (nI 3))] [] M1 := by
  intro r
  induction r with
  | zero => intros; omega
  | succ r ih =>
    intro i M1 h1 h2 hv
    have hX := hv.1
    refine q_iload_n d162_87 rfl ?_
    refine q_bipush (x := nI 7) d162_88 rfl ?_
    refine nc_ge 137 d162_90 (by decide) (by omega) (by omega) (fun h90 => ?_) (fun h90 => ?_)
    · refine q_ret d162_137 rfl ?_
      exact k _ ⟨hv.2.2.2.1, fun a s ha hs k hk => hv.2.2.2.2 a s ha hs (by omega) k hk⟩ hv.2.2.1
    · refine q_iconstN (z := 0) d162_93 ?_
      refine q_istore_n d162_94 (by decide) rfl ?_
      refine qW_srt rfl rfl ?_
      exact l162b hl (by omega) (fun M2 hv2 => by
        refine n_iinc 1 d162_131 (by decide) rfl rfl ?_
        refine q_goto 87 d162_134 (by decide) ?_
        refine qW_srt rfl rfl ?_
        exact ih (i + 1) _ (by omega) (by omega) (⟨hv2.1, hv2.2.1, hv2.2.2.1, hv2.2.2.2.1, fun a s ha hs hq k hk => hv2.2.2.2.2 a s ha hs (by omega) k hk⟩)) 4 0 _ (by omega) (by omega) (hv)
/-- the world is laid back -/
theorem c162 {d : Nat} {M : zM} {Q : Option Value → zM → Prop} {M0 : zM} {l : Nat} (hX : SX M) (hl : l < 4) (hK : KA M0 M l) (k : ∀ M', KB M0 M' → Fi FB M M' → Q none M') : qC (d + 2) 162 [.ref 136, .int (nI l)] M Q := by
  refine qC_of (by decide) (Nat.le_of_ble_eq_true rfl) ?_
  refine q_aload_n d162_0 rfl ?_
  refine q_getr (c := 8) (f := 40) d162_1 ⟨rfl, rfl⟩ (xk_136 hX) (xf_asideBalances hX) ?_
  refine q_iload_n d162_4 rfl ?_
  refine n_aald d162_5 (xk_asideBalances hX) (by decide) (by omega) (by decide) (xr_asideBalances hX (by omega)) ?_
  refine q_iconstN (z := 0) d162_6 ?_
  refine q_aload_n d162_7 rfl ?_
  refine q_getr (c := 8) (f := 8) d162_8 ⟨rfl, rfl⟩ (xk_136 hX) (xf_balances hX) ?_
  refine q_iconstN (z := 0) d162_11 ?_
  refine q_bipush (x := nI 6) d162_12 rfl ?_
  refine n_copy d162_14 rfl (xa_asideBalances hX (by omega)) (xk_balances hX) (by decide) (by decide) (by omega) (by omega) (Nat.le_of_ble_eq_true rfl) ?_
  refine q_aload_n d162_17 rfl ?_
  refine q_aload_n d162_18 rfl ?_
  refine q_getr (c := 8) (f := 41) d162_19 ⟨rfl, rfl⟩ (xk_136 hX) (xf_asideNumbers hX) ?_
  refine q_iload_n d162_22 rfl ?_
  refine n_aald d162_23 (xk_asideNumbers hX) (by decide) (by omega) (by decide) (xr_asideNumbers hX (by omega)) ?_
  refine q_iconstN (z := 0) d162_24 ?_
  refine n_iald d162_25 (xa_asideNumbers hX (by omega)) (by omega) (by decide) (Eq.trans (by (repeat (first | rw [wi_n (Or.inl (by omega))] | rw [wi_n (Or.inr (by omega))] | rw [wi_s] | rw [wr_i] | rw [cp_n (by omega)]))) hK.1.2.1) ?_
  refine q_puti (c := 8) (f := 9) d162_26 ⟨rfl, rfl, by decide⟩ (xk_136 hX) ?_
  refine q_aload_n d162_29 rfl ?_
  refine q_aload_n d162_30 rfl ?_
  refine q_getr (c := 8) (f := 41) d162_31 ⟨rfl, rfl⟩ (xk_136 hX) (xf_asideNumbers hX) ?_
  refine q_iload_n d162_34 rfl ?_
  refine n_aald d162_35 (xk_asideNumbers hX) (by decide) (by omega) (by decide) (xr_asideNumbers hX (by omega)) ?_
  refine q_iconstN (z := 1) d162_36 ?_
  refine n_iald d162_37 (xa_asideNumbers hX (by omega)) (by omega) (by decide) (Eq.trans (by (repeat (first | rw [wi_n (Or.inl (by omega))] | rw [wi_n (Or.inr (by omega))] | rw [wi_s] | rw [wr_i] | rw [cp_n (by omega)]))) hK.1.2.2.1) ?_
  refine q_puti (c := 8) (f := 10) d162_38 ⟨rfl, rfl, by decide⟩ (xk_136 hX) ?_
  refine q_aload_n d162_41 rfl ?_
  refine q_aload_n d162_42 rfl ?_
  refine q_getr (c := 8) (f := 41) d162_43 ⟨rfl, rfl⟩ (xk_136 hX) (xf_asideNumbers hX) ?_
  refine q_iload_n d162_46 rfl ?_
  refine n_aald d162_47 (xk_asideNumbers hX) (by decide) (by omega) (by decide) (xr_asideNumbers hX (by omega)) ?_
  refine q_iconstN (z := 2) d162_48 ?_
  refine n_iald d162_49 (xa_asideNumbers hX (by omega)) (by omega) (by decide) (Eq.trans (by (repeat (first | rw [wi_n (Or.inl (by omega))] | rw [wi_n (Or.inr (by omega))] | rw [wi_s] | rw [wr_i] | rw [cp_n (by omega)]))) hK.1.2.2.2.1) ?_
  refine q_puti (c := 8) (f := 20) d162_50 ⟨rfl, rfl, by decide⟩ (xk_136 hX) ?_
  refine q_aload_n d162_53 rfl ?_
  refine q_getr (c := 8) (f := 42) d162_54 ⟨rfl, rfl⟩ (xk_136 hX) (xf_asideStates hX) ?_
  refine q_iload_n d162_57 rfl ?_
  refine n_aald d162_58 (xk_asideStates hX) (by decide) (by omega) (by decide) (xr_asideStates hX (by omega)) ?_
  refine q_iconstN (z := 0) d162_59 ?_
  refine q_aload_n d162_60 rfl ?_
  refine q_getr (c := 8) (f := 11) d162_61 ⟨rfl, rfl⟩ (xk_136 hX) (xf_states hX) ?_
  refine q_iconstN (z := 0) d162_64 ?_
  refine q_iconstN (z := 3) d162_65 ?_
  refine n_copy d162_66 rfl (xa_asideStates hX (by omega)) (xk_states hX) (by decide) (by decide) (by omega) (by omega) (Nat.le_of_ble_eq_true rfl) ?_
  refine q_aload_n d162_69 rfl ?_
  refine q_getr (c := 8) (f := 43) d162_70 ⟨rfl, rfl⟩ (xk_136 hX) (xf_asideTexts hX) ?_
  refine q_iload_n d162_73 rfl ?_
  refine n_aald d162_74 (xk_asideTexts hX) (by decide) (by omega) (by decide) (xr_asideTexts hX (by omega)) ?_
  refine q_iconstN (z := 0) d162_75 ?_
  refine q_aload_n d162_76 rfl ?_
  refine q_getr (c := 8) (f := 12) d162_77 ⟨rfl, rfl⟩ (xk_136 hX) (xf_textOf hX) ?_
  refine q_iconstN (z := 0) d162_80 ?_
  refine q_iconstN (z := 3) d162_81 ?_
  refine n_copy d162_82 rfl (xa_asideTexts hX (by omega)) (xk_textOf hX) (by decide) (by decide) (by omega) (by omega) (Nat.le_of_ble_eq_true rfl) ?_
  refine q_iconstN (z := 0) d162_85 ?_
  refine q_istore_n d162_86 (by decide) rfl ?_
  refine q_iload_n d162_87 rfl ?_
  refine q_bipush (x := nI 7) d162_88 rfl ?_
  refine nc_ge 137 d162_90 (by decide) (by decide) (by decide) (fun q => absurd q (by decide)) (fun _ => ?_)
  refine q_iconstN (z := 0) d162_93 ?_
  refine q_istore_n d162_94 (by decide) rfl ?_
  refine qW_srt rfl rfl ?_
  have f : Fi FB M _ := ((((((Fi.refl FB M).cp (a0 := 211 + l) (s := 0) (a := 174) (d := 0) (n := 6) (fun _ _ _ => by unfold FB; omega)).wi (a := 136) (k := 9) (v := zi M0 136 9) (by unfold FB; omega)).wi (a := 136) (k := 10) (v := zi M0 136 10) (by unfold FB; omega)).wi (a := 136) (k := 20) (v := zi M0 136 20) (by unfold FB; omega)).cp (a0 := 221 + l) (s := 0) (a := 175) (d := 0) (n := 3) (fun _ _ _ => by unfold FB; omega)).cp (a0 := 226 + l) (s := 0) (a := 176) (d := 0) (n := 3) (fun _ _ _ => by unfold FB; omega)
  refine l162b hl (by omega) (fun M2 hv2 => by
    refine n_iinc 1 d162_131 (by decide) rfl rfl ?_
    refine q_goto 87 d162_134 (by decide) ?_
    refine qW_srt rfl rfl ?_
    exact l162 hl k 8 1 _ (by omega) (by omega) (⟨hv2.1, hv2.2.1, hv2.2.2.1, hv2.2.2.2.1, fun a s ha hs hq k hk => hv2.2.2.2.2 a s ha hs (by omega) k hk⟩)) 4 0 _ (by omega) (by omega) ⟨SX_fi hX f, hK.fi f (fun b k q1 q2 => by unfold FA at q1; unfold FB at q2; omega), f, ⟨fun k hk => ?_, ?_, ?_, ?_, fun k hk => ?_, fun k hk => ?_⟩, fun a s ha hs hq => by omega⟩
  · rw [cp_n (by omega), cp_n (by omega), wi_n (by omega), wi_n (by omega), wi_n (by omega), cp_0 hk]; exact hK.1.1 k hk
  · rw [cp_n (by omega), cp_n (by omega), wi_n (by omega), wi_n (by omega), wi_s]
  · rw [cp_n (by omega), cp_n (by omega), wi_n (by omega), wi_s]
  · rw [cp_n (by omega), cp_n (by omega), wi_s]
  · rw [cp_n (by omega), cp_0 hk, wi_n (by omega), wi_n (by omega), wi_n (by omega), cp_n (by omega)]; exact hK.1.2.2.2.2.1 k hk
  · rw [cp_0 hk, cp_n (by omega), wi_n (by omega), wi_n (by omega), wi_n (by omega), cp_n (by omega)]; exact hK.1.2.2.2.2.2 k hk
