/-! ===== the reference: tokens ===== -/
/-! the reference's tape and tokens -/
def TXp (M : zM) (n : Nat) (b : Nat → Nat) : Prop := n ≤ 120 ∧ zi M 136 30 = nI n ∧ ∀ k, k < n → zi M 208 k = nI (b k) ∧ b k < 256
theorem TXp_fi {M M' : zM} {F : Nat → Nat → Prop} {n : Nat} {b : Nat → Nat} (h : TXp M n b) (f : Fi F M M') (hs : ¬ F 136 30 ∧ ∀ k, ¬ F 208 k) : TXp M' n b := ⟨h.1, (f.1 _ _ hs.1).trans h.2.1, fun k hk => ⟨(f.1 _ _ (hs.2 k)).trans (h.2.2 k hk).1, (h.2.2 k hk).2⟩⟩
def FQ : Nat → Nat → Prop := fun a k => a = 136 ∧ k = 31
def FN : Nat → Nat → Prop := fun a k => a = 136 ∧ (k = 31 ∨ k = 32 ∨ k = 33 ∨ k = 34 ∨ k = 38)
theorem FQ_t : ¬ FQ 136 30 ∧ ∀ k, ¬ FQ 208 k := ⟨by unfold FQ; omega, fun k => by unfold FQ; omega⟩
theorem FN_t : ¬ FN 136 30 ∧ ∀ k, ¬ FN 208 k := ⟨by unfold FN; omega, fun k => by unfold FN; omega⟩
theorem FQ_N {a k : Nat} (h : FQ a k) : FN a k := by unfold FQ at h; unfold FN; omega
/-- a token as the reference has it; none: a wrong one -/
def ytx (b : Nat → Nat) (k : yK) : Option (Nat × Nat) := if k.1 = 0 then some (0, 0) else if k.1 = 1 then (if k.2.2 - k.2.1 = 1 ∧ b k.2.1 ≤ 102 then some (2, b k.2.1 - 97) else if ykw b k.2.1 k.2.2 < 6 then some (1, ykw b k.2.1 k.2.2) else none) else if k.1 = 2 then some (3, ynd b k.2.1 (k.2.2 - k.2.1)) else if k.1 = 3 then none else some (4, k.1)
theorem d135_0 : decode (zB 135) 0 = .ok (.iload_n 1, 1) := (congrArg (fun c => decode c 0) zeq135).trans (by decide +kernel)
theorem d135_1 : decode (zB 135) 1 = .ok (.aload_n 0, 1) := (congrArg (fun c => decode c 1) zeq135).trans (by decide +kernel)
theorem d135_2 : decode (zB 135) 2 = .ok (.getfield 123, 3) := (congrArg (fun c => decode c 2) zeq135).trans (by decide +kernel)
theorem d135_5 : decode (zB 135) 5 = .ok (.if_icmp .ge 12, 3) := (congrArg (fun c => decode c 5) zeq135).trans (by decide +kernel)
theorem d135_8 : decode (zB 135) 8 = .ok (.aload_n 0, 1) := (congrArg (fun c => decode c 8) zeq135).trans (by decide +kernel)
theorem d135_9 : decode (zB 135) 9 = .ok (.getfield 76, 3) := (congrArg (fun c => decode c 9) zeq135).trans (by decide +kernel)
theorem d135_12 : decode (zB 135) 12 = .ok (.iload_n 1, 1) := (congrArg (fun c => decode c 12) zeq135).trans (by decide +kernel)
theorem d135_13 : decode (zB 135) 13 = .ok (.iaload, 1) := (congrArg (fun c => decode c 13) zeq135).trans (by decide +kernel)
theorem d135_14 : decode (zB 135) 14 = .ok (.goto 4, 3) := (congrArg (fun c => decode c 14) zeq135).trans (by decide +kernel)
theorem d135_17 : decode (zB 135) 17 = .ok (.iconst (-1), 1) := (congrArg (fun c => decode c 17) zeq135).trans (by decide +kernel)
theorem d135_18 : decode (zB 135) 18 = .ok (.ireturn, 1) := (congrArg (fun c => decode c 18) zeq135).trans (by decide +kernel)
theorem c135t {d : Nat} {M : zM} {Q : Option Value → zM → Prop} {n : Nat} {b : Nat → Nat} {p : Nat} (hX : SX M) (ht : TXp M n b) (hp : p < n) (k : Q (some (.int (nI (b p)))) M) : qC (d + 1) 135 [.ref 136, .int (nI p)] M Q := by
  refine qC_of (by decide) (Nat.le_of_ble_eq_true rfl) ?_
  have h120 := ht.1
  refine q_iload_n d135_0 rfl ?_
  refine q_aload_n d135_1 rfl ?_
  refine q_getv (c := 8) (f := 30) d135_2 ⟨rfl, by decide⟩ (xk_136 hX) ht.2.1 ?_
  refine nc_ge 17 d135_5 (by decide) (by omega) (by omega) (fun h5 => (False.elim (by omega))) (fun h5 => ?_)
  refine q_aload_n d135_8 rfl ?_
  refine q_getr (c := 8) (f := 29) d135_9 ⟨rfl, rfl⟩ (xk_136 hX) (xf_tape hX) ?_
  refine q_iload_n d135_12 rfl ?_
  refine n_iald d135_13 (xk_tape hX) (by omega) (by decide) (ht.2.2 _ (by omega)).1 ?_
  refine q_goto 18 d135_14 (by decide) ?_
  refine q_iret d135_18 rfl ?_
  exact k
theorem c135f {d : Nat} {M : zM} {Q : Option Value → zM → Prop} {n : Nat} {b : Nat → Nat} {p : Nat} (hX : SX M) (ht : TXp M n b) (hp : n ≤ p) (hp2 : p < 2147483648) (k : Q (some (.int (-1))) M) : qC (d + 1) 135 [.ref 136, .int (nI p)] M Q := by
  refine qC_of (by decide) (Nat.le_of_ble_eq_true rfl) ?_
  have h120 := ht.1
  refine q_iload_n d135_0 rfl ?_
  refine q_aload_n d135_1 rfl ?_
  refine q_getv (c := 8) (f := 30) d135_2 ⟨rfl, by decide⟩ (xk_136 hX) ht.2.1 ?_
  refine nc_ge 17 d135_5 (by decide) (by omega) (by omega) (fun h5 => ?_) (fun h5 => (False.elim (by omega)))
  refine q_iconst (x := (-1)) d135_17 rfl ?_
  refine q_iret d135_18 rfl ?_
  exact k
theorem d137_0 : decode (zB 137) 0 = .ok (.aload_n 1, 1) := (congrArg (fun c => decode c 0) zeq137).trans (by decide +kernel)
theorem d137_1 : decode (zB 137) 1 = .ok (.invokevirtual 126, 3) := (congrArg (fun c => decode c 1) zeq137).trans (by decide +kernel)
theorem d137_4 : decode (zB 137) 4 = .ok (.aload_n 0, 1) := (congrArg (fun c => decode c 4) zeq137).trans (by decide +kernel)
theorem d137_5 : decode (zB 137) 5 = .ok (.getfield 132, 3) := (congrArg (fun c => decode c 5) zeq137).trans (by decide +kernel)
theorem d137_8 : decode (zB 137) 8 = .ok (.aload_n 0, 1) := (congrArg (fun c => decode c 8) zeq137).trans (by decide +kernel)
theorem d137_9 : decode (zB 137) 9 = .ok (.getfield 135, 3) := (congrArg (fun c => decode c 9) zeq137).trans (by decide +kernel)
theorem d137_12 : decode (zB 137) 12 = .ok (.isub, 1) := (congrArg (fun c => decode c 12) zeq137).trans (by decide +kernel)
theorem d137_13 : decode (zB 137) 13 = .ok (.if_icmp .eq 5, 3) := (congrArg (fun c => decode c 13) zeq137).trans (by decide +kernel)
theorem d137_16 : decode (zB 137) 16 = .ok (.iconst 0, 1) := (congrArg (fun c => decode c 16) zeq137).trans (by decide +kernel)
theorem d137_17 : decode (zB 137) 17 = .ok (.ireturn, 1) := (congrArg (fun c => decode c 17) zeq137).trans (by decide +kernel)
theorem d137_18 : decode (zB 137) 18 = .ok (.iconst 0, 1) := (congrArg (fun c => decode c 18) zeq137).trans (by decide +kernel)
theorem d137_19 : decode (zB 137) 19 = .ok (.istore_n 2, 1) := (congrArg (fun c => decode c 19) zeq137).trans (by decide +kernel)
theorem d137_20 : decode (zB 137) 20 = .ok (.iload_n 2, 1) := (congrArg (fun c => decode c 20) zeq137).trans (by decide +kernel)
theorem d137_21 : decode (zB 137) 21 = .ok (.aload_n 1, 1) := (congrArg (fun c => decode c 21) zeq137).trans (by decide +kernel)
theorem d137_22 : decode (zB 137) 22 = .ok (.invokevirtual 126, 3) := (congrArg (fun c => decode c 22) zeq137).trans (by decide +kernel)
theorem d137_25 : decode (zB 137) 25 = .ok (.if_icmp .ge 29, 3) := (congrArg (fun c => decode c 25) zeq137).trans (by decide +kernel)
theorem d137_28 : decode (zB 137) 28 = .ok (.aload_n 1, 1) := (congrArg (fun c => decode c 28) zeq137).trans (by decide +kernel)
theorem d137_29 : decode (zB 137) 29 = .ok (.iload_n 2, 1) := (congrArg (fun c => decode c 29) zeq137).trans (by decide +kernel)
theorem d137_30 : decode (zB 137) 30 = .ok (.invokevirtual 138, 3) := (congrArg (fun c => decode c 30) zeq137).trans (by decide +kernel)
theorem d137_33 : decode (zB 137) 33 = .ok (.aload_n 0, 1) := (congrArg (fun c => decode c 33) zeq137).trans (by decide +kernel)
theorem d137_34 : decode (zB 137) 34 = .ok (.aload_n 0, 1) := (congrArg (fun c => decode c 34) zeq137).trans (by decide +kernel)
theorem d137_35 : decode (zB 137) 35 = .ok (.getfield 135, 3) := (congrArg (fun c => decode c 35) zeq137).trans (by decide +kernel)
theorem d137_38 : decode (zB 137) 38 = .ok (.iload_n 2, 1) := (congrArg (fun c => decode c 38) zeq137).trans (by decide +kernel)
theorem d137_39 : decode (zB 137) 39 = .ok (.iadd, 1) := (congrArg (fun c => decode c 39) zeq137).trans (by decide +kernel)
theorem d137_40 : decode (zB 137) 40 = .ok (.invokevirtual 142, 3) := (congrArg (fun c => decode c 40) zeq137).trans (by decide +kernel)
theorem d137_43 : decode (zB 137) 43 = .ok (.if_icmp .eq 5, 3) := (congrArg (fun c => decode c 43) zeq137).trans (by decide +kernel)
theorem d137_46 : decode (zB 137) 46 = .ok (.iconst 0, 1) := (congrArg (fun c => decode c 46) zeq137).trans (by decide +kernel)
theorem d137_47 : decode (zB 137) 47 = .ok (.ireturn, 1) := (congrArg (fun c => decode c 47) zeq137).trans (by decide +kernel)
theorem d137_48 : decode (zB 137) 48 = .ok (.iinc 2 1, 3) := (congrArg (fun c => decode c 48) zeq137).trans (by decide +kernel)
theorem d137_51 : decode (zB 137) 51 = .ok (.goto (-31), 3) := (congrArg (fun c => decode c 51) zeq137).trans (by decide +kernel)
theorem d137_54 : decode (zB 137) 54 = .ok (.iconst 1, 1) := (congrArg (fun c => decode c 54) zeq137).trans (by decide +kernel)
theorem d137_55 : decode (zB 137) 55 = .ok (.ireturn, 1) := (congrArg (fun c => decode c 55) zeq137).trans (by decide +kernel)
theorem l137 {d : Nat} {M : zM} {Q : Option Value → zM → Prop} {n : Nat} {b : Nat → Nat} {s e i : Nat} (hX : SX M) (ht : TXp M n b) (ha : zi M 136 31 = nI e) (hb : zi M 136 32 = nI s) (hse : s ≤ e) (hen : e ≤ n) (hi : i < 6) (k : Q (some (.int (bI (ywd b s e i)))) M) (he : e - s = (ywl i).length) : ∀ (r q : Nat), q ≤ (ywl i).length → (ywl i).length < q + r →  (∀ p, p < q → b (s + p) = (ywl i).getD p 0) → qW (zEv (d + 7)) 137 Q 20 [(2, .int (nI q)), (0, .ref 136), (1, .ref (3 + i))] [] M := by
  intro r
  induction r with
  | zero => intros; omega
  | succ r ih =>
    intro q h1 h2 hq 
    have h120 := ht.1
    have hl := ywl_len i hi
    refine q_iload_n d137_20 rfl ?_
    refine q_aload_n d137_21 rfl ?_
    refine q_t0 d137_22 (Or.inl rfl) (Nat.le_of_ble_eq_true rfl) (c900 hi ?_)
    refine nc_ge 54 d137_25 (by decide) (by omega) (by omega) (fun h25 => ?_) (fun h25 => ?_)
    · refine q_iconstN (z := 1) d137_54 ?_
      refine q_zret d137_55 rfl (by decide) ?_
      rw [ywd_t he (fun p hp => hq p (by omega))] at k
      exact k
    · refine q_aload_n d137_28 rfl ?_
      refine q_iload_n d137_29 rfl ?_
      refine q_t1 d137_30 (Or.inr rfl) (Nat.le_of_ble_eq_true rfl) (c901 hi (by omega) ?_)
      refine q_aload_n d137_33 rfl ?_
      refine q_aload_n d137_34 rfl ?_
      refine q_getv (c := 8) (f := 32) d137_35 ⟨rfl, by decide⟩ (xk_136 hX) hb ?_
      refine q_iload_n d137_38 rfl ?_
      refine n_iadd d137_39 ?_
      refine q_v1 d137_40 rfl rfl (xk_136 hX) (Nat.le_of_ble_eq_true rfl) (c135t hX ht (by omega) ?_)
      have hg := (hl.2 q (by omega))
      have hbb := (ht.2.2 (s + q) (by omega)).2
      refine nc_eq 48 d137_43 (by decide) (by omega) (by omega) (fun h43 => ?_) (fun h43 => ?_)
      · refine n_iinc 1 d137_48 (by decide) rfl rfl ?_
        refine q_goto 20 d137_51 (by decide) ?_
        exact ih (q + 1) (by omega) (by omega) (fun p hp => by by_cases e9 : p = q; (subst e9; exact h43.symm); exact hq p (by omega))
      · refine q_iconstN (z := 0) d137_46 ?_
        refine q_zret d137_47 rfl (by decide) ?_
        rw [ywd_f2 (k := q) (by omega) (fun e9 => h43 e9.symm)] at k
        exact k
theorem c137 {d : Nat} {M : zM} {Q : Option Value → zM → Prop} {n : Nat} {b : Nat → Nat} {s e i : Nat} (hX : SX M) (ht : TXp M n b) (ha : zi M 136 31 = nI e) (hb : zi M 136 32 = nI s) (hse : s ≤ e) (hen : e ≤ n) (hi : i < 6) (k : Q (some (.int (bI (ywd b s e i)))) M) : qC (d + 8) 137 [.ref 136, .ref (3 + i)] M Q := by
  refine qC_of (by decide) (Nat.le_of_ble_eq_true rfl) ?_
  have h120 := ht.1
  have hl := ywl_len i hi
  refine q_aload_n d137_0 rfl ?_
  refine q_t0 d137_1 (Or.inl rfl) (Nat.le_of_ble_eq_true rfl) (c900 hi ?_)
  refine q_aload_n d137_4 rfl ?_
  refine q_getv (c := 8) (f := 31) d137_5 ⟨rfl, by decide⟩ (xk_136 hX) ha ?_
  refine q_aload_n d137_8 rfl ?_
  refine q_getv (c := 8) (f := 32) d137_9 ⟨rfl, by decide⟩ (xk_136 hX) hb ?_
  refine n_isub d137_12 (by omega) ?_
  refine nc_eq 18 d137_13 (by decide) (by omega) (by omega) (fun h13 => ?_) (fun h13 => ?_)
  · refine q_iconstN (z := 0) d137_18 ?_
    refine q_istore_n d137_19 (by decide) rfl ?_
    exact l137 hX ht ha hb hse hen hi k h13.symm ((ywl i).length + 1) 0 (Nat.zero_le _) (by omega) (fun p hp => absurd hp (Nat.not_lt_zero _))
  · refine q_iconstN (z := 0) d137_16 ?_
    refine q_zret d137_17 rfl (by decide) ?_
    rw [ywd_f1 (fun e9 => h13 e9.symm)] at k
    exact k
theorem d136_0 : decode (zB 136) 0 = .ok (.aload_n 0, 1) := (congrArg (fun c => decode c 0) zeq136).trans (by decide +kernel)
theorem d136_1 : decode (zB 136) 1 = .ok (.ldc 146, 2) := (congrArg (fun c => decode c 1) zeq136).trans (by decide +kernel)
theorem d136_3 : decode (zB 136) 3 = .ok (.invokevirtual 148, 3) := (congrArg (fun c => decode c 3) zeq136).trans (by decide +kernel)
theorem d136_6 : decode (zB 136) 6 = .ok (.ifCond .eq 7, 3) := (congrArg (fun c => decode c 6) zeq136).trans (by decide +kernel)
theorem d136_9 : decode (zB 136) 9 = .ok (.iconst 0, 1) := (congrArg (fun c => decode c 9) zeq136).trans (by decide +kernel)
theorem d136_10 : decode (zB 136) 10 = .ok (.goto 69, 3) := (congrArg (fun c => decode c 10) zeq136).trans (by decide +kernel)
theorem d136_13 : decode (zB 136) 13 = .ok (.aload_n 0, 1) := (congrArg (fun c => decode c 13) zeq136).trans (by decide +kernel)
theorem d136_14 : decode (zB 136) 14 = .ok (.ldc 152, 2) := (congrArg (fun c => decode c 14) zeq136).trans (by decide +kernel)
theorem d136_16 : decode (zB 136) 16 = .ok (.invokevirtual 148, 3) := (congrArg (fun c => decode c 16) zeq136).trans (by decide +kernel)
theorem d136_19 : decode (zB 136) 19 = .ok (.ifCond .eq 7, 3) := (congrArg (fun c => decode c 19) zeq136).trans (by decide +kernel)
theorem d136_22 : decode (zB 136) 22 = .ok (.iconst 1, 1) := (congrArg (fun c => decode c 22) zeq136).trans (by decide +kernel)
theorem d136_23 : decode (zB 136) 23 = .ok (.goto 56, 3) := (congrArg (fun c => decode c 23) zeq136).trans (by decide +kernel)
theorem d136_26 : decode (zB 136) 26 = .ok (.aload_n 0, 1) := (congrArg (fun c => decode c 26) zeq136).trans (by decide +kernel)
theorem d136_27 : decode (zB 136) 27 = .ok (.ldc 154, 2) := (congrArg (fun c => decode c 27) zeq136).trans (by decide +kernel)
theorem d136_29 : decode (zB 136) 29 = .ok (.invokevirtual 148, 3) := (congrArg (fun c => decode c 29) zeq136).trans (by decide +kernel)
theorem d136_32 : decode (zB 136) 32 = .ok (.ifCond .eq 7, 3) := (congrArg (fun c => decode c 32) zeq136).trans (by decide +kernel)
theorem d136_35 : decode (zB 136) 35 = .ok (.iconst 2, 1) := (congrArg (fun c => decode c 35) zeq136).trans (by decide +kernel)
theorem d136_36 : decode (zB 136) 36 = .ok (.goto 43, 3) := (congrArg (fun c => decode c 36) zeq136).trans (by decide +kernel)
theorem d136_39 : decode (zB 136) 39 = .ok (.aload_n 0, 1) := (congrArg (fun c => decode c 39) zeq136).trans (by decide +kernel)
theorem d136_40 : decode (zB 136) 40 = .ok (.ldc 156, 2) := (congrArg (fun c => decode c 40) zeq136).trans (by decide +kernel)
theorem d136_42 : decode (zB 136) 42 = .ok (.invokevirtual 148, 3) := (congrArg (fun c => decode c 42) zeq136).trans (by decide +kernel)
theorem d136_45 : decode (zB 136) 45 = .ok (.ifCond .eq 7, 3) := (congrArg (fun c => decode c 45) zeq136).trans (by decide +kernel)
theorem d136_48 : decode (zB 136) 48 = .ok (.iconst 3, 1) := (congrArg (fun c => decode c 48) zeq136).trans (by decide +kernel)
theorem d136_49 : decode (zB 136) 49 = .ok (.goto 30, 3) := (congrArg (fun c => decode c 49) zeq136).trans (by decide +kernel)
theorem d136_52 : decode (zB 136) 52 = .ok (.aload_n 0, 1) := (congrArg (fun c => decode c 52) zeq136).trans (by decide +kernel)
theorem d136_53 : decode (zB 136) 53 = .ok (.ldc 158, 2) := (congrArg (fun c => decode c 53) zeq136).trans (by decide +kernel)
theorem d136_55 : decode (zB 136) 55 = .ok (.invokevirtual 148, 3) := (congrArg (fun c => decode c 55) zeq136).trans (by decide +kernel)
theorem d136_58 : decode (zB 136) 58 = .ok (.ifCond .eq 7, 3) := (congrArg (fun c => decode c 58) zeq136).trans (by decide +kernel)
theorem d136_61 : decode (zB 136) 61 = .ok (.iconst 4, 1) := (congrArg (fun c => decode c 61) zeq136).trans (by decide +kernel)
theorem d136_62 : decode (zB 136) 62 = .ok (.goto 17, 3) := (congrArg (fun c => decode c 62) zeq136).trans (by decide +kernel)
theorem d136_65 : decode (zB 136) 65 = .ok (.aload_n 0, 1) := (congrArg (fun c => decode c 65) zeq136).trans (by decide +kernel)
theorem d136_66 : decode (zB 136) 66 = .ok (.ldc 160, 2) := (congrArg (fun c => decode c 66) zeq136).trans (by decide +kernel)
theorem d136_68 : decode (zB 136) 68 = .ok (.invokevirtual 148, 3) := (congrArg (fun c => decode c 68) zeq136).trans (by decide +kernel)
theorem d136_71 : decode (zB 136) 71 = .ok (.ifCond .eq 7, 3) := (congrArg (fun c => decode c 71) zeq136).trans (by decide +kernel)
theorem d136_74 : decode (zB 136) 74 = .ok (.iconst 5, 1) := (congrArg (fun c => decode c 74) zeq136).trans (by decide +kernel)
theorem d136_75 : decode (zB 136) 75 = .ok (.goto 4, 3) := (congrArg (fun c => decode c 75) zeq136).trans (by decide +kernel)
theorem d136_78 : decode (zB 136) 78 = .ok (.iconst (-1), 1) := (congrArg (fun c => decode c 78) zeq136).trans (by decide +kernel)
theorem d136_79 : decode (zB 136) 79 = .ok (.ireturn, 1) := (congrArg (fun c => decode c 79) zeq136).trans (by decide +kernel)
theorem bo_n {p : Bool} (h : p = false) : ¬ p = true := by rw [h]; decide
theorem c136 {d : Nat} {M : zM} {Q : Option Value → zM → Prop} {n : Nat} {b : Nat → Nat} {s e : Nat} (hX : SX M) (ht : TXp M n b) (ha : zi M 136 31 = nI e) (hb : zi M 136 32 = nI s) (hse : s ≤ e) (hen : e ≤ n) (k : Q (some (.int (ykv (ykw b s e)))) M) : qC (d + 9) 136 [.ref 136] M Q := by
  refine qC_of (by decide) (Nat.le_of_ble_eq_true rfl) ?_
  refine q_aload_n d136_0 rfl ?_
  refine q_ldcs d136_1 rfl ?_
  refine q_v1 d136_3 rfl rfl (xk_136 hX) (Nat.le_of_ble_eq_true rfl) (c137 (i := 0) hX ht ha hb hse hen (by omega) ?_)
  refine b0_eq 13 d136_6 (by decide) (fun h6 => ?_) (fun h6 => ?_)
  · refine q_aload_n d136_13 rfl ?_
    refine q_ldcs d136_14 rfl ?_
    refine q_v1 d136_16 rfl rfl (xk_136 hX) (Nat.le_of_ble_eq_true rfl) (c137 (i := 1) hX ht ha hb hse hen (by omega) ?_)
    refine b0_eq 26 d136_19 (by decide) (fun h19 => ?_) (fun h19 => ?_)
    · refine q_aload_n d136_26 rfl ?_
      refine q_ldcs d136_27 rfl ?_
      refine q_v1 d136_29 rfl rfl (xk_136 hX) (Nat.le_of_ble_eq_true rfl) (c137 (i := 2) hX ht ha hb hse hen (by omega) ?_)
      refine b0_eq 39 d136_32 (by decide) (fun h32 => ?_) (fun h32 => ?_)
      · refine q_aload_n d136_39 rfl ?_
        refine q_ldcs d136_40 rfl ?_
        refine q_v1 d136_42 rfl rfl (xk_136 hX) (Nat.le_of_ble_eq_true rfl) (c137 (i := 3) hX ht ha hb hse hen (by omega) ?_)
        refine b0_eq 52 d136_45 (by decide) (fun h45 => ?_) (fun h45 => ?_)
        · refine q_aload_n d136_52 rfl ?_
          refine q_ldcs d136_53 rfl ?_
          refine q_v1 d136_55 rfl rfl (xk_136 hX) (Nat.le_of_ble_eq_true rfl) (c137 (i := 4) hX ht ha hb hse hen (by omega) ?_)
          refine b0_eq 65 d136_58 (by decide) (fun h58 => ?_) (fun h58 => ?_)
          · refine q_aload_n d136_65 rfl ?_
            refine q_ldcs d136_66 rfl ?_
            refine q_v1 d136_68 rfl rfl (xk_136 hX) (Nat.le_of_ble_eq_true rfl) (c137 (i := 5) hX ht ha hb hse hen (by omega) ?_)
            refine b0_eq 78 d136_71 (by decide) (fun h71 => ?_) (fun h71 => ?_)
            · refine q_iconst (x := (-1)) d136_78 rfl ?_
              refine q_iret d136_79 rfl ?_
              have e9 : ykw b s e = 6 := by
                unfold ykw
                rw [ykr, if_neg (bo_n h6), ykr, if_neg (bo_n h19), ykr, if_neg (bo_n h32), ykr, if_neg (bo_n h45), ykr, if_neg (bo_n h58), ykr, if_neg (bo_n h71)]
                rfl
              rw [e9] at k
              exact k
            · refine q_iconstN (z := 5) d136_74 ?_
              refine q_goto 79 d136_75 (by decide) ?_
              refine q_iret d136_79 rfl ?_
              have e9 : ykw b s e = 5 := by
                unfold ykw
                rw [ykr, if_neg (bo_n h6), ykr, if_neg (bo_n h19), ykr, if_neg (bo_n h32), ykr, if_neg (bo_n h45), ykr, if_neg (bo_n h58), ykr, if_pos h71]
              rw [e9] at k
              exact k
          · refine q_iconstN (z := 4) d136_61 ?_
            refine q_goto 79 d136_62 (by decide) ?_
            refine q_iret d136_79 rfl ?_
            have e9 : ykw b s e = 4 := by
              unfold ykw
              rw [ykr, if_neg (bo_n h6), ykr, if_neg (bo_n h19), ykr, if_neg (bo_n h32), ykr, if_neg (bo_n h45), ykr, if_pos h58]
            rw [e9] at k
            exact k
        · refine q_iconstN (z := 3) d136_48 ?_
          refine q_goto 79 d136_49 (by decide) ?_
          refine q_iret d136_79 rfl ?_
          have e9 : ykw b s e = 3 := by
            unfold ykw
            rw [ykr, if_neg (bo_n h6), ykr, if_neg (bo_n h19), ykr, if_neg (bo_n h32), ykr, if_pos h45]
          rw [e9] at k
          exact k
      · refine q_iconstN (z := 2) d136_35 ?_
        refine q_goto 79 d136_36 (by decide) ?_
        refine q_iret d136_79 rfl ?_
        have e9 : ykw b s e = 2 := by
          unfold ykw
          rw [ykr, if_neg (bo_n h6), ykr, if_neg (bo_n h19), ykr, if_pos h32]
        rw [e9] at k
        exact k
    · refine q_iconstN (z := 1) d136_22 ?_
      refine q_goto 79 d136_23 (by decide) ?_
      refine q_iret d136_79 rfl ?_
      have e9 : ykw b s e = 1 := by
        unfold ykw
        rw [ykr, if_neg (bo_n h6), ykr, if_pos h19]
      rw [e9] at k
      exact k
  · refine q_iconstN (z := 0) d136_9 ?_
    refine q_goto 79 d136_10 (by decide) ?_
    refine q_iret d136_79 rfl ?_
    have e9 : ykw b s e = 0 := by
      unfold ykw
      rw [ykr, if_pos h6]
    rw [e9] at k
    exact k
theorem c136t {d : Nat} {M : zM} {Q : Option Value → zM → Prop} {kd : Nat} {n : Nat} {b : Nat → Nat} {s e : Nat} (hX : SX M) (ht : TXp M n b) (ha : zi M 136 31 = nI e) (hb : zi M 136 32 = nI s) (hse : s ≤ e) (hen : e ≤ n) (h : ykw b s e = kd) (h6 : kd < 6) (k : Q (some (.int (nI kd))) M) : qC (d + 9) 136 [.ref 136] M Q := c136 hX ht ha hb hse hen (by rw [h]; unfold ykv; rw [if_pos h6]; exact k)
theorem c136n {d : Nat} {M : zM} {Q : Option Value → zM → Prop} {n : Nat} {b : Nat → Nat} {s e : Nat} (hX : SX M) (ht : TXp M n b) (ha : zi M 136 31 = nI e) (hb : zi M 136 32 = nI s) (hse : s ≤ e) (hen : e ≤ n) (h : ¬ ykw b s e < 6) (k : Q (some (.int (-1))) M) : qC (d + 9) 136 [.ref 136] M Q := c136 hX ht ha hb hse hen (by unfold ykv; rw [if_neg h]; exact k)
theorem d134_0 : decode (zB 134) 0 = .ok (.aload_n 0, 1) := (congrArg (fun c => decode c 0) zeq134).trans (by decide +kernel)
theorem d134_1 : decode (zB 134) 1 = .ok (.getfield 162, 3) := (congrArg (fun c => decode c 1) zeq134).trans (by decide +kernel)
theorem d134_4 : decode (zB 134) 4 = .ok (.ifCond .eq 4, 3) := (congrArg (fun c => decode c 4) zeq134).trans (by decide +kernel)
theorem d134_7 : decode (zB 134) 7 = .ok (.return_, 1) := (congrArg (fun c => decode c 7) zeq134).trans (by decide +kernel)
theorem d134_8 : decode (zB 134) 8 = .ok (.aload_n 0, 1) := (congrArg (fun c => decode c 8) zeq134).trans (by decide +kernel)
theorem d134_9 : decode (zB 134) 9 = .ok (.aload_n 0, 1) := (congrArg (fun c => decode c 9) zeq134).trans (by decide +kernel)
theorem d134_10 : decode (zB 134) 10 = .ok (.getfield 132, 3) := (congrArg (fun c => decode c 10) zeq134).trans (by decide +kernel)
theorem d134_13 : decode (zB 134) 13 = .ok (.invokevirtual 142, 3) := (congrArg (fun c => decode c 13) zeq134).trans (by decide +kernel)
theorem d134_16 : decode (zB 134) 16 = .ok (.bipush 32, 2) := (congrArg (fun c => decode c 16) zeq134).trans (by decide +kernel)
theorem d134_18 : decode (zB 134) 18 = .ok (.if_icmp .eq 16, 3) := (congrArg (fun c => decode c 18) zeq134).trans (by decide +kernel)
theorem d134_21 : decode (zB 134) 21 = .ok (.aload_n 0, 1) := (congrArg (fun c => decode c 21) zeq134).trans (by decide +kernel)
theorem d134_22 : decode (zB 134) 22 = .ok (.aload_n 0, 1) := (congrArg (fun c => decode c 22) zeq134).trans (by decide +kernel)
theorem d134_23 : decode (zB 134) 23 = .ok (.getfield 132, 3) := (congrArg (fun c => decode c 23) zeq134).trans (by decide +kernel)
theorem d134_26 : decode (zB 134) 26 = .ok (.invokevirtual 142, 3) := (congrArg (fun c => decode c 26) zeq134).trans (by decide +kernel)
theorem d134_29 : decode (zB 134) 29 = .ok (.bipush 10, 2) := (congrArg (fun c => decode c 29) zeq134).trans (by decide +kernel)
theorem d134_31 : decode (zB 134) 31 = .ok (.if_icmp .ne 16, 3) := (congrArg (fun c => decode c 31) zeq134).trans (by decide +kernel)
theorem d134_34 : decode (zB 134) 34 = .ok (.aload_n 0, 1) := (congrArg (fun c => decode c 34) zeq134).trans (by decide +kernel)
theorem d134_35 : decode (zB 134) 35 = .ok (.dup, 1) := (congrArg (fun c => decode c 35) zeq134).trans (by decide +kernel)
theorem d134_36 : decode (zB 134) 36 = .ok (.getfield 132, 3) := (congrArg (fun c => decode c 36) zeq134).trans (by decide +kernel)
theorem d134_39 : decode (zB 134) 39 = .ok (.iconst 1, 1) := (congrArg (fun c => decode c 39) zeq134).trans (by decide +kernel)
theorem d134_40 : decode (zB 134) 40 = .ok (.iadd, 1) := (congrArg (fun c => decode c 40) zeq134).trans (by decide +kernel)
theorem d134_41 : decode (zB 134) 41 = .ok (.putfield 132, 3) := (congrArg (fun c => decode c 41) zeq134).trans (by decide +kernel)
theorem d134_44 : decode (zB 134) 44 = .ok (.goto (-36), 3) := (congrArg (fun c => decode c 44) zeq134).trans (by decide +kernel)
theorem d134_47 : decode (zB 134) 47 = .ok (.aload_n 0, 1) := (congrArg (fun c => decode c 47) zeq134).trans (by decide +kernel)
theorem d134_48 : decode (zB 134) 48 = .ok (.aload_n 0, 1) := (congrArg (fun c => decode c 48) zeq134).trans (by decide +kernel)
theorem d134_49 : decode (zB 134) 49 = .ok (.getfield 132, 3) := (congrArg (fun c => decode c 49) zeq134).trans (by decide +kernel)
theorem d134_52 : decode (zB 134) 52 = .ok (.putfield 135, 3) := (congrArg (fun c => decode c 52) zeq134).trans (by decide +kernel)
theorem d134_55 : decode (zB 134) 55 = .ok (.aload_n 0, 1) := (congrArg (fun c => decode c 55) zeq134).trans (by decide +kernel)
theorem d134_56 : decode (zB 134) 56 = .ok (.aload_n 0, 1) := (congrArg (fun c => decode c 56) zeq134).trans (by decide +kernel)
theorem d134_57 : decode (zB 134) 57 = .ok (.getfield 132, 3) := (congrArg (fun c => decode c 57) zeq134).trans (by decide +kernel)
theorem d134_60 : decode (zB 134) 60 = .ok (.invokevirtual 142, 3) := (congrArg (fun c => decode c 60) zeq134).trans (by decide +kernel)
theorem d134_63 : decode (zB 134) 63 = .ok (.istore_n 1, 1) := (congrArg (fun c => decode c 63) zeq134).trans (by decide +kernel)
theorem d134_64 : decode (zB 134) 64 = .ok (.iload_n 1, 1) := (congrArg (fun c => decode c 64) zeq134).trans (by decide +kernel)
theorem d134_65 : decode (zB 134) 65 = .ok (.iconst (-1), 1) := (congrArg (fun c => decode c 65) zeq134).trans (by decide +kernel)
theorem d134_66 : decode (zB 134) 66 = .ok (.if_icmp .ne 11, 3) := (congrArg (fun c => decode c 66) zeq134).trans (by decide +kernel)
theorem d134_69 : decode (zB 134) 69 = .ok (.aload_n 0, 1) := (congrArg (fun c => decode c 69) zeq134).trans (by decide +kernel)
theorem d134_70 : decode (zB 134) 70 = .ok (.iconst 0, 1) := (congrArg (fun c => decode c 70) zeq134).trans (by decide +kernel)
theorem d134_71 : decode (zB 134) 71 = .ok (.putfield 166, 3) := (congrArg (fun c => decode c 71) zeq134).trans (by decide +kernel)
theorem d134_74 : decode (zB 134) 74 = .ok (.goto 294, 3) := (congrArg (fun c => decode c 74) zeq134).trans (by decide +kernel)
theorem d134_77 : decode (zB 134) 77 = .ok (.iload_n 1, 1) := (congrArg (fun c => decode c 77) zeq134).trans (by decide +kernel)
theorem d134_78 : decode (zB 134) 78 = .ok (.bipush 97, 2) := (congrArg (fun c => decode c 78) zeq134).trans (by decide +kernel)
theorem d134_80 : decode (zB 134) 80 = .ok (.bipush 122, 2) := (congrArg (fun c => decode c 80) zeq134).trans (by decide +kernel)
theorem d134_82 : decode (zB 134) 82 = .ok (.invokestatic 112, 3) := (congrArg (fun c => decode c 82) zeq134).trans (by decide +kernel)
theorem d134_85 : decode (zB 134) 85 = .ok (.ifCond .eq 111, 3) := (congrArg (fun c => decode c 85) zeq134).trans (by decide +kernel)
theorem d134_88 : decode (zB 134) 88 = .ok (.aload_n 0, 1) := (congrArg (fun c => decode c 88) zeq134).trans (by decide +kernel)
theorem d134_89 : decode (zB 134) 89 = .ok (.aload_n 0, 1) := (congrArg (fun c => decode c 89) zeq134).trans (by decide +kernel)
theorem d134_90 : decode (zB 134) 90 = .ok (.getfield 132, 3) := (congrArg (fun c => decode c 90) zeq134).trans (by decide +kernel)
theorem d134_93 : decode (zB 134) 93 = .ok (.invokevirtual 142, 3) := (congrArg (fun c => decode c 93) zeq134).trans (by decide +kernel)
theorem d134_96 : decode (zB 134) 96 = .ok (.bipush 97, 2) := (congrArg (fun c => decode c 96) zeq134).trans (by decide +kernel)
theorem d134_98 : decode (zB 134) 98 = .ok (.bipush 122, 2) := (congrArg (fun c => decode c 98) zeq134).trans (by decide +kernel)
theorem d134_100 : decode (zB 134) 100 = .ok (.invokestatic 112, 3) := (congrArg (fun c => decode c 100) zeq134).trans (by decide +kernel)
theorem d134_103 : decode (zB 134) 103 = .ok (.ifCond .eq 16, 3) := (congrArg (fun c => decode c 103) zeq134).trans (by decide +kernel)
theorem d134_106 : decode (zB 134) 106 = .ok (.aload_n 0, 1) := (congrArg (fun c => decode c 106) zeq134).trans (by decide +kernel)
theorem d134_107 : decode (zB 134) 107 = .ok (.dup, 1) := (congrArg (fun c => decode c 107) zeq134).trans (by decide +kernel)
theorem d134_108 : decode (zB 134) 108 = .ok (.getfield 132, 3) := (congrArg (fun c => decode c 108) zeq134).trans (by decide +kernel)
theorem d134_111 : decode (zB 134) 111 = .ok (.iconst 1, 1) := (congrArg (fun c => decode c 111) zeq134).trans (by decide +kernel)
theorem d134_112 : decode (zB 134) 112 = .ok (.iadd, 1) := (congrArg (fun c => decode c 112) zeq134).trans (by decide +kernel)
theorem d134_113 : decode (zB 134) 113 = .ok (.putfield 132, 3) := (congrArg (fun c => decode c 113) zeq134).trans (by decide +kernel)
theorem d134_116 : decode (zB 134) 116 = .ok (.goto (-28), 3) := (congrArg (fun c => decode c 116) zeq134).trans (by decide +kernel)
theorem d134_119 : decode (zB 134) 119 = .ok (.aload_n 0, 1) := (congrArg (fun c => decode c 119) zeq134).trans (by decide +kernel)
theorem d134_120 : decode (zB 134) 120 = .ok (.getfield 132, 3) := (congrArg (fun c => decode c 120) zeq134).trans (by decide +kernel)
theorem d134_123 : decode (zB 134) 123 = .ok (.aload_n 0, 1) := (congrArg (fun c => decode c 123) zeq134).trans (by decide +kernel)
theorem d134_124 : decode (zB 134) 124 = .ok (.getfield 135, 3) := (congrArg (fun c => decode c 124) zeq134).trans (by decide +kernel)
theorem d134_127 : decode (zB 134) 127 = .ok (.isub, 1) := (congrArg (fun c => decode c 127) zeq134).trans (by decide +kernel)
theorem d134_128 : decode (zB 134) 128 = .ok (.iconst 1, 1) := (congrArg (fun c => decode c 128) zeq134).trans (by decide +kernel)
theorem d134_129 : decode (zB 134) 129 = .ok (.if_icmp .ne 13, 3) := (congrArg (fun c => decode c 129) zeq134).trans (by decide +kernel)
theorem d134_132 : decode (zB 134) 132 = .ok (.iload_n 1, 1) := (congrArg (fun c => decode c 132) zeq134).trans (by decide +kernel)
theorem d134_133 : decode (zB 134) 133 = .ok (.bipush 102, 2) := (congrArg (fun c => decode c 133) zeq134).trans (by decide +kernel)
theorem d134_135 : decode (zB 134) 135 = .ok (.if_icmp .gt 7, 3) := (congrArg (fun c => decode c 135) zeq134).trans (by decide +kernel)
theorem d134_138 : decode (zB 134) 138 = .ok (.iconst 1, 1) := (congrArg (fun c => decode c 138) zeq134).trans (by decide +kernel)
theorem d134_139 : decode (zB 134) 139 = .ok (.goto 4, 3) := (congrArg (fun c => decode c 139) zeq134).trans (by decide +kernel)
theorem d134_142 : decode (zB 134) 142 = .ok (.iconst 0, 1) := (congrArg (fun c => decode c 142) zeq134).trans (by decide +kernel)
theorem d134_143 : decode (zB 134) 143 = .ok (.istore_n 2, 1) := (congrArg (fun c => decode c 143) zeq134).trans (by decide +kernel)
theorem d134_144 : decode (zB 134) 144 = .ok (.aload_n 0, 1) := (congrArg (fun c => decode c 144) zeq134).trans (by decide +kernel)
theorem d134_145 : decode (zB 134) 145 = .ok (.iload_n 2, 1) := (congrArg (fun c => decode c 145) zeq134).trans (by decide +kernel)
theorem d134_146 : decode (zB 134) 146 = .ok (.ifCond .eq 7, 3) := (congrArg (fun c => decode c 146) zeq134).trans (by decide +kernel)
theorem d134_149 : decode (zB 134) 149 = .ok (.iconst 2, 1) := (congrArg (fun c => decode c 149) zeq134).trans (by decide +kernel)
theorem d134_150 : decode (zB 134) 150 = .ok (.goto 4, 3) := (congrArg (fun c => decode c 150) zeq134).trans (by decide +kernel)
theorem d134_153 : decode (zB 134) 153 = .ok (.iconst 1, 1) := (congrArg (fun c => decode c 153) zeq134).trans (by decide +kernel)
theorem d134_154 : decode (zB 134) 154 = .ok (.putfield 166, 3) := (congrArg (fun c => decode c 154) zeq134).trans (by decide +kernel)
theorem d134_157 : decode (zB 134) 157 = .ok (.aload_n 0, 1) := (congrArg (fun c => decode c 157) zeq134).trans (by decide +kernel)
theorem d134_158 : decode (zB 134) 158 = .ok (.iload_n 2, 1) := (congrArg (fun c => decode c 158) zeq134).trans (by decide +kernel)
theorem d134_159 : decode (zB 134) 159 = .ok (.ifCond .eq 10, 3) := (congrArg (fun c => decode c 159) zeq134).trans (by decide +kernel)
theorem d134_162 : decode (zB 134) 162 = .ok (.iload_n 1, 1) := (congrArg (fun c => decode c 162) zeq134).trans (by decide +kernel)
theorem d134_163 : decode (zB 134) 163 = .ok (.bipush 97, 2) := (congrArg (fun c => decode c 163) zeq134).trans (by decide +kernel)
theorem d134_165 : decode (zB 134) 165 = .ok (.isub, 1) := (congrArg (fun c => decode c 165) zeq134).trans (by decide +kernel)
theorem d134_166 : decode (zB 134) 166 = .ok (.goto 7, 3) := (congrArg (fun c => decode c 166) zeq134).trans (by decide +kernel)
theorem d134_169 : decode (zB 134) 169 = .ok (.aload_n 0, 1) := (congrArg (fun c => decode c 169) zeq134).trans (by decide +kernel)
theorem d134_170 : decode (zB 134) 170 = .ok (.invokevirtual 169, 3) := (congrArg (fun c => decode c 170) zeq134).trans (by decide +kernel)
theorem d134_173 : decode (zB 134) 173 = .ok (.putfield 172, 3) := (congrArg (fun c => decode c 173) zeq134).trans (by decide +kernel)
theorem d134_176 : decode (zB 134) 176 = .ok (.aload_n 0, 1) := (congrArg (fun c => decode c 176) zeq134).trans (by decide +kernel)
theorem d134_177 : decode (zB 134) 177 = .ok (.aload_n 0, 1) := (congrArg (fun c => decode c 177) zeq134).trans (by decide +kernel)
theorem d134_178 : decode (zB 134) 178 = .ok (.getfield 172, 3) := (congrArg (fun c => decode c 178) zeq134).trans (by decide +kernel)
theorem d134_181 : decode (zB 134) 181 = .ok (.iconst (-1), 1) := (congrArg (fun c => decode c 181) zeq134).trans (by decide +kernel)
theorem d134_182 : decode (zB 134) 182 = .ok (.if_icmp .ne 7, 3) := (congrArg (fun c => decode c 182) zeq134).trans (by decide +kernel)
theorem d134_185 : decode (zB 134) 185 = .ok (.iconst 1, 1) := (congrArg (fun c => decode c 185) zeq134).trans (by decide +kernel)
theorem d134_186 : decode (zB 134) 186 = .ok (.goto 4, 3) := (congrArg (fun c => decode c 186) zeq134).trans (by decide +kernel)
theorem d134_189 : decode (zB 134) 189 = .ok (.iconst 0, 1) := (congrArg (fun c => decode c 189) zeq134).trans (by decide +kernel)
theorem d134_190 : decode (zB 134) 190 = .ok (.putfield 162, 3) := (congrArg (fun c => decode c 190) zeq134).trans (by decide +kernel)
theorem d134_193 : decode (zB 134) 193 = .ok (.goto 175, 3) := (congrArg (fun c => decode c 193) zeq134).trans (by decide +kernel)
theorem d134_196 : decode (zB 134) 196 = .ok (.iload_n 1, 1) := (congrArg (fun c => decode c 196) zeq134).trans (by decide +kernel)
theorem d134_197 : decode (zB 134) 197 = .ok (.bipush 48, 2) := (congrArg (fun c => decode c 197) zeq134).trans (by decide +kernel)
theorem d134_199 : decode (zB 134) 199 = .ok (.bipush 57, 2) := (congrArg (fun c => decode c 199) zeq134).trans (by decide +kernel)
theorem d134_201 : decode (zB 134) 201 = .ok (.invokestatic 112, 3) := (congrArg (fun c => decode c 201) zeq134).trans (by decide +kernel)
theorem d134_204 : decode (zB 134) 204 = .ok (.ifCond .eq 105, 3) := (congrArg (fun c => decode c 204) zeq134).trans (by decide +kernel)
theorem d134_207 : decode (zB 134) 207 = .ok (.aload_n 0, 1) := (congrArg (fun c => decode c 207) zeq134).trans (by decide +kernel)
theorem d134_208 : decode (zB 134) 208 = .ok (.iconst 3, 1) := (congrArg (fun c => decode c 208) zeq134).trans (by decide +kernel)
theorem d134_209 : decode (zB 134) 209 = .ok (.putfield 166, 3) := (congrArg (fun c => decode c 209) zeq134).trans (by decide +kernel)
theorem d134_212 : decode (zB 134) 212 = .ok (.aload_n 0, 1) := (congrArg (fun c => decode c 212) zeq134).trans (by decide +kernel)
theorem d134_213 : decode (zB 134) 213 = .ok (.iconst 0, 1) := (congrArg (fun c => decode c 213) zeq134).trans (by decide +kernel)
theorem d134_214 : decode (zB 134) 214 = .ok (.putfield 172, 3) := (congrArg (fun c => decode c 214) zeq134).trans (by decide +kernel)
theorem d134_217 : decode (zB 134) 217 = .ok (.aload_n 0, 1) := (congrArg (fun c => decode c 217) zeq134).trans (by decide +kernel)
theorem d134_218 : decode (zB 134) 218 = .ok (.aload_n 0, 1) := (congrArg (fun c => decode c 218) zeq134).trans (by decide +kernel)
theorem d134_219 : decode (zB 134) 219 = .ok (.getfield 132, 3) := (congrArg (fun c => decode c 219) zeq134).trans (by decide +kernel)
theorem d134_222 : decode (zB 134) 222 = .ok (.invokevirtual 142, 3) := (congrArg (fun c => decode c 222) zeq134).trans (by decide +kernel)
theorem d134_225 : decode (zB 134) 225 = .ok (.bipush 48, 2) := (congrArg (fun c => decode c 225) zeq134).trans (by decide +kernel)
theorem d134_227 : decode (zB 134) 227 = .ok (.bipush 57, 2) := (congrArg (fun c => decode c 227) zeq134).trans (by decide +kernel)
theorem d134_229 : decode (zB 134) 229 = .ok (.invokestatic 112, 3) := (congrArg (fun c => decode c 229) zeq134).trans (by decide +kernel)
theorem d134_232 : decode (zB 134) 232 = .ok (.ifCond .eq 52, 3) := (congrArg (fun c => decode c 232) zeq134).trans (by decide +kernel)
theorem d134_235 : decode (zB 134) 235 = .ok (.aload_n 0, 1) := (congrArg (fun c => decode c 235) zeq134).trans (by decide +kernel)
theorem d134_236 : decode (zB 134) 236 = .ok (.getfield 132, 3) := (congrArg (fun c => decode c 236) zeq134).trans (by decide +kernel)
theorem d134_239 : decode (zB 134) 239 = .ok (.aload_n 0, 1) := (congrArg (fun c => decode c 239) zeq134).trans (by decide +kernel)
theorem d134_240 : decode (zB 134) 240 = .ok (.getfield 135, 3) := (congrArg (fun c => decode c 240) zeq134).trans (by decide +kernel)
theorem d134_243 : decode (zB 134) 243 = .ok (.isub, 1) := (congrArg (fun c => decode c 243) zeq134).trans (by decide +kernel)
theorem d134_244 : decode (zB 134) 244 = .ok (.iconst 3, 1) := (congrArg (fun c => decode c 244) zeq134).trans (by decide +kernel)
theorem d134_245 : decode (zB 134) 245 = .ok (.if_icmp .ge 26, 3) := (congrArg (fun c => decode c 245) zeq134).trans (by decide +kernel)
theorem d134_248 : decode (zB 134) 248 = .ok (.aload_n 0, 1) := (congrArg (fun c => decode c 248) zeq134).trans (by decide +kernel)
theorem d134_249 : decode (zB 134) 249 = .ok (.bipush 10, 2) := (congrArg (fun c => decode c 249) zeq134).trans (by decide +kernel)
theorem d134_251 : decode (zB 134) 251 = .ok (.aload_n 0, 1) := (congrArg (fun c => decode c 251) zeq134).trans (by decide +kernel)
theorem d134_252 : decode (zB 134) 252 = .ok (.getfield 172, 3) := (congrArg (fun c => decode c 252) zeq134).trans (by decide +kernel)
theorem d134_255 : decode (zB 134) 255 = .ok (.imul, 1) := (congrArg (fun c => decode c 255) zeq134).trans (by decide +kernel)
theorem d134_256 : decode (zB 134) 256 = .ok (.aload_n 0, 1) := (congrArg (fun c => decode c 256) zeq134).trans (by decide +kernel)
theorem d134_257 : decode (zB 134) 257 = .ok (.aload_n 0, 1) := (congrArg (fun c => decode c 257) zeq134).trans (by decide +kernel)
theorem d134_258 : decode (zB 134) 258 = .ok (.getfield 132, 3) := (congrArg (fun c => decode c 258) zeq134).trans (by decide +kernel)
theorem d134_261 : decode (zB 134) 261 = .ok (.invokevirtual 142, 3) := (congrArg (fun c => decode c 261) zeq134).trans (by decide +kernel)
theorem d134_264 : decode (zB 134) 264 = .ok (.iadd, 1) := (congrArg (fun c => decode c 264) zeq134).trans (by decide +kernel)
theorem d134_265 : decode (zB 134) 265 = .ok (.bipush 48, 2) := (congrArg (fun c => decode c 265) zeq134).trans (by decide +kernel)
theorem d134_267 : decode (zB 134) 267 = .ok (.isub, 1) := (congrArg (fun c => decode c 267) zeq134).trans (by decide +kernel)
theorem d134_268 : decode (zB 134) 268 = .ok (.putfield 172, 3) := (congrArg (fun c => decode c 268) zeq134).trans (by decide +kernel)
theorem d134_271 : decode (zB 134) 271 = .ok (.aload_n 0, 1) := (congrArg (fun c => decode c 271) zeq134).trans (by decide +kernel)
theorem d134_272 : decode (zB 134) 272 = .ok (.dup, 1) := (congrArg (fun c => decode c 272) zeq134).trans (by decide +kernel)
theorem d134_273 : decode (zB 134) 273 = .ok (.getfield 132, 3) := (congrArg (fun c => decode c 273) zeq134).trans (by decide +kernel)
theorem d134_276 : decode (zB 134) 276 = .ok (.iconst 1, 1) := (congrArg (fun c => decode c 276) zeq134).trans (by decide +kernel)
theorem d134_277 : decode (zB 134) 277 = .ok (.iadd, 1) := (congrArg (fun c => decode c 277) zeq134).trans (by decide +kernel)
theorem d134_278 : decode (zB 134) 278 = .ok (.putfield 132, 3) := (congrArg (fun c => decode c 278) zeq134).trans (by decide +kernel)
theorem d134_281 : decode (zB 134) 281 = .ok (.goto (-64), 3) := (congrArg (fun c => decode c 281) zeq134).trans (by decide +kernel)
theorem d134_284 : decode (zB 134) 284 = .ok (.aload_n 0, 1) := (congrArg (fun c => decode c 284) zeq134).trans (by decide +kernel)
theorem d134_285 : decode (zB 134) 285 = .ok (.aload_n 0, 1) := (congrArg (fun c => decode c 285) zeq134).trans (by decide +kernel)
theorem d134_286 : decode (zB 134) 286 = .ok (.getfield 132, 3) := (congrArg (fun c => decode c 286) zeq134).trans (by decide +kernel)
theorem d134_289 : decode (zB 134) 289 = .ok (.aload_n 0, 1) := (congrArg (fun c => decode c 289) zeq134).trans (by decide +kernel)
theorem d134_290 : decode (zB 134) 290 = .ok (.getfield 135, 3) := (congrArg (fun c => decode c 290) zeq134).trans (by decide +kernel)
theorem d134_293 : decode (zB 134) 293 = .ok (.isub, 1) := (congrArg (fun c => decode c 293) zeq134).trans (by decide +kernel)
theorem d134_294 : decode (zB 134) 294 = .ok (.iconst 3, 1) := (congrArg (fun c => decode c 294) zeq134).trans (by decide +kernel)
theorem d134_295 : decode (zB 134) 295 = .ok (.if_icmp .le 7, 3) := (congrArg (fun c => decode c 295) zeq134).trans (by decide +kernel)
theorem d134_298 : decode (zB 134) 298 = .ok (.iconst 1, 1) := (congrArg (fun c => decode c 298) zeq134).trans (by decide +kernel)
theorem d134_299 : decode (zB 134) 299 = .ok (.goto 4, 3) := (congrArg (fun c => decode c 299) zeq134).trans (by decide +kernel)
theorem d134_302 : decode (zB 134) 302 = .ok (.iconst 0, 1) := (congrArg (fun c => decode c 302) zeq134).trans (by decide +kernel)
theorem d134_303 : decode (zB 134) 303 = .ok (.putfield 162, 3) := (congrArg (fun c => decode c 303) zeq134).trans (by decide +kernel)
theorem d134_306 : decode (zB 134) 306 = .ok (.goto 62, 3) := (congrArg (fun c => decode c 306) zeq134).trans (by decide +kernel)
theorem d134_309 : decode (zB 134) 309 = .ok (.aload_n 0, 1) := (congrArg (fun c => decode c 309) zeq134).trans (by decide +kernel)
theorem d134_310 : decode (zB 134) 310 = .ok (.iconst 4, 1) := (congrArg (fun c => decode c 310) zeq134).trans (by decide +kernel)
theorem d134_311 : decode (zB 134) 311 = .ok (.putfield 166, 3) := (congrArg (fun c => decode c 311) zeq134).trans (by decide +kernel)
theorem d134_314 : decode (zB 134) 314 = .ok (.aload_n 0, 1) := (congrArg (fun c => decode c 314) zeq134).trans (by decide +kernel)
theorem d134_315 : decode (zB 134) 315 = .ok (.iload_n 1, 1) := (congrArg (fun c => decode c 315) zeq134).trans (by decide +kernel)
theorem d134_316 : decode (zB 134) 316 = .ok (.putfield 172, 3) := (congrArg (fun c => decode c 316) zeq134).trans (by decide +kernel)
theorem d134_319 : decode (zB 134) 319 = .ok (.aload_n 0, 1) := (congrArg (fun c => decode c 319) zeq134).trans (by decide +kernel)
theorem d134_320 : decode (zB 134) 320 = .ok (.dup, 1) := (congrArg (fun c => decode c 320) zeq134).trans (by decide +kernel)
theorem d134_321 : decode (zB 134) 321 = .ok (.getfield 132, 3) := (congrArg (fun c => decode c 321) zeq134).trans (by decide +kernel)
theorem d134_324 : decode (zB 134) 324 = .ok (.iconst 1, 1) := (congrArg (fun c => decode c 324) zeq134).trans (by decide +kernel)
theorem d134_325 : decode (zB 134) 325 = .ok (.iadd, 1) := (congrArg (fun c => decode c 325) zeq134).trans (by decide +kernel)
theorem d134_326 : decode (zB 134) 326 = .ok (.putfield 132, 3) := (congrArg (fun c => decode c 326) zeq134).trans (by decide +kernel)
theorem d134_329 : decode (zB 134) 329 = .ok (.aload_n 0, 1) := (congrArg (fun c => decode c 329) zeq134).trans (by decide +kernel)
theorem d134_330 : decode (zB 134) 330 = .ok (.iload_n 1, 1) := (congrArg (fun c => decode c 330) zeq134).trans (by decide +kernel)
theorem d134_331 : decode (zB 134) 331 = .ok (.bipush 59, 2) := (congrArg (fun c => decode c 331) zeq134).trans (by decide +kernel)
theorem d134_333 : decode (zB 134) 333 = .ok (.if_icmp .eq 31, 3) := (congrArg (fun c => decode c 333) zeq134).trans (by decide +kernel)
theorem d134_336 : decode (zB 134) 336 = .ok (.iload_n 1, 1) := (congrArg (fun c => decode c 336) zeq134).trans (by decide +kernel)
theorem d134_337 : decode (zB 134) 337 = .ok (.bipush 123, 2) := (congrArg (fun c => decode c 337) zeq134).trans (by decide +kernel)
theorem d134_339 : decode (zB 134) 339 = .ok (.if_icmp .eq 25, 3) := (congrArg (fun c => decode c 339) zeq134).trans (by decide +kernel)
theorem d134_342 : decode (zB 134) 342 = .ok (.iload_n 1, 1) := (congrArg (fun c => decode c 342) zeq134).trans (by decide +kernel)
theorem d134_343 : decode (zB 134) 343 = .ok (.bipush 124, 2) := (congrArg (fun c => decode c 343) zeq134).trans (by decide +kernel)
theorem d134_345 : decode (zB 134) 345 = .ok (.if_icmp .eq 19, 3) := (congrArg (fun c => decode c 345) zeq134).trans (by decide +kernel)
theorem d134_348 : decode (zB 134) 348 = .ok (.iload_n 1, 1) := (congrArg (fun c => decode c 348) zeq134).trans (by decide +kernel)
theorem d134_349 : decode (zB 134) 349 = .ok (.bipush 125, 2) := (congrArg (fun c => decode c 349) zeq134).trans (by decide +kernel)
theorem d134_351 : decode (zB 134) 351 = .ok (.if_icmp .eq 13, 3) := (congrArg (fun c => decode c 351) zeq134).trans (by decide +kernel)
theorem d134_354 : decode (zB 134) 354 = .ok (.iload_n 1, 1) := (congrArg (fun c => decode c 354) zeq134).trans (by decide +kernel)
theorem d134_355 : decode (zB 134) 355 = .ok (.bipush 33, 2) := (congrArg (fun c => decode c 355) zeq134).trans (by decide +kernel)
theorem d134_357 : decode (zB 134) 357 = .ok (.if_icmp .eq 7, 3) := (congrArg (fun c => decode c 357) zeq134).trans (by decide +kernel)
theorem d134_360 : decode (zB 134) 360 = .ok (.iconst 1, 1) := (congrArg (fun c => decode c 360) zeq134).trans (by decide +kernel)
theorem d134_361 : decode (zB 134) 361 = .ok (.goto 4, 3) := (congrArg (fun c => decode c 361) zeq134).trans (by decide +kernel)
theorem d134_364 : decode (zB 134) 364 = .ok (.iconst 0, 1) := (congrArg (fun c => decode c 364) zeq134).trans (by decide +kernel)
theorem d134_365 : decode (zB 134) 365 = .ok (.putfield 162, 3) := (congrArg (fun c => decode c 365) zeq134).trans (by decide +kernel)
theorem d134_368 : decode (zB 134) 368 = .ok (.return_, 1) := (congrArg (fun c => decode c 368) zeq134).trans (by decide +kernel)
theorem l134a {d : Nat} {Q : Option Value → zM → Prop} {n : Nat} {b : Nat → Nat} {M0 : zM} (hX : SX M0) (ht : TXp M0 n b) : ∀ (r p : Nat) (M1 : zM), n ≤ p + r → zi M1 136 31 = nI p → Fi FQ M0 M1 → (∀ M', zi M' 136 31 = nI (lsk n b r p) → Fi FQ M0 M' → qW (zEv (d + 9)) 134 Q 47 [(0, .ref 136)] [] M') → p ≤ n → qW (zEv (d + 9)) 134 Q 8 [(0, .ref 136)] [] M1 := by
  intro r
  induction r with
  | zero =>
    intro p M1 h1 hp hF k hpn
    have h120 := ht.1
    have hpn2 : ¬ p < n := by omega
    refine q_aload_n d134_8 rfl ?_
    refine q_aload_n d134_9 rfl ?_
    refine q_getv (c := 8) (f := 31) d134_10 ⟨rfl, by decide⟩ (xk_136 (SX_fi hX hF)) hp ?_
    refine q_v1 d134_13 rfl rfl (xk_136 (SX_fi hX hF)) (Nat.le_of_ble_eq_true rfl) (c135f (SX_fi hX hF) (TXp_fi ht hF FQ_t) (by omega) (by omega) ?_)
    refine q_bipush (x := nI 32) d134_16 rfl ?_
    refine ic_eq 34 d134_18 (by decide) (fun h18 => (False.elim (absurd h18 (by decide)))) (fun h18 => ?_)
    refine q_aload_n d134_21 rfl ?_
    refine q_aload_n d134_22 rfl ?_
    refine q_getv (c := 8) (f := 31) d134_23 ⟨rfl, by decide⟩ (xk_136 (SX_fi hX hF)) hp ?_
    refine q_v1 d134_26 rfl rfl (xk_136 (SX_fi hX hF)) (Nat.le_of_ble_eq_true rfl) (c135f (SX_fi hX hF) (TXp_fi ht hF FQ_t) (by omega) (by omega) ?_)
    refine q_bipush (x := nI 10) d134_29 rfl ?_
    refine ic_ne 47 d134_31 (by decide) (fun h31 => ?_) (fun h31 => (False.elim (absurd h31 (by decide))))
    exact k _ hp hF
  | succ r ih =>
    intro p M1 h1 hp hF k hpn
    have h120 := ht.1
    by_cases hpn2 : p < n
    · have hbb := (ht.2.2 p hpn2).2
      refine q_aload_n d134_8 rfl ?_
      refine q_aload_n d134_9 rfl ?_
      refine q_getv (c := 8) (f := 31) d134_10 ⟨rfl, by decide⟩ (xk_136 (SX_fi hX hF)) hp ?_
      refine q_v1 d134_13 rfl rfl (xk_136 (SX_fi hX hF)) (Nat.le_of_ble_eq_true rfl) (c135t (SX_fi hX hF) (TXp_fi ht hF FQ_t) hpn2 ?_)
      refine q_bipush (x := nI 32) d134_16 rfl ?_
      refine nc_eq 34 d134_18 (by decide) (by omega) (by omega) (fun h18 => ?_) (fun h18 => ?_)
      · refine q_aload_n d134_34 rfl ?_
        refine q_dup d134_35 rfl ?_
        refine q_getv (c := 8) (f := 31) d134_36 ⟨rfl, by decide⟩ (xk_136 (SX_fi hX hF)) hp ?_
        refine q_iconstN (z := 1) d134_39 ?_
        refine n_iadd d134_40 ?_
        refine q_puti (c := 8) (f := 31) d134_41 ⟨rfl, rfl, by decide⟩ (xk_136 (SX_fi hX hF)) ?_
        refine q_goto 8 d134_44 (by decide) ?_
        exact ih (p + 1) _ (by omega) (wi_s _ _ _ _) (hF.wi ⟨rfl, rfl⟩) (by rw [lsk, if_pos ⟨hpn2, by omega⟩] at k; exact k) (by omega)
      · refine q_aload_n d134_21 rfl ?_
        refine q_aload_n d134_22 rfl ?_
        refine q_getv (c := 8) (f := 31) d134_23 ⟨rfl, by decide⟩ (xk_136 (SX_fi hX hF)) hp ?_
        refine q_v1 d134_26 rfl rfl (xk_136 (SX_fi hX hF)) (Nat.le_of_ble_eq_true rfl) (c135t (SX_fi hX hF) (TXp_fi ht hF FQ_t) hpn2 ?_)
        refine q_bipush (x := nI 10) d134_29 rfl ?_
        refine nc_ne 47 d134_31 (by decide) (by omega) (by omega) (fun h31 => ?_) (fun h31 => ?_)
        · rw [lsk, if_neg (fun q => by omega)] at k
          exact k _ hp hF
        · refine q_aload_n d134_34 rfl ?_
          refine q_dup d134_35 rfl ?_
          refine q_getv (c := 8) (f := 31) d134_36 ⟨rfl, by decide⟩ (xk_136 (SX_fi hX hF)) hp ?_
          refine q_iconstN (z := 1) d134_39 ?_
          refine n_iadd d134_40 ?_
          refine q_puti (c := 8) (f := 31) d134_41 ⟨rfl, rfl, by decide⟩ (xk_136 (SX_fi hX hF)) ?_
          refine q_goto 8 d134_44 (by decide) ?_
          exact ih (p + 1) _ (by omega) (wi_s _ _ _ _) (hF.wi ⟨rfl, rfl⟩) (by rw [lsk, if_pos ⟨hpn2, by omega⟩] at k; exact k) (by omega)
    · skip
      refine q_aload_n d134_8 rfl ?_
      refine q_aload_n d134_9 rfl ?_
      refine q_getv (c := 8) (f := 31) d134_10 ⟨rfl, by decide⟩ (xk_136 (SX_fi hX hF)) hp ?_
      refine q_v1 d134_13 rfl rfl (xk_136 (SX_fi hX hF)) (Nat.le_of_ble_eq_true rfl) (c135f (SX_fi hX hF) (TXp_fi ht hF FQ_t) (by omega) (by omega) ?_)
      refine q_bipush (x := nI 32) d134_16 rfl ?_
      refine ic_eq 34 d134_18 (by decide) (fun h18 => (False.elim (absurd h18 (by decide)))) (fun h18 => ?_)
      refine q_aload_n d134_21 rfl ?_
      refine q_aload_n d134_22 rfl ?_
      refine q_getv (c := 8) (f := 31) d134_23 ⟨rfl, by decide⟩ (xk_136 (SX_fi hX hF)) hp ?_
      refine q_v1 d134_26 rfl rfl (xk_136 (SX_fi hX hF)) (Nat.le_of_ble_eq_true rfl) (c135f (SX_fi hX hF) (TXp_fi ht hF FQ_t) (by omega) (by omega) ?_)
      refine q_bipush (x := nI 10) d134_29 rfl ?_
      refine ic_ne 47 d134_31 (by decide) (fun h31 => ?_) (fun h31 => (False.elim (absurd h31 (by decide))))
      rw [lsk, if_neg (fun q => by omega)] at k
      exact k _ hp hF
theorem c131b {d x a b : Nat} {M : zM} {Q : Option Value → zM → Prop} (ha : a < 2147483648) (hx : x < 2147483648) (hb : b < 2147483648) (k : Q (some (.int (bI (decide (a ≤ x ∧ x ≤ b))))) M) : qC (d + 1) 131 [.int (nI x), .int (nI a), .int (nI b)] M Q := by
  by_cases h : a ≤ x ∧ x ≤ b
  · rw [decide_eq_true h] at k; exact c131t h hb k
  · rw [decide_eq_false h] at k; exact c131n h ha hx hb k
theorem l134b {d : Nat} {Q : Option Value → zM → Prop} {n : Nat} {b : Nat → Nat} {v1 : Int32} {M0 : zM} (hX : SX M0) (ht : TXp M0 n b) : ∀ (r p : Nat) (M1 : zM), n ≤ p + r → zi M1 136 31 = nI p → Fi FQ M0 M1 → (∀ M', zi M' 136 31 = nI (lrn n b 97 122 r p) → Fi FQ M0 M' → qW (zEv (d + 9)) 134 Q 119 [(1, .int v1), (0, .ref 136)] [] M') → p ≤ n → qW (zEv (d + 9)) 134 Q 88 [(1, .int v1), (0, .ref 136)] [] M1 := by
  intro r
  induction r with
  | zero =>
    intro p M1 h1 hp hF k hpn
    have h120 := ht.1
    have hpn2 : ¬ p < n := by omega
    refine q_aload_n d134_88 rfl ?_
    refine q_aload_n d134_89 rfl ?_
    refine q_getv (c := 8) (f := 31) d134_90 ⟨rfl, by decide⟩ (xk_136 (SX_fi hX hF)) hp ?_
    refine q_v1 d134_93 rfl rfl (xk_136 (SX_fi hX hF)) (Nat.le_of_ble_eq_true rfl) (c135f (SX_fi hX hF) (TXp_fi ht hF FQ_t) (by omega) (by omega) ?_)
    refine q_bipush (x := nI 97) d134_96 rfl ?_
    refine q_bipush (x := nI 122) d134_98 rfl ?_
    refine q_s3 d134_100 (Or.inl rfl) rfl (Nat.le_of_ble_eq_true rfl) (c131f (by decide) (by decide) (by decide) ?_)
    refine n0_eq 119 d134_103 (by decide) (by decide) (fun _ => ?_) (fun q => absurd q (by decide))
    exact k _ hp hF
  | succ r ih =>
    intro p M1 h1 hp hF k hpn
    have h120 := ht.1
    by_cases hpn2 : p < n
    · have hbb := (ht.2.2 p hpn2).2
      refine q_aload_n d134_88 rfl ?_
      refine q_aload_n d134_89 rfl ?_
      refine q_getv (c := 8) (f := 31) d134_90 ⟨rfl, by decide⟩ (xk_136 (SX_fi hX hF)) hp ?_
      refine q_v1 d134_93 rfl rfl (xk_136 (SX_fi hX hF)) (Nat.le_of_ble_eq_true rfl) (c135t (SX_fi hX hF) (TXp_fi ht hF FQ_t) hpn2 ?_)
      refine q_bipush (x := nI 97) d134_96 rfl ?_
      refine q_bipush (x := nI 122) d134_98 rfl ?_
      refine q_s3 d134_100 (Or.inl rfl) rfl (Nat.le_of_ble_eq_true rfl) (c131b (by omega) (by omega) (by omega) ?_)
      refine b0_eq 119 d134_103 (by decide) (fun h103 => ?_) (fun h103 => ?_)
      · rw [lrn, if_neg (fun q => by first | exact absurd ⟨q.2.1, q.2.2⟩ (of_decide_eq_false h103) | omega)] at k
        exact k _ hp hF
      · refine q_aload_n d134_106 rfl ?_
        refine q_dup d134_107 rfl ?_
        refine q_getv (c := 8) (f := 31) d134_108 ⟨rfl, by decide⟩ (xk_136 (SX_fi hX hF)) hp ?_
        refine q_iconstN (z := 1) d134_111 ?_
        refine n_iadd d134_112 ?_
        refine q_puti (c := 8) (f := 31) d134_113 ⟨rfl, rfl, by decide⟩ (xk_136 (SX_fi hX hF)) ?_
        refine q_goto 88 d134_116 (by decide) ?_
        exact ih (p + 1) _ (by omega) (wi_s _ _ _ _) (hF.wi ⟨rfl, rfl⟩) (by rw [lrn, if_pos ⟨hpn2, of_decide_eq_true h103⟩] at k; exact k) (by omega)
    · skip
      refine q_aload_n d134_88 rfl ?_
      refine q_aload_n d134_89 rfl ?_
      refine q_getv (c := 8) (f := 31) d134_90 ⟨rfl, by decide⟩ (xk_136 (SX_fi hX hF)) hp ?_
      refine q_v1 d134_93 rfl rfl (xk_136 (SX_fi hX hF)) (Nat.le_of_ble_eq_true rfl) (c135f (SX_fi hX hF) (TXp_fi ht hF FQ_t) (by omega) (by omega) ?_)
      refine q_bipush (x := nI 97) d134_96 rfl ?_
      refine q_bipush (x := nI 122) d134_98 rfl ?_
      refine q_s3 d134_100 (Or.inl rfl) rfl (Nat.le_of_ble_eq_true rfl) (c131f (by decide) (by decide) (by decide) ?_)
      refine n0_eq 119 d134_103 (by decide) (by decide) (fun _ => ?_) (fun q => absurd q (by decide))
      rw [lrn, if_neg (fun q => by first | exact absurd ⟨q.2.1, q.2.2⟩ (of_decide_eq_false h103) | omega)] at k
      exact k _ hp hF
theorem ynd_s {b : Nat → Nat} {q p : Nat} (h : q ≤ p) (h3 : p - q < 3) : ynd b q (min (p + 1 - q) 3) = 10 * ynd b q (min (p - q) 3) + b p - 48 := by
  rw [show min (p + 1 - q) 3 = (p - q) + 1 by omega, show min (p - q) 3 = p - q by omega, ynd, show q + (p - q) = p by omega, Nat.mul_comm]
theorem ynd_m {b : Nat → Nat} {q p : Nat} (h : q ≤ p) (h3 : ¬ p - q < 3) : ynd b q (min (p + 1 - q) 3) = ynd b q (min (p - q) 3) := by
  rw [show min (p + 1 - q) 3 = 3 by omega, show min (p - q) 3 = 3 by omega]
def FVv : Nat → Nat → Prop := fun a k => a = 136 ∧ (k = 31 ∨ k = 34)
theorem FVv_t : ¬ FVv 136 30 ∧ ∀ k, ¬ FVv 208 k := ⟨by unfold FVv; omega, fun k => by unfold FVv; omega⟩
theorem FVv_N {a k : Nat} (h : FVv a k) : FN a k := by unfold FVv at h; unfold FN; omega
theorem l134c {d : Nat} {Q : Option Value → zM → Prop} {n : Nat} {b : Nat → Nat} {M0 : zM} {v1 : Int32} {q : Nat} (hX : SX M0) (ht : TXp M0 n b) (hb : zi M0 136 32 = nI q) : ∀ (r p : Nat) (M1 : zM), n ≤ p + r → q ≤ p → zi M1 136 31 = nI p → zi M1 136 34 = nI (ynd b q (min (p - q) 3)) → Fi FVv M0 M1 → (∀ M', zi M' 136 31 = nI (lrn n b 48 57 r p) → zi M' 136 34 = nI (ynd b q (min (lrn n b 48 57 r p - q) 3)) → Fi FVv M0 M' → qW (zEv (d + 9)) 134 Q 284 [(1, .int v1), (0, .ref 136)] [] M') → p ≤ n → qW (zEv (d + 9)) 134 Q 217 [(1, .int v1), (0, .ref 136)] [] M1 := by
  intro r
  induction r with
  | zero =>
    intro p M1 h1 hqp hp hv hF k hpn
    have h120 := ht.1
    have hX1 := SX_fi hX hF
    have ht1 := TXp_fi ht hF FVv_t
    have hpn2 : ¬ p < n := by omega
    refine q_aload_n d134_217 rfl ?_
    refine q_aload_n d134_218 rfl ?_
    refine q_getv (c := 8) (f := 31) d134_219 ⟨rfl, by decide⟩ (xk_136 hX1) hp ?_
    refine q_v1 d134_222 rfl rfl (xk_136 hX1) (Nat.le_of_ble_eq_true rfl) (c135f hX1 ht1 (by omega) (by omega) ?_)
    refine q_bipush (x := nI 48) d134_225 rfl ?_
    refine q_bipush (x := nI 57) d134_227 rfl ?_
    refine q_s3 d134_229 (Or.inl rfl) rfl (Nat.le_of_ble_eq_true rfl) (c131f (by decide) (by decide) (by decide) ?_)
    refine n0_eq 284 d134_232 (by decide) (by decide) (fun _ => ?_) (fun q => absurd q (by decide))
    exact k _ hp hv hF
  | succ r ih =>
    intro p M1 h1 hqp hp hv hF k hpn
    have h120 := ht.1
    have hX1 := SX_fi hX hF
    have ht1 := TXp_fi ht hF FVv_t
    by_cases hpn2 : p < n
    · have hbb := (ht.2.2 p hpn2).2
      by_cases hd9 : 48 ≤ b p ∧ b p ≤ 57
      · by_cases h3 : p - q < 3
        · skip
          refine q_aload_n d134_217 rfl ?_
          refine q_aload_n d134_218 rfl ?_
          refine q_getv (c := 8) (f := 31) d134_219 ⟨rfl, by decide⟩ (xk_136 hX1) hp ?_
          refine q_v1 d134_222 rfl rfl (xk_136 hX1) (Nat.le_of_ble_eq_true rfl) (c135t hX1 ht1 hpn2 ?_)
          refine q_bipush (x := nI 48) d134_225 rfl ?_
          refine q_bipush (x := nI 57) d134_227 rfl ?_
          refine q_s3 d134_229 (Or.inl rfl) rfl (Nat.le_of_ble_eq_true rfl) (c131t hd9 (by omega) ?_)
          refine n0_eq 284 d134_232 (by decide) (by decide) (fun q => absurd q (by decide)) (fun _ => ?_)
          refine q_aload_n d134_235 rfl ?_
          refine q_getv (c := 8) (f := 31) d134_236 ⟨rfl, by decide⟩ (xk_136 hX1) hp ?_
          refine q_aload_n d134_239 rfl ?_
          refine q_getv (c := 8) (f := 32) d134_240 ⟨rfl, by decide⟩ (xk_136 hX1) ((hF.1 _ _ (by unfold FVv; omega)).trans hb) ?_
          refine n_isub d134_243 (by omega) ?_
          refine q_iconstN (z := 3) d134_244 ?_
          refine nc_ge 271 d134_245 (by decide) (by omega) (by omega) (fun h245 => (False.elim (by omega))) (fun h245 => ?_)
          refine q_aload_n d134_248 rfl ?_
          refine q_bipush (x := nI 10) d134_249 rfl ?_
          refine q_aload_n d134_251 rfl ?_
          refine q_getv (c := 8) (f := 34) d134_252 ⟨rfl, by decide⟩ (xk_136 hX1) hv ?_
          refine n_imul d134_255 ?_
          refine q_aload_n d134_256 rfl ?_
          refine q_aload_n d134_257 rfl ?_
          refine q_getv (c := 8) (f := 31) d134_258 ⟨rfl, by decide⟩ (xk_136 hX1) hp ?_
          refine q_v1 d134_261 rfl rfl (xk_136 hX1) (Nat.le_of_ble_eq_true rfl) (c135t hX1 ht1 hpn2 ?_)
          refine n_iadd d134_264 ?_
          refine q_bipush (x := nI 48) d134_265 rfl ?_
          refine n_isub d134_267 (by omega) ?_
          refine q_puti (c := 8) (f := 34) d134_268 ⟨rfl, rfl, by decide⟩ (xk_136 hX1) ?_
          refine q_aload_n d134_271 rfl ?_
          refine q_dup d134_272 rfl ?_
          refine q_getv (c := 8) (f := 31) d134_273 ⟨rfl, by decide⟩ (xk_136 hX1) (Eq.trans (by (repeat (first | rw [wi_n (Or.inl (by omega))] | rw [wi_n (Or.inr (by omega))] | rw [wi_s] | rw [wr_i] | rw [cp_n (by omega)]))) hp) ?_
          refine q_iconstN (z := 1) d134_276 ?_
          refine n_iadd d134_277 ?_
          refine q_puti (c := 8) (f := 31) d134_278 ⟨rfl, rfl, by decide⟩ (xk_136 hX1) ?_
          refine q_goto 217 d134_281 (by decide) ?_
          exact ih (p + 1) _ (by omega) (by omega) (wi_s _ _ _ _) (by rw [ynd_s hqp (by omega)]; (repeat (first | rw [wi_n (Or.inl (by omega))] | rw [wi_n (Or.inr (by omega))] | rw [wi_s] | rw [wr_i] | rw [cp_n (by omega)] | rw [cp_0 (by omega)]))) ((hF.wi ⟨rfl, Or.inr rfl⟩).wi ⟨rfl, Or.inl rfl⟩) (by rw [lrn, if_pos ⟨hpn2, hd9⟩] at k; exact k) (by omega)
        · skip
          refine q_aload_n d134_217 rfl ?_
          refine q_aload_n d134_218 rfl ?_
          refine q_getv (c := 8) (f := 31) d134_219 ⟨rfl, by decide⟩ (xk_136 hX1) hp ?_
          refine q_v1 d134_222 rfl rfl (xk_136 hX1) (Nat.le_of_ble_eq_true rfl) (c135t hX1 ht1 hpn2 ?_)
          refine q_bipush (x := nI 48) d134_225 rfl ?_
          refine q_bipush (x := nI 57) d134_227 rfl ?_
          refine q_s3 d134_229 (Or.inl rfl) rfl (Nat.le_of_ble_eq_true rfl) (c131t hd9 (by omega) ?_)
          refine n0_eq 284 d134_232 (by decide) (by decide) (fun q => absurd q (by decide)) (fun _ => ?_)
          refine q_aload_n d134_235 rfl ?_
          refine q_getv (c := 8) (f := 31) d134_236 ⟨rfl, by decide⟩ (xk_136 hX1) hp ?_
          refine q_aload_n d134_239 rfl ?_
          refine q_getv (c := 8) (f := 32) d134_240 ⟨rfl, by decide⟩ (xk_136 hX1) ((hF.1 _ _ (by unfold FVv; omega)).trans hb) ?_
          refine n_isub d134_243 (by omega) ?_
          refine q_iconstN (z := 3) d134_244 ?_
          refine nc_ge 271 d134_245 (by decide) (by omega) (by omega) (fun h245 => ?_) (fun h245 => (False.elim (by omega)))
          refine q_aload_n d134_271 rfl ?_
          refine q_dup d134_272 rfl ?_
          refine q_getv (c := 8) (f := 31) d134_273 ⟨rfl, by decide⟩ (xk_136 hX1) hp ?_
          refine q_iconstN (z := 1) d134_276 ?_
          refine n_iadd d134_277 ?_
          refine q_puti (c := 8) (f := 31) d134_278 ⟨rfl, rfl, by decide⟩ (xk_136 hX1) ?_
          refine q_goto 217 d134_281 (by decide) ?_
          exact ih (p + 1) _ (by omega) (by omega) (wi_s _ _ _ _) (by rw [ynd_m hqp (by omega)]; (repeat (first | rw [wi_n (Or.inl (by omega))] | rw [wi_n (Or.inr (by omega))] | rw [wi_s] | rw [wr_i] | rw [cp_n (by omega)] | rw [cp_0 (by omega)])); exact hv) (hF.wi ⟨rfl, Or.inl rfl⟩) (by rw [lrn, if_pos ⟨hpn2, hd9⟩] at k; exact k) (by omega)
      · skip
        refine q_aload_n d134_217 rfl ?_
        refine q_aload_n d134_218 rfl ?_
        refine q_getv (c := 8) (f := 31) d134_219 ⟨rfl, by decide⟩ (xk_136 hX1) hp ?_
        refine q_v1 d134_222 rfl rfl (xk_136 hX1) (Nat.le_of_ble_eq_true rfl) (c135t hX1 ht1 hpn2 ?_)
        refine q_bipush (x := nI 48) d134_225 rfl ?_
        refine q_bipush (x := nI 57) d134_227 rfl ?_
        refine q_s3 d134_229 (Or.inl rfl) rfl (Nat.le_of_ble_eq_true rfl) (c131n hd9 (by omega) (by omega) (by omega) ?_)
        refine n0_eq 284 d134_232 (by decide) (by decide) (fun _ => ?_) (fun q => absurd q (by decide))
        rw [lrn, if_neg (fun q => by omega)] at k
        exact k _ hp hv hF
    · skip
      refine q_aload_n d134_217 rfl ?_
      refine q_aload_n d134_218 rfl ?_
      refine q_getv (c := 8) (f := 31) d134_219 ⟨rfl, by decide⟩ (xk_136 hX1) hp ?_
      refine q_v1 d134_222 rfl rfl (xk_136 hX1) (Nat.le_of_ble_eq_true rfl) (c135f hX1 ht1 (by omega) (by omega) ?_)
      refine q_bipush (x := nI 48) d134_225 rfl ?_
      refine q_bipush (x := nI 57) d134_227 rfl ?_
      refine q_s3 d134_229 (Or.inl rfl) rfl (Nat.le_of_ble_eq_true rfl) (c131f (by decide) (by decide) (by decide) ?_)
      refine n0_eq 284 d134_232 (by decide) (by decide) (fun _ => ?_) (fun q => absurd q (by decide))
      rw [lrn, if_neg (fun q => by omega)] at k
      exact k _ hp hv hF
/-! ===== the reference: the next token ===== -/
/-- the token that is read -/
def TK (M : zM) (b : Nat → Nat) (k : yK) : Prop := (∀ t v, ytx b k = some (t, v) → zi M 136 33 = nI t ∧ (t ≠ 0 → zi M 136 34 = nI v) ∧ zi M 136 38 = nI 0) ∧ (ytx b k = none → zi M 136 38 = nI 1)
theorem TK.s {M : zM} {b : Nat → Nat} {k : yK} {t v : Nat} (e : ytx b k = some (t, v)) (h1 : zi M 136 33 = nI t) (h2 : t ≠ 0 → zi M 136 34 = nI v) (h3 : zi M 136 38 = nI 0) : TK M b k := by
  refine ⟨fun t2 v2 h => ?_, fun h => ?_⟩
  · rw [e] at h
    cases h
    exact ⟨h1, h2, h3⟩
  · rw [e] at h; cases h
theorem TK.n {M : zM} {b : Nat → Nat} {k : yK} (e : ytx b k = none) (h3 : zi M 136 38 = nI 1) : TK M b k := by
  refine ⟨fun t2 v2 h => ?_, fun h => h3⟩
  rw [e] at h; cases h
theorem ytx_s {b : Nat → Nat} {c q e : Nat} (h : c = 59 ∨ c = 123 ∨ c = 124 ∨ c = 125 ∨ c = 33) : ytx b (c, q, e) = some (4, c) := by
  rcases h with rfl | rfl | rfl | rfl | rfl <;> rfl
theorem ytx_1 {b : Nat → Nat} {q e : Nat} (h : e - q = 1 ∧ b q ≤ 102) : ytx b (1, q, e) = some (2, b q - 97) := if_pos h
theorem ytx_2 {b : Nat → Nat} {q e : Nat} (h : ¬ (e - q = 1 ∧ b q ≤ 102)) (h6 : ykw b q e < 6) : ytx b (1, q, e) = some (1, ykw b q e) := (if_neg h).trans (if_pos h6)
theorem ytx_3 {b : Nat → Nat} {q e : Nat} (h : ¬ (e - q = 1 ∧ b q ≤ 102)) (h6 : ¬ ykw b q e < 6) : ytx b (1, q, e) = none := (if_neg h).trans (if_neg h6)
theorem c134 {d : Nat} {M : zM} {Q : Option Value → zM → Prop} {n : Nat} {b : Nat → Nat} {p : Nat} (hX : SX M) (ht : TXp M n b) (hp : zi M 136 31 = nI p) (hpn : p ≤ n) (h38 : zi M 136 38 = nI 0) (k : ∀ M', zi M' 136 31 = nI (ltk n b p).2.2 → zi M' 136 32 = nI (ltk n b p).2.1 → TK M' b (ltk n b p) → Fi FN M M' → Q none M') : qC (d + 10) 134 [.ref 136] M Q := by
  refine qC_of (by decide) (Nat.le_of_ble_eq_true rfl) ?_
  refine q_aload_n d134_0 rfl ?_
  refine q_getv (c := 8) (f := 38) d134_1 ⟨rfl, by decide⟩ (xk_136 hX) h38 ?_
  refine n0_eq 8 d134_4 (by decide) (by decide) (fun _ => ?_) (fun q => absurd q (by decide))
  refine l134a hX ht 120 p M (by have := ht.1; omega) hp (Fi.refl _ _) (fun M1 hp1 f1 => ?_) hpn
  have h120 := ht.1
  have hX1 := SX_fi hX f1
  have ht1 := TXp_fi ht f1 FQ_t
  have h381 : zi M1 136 38 = nI 0 := (f1.1 _ _ (by unfold FQ; omega)).trans h38
  have hq0 := lsk_ge (n := n) (b := b) 120 p
  have hq1 := hq0.2 hpn
  obtain ⟨q, hqe⟩ : ∃ q, lsk n b 120 p = q := ⟨_, rfl⟩
  rw [hqe] at hp1 hq0 hq1
  by_cases hq : n ≤ q
  · skip
    refine q_aload_n d134_47 rfl ?_
    refine q_aload_n d134_48 rfl ?_
    refine q_getv (c := 8) (f := 31) d134_49 ⟨rfl, by decide⟩ (xk_136 hX1) hp1 ?_
    refine q_puti (c := 8) (f := 32) d134_52 ⟨rfl, rfl, by decide⟩ (xk_136 hX1) ?_
    have f2 : Fi FN M (zwi M1 136 32 (nI q)) := (f1.mono (fun a k q => FQ_N q)).wi ⟨rfl, by omega⟩
    have hX2 := SX_fi hX f2
    have ht2 := TXp_fi ht f2 FN_t
    have hp2 : zi (zwi M1 136 32 (nI q)) 136 31 = nI q := (wi_n (by omega)).trans hp1
    have hb2 : zi (zwi M1 136 32 (nI q)) 136 32 = nI q := wi_s _ _ _ _
    have h382 : zi (zwi M1 136 32 (nI q)) 136 38 = nI 0 := (wi_n (by omega)).trans h381
    refine q_aload_n d134_55 rfl ?_
    refine q_aload_n d134_56 rfl ?_
    refine q_getv (c := 8) (f := 31) d134_57 ⟨rfl, by decide⟩ (xk_136 hX2) hp2 ?_
    refine q_v1 d134_60 rfl rfl (xk_136 hX2) (Nat.le_of_ble_eq_true rfl) (c135f hX2 ht2 (by omega) (by omega) ?_)
    refine q_istore_n d134_63 (by decide) rfl ?_
    refine q_iload_n d134_64 rfl ?_
    refine q_iconst (x := (-1)) d134_65 rfl ?_
    refine ic_ne 77 d134_66 (by decide) (fun h66 => (False.elim (h66 rfl))) (fun h66 => ?_)
    refine q_aload_n d134_69 rfl ?_
    refine q_iconstN (z := 0) d134_70 ?_
    refine q_puti (c := 8) (f := 33) d134_71 ⟨rfl, rfl, by decide⟩ (xk_136 hX2) ?_
    refine q_goto 368 d134_74 (by decide) ?_
    refine q_ret d134_368 rfl ?_
    rw [show ltk n b p = (0, q, q) by unfold ltk; simp only []; rw [hqe, if_pos hq]] at k
    exact k _ (by (repeat (first | rw [wi_n (Or.inl (by omega))] | rw [wi_n (Or.inr (by omega))] | rw [wi_s] | rw [wr_i] | rw [cp_n (by omega)] | rw [cp_0 (by omega)])); exact hp2) (by (repeat (first | rw [wi_n (Or.inl (by omega))] | rw [wi_n (Or.inr (by omega))] | rw [wi_s] | rw [wr_i] | rw [cp_n (by omega)] | rw [cp_0 (by omega)]))) (TK.s rfl (by (repeat (first | rw [wi_n (Or.inl (by omega))] | rw [wi_n (Or.inr (by omega))] | rw [wi_s] | rw [wr_i] | rw [cp_n (by omega)] | rw [cp_0 (by omega)]))) (fun h => absurd rfl h) (by (repeat (first | rw [wi_n (Or.inl (by omega))] | rw [wi_n (Or.inr (by omega))] | rw [wi_s] | rw [wr_i] | rw [cp_n (by omega)] | rw [cp_0 (by omega)])); exact h382)) (f2.wi ⟨rfl, by omega⟩)
  · have hbq := (ht.2.2 q (by omega)).2
    by_cases hc : 97 ≤ b q ∧ b q ≤ 122
    · skip
      refine q_aload_n d134_47 rfl ?_
      refine q_aload_n d134_48 rfl ?_
      refine q_getv (c := 8) (f := 31) d134_49 ⟨rfl, by decide⟩ (xk_136 hX1) hp1 ?_
      refine q_puti (c := 8) (f := 32) d134_52 ⟨rfl, rfl, by decide⟩ (xk_136 hX1) ?_
      have f2 : Fi FN M (zwi M1 136 32 (nI q)) := (f1.mono (fun a k q => FQ_N q)).wi ⟨rfl, by omega⟩
      have hX2 := SX_fi hX f2
      have ht2 := TXp_fi ht f2 FN_t
      have hp2 : zi (zwi M1 136 32 (nI q)) 136 31 = nI q := (wi_n (by omega)).trans hp1
      have hb2 : zi (zwi M1 136 32 (nI q)) 136 32 = nI q := wi_s _ _ _ _
      have h382 : zi (zwi M1 136 32 (nI q)) 136 38 = nI 0 := (wi_n (by omega)).trans h381
      refine q_aload_n d134_55 rfl ?_
      refine q_aload_n d134_56 rfl ?_
      refine q_getv (c := 8) (f := 31) d134_57 ⟨rfl, by decide⟩ (xk_136 hX2) hp2 ?_
      refine q_v1 d134_60 rfl rfl (xk_136 hX2) (Nat.le_of_ble_eq_true rfl) (c135t hX2 ht2 (by omega) ?_)
      refine q_istore_n d134_63 (by decide) rfl ?_
      refine q_iload_n d134_64 rfl ?_
      refine q_iconst (x := (-1)) d134_65 rfl ?_
      refine ic_ne 77 d134_66 (by decide) (fun h66 => ?_) (fun h66 => (False.elim (nI_m1 (by omega) h66)))
      refine q_iload_n d134_77 rfl ?_
      refine q_bipush (x := nI 97) d134_78 rfl ?_
      refine q_bipush (x := nI 122) d134_80 rfl ?_
      refine q_s3 d134_82 (Or.inl rfl) rfl (Nat.le_of_ble_eq_true rfl) (c131t hc (by omega) ?_)
      refine n0_eq 196 d134_85 (by decide) (by decide) (fun q => absurd q (by decide)) (fun _ => ?_)
      refine l134b hX2 ht2 120 q _ (by omega) hp2 (Fi.refl _ _) (fun M3 hp3 f3 => ?_) (by omega)
      have f4 : Fi FN M M3 := f2.trans (f3.mono (fun a k q => FQ_N q))
      have hX3 := SX_fi hX f4
      have ht3 := TXp_fi ht f4 FN_t
      have hb3 : zi M3 136 32 = nI q := (f3.1 _ _ (by unfold FQ; omega)).trans hb2
      have h383 : zi M3 136 38 = nI 0 := (f3.1 _ _ (by unfold FQ; omega)).trans h382
      have hle := lrn_ge (n := n) (b := b) (lo := 97) (hi := 122) 120 q
      have hle2 := hle.2 (by omega)
      have eL : ltk n b p = (1, q, lrn n b 97 122 120 q) := by unfold ltk; simp only []; rw [hqe, if_neg (by omega), if_pos hc]
      rw [eL] at k
      obtain ⟨e, hee⟩ : ∃ e, lrn n b 97 122 120 q = e := ⟨_, rfl⟩
      rw [hee] at hp3 hle hle2 k eL
      by_cases hone : e - q = 1 ∧ b q ≤ 102
      · skip
        refine q_aload_n d134_119 rfl ?_
        refine q_getv (c := 8) (f := 31) d134_120 ⟨rfl, by decide⟩ (xk_136 hX3) hp3 ?_
        refine q_aload_n d134_123 rfl ?_
        refine q_getv (c := 8) (f := 32) d134_124 ⟨rfl, by decide⟩ (xk_136 hX3) hb3 ?_
        refine n_isub d134_127 (by omega) ?_
        refine q_iconstN (z := 1) d134_128 ?_
        refine nc_ne 142 d134_129 (by decide) (by omega) (by omega) (fun h129 => (False.elim (h129 hone.1))) (fun h129 => ?_)
        refine q_iload_n d134_132 rfl ?_
        refine q_bipush (x := nI 102) d134_133 rfl ?_
        refine nc_gt 142 d134_135 (by decide) (by omega) (by omega) (fun h135 => (False.elim (by omega))) (fun h135 => ?_)
        refine q_iconstN (z := 1) d134_138 ?_
        refine q_goto 143 d134_139 (by decide) ?_
        refine q_istore_n d134_143 (by decide) rfl ?_
        refine q_aload_n d134_144 rfl ?_
        refine q_iload_n d134_145 rfl ?_
        refine n0_eq 153 d134_146 (by decide) (by decide) (fun q => absurd q (by decide)) (fun _ => ?_)
        refine q_iconstN (z := 2) d134_149 ?_
        refine q_goto 154 d134_150 (by decide) ?_
        refine q_puti (c := 8) (f := 33) d134_154 ⟨rfl, rfl, by decide⟩ (xk_136 hX3) ?_
        refine q_aload_n d134_157 rfl ?_
        refine q_iload_n d134_158 rfl ?_
        refine n0_eq 169 d134_159 (by decide) (by decide) (fun q => absurd q (by decide)) (fun _ => ?_)
        refine q_iload_n d134_162 rfl ?_
        refine q_bipush (x := nI 97) d134_163 rfl ?_
        refine n_isub d134_165 (by omega) ?_
        refine q_goto 173 d134_166 (by decide) ?_
        refine q_puti (c := 8) (f := 34) d134_173 ⟨rfl, rfl, by decide⟩ (xk_136 hX3) ?_
        refine q_aload_n d134_176 rfl ?_
        refine q_aload_n d134_177 rfl ?_
        refine q_getv (c := 8) (f := 34) d134_178 ⟨rfl, by decide⟩ (xk_136 hX3) (wi_s _ _ _ _) ?_
        refine q_iconst (x := (-1)) d134_181 rfl ?_
        refine ic_ne 189 d134_182 (by decide) (fun h182 => ?_) (fun h182 => (False.elim (nI_m1 (by omega) h182)))
        refine q_iconstN (z := 0) d134_189 ?_
        refine q_putz (c := 8) (f := 38) d134_190 ⟨rfl, rfl, by decide⟩ (xk_136 hX3) (Or.inl rfl) ?_
        refine q_goto 368 d134_193 (by decide) ?_
        refine q_ret d134_368 rfl ?_
        exact k _ (by (repeat (first | rw [wi_n (Or.inl (by omega))] | rw [wi_n (Or.inr (by omega))] | rw [wi_s] | rw [wr_i] | rw [cp_n (by omega)] | rw [cp_0 (by omega)])); exact hp3) (by (repeat (first | rw [wi_n (Or.inl (by omega))] | rw [wi_n (Or.inr (by omega))] | rw [wi_s] | rw [wr_i] | rw [cp_n (by omega)] | rw [cp_0 (by omega)])); exact hb3) (TK.s (ytx_1 hone) (by (repeat (first | rw [wi_n (Or.inl (by omega))] | rw [wi_n (Or.inr (by omega))] | rw [wi_s] | rw [wr_i] | rw [cp_n (by omega)] | rw [cp_0 (by omega)]))) (fun _ => by (repeat (first | rw [wi_n (Or.inl (by omega))] | rw [wi_n (Or.inr (by omega))] | rw [wi_s] | rw [wr_i] | rw [cp_n (by omega)] | rw [cp_0 (by omega)]))) (by (repeat (first | rw [wi_n (Or.inl (by omega))] | rw [wi_n (Or.inr (by omega))] | rw [wi_s] | rw [wr_i] | rw [cp_n (by omega)] | rw [cp_0 (by omega)])))) (((f4.wi ⟨rfl, by omega⟩).wi ⟨rfl, by omega⟩).wi ⟨rfl, by omega⟩)
      · by_cases h6 : ykw b q e < 6
        · skip
          refine q_aload_n d134_119 rfl ?_
          refine q_getv (c := 8) (f := 31) d134_120 ⟨rfl, by decide⟩ (xk_136 hX3) hp3 ?_
          refine q_aload_n d134_123 rfl ?_
          refine q_getv (c := 8) (f := 32) d134_124 ⟨rfl, by decide⟩ (xk_136 hX3) hb3 ?_
          refine n_isub d134_127 (by omega) ?_
          refine q_iconstN (z := 1) d134_128 ?_
          refine nc_ne 142 d134_129 (by decide) (by omega) (by omega) (fun h129 => ?_) (fun h129 => ?_)
          · refine q_iconstN (z := 0) d134_142 ?_
            refine q_istore_n d134_143 (by decide) rfl ?_
            refine q_aload_n d134_144 rfl ?_
            refine q_iload_n d134_145 rfl ?_
            refine n0_eq 153 d134_146 (by decide) (by decide) (fun _ => ?_) (fun q => absurd q (by decide))
            refine q_iconstN (z := 1) d134_153 ?_
            refine q_puti (c := 8) (f := 33) d134_154 ⟨rfl, rfl, by decide⟩ (xk_136 hX3) ?_
            refine q_aload_n d134_157 rfl ?_
            refine q_iload_n d134_158 rfl ?_
            refine n0_eq 169 d134_159 (by decide) (by decide) (fun _ => ?_) (fun q => absurd q (by decide))
            have f5 : Fi FN M3 (zwi M3 136 33 (nI 1)) := (Fi.refl _ _).wi ⟨rfl, by omega⟩
            have hX5 := SX_fi hX3 f5
            have ht5 := TXp_fi ht3 f5 FN_t
            have hp5 : zi (zwi M3 136 33 (nI 1)) 136 31 = nI e := (wi_n (by omega)).trans hp3
            have hb5 : zi (zwi M3 136 33 (nI 1)) 136 32 = nI q := (wi_n (by omega)).trans hb3
            refine q_aload_n d134_169 rfl ?_
            refine q_v0 d134_170 rfl rfl (xk_136 hX3) (Nat.le_of_ble_eq_true rfl) (c136t hX5 ht5 hp5 hb5 (by omega) (by omega) rfl h6 ?_)
            refine q_puti (c := 8) (f := 34) d134_173 ⟨rfl, rfl, by decide⟩ (xk_136 hX3) ?_
            refine q_aload_n d134_176 rfl ?_
            refine q_aload_n d134_177 rfl ?_
            refine q_getv (c := 8) (f := 34) d134_178 ⟨rfl, by decide⟩ (xk_136 hX3) (wi_s _ _ _ _) ?_
            refine q_iconst (x := (-1)) d134_181 rfl ?_
            refine ic_ne 189 d134_182 (by decide) (fun h182 => ?_) (fun h182 => (False.elim (nI_m1 (by omega) h182)))
            refine q_iconstN (z := 0) d134_189 ?_
            refine q_putz (c := 8) (f := 38) d134_190 ⟨rfl, rfl, by decide⟩ (xk_136 hX3) (Or.inl rfl) ?_
            refine q_goto 368 d134_193 (by decide) ?_
            refine q_ret d134_368 rfl ?_
            exact k _ (by (repeat (first | rw [wi_n (Or.inl (by omega))] | rw [wi_n (Or.inr (by omega))] | rw [wi_s] | rw [wr_i] | rw [cp_n (by omega)] | rw [cp_0 (by omega)])); exact hp3) (by (repeat (first | rw [wi_n (Or.inl (by omega))] | rw [wi_n (Or.inr (by omega))] | rw [wi_s] | rw [wr_i] | rw [cp_n (by omega)] | rw [cp_0 (by omega)])); exact hb3) (TK.s (ytx_2 hone h6) (by (repeat (first | rw [wi_n (Or.inl (by omega))] | rw [wi_n (Or.inr (by omega))] | rw [wi_s] | rw [wr_i] | rw [cp_n (by omega)] | rw [cp_0 (by omega)]))) (fun _ => by (repeat (first | rw [wi_n (Or.inl (by omega))] | rw [wi_n (Or.inr (by omega))] | rw [wi_s] | rw [wr_i] | rw [cp_n (by omega)] | rw [cp_0 (by omega)]))) (by (repeat (first | rw [wi_n (Or.inl (by omega))] | rw [wi_n (Or.inr (by omega))] | rw [wi_s] | rw [wr_i] | rw [cp_n (by omega)] | rw [cp_0 (by omega)])))) (((f4.wi ⟨rfl, by omega⟩).wi ⟨rfl, by omega⟩).wi ⟨rfl, by omega⟩)
          · refine q_iload_n d134_132 rfl ?_
            refine q_bipush (x := nI 102) d134_133 rfl ?_
            refine nc_gt 142 d134_135 (by decide) (by omega) (by omega) (fun h135 => ?_) (fun h135 => (False.elim (hone ⟨h129, by omega⟩)))
            refine q_iconstN (z := 0) d134_142 ?_
            refine q_istore_n d134_143 (by decide) rfl ?_
            refine q_aload_n d134_144 rfl ?_
            refine q_iload_n d134_145 rfl ?_
            refine n0_eq 153 d134_146 (by decide) (by decide) (fun _ => ?_) (fun q => absurd q (by decide))
            refine q_iconstN (z := 1) d134_153 ?_
            refine q_puti (c := 8) (f := 33) d134_154 ⟨rfl, rfl, by decide⟩ (xk_136 hX3) ?_
            refine q_aload_n d134_157 rfl ?_
            refine q_iload_n d134_158 rfl ?_
            refine n0_eq 169 d134_159 (by decide) (by decide) (fun _ => ?_) (fun q => absurd q (by decide))
            have f5 : Fi FN M3 (zwi M3 136 33 (nI 1)) := (Fi.refl _ _).wi ⟨rfl, by omega⟩
            have hX5 := SX_fi hX3 f5
            have ht5 := TXp_fi ht3 f5 FN_t
            have hp5 : zi (zwi M3 136 33 (nI 1)) 136 31 = nI e := (wi_n (by omega)).trans hp3
            have hb5 : zi (zwi M3 136 33 (nI 1)) 136 32 = nI q := (wi_n (by omega)).trans hb3
            refine q_aload_n d134_169 rfl ?_
            refine q_v0 d134_170 rfl rfl (xk_136 hX3) (Nat.le_of_ble_eq_true rfl) (c136t hX5 ht5 hp5 hb5 (by omega) (by omega) rfl h6 ?_)
            refine q_puti (c := 8) (f := 34) d134_173 ⟨rfl, rfl, by decide⟩ (xk_136 hX3) ?_
            refine q_aload_n d134_176 rfl ?_
            refine q_aload_n d134_177 rfl ?_
            refine q_getv (c := 8) (f := 34) d134_178 ⟨rfl, by decide⟩ (xk_136 hX3) (wi_s _ _ _ _) ?_
            refine q_iconst (x := (-1)) d134_181 rfl ?_
            refine ic_ne 189 d134_182 (by decide) (fun h182 => ?_) (fun h182 => (False.elim (nI_m1 (by omega) h182)))
            refine q_iconstN (z := 0) d134_189 ?_
            refine q_putz (c := 8) (f := 38) d134_190 ⟨rfl, rfl, by decide⟩ (xk_136 hX3) (Or.inl rfl) ?_
            refine q_goto 368 d134_193 (by decide) ?_
            refine q_ret d134_368 rfl ?_
            exact k _ (by (repeat (first | rw [wi_n (Or.inl (by omega))] | rw [wi_n (Or.inr (by omega))] | rw [wi_s] | rw [wr_i] | rw [cp_n (by omega)] | rw [cp_0 (by omega)])); exact hp3) (by (repeat (first | rw [wi_n (Or.inl (by omega))] | rw [wi_n (Or.inr (by omega))] | rw [wi_s] | rw [wr_i] | rw [cp_n (by omega)] | rw [cp_0 (by omega)])); exact hb3) (TK.s (ytx_2 hone h6) (by (repeat (first | rw [wi_n (Or.inl (by omega))] | rw [wi_n (Or.inr (by omega))] | rw [wi_s] | rw [wr_i] | rw [cp_n (by omega)] | rw [cp_0 (by omega)]))) (fun _ => by (repeat (first | rw [wi_n (Or.inl (by omega))] | rw [wi_n (Or.inr (by omega))] | rw [wi_s] | rw [wr_i] | rw [cp_n (by omega)] | rw [cp_0 (by omega)]))) (by (repeat (first | rw [wi_n (Or.inl (by omega))] | rw [wi_n (Or.inr (by omega))] | rw [wi_s] | rw [wr_i] | rw [cp_n (by omega)] | rw [cp_0 (by omega)])))) (((f4.wi ⟨rfl, by omega⟩).wi ⟨rfl, by omega⟩).wi ⟨rfl, by omega⟩)
        · skip
          refine q_aload_n d134_119 rfl ?_
          refine q_getv (c := 8) (f := 31) d134_120 ⟨rfl, by decide⟩ (xk_136 hX3) hp3 ?_
          refine q_aload_n d134_123 rfl ?_
          refine q_getv (c := 8) (f := 32) d134_124 ⟨rfl, by decide⟩ (xk_136 hX3) hb3 ?_
          refine n_isub d134_127 (by omega) ?_
          refine q_iconstN (z := 1) d134_128 ?_
          refine nc_ne 142 d134_129 (by decide) (by omega) (by omega) (fun h129 => ?_) (fun h129 => ?_)
          · refine q_iconstN (z := 0) d134_142 ?_
            refine q_istore_n d134_143 (by decide) rfl ?_
            refine q_aload_n d134_144 rfl ?_
            refine q_iload_n d134_145 rfl ?_
            refine n0_eq 153 d134_146 (by decide) (by decide) (fun _ => ?_) (fun q => absurd q (by decide))
            refine q_iconstN (z := 1) d134_153 ?_
            refine q_puti (c := 8) (f := 33) d134_154 ⟨rfl, rfl, by decide⟩ (xk_136 hX3) ?_
            refine q_aload_n d134_157 rfl ?_
            refine q_iload_n d134_158 rfl ?_
            refine n0_eq 169 d134_159 (by decide) (by decide) (fun _ => ?_) (fun q => absurd q (by decide))
            have f5 : Fi FN M3 (zwi M3 136 33 (nI 1)) := (Fi.refl _ _).wi ⟨rfl, by omega⟩
            have hX5 := SX_fi hX3 f5
            have ht5 := TXp_fi ht3 f5 FN_t
            have hp5 : zi (zwi M3 136 33 (nI 1)) 136 31 = nI e := (wi_n (by omega)).trans hp3
            have hb5 : zi (zwi M3 136 33 (nI 1)) 136 32 = nI q := (wi_n (by omega)).trans hb3
            refine q_aload_n d134_169 rfl ?_
            refine q_v0 d134_170 rfl rfl (xk_136 hX3) (Nat.le_of_ble_eq_true rfl) (c136n hX5 ht5 hp5 hb5 (by omega) (by omega) h6 ?_)
            refine q_puti (c := 8) (f := 34) d134_173 ⟨rfl, rfl, by decide⟩ (xk_136 hX3) ?_
            refine q_aload_n d134_176 rfl ?_
            refine q_aload_n d134_177 rfl ?_
            refine q_getv (c := 8) (f := 34) d134_178 ⟨rfl, by decide⟩ (xk_136 hX3) (wi_s _ _ _ _) ?_
            refine q_iconst (x := (-1)) d134_181 rfl ?_
            refine ic_ne 189 d134_182 (by decide) (fun h182 => (False.elim (h182 rfl))) (fun h182 => ?_)
            refine q_iconstN (z := 1) d134_185 ?_
            refine q_goto 190 d134_186 (by decide) ?_
            refine q_putz (c := 8) (f := 38) d134_190 ⟨rfl, rfl, by decide⟩ (xk_136 hX3) (Or.inr rfl) ?_
            refine q_goto 368 d134_193 (by decide) ?_
            refine q_ret d134_368 rfl ?_
            exact k _ (by (repeat (first | rw [wi_n (Or.inl (by omega))] | rw [wi_n (Or.inr (by omega))] | rw [wi_s] | rw [wr_i] | rw [cp_n (by omega)] | rw [cp_0 (by omega)])); exact hp3) (by (repeat (first | rw [wi_n (Or.inl (by omega))] | rw [wi_n (Or.inr (by omega))] | rw [wi_s] | rw [wr_i] | rw [cp_n (by omega)] | rw [cp_0 (by omega)])); exact hb3) (TK.n (ytx_3 hone h6) (by (repeat (first | rw [wi_n (Or.inl (by omega))] | rw [wi_n (Or.inr (by omega))] | rw [wi_s] | rw [wr_i] | rw [cp_n (by omega)] | rw [cp_0 (by omega)])))) (((f4.wi ⟨rfl, by omega⟩).wi ⟨rfl, by omega⟩).wi ⟨rfl, by omega⟩)
          · refine q_iload_n d134_132 rfl ?_
            refine q_bipush (x := nI 102) d134_133 rfl ?_
            refine nc_gt 142 d134_135 (by decide) (by omega) (by omega) (fun h135 => ?_) (fun h135 => (False.elim (hone ⟨h129, by omega⟩)))
            refine q_iconstN (z := 0) d134_142 ?_
            refine q_istore_n d134_143 (by decide) rfl ?_
            refine q_aload_n d134_144 rfl ?_
            refine q_iload_n d134_145 rfl ?_
            refine n0_eq 153 d134_146 (by decide) (by decide) (fun _ => ?_) (fun q => absurd q (by decide))
            refine q_iconstN (z := 1) d134_153 ?_
            refine q_puti (c := 8) (f := 33) d134_154 ⟨rfl, rfl, by decide⟩ (xk_136 hX3) ?_
            refine q_aload_n d134_157 rfl ?_
            refine q_iload_n d134_158 rfl ?_
            refine n0_eq 169 d134_159 (by decide) (by decide) (fun _ => ?_) (fun q => absurd q (by decide))
            have f5 : Fi FN M3 (zwi M3 136 33 (nI 1)) := (Fi.refl _ _).wi ⟨rfl, by omega⟩
            have hX5 := SX_fi hX3 f5
            have ht5 := TXp_fi ht3 f5 FN_t
            have hp5 : zi (zwi M3 136 33 (nI 1)) 136 31 = nI e := (wi_n (by omega)).trans hp3
            have hb5 : zi (zwi M3 136 33 (nI 1)) 136 32 = nI q := (wi_n (by omega)).trans hb3
            refine q_aload_n d134_169 rfl ?_
            refine q_v0 d134_170 rfl rfl (xk_136 hX3) (Nat.le_of_ble_eq_true rfl) (c136n hX5 ht5 hp5 hb5 (by omega) (by omega) h6 ?_)
            refine q_puti (c := 8) (f := 34) d134_173 ⟨rfl, rfl, by decide⟩ (xk_136 hX3) ?_
            refine q_aload_n d134_176 rfl ?_
            refine q_aload_n d134_177 rfl ?_
            refine q_getv (c := 8) (f := 34) d134_178 ⟨rfl, by decide⟩ (xk_136 hX3) (wi_s _ _ _ _) ?_
            refine q_iconst (x := (-1)) d134_181 rfl ?_
            refine ic_ne 189 d134_182 (by decide) (fun h182 => (False.elim (h182 rfl))) (fun h182 => ?_)
            refine q_iconstN (z := 1) d134_185 ?_
            refine q_goto 190 d134_186 (by decide) ?_
            refine q_putz (c := 8) (f := 38) d134_190 ⟨rfl, rfl, by decide⟩ (xk_136 hX3) (Or.inr rfl) ?_
            refine q_goto 368 d134_193 (by decide) ?_
            refine q_ret d134_368 rfl ?_
            exact k _ (by (repeat (first | rw [wi_n (Or.inl (by omega))] | rw [wi_n (Or.inr (by omega))] | rw [wi_s] | rw [wr_i] | rw [cp_n (by omega)] | rw [cp_0 (by omega)])); exact hp3) (by (repeat (first | rw [wi_n (Or.inl (by omega))] | rw [wi_n (Or.inr (by omega))] | rw [wi_s] | rw [wr_i] | rw [cp_n (by omega)] | rw [cp_0 (by omega)])); exact hb3) (TK.n (ytx_3 hone h6) (by (repeat (first | rw [wi_n (Or.inl (by omega))] | rw [wi_n (Or.inr (by omega))] | rw [wi_s] | rw [wr_i] | rw [cp_n (by omega)] | rw [cp_0 (by omega)])))) (((f4.wi ⟨rfl, by omega⟩).wi ⟨rfl, by omega⟩).wi ⟨rfl, by omega⟩)
    · by_cases hd : 48 ≤ b q ∧ b q ≤ 57
      · skip
        refine q_aload_n d134_47 rfl ?_
        refine q_aload_n d134_48 rfl ?_
        refine q_getv (c := 8) (f := 31) d134_49 ⟨rfl, by decide⟩ (xk_136 hX1) hp1 ?_
        refine q_puti (c := 8) (f := 32) d134_52 ⟨rfl, rfl, by decide⟩ (xk_136 hX1) ?_
        have f2 : Fi FN M (zwi M1 136 32 (nI q)) := (f1.mono (fun a k q => FQ_N q)).wi ⟨rfl, by omega⟩
        have hX2 := SX_fi hX f2
        have ht2 := TXp_fi ht f2 FN_t
        have hp2 : zi (zwi M1 136 32 (nI q)) 136 31 = nI q := (wi_n (by omega)).trans hp1
        have hb2 : zi (zwi M1 136 32 (nI q)) 136 32 = nI q := wi_s _ _ _ _
        have h382 : zi (zwi M1 136 32 (nI q)) 136 38 = nI 0 := (wi_n (by omega)).trans h381
        refine q_aload_n d134_55 rfl ?_
        refine q_aload_n d134_56 rfl ?_
        refine q_getv (c := 8) (f := 31) d134_57 ⟨rfl, by decide⟩ (xk_136 hX2) hp2 ?_
        refine q_v1 d134_60 rfl rfl (xk_136 hX2) (Nat.le_of_ble_eq_true rfl) (c135t hX2 ht2 (by omega) ?_)
        refine q_istore_n d134_63 (by decide) rfl ?_
        refine q_iload_n d134_64 rfl ?_
        refine q_iconst (x := (-1)) d134_65 rfl ?_
        refine ic_ne 77 d134_66 (by decide) (fun h66 => ?_) (fun h66 => (False.elim (nI_m1 (by omega) h66)))
        refine q_iload_n d134_77 rfl ?_
        refine q_bipush (x := nI 97) d134_78 rfl ?_
        refine q_bipush (x := nI 122) d134_80 rfl ?_
        refine q_s3 d134_82 (Or.inl rfl) rfl (Nat.le_of_ble_eq_true rfl) (c131n hc (by omega) (by omega) (by omega) ?_)
        refine n0_eq 196 d134_85 (by decide) (by decide) (fun _ => ?_) (fun q => absurd q (by decide))
        refine q_iload_n d134_196 rfl ?_
        refine q_bipush (x := nI 48) d134_197 rfl ?_
        refine q_bipush (x := nI 57) d134_199 rfl ?_
        refine q_s3 d134_201 (Or.inl rfl) rfl (Nat.le_of_ble_eq_true rfl) (c131t hd (by omega) ?_)
        refine n0_eq 309 d134_204 (by decide) (by decide) (fun q => absurd q (by decide)) (fun _ => ?_)
        refine q_aload_n d134_207 rfl ?_
        refine q_iconstN (z := 3) d134_208 ?_
        refine q_puti (c := 8) (f := 33) d134_209 ⟨rfl, rfl, by decide⟩ (xk_136 hX2) ?_
        refine q_aload_n d134_212 rfl ?_
        refine q_iconstN (z := 0) d134_213 ?_
        refine q_puti (c := 8) (f := 34) d134_214 ⟨rfl, rfl, by decide⟩ (xk_136 hX2) ?_
        refine l134c (q := q) (SX_fi hX ((f2.wi ⟨rfl, by omega⟩).wi ⟨rfl, by omega⟩)) (TXp_fi ht ((f2.wi ⟨rfl, by omega⟩).wi ⟨rfl, by omega⟩) FN_t) (by (repeat (first | rw [wi_n (Or.inl (by omega))] | rw [wi_n (Or.inr (by omega))] | rw [wi_s] | rw [wr_i] | rw [cp_n (by omega)] | rw [cp_0 (by omega)]))) 120 q _ (by omega) (Nat.le_refl _) (by (repeat (first | rw [wi_n (Or.inl (by omega))] | rw [wi_n (Or.inr (by omega))] | rw [wi_s] | rw [wr_i] | rw [cp_n (by omega)] | rw [cp_0 (by omega)])); exact hp2) (by rw [Nat.sub_self]; exact wi_s _ _ _ _) (Fi.refl _ _) (fun M5 hp5 hv5 f5 => ?_) (by omega)
        have f4 : Fi FN M M5 := ((f2.wi ⟨rfl, by omega⟩).wi ⟨rfl, by omega⟩).trans (f5.mono (fun a k q => FVv_N q))
        have hX5 := SX_fi hX f4
        have ht5 := TXp_fi ht f4 FN_t
        have hb5 : zi M5 136 32 = nI q := (f5.1 _ _ (by unfold FVv; omega)).trans (by (repeat (first | rw [wi_n (Or.inl (by omega))] | rw [wi_n (Or.inr (by omega))] | rw [wi_s] | rw [wr_i] | rw [cp_n (by omega)] | rw [cp_0 (by omega)])))
        have h335 : zi M5 136 33 = nI 3 := (f5.1 _ _ (by unfold FVv; omega)).trans (by (repeat (first | rw [wi_n (Or.inl (by omega))] | rw [wi_n (Or.inr (by omega))] | rw [wi_s] | rw [wr_i] | rw [cp_n (by omega)] | rw [cp_0 (by omega)])))
        have h385 : zi M5 136 38 = nI 0 := (f5.1 _ _ (by unfold FVv; omega)).trans (by (repeat (first | rw [wi_n (Or.inl (by omega))] | rw [wi_n (Or.inr (by omega))] | rw [wi_s] | rw [wr_i] | rw [cp_n (by omega)] | rw [cp_0 (by omega)])); exact h382)
        have hle := lrn_ge (n := n) (b := b) (lo := 48) (hi := 57) 120 q
        have hle2 := hle.2 (by omega)
        have eL : ltk n b p = (if lrn n b 48 57 120 q - q ≤ 3 then 2 else 3, q, lrn n b 48 57 120 q) := by unfold ltk; simp only []; rw [hqe, if_neg (by omega), if_neg hc, if_pos hd]
        rw [eL] at k
        obtain ⟨e, hee⟩ : ∃ e, lrn n b 48 57 120 q = e := ⟨_, rfl⟩
        rw [hee] at hp5 hv5 hle hle2 k eL
        by_cases h3 : e - q ≤ 3
        · rw [if_pos h3] at k
          refine q_aload_n d134_284 rfl ?_
          refine q_aload_n d134_285 rfl ?_
          refine q_getv (c := 8) (f := 31) d134_286 ⟨rfl, by decide⟩ (xk_136 hX5) hp5 ?_
          refine q_aload_n d134_289 rfl ?_
          refine q_getv (c := 8) (f := 32) d134_290 ⟨rfl, by decide⟩ (xk_136 hX5) hb5 ?_
          refine n_isub d134_293 (by omega) ?_
          refine q_iconstN (z := 3) d134_294 ?_
          refine nc_le 302 d134_295 (by decide) (by omega) (by omega) (fun h295 => ?_) (fun h295 => (False.elim (by omega)))
          refine q_iconstN (z := 0) d134_302 ?_
          refine q_putz (c := 8) (f := 38) d134_303 ⟨rfl, rfl, by decide⟩ (xk_136 hX5) (Or.inl rfl) ?_
          refine q_goto 368 d134_306 (by decide) ?_
          refine q_ret d134_368 rfl ?_
          exact k _ (by (repeat (first | rw [wi_n (Or.inl (by omega))] | rw [wi_n (Or.inr (by omega))] | rw [wi_s] | rw [wr_i] | rw [cp_n (by omega)] | rw [cp_0 (by omega)])); exact hp5) (by (repeat (first | rw [wi_n (Or.inl (by omega))] | rw [wi_n (Or.inr (by omega))] | rw [wi_s] | rw [wr_i] | rw [cp_n (by omega)] | rw [cp_0 (by omega)])); exact hb5) (TK.s (t := 3) rfl (by (repeat (first | rw [wi_n (Or.inl (by omega))] | rw [wi_n (Or.inr (by omega))] | rw [wi_s] | rw [wr_i] | rw [cp_n (by omega)] | rw [cp_0 (by omega)])); exact h335) (fun _ => by rw [show min (e - q) 3 = e - q by omega] at hv5; (repeat (first | rw [wi_n (Or.inl (by omega))] | rw [wi_n (Or.inr (by omega))] | rw [wi_s] | rw [wr_i] | rw [cp_n (by omega)] | rw [cp_0 (by omega)])); exact hv5) (by (repeat (first | rw [wi_n (Or.inl (by omega))] | rw [wi_n (Or.inr (by omega))] | rw [wi_s] | rw [wr_i] | rw [cp_n (by omega)] | rw [cp_0 (by omega)])))) (f4.wi ⟨rfl, by omega⟩)
        · rw [if_neg h3] at k
          refine q_aload_n d134_284 rfl ?_
          refine q_aload_n d134_285 rfl ?_
          refine q_getv (c := 8) (f := 31) d134_286 ⟨rfl, by decide⟩ (xk_136 hX5) hp5 ?_
          refine q_aload_n d134_289 rfl ?_
          refine q_getv (c := 8) (f := 32) d134_290 ⟨rfl, by decide⟩ (xk_136 hX5) hb5 ?_
          refine n_isub d134_293 (by omega) ?_
          refine q_iconstN (z := 3) d134_294 ?_
          refine nc_le 302 d134_295 (by decide) (by omega) (by omega) (fun h295 => (False.elim (by omega))) (fun h295 => ?_)
          refine q_iconstN (z := 1) d134_298 ?_
          refine q_goto 303 d134_299 (by decide) ?_
          refine q_putz (c := 8) (f := 38) d134_303 ⟨rfl, rfl, by decide⟩ (xk_136 hX5) (Or.inr rfl) ?_
          refine q_goto 368 d134_306 (by decide) ?_
          refine q_ret d134_368 rfl ?_
          exact k _ (by (repeat (first | rw [wi_n (Or.inl (by omega))] | rw [wi_n (Or.inr (by omega))] | rw [wi_s] | rw [wr_i] | rw [cp_n (by omega)] | rw [cp_0 (by omega)])); exact hp5) (by (repeat (first | rw [wi_n (Or.inl (by omega))] | rw [wi_n (Or.inr (by omega))] | rw [wi_s] | rw [wr_i] | rw [cp_n (by omega)] | rw [cp_0 (by omega)])); exact hb5) (TK.n rfl (by (repeat (first | rw [wi_n (Or.inl (by omega))] | rw [wi_n (Or.inr (by omega))] | rw [wi_s] | rw [wr_i] | rw [cp_n (by omega)] | rw [cp_0 (by omega)])))) (f4.wi ⟨rfl, by omega⟩)
      · skip
        refine q_aload_n d134_47 rfl ?_
        refine q_aload_n d134_48 rfl ?_
        refine q_getv (c := 8) (f := 31) d134_49 ⟨rfl, by decide⟩ (xk_136 hX1) hp1 ?_
        refine q_puti (c := 8) (f := 32) d134_52 ⟨rfl, rfl, by decide⟩ (xk_136 hX1) ?_
        have f2 : Fi FN M (zwi M1 136 32 (nI q)) := (f1.mono (fun a k q => FQ_N q)).wi ⟨rfl, by omega⟩
        have hX2 := SX_fi hX f2
        have ht2 := TXp_fi ht f2 FN_t
        have hp2 : zi (zwi M1 136 32 (nI q)) 136 31 = nI q := (wi_n (by omega)).trans hp1
        have hb2 : zi (zwi M1 136 32 (nI q)) 136 32 = nI q := wi_s _ _ _ _
        have h382 : zi (zwi M1 136 32 (nI q)) 136 38 = nI 0 := (wi_n (by omega)).trans h381
        refine q_aload_n d134_55 rfl ?_
        refine q_aload_n d134_56 rfl ?_
        refine q_getv (c := 8) (f := 31) d134_57 ⟨rfl, by decide⟩ (xk_136 hX2) hp2 ?_
        refine q_v1 d134_60 rfl rfl (xk_136 hX2) (Nat.le_of_ble_eq_true rfl) (c135t hX2 ht2 (by omega) ?_)
        refine q_istore_n d134_63 (by decide) rfl ?_
        refine q_iload_n d134_64 rfl ?_
        refine q_iconst (x := (-1)) d134_65 rfl ?_
        refine ic_ne 77 d134_66 (by decide) (fun h66 => ?_) (fun h66 => (False.elim (nI_m1 (by omega) h66)))
        refine q_iload_n d134_77 rfl ?_
        refine q_bipush (x := nI 97) d134_78 rfl ?_
        refine q_bipush (x := nI 122) d134_80 rfl ?_
        refine q_s3 d134_82 (Or.inl rfl) rfl (Nat.le_of_ble_eq_true rfl) (c131n hc (by omega) (by omega) (by omega) ?_)
        refine n0_eq 196 d134_85 (by decide) (by decide) (fun _ => ?_) (fun q => absurd q (by decide))
        refine q_iload_n d134_196 rfl ?_
        refine q_bipush (x := nI 48) d134_197 rfl ?_
        refine q_bipush (x := nI 57) d134_199 rfl ?_
        refine q_s3 d134_201 (Or.inl rfl) rfl (Nat.le_of_ble_eq_true rfl) (c131n hd (by omega) (by omega) (by omega) ?_)
        refine n0_eq 309 d134_204 (by decide) (by decide) (fun _ => ?_) (fun q => absurd q (by decide))
        refine q_aload_n d134_309 rfl ?_
        refine q_iconstN (z := 4) d134_310 ?_
        refine q_puti (c := 8) (f := 33) d134_311 ⟨rfl, rfl, by decide⟩ (xk_136 hX2) ?_
        refine q_aload_n d134_314 rfl ?_
        refine q_iload_n d134_315 rfl ?_
        refine q_puti (c := 8) (f := 34) d134_316 ⟨rfl, rfl, by decide⟩ (xk_136 hX2) ?_
        refine q_aload_n d134_319 rfl ?_
        refine q_dup d134_320 rfl ?_
        refine q_getv (c := 8) (f := 31) d134_321 ⟨rfl, by decide⟩ (xk_136 hX2) (Eq.trans (by (repeat (first | rw [wi_n (Or.inl (by omega))] | rw [wi_n (Or.inr (by omega))] | rw [wi_s] | rw [wr_i] | rw [cp_n (by omega)]))) hp2) ?_
        refine q_iconstN (z := 1) d134_324 ?_
        refine n_iadd d134_325 ?_
        refine q_puti (c := 8) (f := 31) d134_326 ⟨rfl, rfl, by decide⟩ (xk_136 hX2) ?_
        refine q_aload_n d134_329 rfl ?_
        refine q_iload_n d134_330 rfl ?_
        refine q_bipush (x := nI 59) d134_331 rfl ?_
        refine nc_eq 364 d134_333 (by decide) (by omega) (by omega) (fun h333 => ?_) (fun h333 => ?_)
        · refine q_iconstN (z := 0) d134_364 ?_
          refine q_putz (c := 8) (f := 38) d134_365 ⟨rfl, rfl, by decide⟩ (xk_136 hX2) (Or.inl rfl) ?_
          refine q_ret d134_368 rfl ?_
          first
          | (have hs : b q = 59 ∨ b q = 123 ∨ b q = 124 ∨ b q = 125 ∨ b q = 33 := by omega
             rw [show ltk n b p = (b q, q, q + 1) by unfold ltk; simp only []; rw [hqe, if_neg (by omega), if_neg hc, if_neg hd, if_pos (ysg_t hs)]] at k
             exact k _ (by (repeat (first | rw [wi_n (Or.inl (by omega))] | rw [wi_n (Or.inr (by omega))] | rw [wi_s] | rw [wr_i] | rw [cp_n (by omega)] | rw [cp_0 (by omega)]))) (by (repeat (first | rw [wi_n (Or.inl (by omega))] | rw [wi_n (Or.inr (by omega))] | rw [wi_s] | rw [wr_i] | rw [cp_n (by omega)] | rw [cp_0 (by omega)]))) (TK.s (ytx_s hs) (by (repeat (first | rw [wi_n (Or.inl (by omega))] | rw [wi_n (Or.inr (by omega))] | rw [wi_s] | rw [wr_i] | rw [cp_n (by omega)] | rw [cp_0 (by omega)]))) (fun _ => by (repeat (first | rw [wi_n (Or.inl (by omega))] | rw [wi_n (Or.inr (by omega))] | rw [wi_s] | rw [wr_i] | rw [cp_n (by omega)] | rw [cp_0 (by omega)]))) (by (repeat (first | rw [wi_n (Or.inl (by omega))] | rw [wi_n (Or.inr (by omega))] | rw [wi_s] | rw [wr_i] | rw [cp_n (by omega)] | rw [cp_0 (by omega)])))) ((((f2.wi ⟨rfl, by omega⟩).wi ⟨rfl, by omega⟩).wi ⟨rfl, by omega⟩).wi ⟨rfl, by omega⟩))
          | (rw [show ltk n b p = (3, q, q + 1) by unfold ltk; simp only []; rw [hqe, if_neg (by omega), if_neg hc, if_neg hd, if_neg (ysg_f (by omega))]] at k
             exact k _ (by (repeat (first | rw [wi_n (Or.inl (by omega))] | rw [wi_n (Or.inr (by omega))] | rw [wi_s] | rw [wr_i] | rw [cp_n (by omega)] | rw [cp_0 (by omega)]))) (by (repeat (first | rw [wi_n (Or.inl (by omega))] | rw [wi_n (Or.inr (by omega))] | rw [wi_s] | rw [wr_i] | rw [cp_n (by omega)] | rw [cp_0 (by omega)]))) (TK.n rfl (by (repeat (first | rw [wi_n (Or.inl (by omega))] | rw [wi_n (Or.inr (by omega))] | rw [wi_s] | rw [wr_i] | rw [cp_n (by omega)] | rw [cp_0 (by omega)])))) ((((f2.wi ⟨rfl, by omega⟩).wi ⟨rfl, by omega⟩).wi ⟨rfl, by omega⟩).wi ⟨rfl, by omega⟩))
        · refine q_iload_n d134_336 rfl ?_
          refine q_bipush (x := nI 123) d134_337 rfl ?_
          refine nc_eq 364 d134_339 (by decide) (by omega) (by omega) (fun h339 => ?_) (fun h339 => ?_)
          · refine q_iconstN (z := 0) d134_364 ?_
            refine q_putz (c := 8) (f := 38) d134_365 ⟨rfl, rfl, by decide⟩ (xk_136 hX2) (Or.inl rfl) ?_
            refine q_ret d134_368 rfl ?_
            first
            | (have hs : b q = 59 ∨ b q = 123 ∨ b q = 124 ∨ b q = 125 ∨ b q = 33 := by omega
               rw [show ltk n b p = (b q, q, q + 1) by unfold ltk; simp only []; rw [hqe, if_neg (by omega), if_neg hc, if_neg hd, if_pos (ysg_t hs)]] at k
               exact k _ (by (repeat (first | rw [wi_n (Or.inl (by omega))] | rw [wi_n (Or.inr (by omega))] | rw [wi_s] | rw [wr_i] | rw [cp_n (by omega)] | rw [cp_0 (by omega)]))) (by (repeat (first | rw [wi_n (Or.inl (by omega))] | rw [wi_n (Or.inr (by omega))] | rw [wi_s] | rw [wr_i] | rw [cp_n (by omega)] | rw [cp_0 (by omega)]))) (TK.s (ytx_s hs) (by (repeat (first | rw [wi_n (Or.inl (by omega))] | rw [wi_n (Or.inr (by omega))] | rw [wi_s] | rw [wr_i] | rw [cp_n (by omega)] | rw [cp_0 (by omega)]))) (fun _ => by (repeat (first | rw [wi_n (Or.inl (by omega))] | rw [wi_n (Or.inr (by omega))] | rw [wi_s] | rw [wr_i] | rw [cp_n (by omega)] | rw [cp_0 (by omega)]))) (by (repeat (first | rw [wi_n (Or.inl (by omega))] | rw [wi_n (Or.inr (by omega))] | rw [wi_s] | rw [wr_i] | rw [cp_n (by omega)] | rw [cp_0 (by omega)])))) ((((f2.wi ⟨rfl, by omega⟩).wi ⟨rfl, by omega⟩).wi ⟨rfl, by omega⟩).wi ⟨rfl, by omega⟩))
            | (rw [show ltk n b p = (3, q, q + 1) by unfold ltk; simp only []; rw [hqe, if_neg (by omega), if_neg hc, if_neg hd, if_neg (ysg_f (by omega))]] at k
               exact k _ (by (repeat (first | rw [wi_n (Or.inl (by omega))] | rw [wi_n (Or.inr (by omega))] | rw [wi_s] | rw [wr_i] | rw [cp_n (by omega)] | rw [cp_0 (by omega)]))) (by (repeat (first | rw [wi_n (Or.inl (by omega))] | rw [wi_n (Or.inr (by omega))] | rw [wi_s] | rw [wr_i] | rw [cp_n (by omega)] | rw [cp_0 (by omega)]))) (TK.n rfl (by (repeat (first | rw [wi_n (Or.inl (by omega))] | rw [wi_n (Or.inr (by omega))] | rw [wi_s] | rw [wr_i] | rw [cp_n (by omega)] | rw [cp_0 (by omega)])))) ((((f2.wi ⟨rfl, by omega⟩).wi ⟨rfl, by omega⟩).wi ⟨rfl, by omega⟩).wi ⟨rfl, by omega⟩))
          · refine q_iload_n d134_342 rfl ?_
            refine q_bipush (x := nI 124) d134_343 rfl ?_
            refine nc_eq 364 d134_345 (by decide) (by omega) (by omega) (fun h345 => ?_) (fun h345 => ?_)
            · refine q_iconstN (z := 0) d134_364 ?_
              refine q_putz (c := 8) (f := 38) d134_365 ⟨rfl, rfl, by decide⟩ (xk_136 hX2) (Or.inl rfl) ?_
              refine q_ret d134_368 rfl ?_
              first
              | (have hs : b q = 59 ∨ b q = 123 ∨ b q = 124 ∨ b q = 125 ∨ b q = 33 := by omega
                 rw [show ltk n b p = (b q, q, q + 1) by unfold ltk; simp only []; rw [hqe, if_neg (by omega), if_neg hc, if_neg hd, if_pos (ysg_t hs)]] at k
                 exact k _ (by (repeat (first | rw [wi_n (Or.inl (by omega))] | rw [wi_n (Or.inr (by omega))] | rw [wi_s] | rw [wr_i] | rw [cp_n (by omega)] | rw [cp_0 (by omega)]))) (by (repeat (first | rw [wi_n (Or.inl (by omega))] | rw [wi_n (Or.inr (by omega))] | rw [wi_s] | rw [wr_i] | rw [cp_n (by omega)] | rw [cp_0 (by omega)]))) (TK.s (ytx_s hs) (by (repeat (first | rw [wi_n (Or.inl (by omega))] | rw [wi_n (Or.inr (by omega))] | rw [wi_s] | rw [wr_i] | rw [cp_n (by omega)] | rw [cp_0 (by omega)]))) (fun _ => by (repeat (first | rw [wi_n (Or.inl (by omega))] | rw [wi_n (Or.inr (by omega))] | rw [wi_s] | rw [wr_i] | rw [cp_n (by omega)] | rw [cp_0 (by omega)]))) (by (repeat (first | rw [wi_n (Or.inl (by omega))] | rw [wi_n (Or.inr (by omega))] | rw [wi_s] | rw [wr_i] | rw [cp_n (by omega)] | rw [cp_0 (by omega)])))) ((((f2.wi ⟨rfl, by omega⟩).wi ⟨rfl, by omega⟩).wi ⟨rfl, by omega⟩).wi ⟨rfl, by omega⟩))
              | (rw [show ltk n b p = (3, q, q + 1) by unfold ltk; simp only []; rw [hqe, if_neg (by omega), if_neg hc, if_neg hd, if_neg (ysg_f (by omega))]] at k
                 exact k _ (by (repeat (first | rw [wi_n (Or.inl (by omega))] | rw [wi_n (Or.inr (by omega))] | rw [wi_s] | rw [wr_i] | rw [cp_n (by omega)] | rw [cp_0 (by omega)]))) (by (repeat (first | rw [wi_n (Or.inl (by omega))] | rw [wi_n (Or.inr (by omega))] | rw [wi_s] | rw [wr_i] | rw [cp_n (by omega)] | rw [cp_0 (by omega)]))) (TK.n rfl (by (repeat (first | rw [wi_n (Or.inl (by omega))] | rw [wi_n (Or.inr (by omega))] | rw [wi_s] | rw [wr_i] | rw [cp_n (by omega)] | rw [cp_0 (by omega)])))) ((((f2.wi ⟨rfl, by omega⟩).wi ⟨rfl, by omega⟩).wi ⟨rfl, by omega⟩).wi ⟨rfl, by omega⟩))
            · refine q_iload_n d134_348 rfl ?_
              refine q_bipush (x := nI 125) d134_349 rfl ?_
              refine nc_eq 364 d134_351 (by decide) (by omega) (by omega) (fun h351 => ?_) (fun h351 => ?_)
              · refine q_iconstN (z := 0) d134_364 ?_
                refine q_putz (c := 8) (f := 38) d134_365 ⟨rfl, rfl, by decide⟩ (xk_136 hX2) (Or.inl rfl) ?_
                refine q_ret d134_368 rfl ?_
                first
                | (have hs : b q = 59 ∨ b q = 123 ∨ b q = 124 ∨ b q = 125 ∨ b q = 33 := by omega
                   rw [show ltk n b p = (b q, q, q + 1) by unfold ltk; simp only []; rw [hqe, if_neg (by omega), if_neg hc, if_neg hd, if_pos (ysg_t hs)]] at k
                   exact k _ (by (repeat (first | rw [wi_n (Or.inl (by omega))] | rw [wi_n (Or.inr (by omega))] | rw [wi_s] | rw [wr_i] | rw [cp_n (by omega)] | rw [cp_0 (by omega)]))) (by (repeat (first | rw [wi_n (Or.inl (by omega))] | rw [wi_n (Or.inr (by omega))] | rw [wi_s] | rw [wr_i] | rw [cp_n (by omega)] | rw [cp_0 (by omega)]))) (TK.s (ytx_s hs) (by (repeat (first | rw [wi_n (Or.inl (by omega))] | rw [wi_n (Or.inr (by omega))] | rw [wi_s] | rw [wr_i] | rw [cp_n (by omega)] | rw [cp_0 (by omega)]))) (fun _ => by (repeat (first | rw [wi_n (Or.inl (by omega))] | rw [wi_n (Or.inr (by omega))] | rw [wi_s] | rw [wr_i] | rw [cp_n (by omega)] | rw [cp_0 (by omega)]))) (by (repeat (first | rw [wi_n (Or.inl (by omega))] | rw [wi_n (Or.inr (by omega))] | rw [wi_s] | rw [wr_i] | rw [cp_n (by omega)] | rw [cp_0 (by omega)])))) ((((f2.wi ⟨rfl, by omega⟩).wi ⟨rfl, by omega⟩).wi ⟨rfl, by omega⟩).wi ⟨rfl, by omega⟩))
                | (rw [show ltk n b p = (3, q, q + 1) by unfold ltk; simp only []; rw [hqe, if_neg (by omega), if_neg hc, if_neg hd, if_neg (ysg_f (by omega))]] at k
                   exact k _ (by (repeat (first | rw [wi_n (Or.inl (by omega))] | rw [wi_n (Or.inr (by omega))] | rw [wi_s] | rw [wr_i] | rw [cp_n (by omega)] | rw [cp_0 (by omega)]))) (by (repeat (first | rw [wi_n (Or.inl (by omega))] | rw [wi_n (Or.inr (by omega))] | rw [wi_s] | rw [wr_i] | rw [cp_n (by omega)] | rw [cp_0 (by omega)]))) (TK.n rfl (by (repeat (first | rw [wi_n (Or.inl (by omega))] | rw [wi_n (Or.inr (by omega))] | rw [wi_s] | rw [wr_i] | rw [cp_n (by omega)] | rw [cp_0 (by omega)])))) ((((f2.wi ⟨rfl, by omega⟩).wi ⟨rfl, by omega⟩).wi ⟨rfl, by omega⟩).wi ⟨rfl, by omega⟩))
              · refine q_iload_n d134_354 rfl ?_
                refine q_bipush (x := nI 33) d134_355 rfl ?_
                refine nc_eq 364 d134_357 (by decide) (by omega) (by omega) (fun h357 => ?_) (fun h357 => ?_)
                · refine q_iconstN (z := 0) d134_364 ?_
                  refine q_putz (c := 8) (f := 38) d134_365 ⟨rfl, rfl, by decide⟩ (xk_136 hX2) (Or.inl rfl) ?_
                  refine q_ret d134_368 rfl ?_
                  first
                  | (have hs : b q = 59 ∨ b q = 123 ∨ b q = 124 ∨ b q = 125 ∨ b q = 33 := by omega
                     rw [show ltk n b p = (b q, q, q + 1) by unfold ltk; simp only []; rw [hqe, if_neg (by omega), if_neg hc, if_neg hd, if_pos (ysg_t hs)]] at k
                     exact k _ (by (repeat (first | rw [wi_n (Or.inl (by omega))] | rw [wi_n (Or.inr (by omega))] | rw [wi_s] | rw [wr_i] | rw [cp_n (by omega)] | rw [cp_0 (by omega)]))) (by (repeat (first | rw [wi_n (Or.inl (by omega))] | rw [wi_n (Or.inr (by omega))] | rw [wi_s] | rw [wr_i] | rw [cp_n (by omega)] | rw [cp_0 (by omega)]))) (TK.s (ytx_s hs) (by (repeat (first | rw [wi_n (Or.inl (by omega))] | rw [wi_n (Or.inr (by omega))] | rw [wi_s] | rw [wr_i] | rw [cp_n (by omega)] | rw [cp_0 (by omega)]))) (fun _ => by (repeat (first | rw [wi_n (Or.inl (by omega))] | rw [wi_n (Or.inr (by omega))] | rw [wi_s] | rw [wr_i] | rw [cp_n (by omega)] | rw [cp_0 (by omega)]))) (by (repeat (first | rw [wi_n (Or.inl (by omega))] | rw [wi_n (Or.inr (by omega))] | rw [wi_s] | rw [wr_i] | rw [cp_n (by omega)] | rw [cp_0 (by omega)])))) ((((f2.wi ⟨rfl, by omega⟩).wi ⟨rfl, by omega⟩).wi ⟨rfl, by omega⟩).wi ⟨rfl, by omega⟩))
                  | (rw [show ltk n b p = (3, q, q + 1) by unfold ltk; simp only []; rw [hqe, if_neg (by omega), if_neg hc, if_neg hd, if_neg (ysg_f (by omega))]] at k
                     exact k _ (by (repeat (first | rw [wi_n (Or.inl (by omega))] | rw [wi_n (Or.inr (by omega))] | rw [wi_s] | rw [wr_i] | rw [cp_n (by omega)] | rw [cp_0 (by omega)]))) (by (repeat (first | rw [wi_n (Or.inl (by omega))] | rw [wi_n (Or.inr (by omega))] | rw [wi_s] | rw [wr_i] | rw [cp_n (by omega)] | rw [cp_0 (by omega)]))) (TK.n rfl (by (repeat (first | rw [wi_n (Or.inl (by omega))] | rw [wi_n (Or.inr (by omega))] | rw [wi_s] | rw [wr_i] | rw [cp_n (by omega)] | rw [cp_0 (by omega)])))) ((((f2.wi ⟨rfl, by omega⟩).wi ⟨rfl, by omega⟩).wi ⟨rfl, by omega⟩).wi ⟨rfl, by omega⟩))
                · refine q_iconstN (z := 1) d134_360 ?_
                  refine q_goto 365 d134_361 (by decide) ?_
                  refine q_putz (c := 8) (f := 38) d134_365 ⟨rfl, rfl, by decide⟩ (xk_136 hX2) (Or.inr rfl) ?_
                  refine q_ret d134_368 rfl ?_
                  first
                  | (have hs : b q = 59 ∨ b q = 123 ∨ b q = 124 ∨ b q = 125 ∨ b q = 33 := by omega
                     rw [show ltk n b p = (b q, q, q + 1) by unfold ltk; simp only []; rw [hqe, if_neg (by omega), if_neg hc, if_neg hd, if_pos (ysg_t hs)]] at k
                     exact k _ (by (repeat (first | rw [wi_n (Or.inl (by omega))] | rw [wi_n (Or.inr (by omega))] | rw [wi_s] | rw [wr_i] | rw [cp_n (by omega)] | rw [cp_0 (by omega)]))) (by (repeat (first | rw [wi_n (Or.inl (by omega))] | rw [wi_n (Or.inr (by omega))] | rw [wi_s] | rw [wr_i] | rw [cp_n (by omega)] | rw [cp_0 (by omega)]))) (TK.s (ytx_s hs) (by (repeat (first | rw [wi_n (Or.inl (by omega))] | rw [wi_n (Or.inr (by omega))] | rw [wi_s] | rw [wr_i] | rw [cp_n (by omega)] | rw [cp_0 (by omega)]))) (fun _ => by (repeat (first | rw [wi_n (Or.inl (by omega))] | rw [wi_n (Or.inr (by omega))] | rw [wi_s] | rw [wr_i] | rw [cp_n (by omega)] | rw [cp_0 (by omega)]))) (by (repeat (first | rw [wi_n (Or.inl (by omega))] | rw [wi_n (Or.inr (by omega))] | rw [wi_s] | rw [wr_i] | rw [cp_n (by omega)] | rw [cp_0 (by omega)])))) ((((f2.wi ⟨rfl, by omega⟩).wi ⟨rfl, by omega⟩).wi ⟨rfl, by omega⟩).wi ⟨rfl, by omega⟩))
                  | (rw [show ltk n b p = (3, q, q + 1) by unfold ltk; simp only []; rw [hqe, if_neg (by omega), if_neg hc, if_neg hd, if_neg (ysg_f (by omega))]] at k
                     exact k _ (by (repeat (first | rw [wi_n (Or.inl (by omega))] | rw [wi_n (Or.inr (by omega))] | rw [wi_s] | rw [wr_i] | rw [cp_n (by omega)] | rw [cp_0 (by omega)]))) (by (repeat (first | rw [wi_n (Or.inl (by omega))] | rw [wi_n (Or.inr (by omega))] | rw [wi_s] | rw [wr_i] | rw [cp_n (by omega)] | rw [cp_0 (by omega)]))) (TK.n rfl (by (repeat (first | rw [wi_n (Or.inl (by omega))] | rw [wi_n (Or.inr (by omega))] | rw [wi_s] | rw [wr_i] | rw [cp_n (by omega)] | rw [cp_0 (by omega)])))) ((((f2.wi ⟨rfl, by omega⟩).wi ⟨rfl, by omega⟩).wi ⟨rfl, by omega⟩).wi ⟨rfl, by omega⟩))
theorem c134f {d : Nat} {M : zM} {Q : Option Value → zM → Prop} (hX : SX M) (h38 : zi M 136 38 = nI 1) (k : Q none M) : qC (d + 10) 134 [.ref 136] M Q := by
  refine qC_of (by decide) (Nat.le_of_ble_eq_true rfl) ?_
  refine q_aload_n d134_0 rfl ?_
  refine q_getv (c := 8) (f := 38) d134_1 ⟨rfl, by decide⟩ (xk_136 hX) h38 ?_
  refine n0_eq 8 d134_4 (by decide) (by decide) (fun q => absurd q (by decide)) (fun _ => ?_)
  refine q_ret d134_7 rfl ?_
  exact k
/-! ===== the reference: tokens are taken ===== -/
/-! the reference reads -/
/-- the text that is built: the rows of text c -/
def XRw (M : zM) (c : Nat) (T : yT) : Prop := ∀ k, k < tn T → zi M (140 + c) k = nI (tk T k) ∧ zi M (147 + c) k = tf T k ∧ zi M (154 + c) k = ts T k ∧ zi M (161 + c) k = tu T k ∧ zi M (168 + c) k = nI (ta T k)
/-- well, at K -/
def GX (M : zM) (c n : Nat) (b : Nat → Nat) (o : Nat) (K : yQ) : Prop := SX M ∧ c < 6 ∧ zi M 136 0 = nI c ∧ TXp M n b ∧ (zi M 136 31 = nI K.1.2.2 ∧ zi M 136 32 = nI K.1.2.1) ∧ (∃ t v, ytx b K.1 = some (t, v) ∧ zi M 136 33 = nI t ∧ (t ≠ 0 → zi M 136 34 = nI v) ∧ zi M 136 38 = nI 0) ∧ zi M 136 35 = nI o ∧ zi M 136 36 = tp K.2 ∧ zi M 136 37 = nI (tn K.2) ∧ XRw M c K.2
/-- a fault was met -/
def BX (M : zM) (c n : Nat) (b : Nat → Nat) (f : Nat) : Prop := SX M ∧ c < 6 ∧ zi M 136 0 = nI c ∧ TXp M n b ∧ zi M 136 38 = nI 1 ∧ zi M 136 32 = nI f
def FJ (c : Nat) : Nat → Nat → Prop := fun a k => (a = 136 ∧ 30 < k ∧ k < 39) ∨ a = 140 + c ∨ a = 147 + c ∨ a = 154 + c ∨ a = 161 + c ∨ a = 168 + c
theorem FN_J {c a k : Nat} (h : FN a k) : FJ c a k := by unfold FN at h; unfold FJ; omega
theorem FJ_t {c : Nat} (hc : c < 6) : ¬ FJ c 136 30 ∧ ∀ k, ¬ FJ c 208 k := ⟨by unfold FJ; omega, fun k => by unfold FJ; omega⟩
theorem XRw.fi {M M' : zM} {F : Nat → Nat → Prop} {c : Nat} {T : yT} (h : XRw M c T) (f : Fi F M M') (hs : ∀ a k, a = 140 + c ∨ a = 147 + c ∨ a = 154 + c ∨ a = 161 + c ∨ a = 168 + c → ¬ F a k) : XRw M' c T := fun k hk => ⟨(f.1 _ _ (hs _ _ (by omega))).trans (h k hk).1, (f.1 _ _ (hs _ _ (by omega))).trans (h k hk).2.1, (f.1 _ _ (hs _ _ (by omega))).trans (h k hk).2.2.1, (f.1 _ _ (hs _ _ (by omega))).trans (h k hk).2.2.2.1, (f.1 _ _ (hs _ _ (by omega))).trans (h k hk).2.2.2.2⟩
theorem GX.bad {M : zM} {c n o : Nat} {b : Nat → Nat} {K : yQ} (h : GX M c n b o K) : BX (zwi M 136 38 (nI 1)) c n b K.1.2.1 := by
  have f : Fi (fun a k => a = 136 ∧ k = 38) M (zwi M 136 38 (nI 1)) := (Fi.refl _ _).wi ⟨rfl, rfl⟩
  exact ⟨SX_fi h.1 f, h.2.1, (f.1 _ _ (by omega)).trans h.2.2.1, TXp_fi h.2.2.2.1 f ⟨by omega, fun k => by omega⟩, wi_s _ _ _ _, (f.1 _ _ (by omega)).trans h.2.2.2.2.1.2⟩
theorem GX.badF {M : zM} {c : Nat} : Fi (FJ c) M (zwi M 136 38 (nI 1)) := (Fi.refl _ _).wi (Or.inl ⟨rfl, by omega, by omega⟩)
theorem BX.bad {M : zM} {c n f : Nat} {b : Nat → Nat} (h : BX M c n b f) : BX (zwi M 136 38 (nI 1)) c n b f := by
  have g : Fi (fun a k => a = 136 ∧ k = 38) M (zwi M 136 38 (nI 1)) := (Fi.refl _ _).wi ⟨rfl, rfl⟩
  exact ⟨SX_fi h.1 g, h.2.1, (g.1 _ _ (by omega)).trans h.2.2.1, TXp_fi h.2.2.2.1 g ⟨by omega, fun k => by omega⟩, wi_s _ _ _ _, (g.1 _ _ (by omega)).trans h.2.2.2.2.2⟩
/-- what is written behind a fault changes nothing -/
theorem BX.row {M M' : zM} {c n f : Nat} {b : Nat → Nat} (h : BX M c n b f) (g : Fi (fun a k => (a = 136 ∧ (k = 35 ∨ k = 36 ∨ k = 37)) ∨ a = 140 + c ∨ a = 147 + c ∨ a = 154 + c ∨ a = 161 + c ∨ a = 168 + c) M M') : BX M' c n b f := by
  have hc := h.2.1
  exact ⟨SX_fi h.1 g, h.2.1, (g.1 _ _ (by omega)).trans h.2.2.1, TXp_fi h.2.2.2.1 g ⟨by omega, fun k => by omega⟩, (g.1 _ _ (by omega)).trans h.2.2.2.2.1, (g.1 _ _ (by omega)).trans h.2.2.2.2.2⟩
theorem BX.f0 {M : zM} {c n f : Nat} {b : Nat → Nat} (h : BX M c n b f) : zi M 136 38 = nI 1 := h.2.2.2.2.1
theorem GX.w {M : zM} {c n o : Nat} {b : Nat → Nat} {K : yQ} (h : GX M c n b o K) : zi M 136 38 = nI 0 := by obtain ⟨t, v, h1, h2, h3, h4⟩ := h.2.2.2.2.2.1; exact h4
/-- what a piece leaves -/
def cOX (Q : Option Value → zM → Prop) (M : zM) (c n : Nat) (b : Nat → Nat) (o : Nat) (R : Except Nat (Nat × yQ)) : Prop := match R with
  | .error f => ∀ v M', BX M' c n b f → Fi (FJ c) M M' → Q (some (.int v)) M'
  | .ok (w, K1) => (ytx b K1.1 ≠ none → ∀ M', GX M' c n b o K1 → Fi (FJ c) M M' → Q (some (.int (nI w))) M') ∧ (ytx b K1.1 = none → ∀ v M', BX M' c n b K1.1.2.1 → Fi (FJ c) M M' → Q (some (.int v)) M')
theorem cOX.e {Q : Option Value → zM → Prop} {M : zM} {c n f o : Nat} {b : Nat → Nat} {R : Except Nat (Nat × yQ)} (h : cOX Q M c n b o R) (e : R = .error f) : ∀ v M', BX M' c n b f → Fi (FJ c) M M' → Q (some (.int v)) M' := by subst e; exact h
theorem cOX.g {Q : Option Value → zM → Prop} {M : zM} {c n o w : Nat} {b : Nat → Nat} {K1 : yQ} {R : Except Nat (Nat × yQ)} (h : cOX Q M c n b o R) (e : R = .ok (w, K1)) (hn : ytx b K1.1 ≠ none) : ∀ M', GX M' c n b o K1 → Fi (FJ c) M M' → Q (some (.int (nI w))) M' := by subst e; exact h.1 hn
theorem cOX.b {Q : Option Value → zM → Prop} {M : zM} {c n o w : Nat} {b : Nat → Nat} {K1 : yQ} {R : Except Nat (Nat × yQ)} (h : cOX Q M c n b o R) (e : R = .ok (w, K1)) (hn : ytx b K1.1 = none) : ∀ v M', BX M' c n b K1.1.2.1 → Fi (FJ c) M M' → Q (some (.int v)) M' := by subst e; exact h.2 hn
theorem cOX_e {Q : Option Value → zM → Prop} {M : zM} {c n f o : Nat} {b : Nat → Nat} {R : Except Nat (Nat × yQ)} (e : R = .error f) (h : ∀ v M', BX M' c n b f → Fi (FJ c) M M' → Q (some (.int v)) M') : cOX Q M c n b o R := by subst e; exact h
theorem cOX_o {Q : Option Value → zM → Prop} {M : zM} {c n o w : Nat} {b : Nat → Nat} {K1 : yQ} {R : Except Nat (Nat × yQ)} (e : R = .ok (w, K1)) (h : ytx b K1.1 ≠ none → ∀ M', GX M' c n b o K1 → Fi (FJ c) M M' → Q (some (.int (nI w))) M') (g : ytx b K1.1 = none → ∀ v M', BX M' c n b K1.1.2.1 → Fi (FJ c) M M' → Q (some (.int v)) M') : cOX Q M c n b o R := by subst e; exact ⟨h, g⟩
theorem cOX_w {Q Q' : Option Value → zM → Prop} {M M1 : zM} {c n o : Nat} {b : Nat → Nat} {R : Except Nat (Nat × yQ)} (h : cOX Q M c n b o R) (f : Fi (FJ c) M M1) (hq : ∀ (v : Int32) M', Q (some (.int v)) M' → Q' (some (.int v)) M') : cOX Q' M1 c n b o R := by
  cases R with
  | error e => exact fun v M' g f1 => hq _ _ (h v M' g (f.trans f1))
  | ok r => exact ⟨fun hn M' g f1 => hq _ _ (h.1 hn M' g (f.trans f1)), fun hn v M' g f1 => hq _ _ (h.2 hn v M' g (f.trans f1))⟩
theorem c134g {d : Nat} {M : zM} {Q : Option Value → zM → Prop} {c n o : Nat} {b : Nat → Nat} {K : yQ} (hG : GX M c n b o K) (hv : yQv n b K) (k : ytx b (pAd n b K.1) ≠ none → ∀ M', GX M' c n b o (pAd n b K.1, K.2) → Fi (FJ c) M M' → Q none M') (kb : ytx b (pAd n b K.1) = none → ∀ M', BX M' c n b (pAd n b K.1).2.1 → Fi (FJ c) M M' → Q none M') : qC (d + 10) 134 [.ref 136] M Q := by
  have hc := hG.2.1
  refine c134 hG.1 hG.2.2.2.1 hG.2.2.2.2.1.1 hv.1.1.2.1 hG.w (fun M' h1 h2 h3 f => ?_)
  have hX := SX_fi hG.1 f
  have ht := TXp_fi hG.2.2.2.1 f FN_t
  have h0 : zi M' 136 0 = nI c := (f.1 _ _ (by unfold FN; omega)).trans hG.2.2.1
  cases e : ytx b (pAd n b K.1) with
  | none => exact kb e M' ⟨hX, hc, h0, ht, h3.2 e, h2⟩ (f.mono (fun a k q => FN_J q))
  | some r => exact k (by rw [e]; exact fun q => by cases q) M' ⟨hX, hc, h0, ht, ⟨h1, h2⟩, ⟨r.1, r.2, e, h3.1 r.1 r.2 e⟩, (f.1 _ _ (by unfold FN; omega)).trans hG.2.2.2.2.2.2.1, (f.1 _ _ (by unfold FN; omega)).trans hG.2.2.2.2.2.2.2.1, (f.1 _ _ (by unfold FN; omega)).trans hG.2.2.2.2.2.2.2.2.1, hG.2.2.2.2.2.2.2.2.2.fi f (fun a k q => by unfold FN; omega)⟩ (f.mono (fun a k q => FN_J q))
theorem d140_0 : decode (zB 140) 0 = .ok (.aload_n 0, 1) := (congrArg (fun c => decode c 0) zeq140).trans (by decide +kernel)
theorem d140_1 : decode (zB 140) 1 = .ok (.getfield 162, 3) := (congrArg (fun c => decode c 1) zeq140).trans (by decide +kernel)
theorem d140_4 : decode (zB 140) 4 = .ok (.ifCond .ne 23, 3) := (congrArg (fun c => decode c 4) zeq140).trans (by decide +kernel)
theorem d140_7 : decode (zB 140) 7 = .ok (.aload_n 0, 1) := (congrArg (fun c => decode c 7) zeq140).trans (by decide +kernel)
theorem d140_8 : decode (zB 140) 8 = .ok (.getfield 166, 3) := (congrArg (fun c => decode c 8) zeq140).trans (by decide +kernel)
theorem d140_11 : decode (zB 140) 11 = .ok (.iconst 4, 1) := (congrArg (fun c => decode c 11) zeq140).trans (by decide +kernel)
theorem d140_12 : decode (zB 140) 12 = .ok (.if_icmp .ne 15, 3) := (congrArg (fun c => decode c 12) zeq140).trans (by decide +kernel)
theorem d140_15 : decode (zB 140) 15 = .ok (.aload_n 0, 1) := (congrArg (fun c => decode c 15) zeq140).trans (by decide +kernel)
theorem d140_16 : decode (zB 140) 16 = .ok (.getfield 172, 3) := (congrArg (fun c => decode c 16) zeq140).trans (by decide +kernel)
theorem d140_19 : decode (zB 140) 19 = .ok (.iload_n 1, 1) := (congrArg (fun c => decode c 19) zeq140).trans (by decide +kernel)
theorem d140_20 : decode (zB 140) 20 = .ok (.if_icmp .ne 7, 3) := (congrArg (fun c => decode c 20) zeq140).trans (by decide +kernel)
theorem d140_23 : decode (zB 140) 23 = .ok (.iconst 1, 1) := (congrArg (fun c => decode c 23) zeq140).trans (by decide +kernel)
theorem d140_24 : decode (zB 140) 24 = .ok (.goto 4, 3) := (congrArg (fun c => decode c 24) zeq140).trans (by decide +kernel)
theorem d140_27 : decode (zB 140) 27 = .ok (.iconst 0, 1) := (congrArg (fun c => decode c 27) zeq140).trans (by decide +kernel)
theorem d140_28 : decode (zB 140) 28 = .ok (.ireturn, 1) := (congrArg (fun c => decode c 28) zeq140).trans (by decide +kernel)
theorem ytx_sg {b : Nat → Nat} {k : yK} {t v : Nat} (h : ytx b k = some (t, v)) {s : Nat} (hs : 3 < s) : k.1 = s ↔ t = 4 ∧ v = s := by
  unfold ytx at h
  by_cases c0 : k.1 = 0
  · rw [if_pos c0] at h; cases h; omega
  · rw [if_neg c0] at h
    by_cases c1 : k.1 = 1
    · rw [if_pos c1] at h
      split at h
      · cases h; omega
      · split at h
        · cases h; omega
        · cases h
    · rw [if_neg c1] at h
      by_cases c2 : k.1 = 2
      · rw [if_pos c2] at h; cases h; omega
      · rw [if_neg c2] at h
        by_cases c3 : k.1 = 3
        · rw [if_pos c3] at h; cases h
        · rw [if_neg c3] at h; cases h; omega
theorem ytx_t4 {b : Nat → Nat} {k : yK} {t v : Nat} (h : ytx b k = some (t, v)) (hk : k.1 < 256) : t ≤ 4 ∧ (t = 4 → v < 256) := by
  unfold ytx at h
  by_cases c0 : k.1 = 0
  · rw [if_pos c0] at h; cases h; omega
  · rw [if_neg c0] at h
    by_cases c1 : k.1 = 1
    · rw [if_pos c1] at h
      split at h
      · cases h; omega
      · split at h
        · cases h; omega
        · cases h
    · rw [if_neg c1] at h
      by_cases c2 : k.1 = 2
      · rw [if_pos c2] at h; cases h; omega
      · rw [if_neg c2] at h
        by_cases c3 : k.1 = 3
        · rw [if_pos c3] at h; cases h
        · rw [if_neg c3] at h; cases h; exact ⟨by omega, fun _ => hk⟩
theorem c140t {d : Nat} {M : zM} {Q : Option Value → zM → Prop} {c n o : Nat} {b : Nat → Nat} {K : yQ} {s : Nat} (hG : GX M c n b o K) (hv : yQv n b K) (hs : 3 < s) (hs2 : s < 256) (h : K.1.1 = s) (k : Q (some (.int (nI 1))) M) : qC (d + 1) 140 [.ref 136, .int (nI s)] M Q := by
  refine qC_of (by decide) (Nat.le_of_ble_eq_true rfl) ?_
  have hc := hG.2.1
  have h120 := hG.2.2.2.1.1
  have hk1 := hv.1.1.1
  have hk2 := hv.1.1.2.1
  have hk3 := hv.1.1.2.2.1
  obtain ⟨t, v, htv, h33, h34, h38⟩ := hG.2.2.2.2.2.1
  have ht4 := ytx_t4 htv hk3
  have hy := (ytx_sg htv hs).mp h
  refine q_aload_n d140_0 rfl ?_
  refine q_getv (c := 8) (f := 38) d140_1 ⟨rfl, by decide⟩ (xk_136 hG.1) hG.w ?_
  refine n0_ne 27 d140_4 (by decide) (by decide) (fun q => absurd q (by decide)) (fun _ => ?_)
  refine q_aload_n d140_7 rfl ?_
  refine q_getv (c := 8) (f := 33) d140_8 ⟨rfl, by decide⟩ (xk_136 hG.1) h33 ?_
  refine q_iconstN (z := 4) d140_11 ?_
  refine nc_ne 27 d140_12 (by decide) (by omega) (by omega) (fun h12 => (False.elim (h12 hy.1))) (fun h12 => ?_)
  have hv4 := ht4.2 h12
  refine q_aload_n d140_15 rfl ?_
  refine q_getv (c := 8) (f := 34) d140_16 ⟨rfl, by decide⟩ (xk_136 hG.1) (h34 (by omega)) ?_
  refine q_iload_n d140_19 rfl ?_
  refine nc_ne 27 d140_20 (by decide) (by omega) (by omega) (fun h20 => (False.elim (h20 hy.2))) (fun h20 => ?_)
  refine q_iconstN (z := 1) d140_23 ?_
  refine q_goto 28 d140_24 (by decide) ?_
  refine q_zret d140_28 rfl (by decide) ?_
  exact k
theorem c140n {d : Nat} {M : zM} {Q : Option Value → zM → Prop} {c n o : Nat} {b : Nat → Nat} {K : yQ} {s : Nat} (hG : GX M c n b o K) (hv : yQv n b K) (hs : 3 < s) (hs2 : s < 256) (h : ¬ K.1.1 = s) (k : Q (some (.int (nI 0))) M) : qC (d + 1) 140 [.ref 136, .int (nI s)] M Q := by
  refine qC_of (by decide) (Nat.le_of_ble_eq_true rfl) ?_
  have hc := hG.2.1
  have h120 := hG.2.2.2.1.1
  have hk1 := hv.1.1.1
  have hk2 := hv.1.1.2.1
  have hk3 := hv.1.1.2.2.1
  obtain ⟨t, v, htv, h33, h34, h38⟩ := hG.2.2.2.2.2.1
  have ht4 := ytx_t4 htv hk3
  have hy : ¬ (t = 4 ∧ v = s) := fun q => h ((ytx_sg htv hs).mpr q)
  refine q_aload_n d140_0 rfl ?_
  refine q_getv (c := 8) (f := 38) d140_1 ⟨rfl, by decide⟩ (xk_136 hG.1) hG.w ?_
  refine n0_ne 27 d140_4 (by decide) (by decide) (fun q => absurd q (by decide)) (fun _ => ?_)
  refine q_aload_n d140_7 rfl ?_
  refine q_getv (c := 8) (f := 33) d140_8 ⟨rfl, by decide⟩ (xk_136 hG.1) h33 ?_
  refine q_iconstN (z := 4) d140_11 ?_
  refine nc_ne 27 d140_12 (by decide) (by omega) (by omega) (fun h12 => ?_) (fun h12 => ?_)
  · refine q_iconstN (z := 0) d140_27 ?_
    refine q_zret d140_28 rfl (by decide) ?_
    exact k
  · have hv4 := ht4.2 h12
    refine q_aload_n d140_15 rfl ?_
    refine q_getv (c := 8) (f := 34) d140_16 ⟨rfl, by decide⟩ (xk_136 hG.1) (h34 (by omega)) ?_
    refine q_iload_n d140_19 rfl ?_
    refine nc_ne 27 d140_20 (by decide) (by omega) (by omega) (fun h20 => ?_) (fun h20 => (False.elim (hy ⟨h12, h20⟩)))
    refine q_iconstN (z := 0) d140_27 ?_
    refine q_zret d140_28 rfl (by decide) ?_
    exact k
theorem c140f {d : Nat} {M : zM} {Q : Option Value → zM → Prop} {c n f : Nat} {b : Nat → Nat} {x : Int32} (hB : BX M c n b f) (k : Q (some (.int (nI 0))) M) : qC (d + 1) 140 [.ref 136, .int x] M Q := by
  refine qC_of (by decide) (Nat.le_of_ble_eq_true rfl) ?_
  refine q_aload_n d140_0 rfl ?_
  refine q_getv (c := 8) (f := 38) d140_1 ⟨rfl, by decide⟩ (xk_136 hB.1) hB.f0 ?_
  refine n0_ne 27 d140_4 (by decide) (by decide) (fun _ => ?_) (fun q => absurd q (by decide))
  refine q_iconstN (z := 0) d140_27 ?_
  refine q_zret d140_28 rfl (by decide) ?_
  exact k
theorem c134b {d : Nat} {M : zM} {Q : Option Value → zM → Prop} {c n f : Nat} {b : Nat → Nat} (hB : BX M c n b f) (k : Q none M) : qC (d + 10) 134 [.ref 136] M Q := c134f hB.1 hB.f0 k
theorem d143_0 : decode (zB 143) 0 = .ok (.aload_n 0, 1) := (congrArg (fun c => decode c 0) zeq143).trans (by decide +kernel)
theorem d143_1 : decode (zB 143) 1 = .ok (.getfield 166, 3) := (congrArg (fun c => decode c 1) zeq143).trans (by decide +kernel)
theorem d143_4 : decode (zB 143) 4 = .ok (.iload_n 1, 1) := (congrArg (fun c => decode c 4) zeq143).trans (by decide +kernel)
theorem d143_5 : decode (zB 143) 5 = .ok (.if_icmp .eq 8, 3) := (congrArg (fun c => decode c 5) zeq143).trans (by decide +kernel)
theorem d143_8 : decode (zB 143) 8 = .ok (.aload_n 0, 1) := (congrArg (fun c => decode c 8) zeq143).trans (by decide +kernel)
theorem d143_9 : decode (zB 143) 9 = .ok (.iconst 1, 1) := (congrArg (fun c => decode c 9) zeq143).trans (by decide +kernel)
theorem d143_10 : decode (zB 143) 10 = .ok (.putfield 162, 3) := (congrArg (fun c => decode c 10) zeq143).trans (by decide +kernel)
theorem d143_13 : decode (zB 143) 13 = .ok (.aload_n 0, 1) := (congrArg (fun c => decode c 13) zeq143).trans (by decide +kernel)
theorem d143_14 : decode (zB 143) 14 = .ok (.getfield 172, 3) := (congrArg (fun c => decode c 14) zeq143).trans (by decide +kernel)
theorem d143_17 : decode (zB 143) 17 = .ok (.istore_n 2, 1) := (congrArg (fun c => decode c 17) zeq143).trans (by decide +kernel)
theorem d143_18 : decode (zB 143) 18 = .ok (.aload_n 0, 1) := (congrArg (fun c => decode c 18) zeq143).trans (by decide +kernel)
theorem d143_19 : decode (zB 143) 19 = .ok (.invokevirtual 175, 3) := (congrArg (fun c => decode c 19) zeq143).trans (by decide +kernel)
theorem d143_22 : decode (zB 143) 22 = .ok (.iload_n 2, 1) := (congrArg (fun c => decode c 22) zeq143).trans (by decide +kernel)
theorem d143_23 : decode (zB 143) 23 = .ok (.ireturn, 1) := (congrArg (fun c => decode c 23) zeq143).trans (by decide +kernel)
def yTk (b : Nat → Nat) (k : yK) (s v : Nat) : Prop := ytx b k = some (s, v)
theorem c143t {d : Nat} {M : zM} {Q : Option Value → zM → Prop} {c n o : Nat} {b : Nat → Nat} {K : yQ} {s w : Nat} (hG : GX M c n b o K) (hv : yQv n b K) (hs : s ≠ 0) (hs5 : s < 5) (e : ytx b K.1 = some (s, w)) (k : ytx b (pAd n b K.1) ≠ none → ∀ M', GX M' c n b o (pAd n b K.1, K.2) → Fi (FJ c) M M' → Q (some (.int (nI w))) M') (kb : ytx b (pAd n b K.1) = none → ∀ v M', BX M' c n b (pAd n b K.1).2.1 → Fi (FJ c) M M' → Q (some (.int v)) M') : qC (d + 11) 143 [.ref 136, .int (nI s)] M Q := by
  refine qC_of (by decide) (Nat.le_of_ble_eq_true rfl) ?_
  have hc := hG.2.1
  have h120 := hG.2.2.2.1.1
  have hk1 := hv.1.1.1
  have hk2 := hv.1.1.2.1
  have hk3 := hv.1.1.2.2.1
  obtain ⟨t, v, htv, h33, h34, h38⟩ := hG.2.2.2.2.2.1
  have ht4 := ytx_t4 htv hk3
  rw [e] at htv
  cases htv
  refine q_aload_n d143_0 rfl ?_
  refine q_getv (c := 8) (f := 33) d143_1 ⟨rfl, by decide⟩ (xk_136 hG.1) h33 ?_
  refine q_iload_n d143_4 rfl ?_
  refine nc_eq 13 d143_5 (by decide) (by omega) (by omega) (fun h5 => ?_) (fun h5 => (False.elim (h5 rfl)))
  refine q_aload_n d143_13 rfl ?_
  refine q_getv (c := 8) (f := 34) d143_14 ⟨rfl, by decide⟩ (xk_136 hG.1) (h34 (by omega)) ?_
  refine q_istore_n d143_17 (by decide) rfl ?_
  refine q_aload_n d143_18 rfl ?_
  exact q_v0 d143_19 rfl rfl (xk_136 hG.1) (Nat.le_of_ble_eq_true rfl) (c134g hG hv (fun hn M1 hG1 f1 => (q_iload_n d143_22 rfl (q_iret d143_23 rfl (k hn M1 hG1 f1)))) (fun hn M1 hB1 f1 => (q_iload_n d143_22 rfl (q_iret d143_23 rfl (kb hn _ M1 hB1 f1)))))
theorem c143n {d : Nat} {M : zM} {Q : Option Value → zM → Prop} {c n o : Nat} {b : Nat → Nat} {K : yQ} {s : Nat} (hG : GX M c n b o K) (hv : yQv n b K) (hs5 : s < 5) (e : ∀ w, ytx b K.1 ≠ some (s, w)) (kb : ∀ v M', BX M' c n b K.1.2.1 → Fi (FJ c) M M' → Q (some (.int v)) M') : qC (d + 11) 143 [.ref 136, .int (nI s)] M Q := by
  refine qC_of (by decide) (Nat.le_of_ble_eq_true rfl) ?_
  have hc := hG.2.1
  have h120 := hG.2.2.2.1.1
  have hk1 := hv.1.1.1
  have hk2 := hv.1.1.2.1
  have hk3 := hv.1.1.2.2.1
  obtain ⟨t, v, htv, h33, h34, h38⟩ := hG.2.2.2.2.2.1
  have ht4 := ytx_t4 htv hk3
  refine q_aload_n d143_0 rfl ?_
  refine q_getv (c := 8) (f := 33) d143_1 ⟨rfl, by decide⟩ (xk_136 hG.1) h33 ?_
  refine q_iload_n d143_4 rfl ?_
  refine nc_eq 13 d143_5 (by decide) (by omega) (by omega) (fun h5 => (False.elim (e v (by rw [h5] at htv; exact htv)))) (fun h5 => ?_)
  refine q_aload_n d143_8 rfl ?_
  refine q_iconstN (z := 1) d143_9 ?_
  refine q_putz (c := 8) (f := 38) d143_10 ⟨rfl, rfl, by decide⟩ (xk_136 hG.1) (Or.inr rfl) ?_
  refine q_aload_n d143_13 rfl ?_
  refine q_getv (c := 8) (f := 34) d143_14 ⟨rfl, by decide⟩ (xk_136 hG.1) rfl ?_
  refine q_istore_n d143_17 (by decide) rfl ?_
  refine q_aload_n d143_18 rfl ?_
  refine q_v0 d143_19 rfl rfl (xk_136 hG.1) (Nat.le_of_ble_eq_true rfl) (c134b hG.bad ?_)
  refine q_iload_n d143_22 rfl ?_
  refine q_iret d143_23 rfl ?_
  exact kb _ _ hG.bad GX.badF
/-! ===== the reference: a step is read ===== -/
/-! the reference reads a step -/
def GK (M : zM) (n : Nat) (b : Nat → Nat) (k : yK) : Prop := SX M ∧ TXp M n b ∧ (zi M 136 31 = nI k.2.2 ∧ zi M 136 32 = nI k.2.1) ∧ ∃ t v, ytx b k = some (t, v) ∧ zi M 136 33 = nI t ∧ (t ≠ 0 → zi M 136 34 = nI v) ∧ zi M 136 38 = nI 0
def BK (M : zM) (n : Nat) (b : Nat → Nat) (f : Nat) : Prop := SX M ∧ TXp M n b ∧ zi M 136 38 = nI 1 ∧ zi M 136 32 = nI f
def GM (M : zM) (c n : Nat) (b : Nat → Nat) (o : Nat) (k : yK) (T : yT) : Prop := GK M n b k ∧ c < 6 ∧ zi M 136 0 = nI c ∧ zi M 136 35 = nI o ∧ zi M 136 36 = tp T ∧ zi M 136 37 = nI (tn T + 1) ∧ XRw M c T
theorem GK.w {M : zM} {n : Nat} {b : Nat → Nat} {k : yK} (h : GK M n b k) : zi M 136 38 = nI 0 := by obtain ⟨t, v, h1, h2, h3, h4⟩ := h.2.2.2; exact h4
theorem GX.k {M : zM} {c n o : Nat} {b : Nat → Nat} {K : yQ} (h : GX M c n b o K) : GK M n b K.1 := ⟨h.1, h.2.2.2.1, h.2.2.2.2.1, h.2.2.2.2.2.1⟩
/-- the cells of a step's row -/
def FRw (c i : Nat) : Nat → Nat → Prop := fun a j => (a = 140 + c ∨ a = 147 + c ∨ a = 154 + c ∨ a = 161 + c ∨ a = 168 + c) ∧ j = i
theorem FRw_J {c i a k : Nat} (h : FRw c i a k) : FJ c a k := by unfold FRw at h; unfold FJ; omega
theorem GK.fi {M M' : zM} {F : Nat → Nat → Prop} {n : Nat} {b : Nat → Nat} {k : yK} (h : GK M n b k) (f : Fi F M M') (hs : (∀ j, 29 < j → j < 39 → (j < 35 ∨ j = 38) → ¬ F 136 j) ∧ ∀ j, ¬ F 208 j) : GK M' n b k := by
  obtain ⟨h1, h2, ⟨h3, h4⟩, t, v, h5, h6, h7, h8⟩ := h
  exact ⟨SX_fi h1 f, TXp_fi h2 f ⟨hs.1 _ (by omega) (by omega) (by omega), hs.2⟩, ⟨(f.1 _ _ (hs.1 _ (by omega) (by omega) (by omega))).trans h3, (f.1 _ _ (hs.1 _ (by omega) (by omega) (by omega))).trans h4⟩, t, v, h5, (f.1 _ _ (hs.1 _ (by omega) (by omega) (by omega))).trans h6, fun q => (f.1 _ _ (hs.1 _ (by omega) (by omega) (by omega))).trans (h7 q), (f.1 _ _ (hs.1 _ (by omega) (by omega) (by omega))).trans h8⟩
theorem GM.fn {M M' : zM} {c n o : Nat} {b : Nat → Nat} {k k1 : yK} {T : yT} (h : GM M c n b o k T) (hk : GK M' n b k1) (f : Fi FN M M') : GM M' c n b o k1 T := by
  obtain ⟨h1, h2, h3, h4, h5, h6, h7⟩ := h
  exact ⟨hk, h2, (f.1 _ _ (by unfold FN; omega)).trans h3, (f.1 _ _ (by unfold FN; omega)).trans h4, (f.1 _ _ (by unfold FN; omega)).trans h5, (f.1 _ _ (by unfold FN; omega)).trans h6, h7.fi f (fun a j q => by unfold FN; omega)⟩
theorem GM.rw {M M' : zM} {c n o : Nat} {b : Nat → Nat} {k : yK} {T : yT} (h : GM M c n b o k T) (f : Fi (FRw c (tn T)) M M') : GM M' c n b o k T := by
  obtain ⟨h1, h2, h3, h4, h5, h6, h7⟩ := h
  exact ⟨h1.fi f ⟨fun j _ _ _ => by unfold FRw; omega, fun j => by unfold FRw; omega⟩, h2, (f.1 _ _ (by unfold FRw; omega)).trans h3, (f.1 _ _ (by unfold FRw; omega)).trans h4, (f.1 _ _ (by unfold FRw; omega)).trans h5, (f.1 _ _ (by unfold FRw; omega)).trans h6, fun j hj => ⟨(f.1 _ _ (by unfold FRw; omega)).trans (h7 j hj).1, (f.1 _ _ (by unfold FRw; omega)).trans (h7 j hj).2.1, (f.1 _ _ (by unfold FRw; omega)).trans (h7 j hj).2.2.1, (f.1 _ _ (by unfold FRw; omega)).trans (h7 j hj).2.2.2.1, (f.1 _ _ (by unfold FRw; omega)).trans (h7 j hj).2.2.2.2⟩⟩
theorem GM.b {M M' : zM} {c n o f : Nat} {b : Nat → Nat} {k : yK} {T : yT} (h : GM M c n b o k T) (hb : BK M' n b f) (g : Fi FN M M') : BX M' c n b f := ⟨hb.1, h.2.1, (g.1 _ _ (by unfold FN; omega)).trans h.2.2.1, hb.2.1, hb.2.2.1, hb.2.2.2⟩
theorem GM.e {M : zM} {c n o kd ah : Nat} {b : Nat → Nat} {k : yK} {T : yT} {x y z : Int32} (h : GM M c n b o k T) (h1 : zi M (140 + c) (tn T) = nI kd) (h2 : zi M (147 + c) (tn T) = x) (h3 : zi M (154 + c) (tn T) = y) (h4 : zi M (161 + c) (tn T) = z) (h5 : zi M (168 + c) (tn T) = nI ah) : GX M c n b o (k, pAp T kd x y z ah) := by
  obtain ⟨⟨a1, a2, a3, a4⟩, b2, b3, b4, b5, b6, b7⟩ := h
  refine ⟨a1, b2, b3, a2, a3, a4, b4, b5, b6, fun j hj => ?_⟩
  show zi M (140 + c) j = nI (yu (tk T) (tn T) kd j) ∧ zi M (147 + c) j = yu (tf T) (tn T) x j ∧ zi M (154 + c) j = yu (ts T) (tn T) y j ∧ zi M (161 + c) j = yu (tu T) (tn T) z j ∧ zi M (168 + c) j = nI (yu (ta T) (tn T) ah j)
  by_cases e : j = tn T
  · subst e; simp only [yu_s]; exact ⟨h1, h2, h3, h4, h5⟩
  · simp only [yu_n e]
    have hj : j < tn T + 1 := hj
    exact b7 j (by omega)
theorem c134k {d : Nat} {M : zM} {Q : Option Value → zM → Prop} {n : Nat} {b : Nat → Nat} {k0 : yK} (hG : GK M n b k0) (hv : yKv n b k0) (k : ytx b (pAd n b k0) ≠ none → ∀ M', GK M' n b (pAd n b k0) → Fi FN M M' → Q none M') (kb : ytx b (pAd n b k0) = none → ∀ M', BK M' n b (pAd n b k0).2.1 → Fi FN M M' → Q none M') : qC (d + 10) 134 [.ref 136] M Q := by
  refine c134 hG.1 hG.2.1 hG.2.2.1.1 hv.1.2.1 hG.w (fun M' h1 h2 h3 f => ?_)
  have hX := SX_fi hG.1 f
  have ht := TXp_fi hG.2.1 f FN_t
  cases e : ytx b (pAd n b k0) with
  | none => exact kb e M' ⟨hX, ht, h3.2 e, h2⟩ f
  | some r => exact k (by rw [e]; exact fun q => by cases q) M' ⟨hX, ht, ⟨h1, h2⟩, r.1, r.2, e, h3.1 r.1 r.2 e⟩ f
/-- a bad end -/
def cBad (b : Nat → Nat) (R : Except Nat (Nat × yQ)) (f : Nat) : Prop := R = .error f ∨ ∃ w K1, R = .ok (w, K1) ∧ ytx b K1.1 = none ∧ K1.1.2.1 = f
theorem cOX.bad {Q : Option Value → zM → Prop} {M : zM} {c n o f : Nat} {b : Nat → Nat} {R : Except Nat (Nat × yQ)} (h : cOX Q M c n b o R) (e : cBad b R f) : ∀ v M', BX M' c n b f → Fi (FJ c) M M' → Q (some (.int v)) M' := by
  rcases e with e | ⟨w, K1, e, e1, e2⟩
  · exact h.e e
  · subst e2; exact h.b e e1
theorem pAc_b {n : Nat} {b : Nat → Nat} {k : yK} (h : ∀ w, ytx b k ≠ some (2, w)) : pAc n b k = .error k.2.1 := by
  unfold pAc
  refine if_neg (fun q => h (b k.2.1 - 97) ?_)
  unfold ytx
  rw [if_neg (by omega), if_pos q.1, if_pos q.2]
theorem pNu_b {n : Nat} {b : Nat → Nat} {k : yK} (h : ∀ w, ytx b k ≠ some (3, w)) : pNu n b k = .error k.2.1 := by
  unfold pNu
  refine if_neg (fun q => h (ynd b k.2.1 (k.2.2 - k.2.1)) ?_)
  unfold ytx
  rw [if_neg (by omega), if_neg (by omega), if_pos q]
theorem ytx_i {b : Nat → Nat} {k : yK} {t v : Nat} (h : ytx b k = some (t, v)) : (t = 1 → k.1 = 1 ∧ v = ykw b k.2.1 k.2.2 ∧ v < 6) ∧ (t = 2 → k.1 = 1 ∧ (k.2.2 - k.2.1 = 1 ∧ b k.2.1 ≤ 102) ∧ v = b k.2.1 - 97) ∧ (t = 3 → k.1 = 2 ∧ v = ynd b k.2.1 (k.2.2 - k.2.1)) ∧ (t = 0 → k.1 = 0) := by
  unfold ytx at h
  by_cases c0 : k.1 = 0
  · rw [if_pos c0] at h; cases h; exact ⟨by omega, by omega, by omega, fun _ => c0⟩
  · rw [if_neg c0] at h
    by_cases c1 : k.1 = 1
    · rw [if_pos c1] at h
      by_cases d1 : k.2.2 - k.2.1 = 1 ∧ b k.2.1 ≤ 102
      · rw [if_pos d1] at h; cases h; exact ⟨by omega, fun _ => ⟨c1, d1, rfl⟩, by omega, by omega⟩
      · rw [if_neg d1] at h
        by_cases d2 : ykw b k.2.1 k.2.2 < 6
        · rw [if_pos d2] at h; cases h; exact ⟨fun _ => ⟨c1, rfl, d2⟩, by omega, by omega, by omega⟩
        · rw [if_neg d2] at h; cases h
    · rw [if_neg c1] at h
      by_cases c2 : k.1 = 2
      · rw [if_pos c2] at h; cases h; exact ⟨by omega, by omega, fun _ => ⟨c2, rfl⟩, by omega⟩
      · rw [if_neg c2] at h
        by_cases c3 : k.1 = 3
        · rw [if_pos c3] at h; cases h
        · rw [if_neg c3] at h; cases h; exact ⟨by omega, by omega, by omega, by omega⟩
theorem pAc_g {n w : Nat} {b : Nat → Nat} {k : yK} (h : ytx b k = some (2, w)) : pAc n b k = .ok (w, pAd n b k) := by
  obtain ⟨h1, h2, h3⟩ := (ytx_i h).2.1 rfl
  unfold pAc
  rw [if_pos ⟨h1, h2⟩, h3]
theorem pNu_g {n w : Nat} {b : Nat → Nat} {k : yK} (h : ytx b k = some (3, w)) : pNu n b k = .ok (w, pAd n b k) := by
  obtain ⟨h1, h2⟩ := (ytx_i h).2.2.1 rfl
  unfold pNu
  rw [if_pos h1, h2]
/-- the rest of a step, its accounts and number -/
def pS3 (n : Nat) (b : Nat → Nat) (kd ah : Nat) (T : yT) (x y : Int32) (k2 : yK) : Except Nat (Nat × yQ) := match pA3 n b kd k2 with
  | .error f => .error f
  | .ok (z, k3) => .ok (2 ^ tn T, (k3, pAp T kd x y z ah))
def pS2 (n : Nat) (b : Nat → Nat) (kd ah : Nat) (T : yT) (x : Int32) (k1 : yK) : Except Nat (Nat × yQ) := match pA2 n b kd k1 with
  | .error f => .error f
  | .ok (y, k2) => pS3 n b kd ah T x y k2
def pS1 (n : Nat) (b : Nat → Nat) (kd ah : Nat) (T : yT) (k0 : yK) : Except Nat (Nat × yQ) := match pA1 n b kd k0 with
  | .error f => .error f
  | .ok (x, k1) => pS2 n b kd ah T x k1
theorem pSt_1 {n ah kd : Nat} {b : Nat → Nat} {K : yQ} (h : ykw b K.1.2.1 K.1.2.2 = kd) (h6 : kd < 6) (h12 : tn K.2 < 12) : pSt n b ah K = pS1 n b kd ah K.2 (pAd n b K.1) := by
  subst h
  unfold pSt pS1 pS2 pS3
  exact if_neg (by omega)
theorem pS3_b {n kd ah : Nat} {b : Nat → Nat} {T : yT} {x y : Int32} {k : yK} (h : ytx b k = none) : cBad b (pS3 n b kd ah T x y k) k.2.1 := by
  unfold pS3 pA3
  by_cases c : kd ≠ 4 ∧ kd ≠ 5
  · rw [if_pos c, pNu_b (fun w q => by rw [h] at q; cases q)]; exact Or.inl rfl
  · rw [if_neg c]; exact Or.inr ⟨_, _, rfl, h, rfl⟩
theorem pS2_b {n kd ah : Nat} {b : Nat → Nat} {T : yT} {x : Int32} {k : yK} (h : ytx b k = none) : cBad b (pS2 n b kd ah T x k) k.2.1 := by
  unfold pS2 pA2
  by_cases c : kd = 2 ∨ kd = 4
  · rw [if_pos c, pAc_b (fun w q => by rw [h] at q; cases q)]; exact Or.inl rfl
  · rw [if_neg c]; exact pS3_b h
theorem pS1_b {n kd ah : Nat} {b : Nat → Nat} {T : yT} {k : yK} (h : ytx b k = none) : cBad b (pS1 n b kd ah T k) k.2.1 := by
  unfold pS1 pA1
  by_cases c : kd = 5
  · rw [if_pos c]; exact pS2_b h
  · rw [if_neg c, pAc_b (fun w q => by rw [h] at q; cases q)]; exact Or.inl rfl
theorem d142_0 : decode (zB 142) 0 = .ok (.aload_n 0, 1) := (congrArg (fun c => decode c 0) zeq142).trans (by decide +kernel)
theorem d142_1 : decode (zB 142) 1 = .ok (.getfield 194, 3) := (congrArg (fun c => decode c 1) zeq142).trans (by decide +kernel)
theorem d142_4 : decode (zB 142) 4 = .ok (.istore_n 2, 1) := (congrArg (fun c => decode c 4) zeq142).trans (by decide +kernel)
theorem d142_5 : decode (zB 142) 5 = .ok (.aload_n 0, 1) := (congrArg (fun c => decode c 5) zeq142).trans (by decide +kernel)
theorem d142_6 : decode (zB 142) 6 = .ok (.dup, 1) := (congrArg (fun c => decode c 6) zeq142).trans (by decide +kernel)
theorem d142_7 : decode (zB 142) 7 = .ok (.getfield 194, 3) := (congrArg (fun c => decode c 7) zeq142).trans (by decide +kernel)
theorem d142_10 : decode (zB 142) 10 = .ok (.iconst 1, 1) := (congrArg (fun c => decode c 10) zeq142).trans (by decide +kernel)
theorem d142_11 : decode (zB 142) 11 = .ok (.iadd, 1) := (congrArg (fun c => decode c 11) zeq142).trans (by decide +kernel)
theorem d142_12 : decode (zB 142) 12 = .ok (.putfield 194, 3) := (congrArg (fun c => decode c 12) zeq142).trans (by decide +kernel)
theorem d142_15 : decode (zB 142) 15 = .ok (.aload_n 0, 1) := (congrArg (fun c => decode c 15) zeq142).trans (by decide +kernel)
theorem d142_16 : decode (zB 142) 16 = .ok (.getfield 172, 3) := (congrArg (fun c => decode c 16) zeq142).trans (by decide +kernel)
theorem d142_19 : decode (zB 142) 19 = .ok (.istore_n 3, 1) := (congrArg (fun c => decode c 19) zeq142).trans (by decide +kernel)
theorem d142_20 : decode (zB 142) 20 = .ok (.aload_n 0, 1) := (congrArg (fun c => decode c 20) zeq142).trans (by decide +kernel)
theorem d142_21 : decode (zB 142) 21 = .ok (.invokevirtual 175, 3) := (congrArg (fun c => decode c 21) zeq142).trans (by decide +kernel)
theorem d142_24 : decode (zB 142) 24 = .ok (.aload_n 0, 1) := (congrArg (fun c => decode c 24) zeq142).trans (by decide +kernel)
theorem d142_25 : decode (zB 142) 25 = .ok (.getfield 18, 3) := (congrArg (fun c => decode c 25) zeq142).trans (by decide +kernel)
theorem d142_28 : decode (zB 142) 28 = .ok (.aload_n 0, 1) := (congrArg (fun c => decode c 28) zeq142).trans (by decide +kernel)
theorem d142_29 : decode (zB 142) 29 = .ok (.getfield 116, 3) := (congrArg (fun c => decode c 29) zeq142).trans (by decide +kernel)
theorem d142_32 : decode (zB 142) 32 = .ok (.aaload, 1) := (congrArg (fun c => decode c 32) zeq142).trans (by decide +kernel)
theorem d142_33 : decode (zB 142) 33 = .ok (.iload_n 2, 1) := (congrArg (fun c => decode c 33) zeq142).trans (by decide +kernel)
theorem d142_34 : decode (zB 142) 34 = .ok (.iload_n 3, 1) := (congrArg (fun c => decode c 34) zeq142).trans (by decide +kernel)
theorem d142_35 : decode (zB 142) 35 = .ok (.iastore, 1) := (congrArg (fun c => decode c 35) zeq142).trans (by decide +kernel)
theorem d142_36 : decode (zB 142) 36 = .ok (.aload_n 0, 1) := (congrArg (fun c => decode c 36) zeq142).trans (by decide +kernel)
theorem d142_37 : decode (zB 142) 37 = .ok (.getfield 21, 3) := (congrArg (fun c => decode c 37) zeq142).trans (by decide +kernel)
theorem d142_40 : decode (zB 142) 40 = .ok (.aload_n 0, 1) := (congrArg (fun c => decode c 40) zeq142).trans (by decide +kernel)
theorem d142_41 : decode (zB 142) 41 = .ok (.getfield 116, 3) := (congrArg (fun c => decode c 41) zeq142).trans (by decide +kernel)
theorem d142_44 : decode (zB 142) 44 = .ok (.aaload, 1) := (congrArg (fun c => decode c 44) zeq142).trans (by decide +kernel)
theorem d142_45 : decode (zB 142) 45 = .ok (.iload_n 2, 1) := (congrArg (fun c => decode c 45) zeq142).trans (by decide +kernel)
theorem d142_46 : decode (zB 142) 46 = .ok (.iload_n 3, 1) := (congrArg (fun c => decode c 46) zeq142).trans (by decide +kernel)
theorem d142_47 : decode (zB 142) 47 = .ok (.iconst 5, 1) := (congrArg (fun c => decode c 47) zeq142).trans (by decide +kernel)
theorem d142_48 : decode (zB 142) 48 = .ok (.if_icmp .eq 10, 3) := (congrArg (fun c => decode c 48) zeq142).trans (by decide +kernel)
theorem d142_51 : decode (zB 142) 51 = .ok (.aload_n 0, 1) := (congrArg (fun c => decode c 51) zeq142).trans (by decide +kernel)
theorem d142_52 : decode (zB 142) 52 = .ok (.getfield 162, 3) := (congrArg (fun c => decode c 52) zeq142).trans (by decide +kernel)
theorem d142_55 : decode (zB 142) 55 = .ok (.ifCond .eq 7, 3) := (congrArg (fun c => decode c 55) zeq142).trans (by decide +kernel)
theorem d142_58 : decode (zB 142) 58 = .ok (.iconst (-1), 1) := (congrArg (fun c => decode c 58) zeq142).trans (by decide +kernel)
theorem d142_59 : decode (zB 142) 59 = .ok (.goto 8, 3) := (congrArg (fun c => decode c 59) zeq142).trans (by decide +kernel)
theorem d142_62 : decode (zB 142) 62 = .ok (.aload_n 0, 1) := (congrArg (fun c => decode c 62) zeq142).trans (by decide +kernel)
theorem d142_63 : decode (zB 142) 63 = .ok (.iconst 2, 1) := (congrArg (fun c => decode c 63) zeq142).trans (by decide +kernel)
theorem d142_64 : decode (zB 142) 64 = .ok (.invokevirtual 203, 3) := (congrArg (fun c => decode c 64) zeq142).trans (by decide +kernel)
theorem d142_67 : decode (zB 142) 67 = .ok (.iastore, 1) := (congrArg (fun c => decode c 67) zeq142).trans (by decide +kernel)
theorem d142_68 : decode (zB 142) 68 = .ok (.aload_n 0, 1) := (congrArg (fun c => decode c 68) zeq142).trans (by decide +kernel)
theorem d142_69 : decode (zB 142) 69 = .ok (.getfield 24, 3) := (congrArg (fun c => decode c 69) zeq142).trans (by decide +kernel)
theorem d142_72 : decode (zB 142) 72 = .ok (.aload_n 0, 1) := (congrArg (fun c => decode c 72) zeq142).trans (by decide +kernel)
theorem d142_73 : decode (zB 142) 73 = .ok (.getfield 116, 3) := (congrArg (fun c => decode c 73) zeq142).trans (by decide +kernel)
theorem d142_76 : decode (zB 142) 76 = .ok (.aaload, 1) := (congrArg (fun c => decode c 76) zeq142).trans (by decide +kernel)
theorem d142_77 : decode (zB 142) 77 = .ok (.iload_n 2, 1) := (congrArg (fun c => decode c 77) zeq142).trans (by decide +kernel)
theorem d142_78 : decode (zB 142) 78 = .ok (.iload_n 3, 1) := (congrArg (fun c => decode c 78) zeq142).trans (by decide +kernel)
theorem d142_79 : decode (zB 142) 79 = .ok (.iconst 2, 1) := (congrArg (fun c => decode c 79) zeq142).trans (by decide +kernel)
theorem d142_80 : decode (zB 142) 80 = .ok (.if_icmp .eq 8, 3) := (congrArg (fun c => decode c 80) zeq142).trans (by decide +kernel)
theorem d142_83 : decode (zB 142) 83 = .ok (.iload_n 3, 1) := (congrArg (fun c => decode c 83) zeq142).trans (by decide +kernel)
theorem d142_84 : decode (zB 142) 84 = .ok (.iconst 4, 1) := (congrArg (fun c => decode c 84) zeq142).trans (by decide +kernel)
theorem d142_85 : decode (zB 142) 85 = .ok (.if_icmp .ne 10, 3) := (congrArg (fun c => decode c 85) zeq142).trans (by decide +kernel)
theorem d142_88 : decode (zB 142) 88 = .ok (.aload_n 0, 1) := (congrArg (fun c => decode c 88) zeq142).trans (by decide +kernel)
theorem d142_89 : decode (zB 142) 89 = .ok (.getfield 162, 3) := (congrArg (fun c => decode c 89) zeq142).trans (by decide +kernel)
theorem d142_92 : decode (zB 142) 92 = .ok (.ifCond .eq 7, 3) := (congrArg (fun c => decode c 92) zeq142).trans (by decide +kernel)
theorem d142_95 : decode (zB 142) 95 = .ok (.iconst (-1), 1) := (congrArg (fun c => decode c 95) zeq142).trans (by decide +kernel)
theorem d142_96 : decode (zB 142) 96 = .ok (.goto 8, 3) := (congrArg (fun c => decode c 96) zeq142).trans (by decide +kernel)
theorem d142_99 : decode (zB 142) 99 = .ok (.aload_n 0, 1) := (congrArg (fun c => decode c 99) zeq142).trans (by decide +kernel)
theorem d142_100 : decode (zB 142) 100 = .ok (.iconst 2, 1) := (congrArg (fun c => decode c 100) zeq142).trans (by decide +kernel)
theorem d142_101 : decode (zB 142) 101 = .ok (.invokevirtual 203, 3) := (congrArg (fun c => decode c 101) zeq142).trans (by decide +kernel)
theorem d142_104 : decode (zB 142) 104 = .ok (.iastore, 1) := (congrArg (fun c => decode c 104) zeq142).trans (by decide +kernel)
theorem d142_105 : decode (zB 142) 105 = .ok (.aload_n 0, 1) := (congrArg (fun c => decode c 105) zeq142).trans (by decide +kernel)
theorem d142_106 : decode (zB 142) 106 = .ok (.getfield 27, 3) := (congrArg (fun c => decode c 106) zeq142).trans (by decide +kernel)
theorem d142_109 : decode (zB 142) 109 = .ok (.aload_n 0, 1) := (congrArg (fun c => decode c 109) zeq142).trans (by decide +kernel)
theorem d142_110 : decode (zB 142) 110 = .ok (.getfield 116, 3) := (congrArg (fun c => decode c 110) zeq142).trans (by decide +kernel)
theorem d142_113 : decode (zB 142) 113 = .ok (.aaload, 1) := (congrArg (fun c => decode c 113) zeq142).trans (by decide +kernel)
theorem d142_114 : decode (zB 142) 114 = .ok (.iload_n 2, 1) := (congrArg (fun c => decode c 114) zeq142).trans (by decide +kernel)
theorem d142_115 : decode (zB 142) 115 = .ok (.iload_n 3, 1) := (congrArg (fun c => decode c 115) zeq142).trans (by decide +kernel)
theorem d142_116 : decode (zB 142) 116 = .ok (.iconst 5, 1) := (congrArg (fun c => decode c 116) zeq142).trans (by decide +kernel)
theorem d142_117 : decode (zB 142) 117 = .ok (.if_icmp .eq 15, 3) := (congrArg (fun c => decode c 117) zeq142).trans (by decide +kernel)
theorem d142_120 : decode (zB 142) 120 = .ok (.iload_n 3, 1) := (congrArg (fun c => decode c 120) zeq142).trans (by decide +kernel)
theorem d142_121 : decode (zB 142) 121 = .ok (.iconst 4, 1) := (congrArg (fun c => decode c 121) zeq142).trans (by decide +kernel)
theorem d142_122 : decode (zB 142) 122 = .ok (.if_icmp .eq 10, 3) := (congrArg (fun c => decode c 122) zeq142).trans (by decide +kernel)
theorem d142_125 : decode (zB 142) 125 = .ok (.aload_n 0, 1) := (congrArg (fun c => decode c 125) zeq142).trans (by decide +kernel)
theorem d142_126 : decode (zB 142) 126 = .ok (.getfield 162, 3) := (congrArg (fun c => decode c 126) zeq142).trans (by decide +kernel)
theorem d142_129 : decode (zB 142) 129 = .ok (.ifCond .eq 7, 3) := (congrArg (fun c => decode c 129) zeq142).trans (by decide +kernel)
theorem d142_132 : decode (zB 142) 132 = .ok (.iconst (-1), 1) := (congrArg (fun c => decode c 132) zeq142).trans (by decide +kernel)
theorem d142_133 : decode (zB 142) 133 = .ok (.goto 8, 3) := (congrArg (fun c => decode c 133) zeq142).trans (by decide +kernel)
theorem d142_136 : decode (zB 142) 136 = .ok (.aload_n 0, 1) := (congrArg (fun c => decode c 136) zeq142).trans (by decide +kernel)
theorem d142_137 : decode (zB 142) 137 = .ok (.iconst 3, 1) := (congrArg (fun c => decode c 137) zeq142).trans (by decide +kernel)
theorem d142_138 : decode (zB 142) 138 = .ok (.invokevirtual 203, 3) := (congrArg (fun c => decode c 138) zeq142).trans (by decide +kernel)
theorem d142_141 : decode (zB 142) 141 = .ok (.iastore, 1) := (congrArg (fun c => decode c 141) zeq142).trans (by decide +kernel)
theorem d142_142 : decode (zB 142) 142 = .ok (.aload_n 0, 1) := (congrArg (fun c => decode c 142) zeq142).trans (by decide +kernel)
theorem d142_143 : decode (zB 142) 143 = .ok (.getfield 30, 3) := (congrArg (fun c => decode c 143) zeq142).trans (by decide +kernel)
theorem d142_146 : decode (zB 142) 146 = .ok (.aload_n 0, 1) := (congrArg (fun c => decode c 146) zeq142).trans (by decide +kernel)
theorem d142_147 : decode (zB 142) 147 = .ok (.getfield 116, 3) := (congrArg (fun c => decode c 147) zeq142).trans (by decide +kernel)
theorem d142_150 : decode (zB 142) 150 = .ok (.aaload, 1) := (congrArg (fun c => decode c 150) zeq142).trans (by decide +kernel)
theorem d142_151 : decode (zB 142) 151 = .ok (.iload_n 2, 1) := (congrArg (fun c => decode c 151) zeq142).trans (by decide +kernel)
theorem d142_152 : decode (zB 142) 152 = .ok (.iload_n 1, 1) := (congrArg (fun c => decode c 152) zeq142).trans (by decide +kernel)
theorem d142_153 : decode (zB 142) 153 = .ok (.iastore, 1) := (congrArg (fun c => decode c 153) zeq142).trans (by decide +kernel)
theorem d142_154 : decode (zB 142) 154 = .ok (.iconst 1, 1) := (congrArg (fun c => decode c 154) zeq142).trans (by decide +kernel)
theorem d142_155 : decode (zB 142) 155 = .ok (.iload_n 2, 1) := (congrArg (fun c => decode c 155) zeq142).trans (by decide +kernel)
theorem d142_156 : decode (zB 142) 156 = .ok (.ishl, 1) := (congrArg (fun c => decode c 156) zeq142).trans (by decide +kernel)
theorem d142_157 : decode (zB 142) 157 = .ok (.ireturn, 1) := (congrArg (fun c => decode c 157) zeq142).trans (by decide +kernel)
theorem c143g {d : Nat} {M : zM} {Q : Option Value → zM → Prop} {n : Nat} {b : Nat → Nat} {k0 : yK} {s w : Nat} (hG : GK M n b k0) (hv : yKv n b k0) (hs : s ≠ 0) (hs5 : s < 5) (e : ytx b k0 = some (s, w)) (k : ytx b (pAd n b k0) ≠ none → ∀ M', GK M' n b (pAd n b k0) → Fi FN M M' → Q (some (.int (nI w))) M') (kb : ytx b (pAd n b k0) = none → ∀ v M', BK M' n b (pAd n b k0).2.1 → Fi FN M M' → Q (some (.int v)) M') : qC (d + 11) 143 [.ref 136, .int (nI s)] M Q := by
  refine qC_of (by decide) (Nat.le_of_ble_eq_true rfl) ?_
  obtain ⟨t, v, htv, h33, h34, h38⟩ := hG.2.2.2
  have ht4 := ytx_t4 htv hv.1.2.2.1
  rw [e] at htv
  cases htv
  refine q_aload_n d143_0 rfl ?_
  refine q_getv (c := 8) (f := 33) d143_1 ⟨rfl, by decide⟩ (xk_136 hG.1) h33 ?_
  refine q_iload_n d143_4 rfl ?_
  refine nc_eq 13 d143_5 (by decide) (by omega) (by omega) (fun h5 => ?_) (fun h5 => (False.elim (h5 rfl)))
  refine q_aload_n d143_13 rfl ?_
  refine q_getv (c := 8) (f := 34) d143_14 ⟨rfl, by decide⟩ (xk_136 hG.1) (h34 (by omega)) ?_
  refine q_istore_n d143_17 (by decide) rfl ?_
  refine q_aload_n d143_18 rfl ?_
  exact q_v0 d143_19 rfl rfl (xk_136 hG.1) (Nat.le_of_ble_eq_true rfl) (c134k hG hv (fun hn M1 hG1 f1 => (q_iload_n d143_22 rfl (q_iret d143_23 rfl (k hn M1 hG1 f1)))) (fun hn M1 hB1 f1 => (q_iload_n d143_22 rfl (q_iret d143_23 rfl (kb hn _ M1 hB1 f1)))))
theorem c143e {d : Nat} {M : zM} {Q : Option Value → zM → Prop} {n : Nat} {b : Nat → Nat} {k0 : yK} {s : Nat} (hG : GK M n b k0) (hv : yKv n b k0) (hs5 : s < 5) (e : ∀ w, ytx b k0 ≠ some (s, w)) (kb : ∀ v M', BK M' n b k0.2.1 → Fi FN M M' → Q (some (.int v)) M') : qC (d + 11) 143 [.ref 136, .int (nI s)] M Q := by
  refine qC_of (by decide) (Nat.le_of_ble_eq_true rfl) ?_
  obtain ⟨t, v, htv, h33, h34, h38⟩ := hG.2.2.2
  have ht4 := ytx_t4 htv hv.1.2.2.1
  refine q_aload_n d143_0 rfl ?_
  refine q_getv (c := 8) (f := 33) d143_1 ⟨rfl, by decide⟩ (xk_136 hG.1) h33 ?_
  refine q_iload_n d143_4 rfl ?_
  refine nc_eq 13 d143_5 (by decide) (by omega) (by omega) (fun h5 => (False.elim (e v (by rw [h5] at htv; exact htv)))) (fun h5 => ?_)
  refine q_aload_n d143_8 rfl ?_
  refine q_iconstN (z := 1) d143_9 ?_
  refine q_putz (c := 8) (f := 38) d143_10 ⟨rfl, rfl, by decide⟩ (xk_136 hG.1) (Or.inr rfl) ?_
  have f9 : Fi FN M (zwi M 136 38 (nI 1)) := (Fi.refl _ _).wi ⟨rfl, by omega⟩
  have hb9 : BK (zwi M 136 38 (nI 1)) n b k0.2.1 := ⟨SX_fi hG.1 f9, TXp_fi hG.2.1 f9 FN_t, wi_s _ _ _ _, (wi_n (by omega)).trans hG.2.2.1.2⟩
  refine q_aload_n d143_13 rfl ?_
  refine q_getv (c := 8) (f := 34) d143_14 ⟨rfl, by decide⟩ (xk_136 hb9.1) rfl ?_
  refine q_istore_n d143_17 (by decide) rfl ?_
  refine q_aload_n d143_18 rfl ?_
  refine q_v0 d143_19 rfl rfl (xk_136 hb9.1) (Nat.le_of_ble_eq_true rfl) (c134f hb9.1 hb9.2.2.1 ?_)
  refine q_iload_n d143_22 rfl ?_
  refine q_iret d143_23 rfl ?_
  exact kb _ _ hb9 f9
theorem b142c {d : Nat} {Q : Option Value → zM → Prop} {M1 : zM} {c n f i kd ah : Nat} {b : Nat → Nat} (hB : BX M1 c n b f) (hi : i < 12) (hk : kd < 6) (k : ∀ v M', BX M' c n b f → Fi (FJ c) M1 M' → Q (some (.int v)) M') : qW (zEv (d + 11)) 142 Q 105 [(3, .int (nI kd)), (2, .int (nI i)), (0, .ref 136), (1, .int (nI ah))] [] M1 := by
  have hc := hB.2.1
  refine q_aload_n d142_105 rfl ?_
  refine q_getr (c := 8) (f := 6) d142_106 ⟨rfl, rfl⟩ (xk_136 hB.1) (xf_numbers hB.1) ?_
  refine q_aload_n d142_109 rfl ?_
  refine q_getv (c := 8) (f := 0) d142_110 ⟨rfl, by decide⟩ (xk_136 hB.1) hB.2.2.1 ?_
  refine n_aald d142_113 (xk_numbers hB.1) (by decide) (by omega) (by decide) (xr_numbers hB.1 (by omega)) ?_
  refine q_iload_n d142_114 rfl ?_
  refine q_iload_n d142_115 rfl ?_
  refine q_iconstN (z := 5) d142_116 ?_
  refine nc_eq 132 d142_117 (by decide) (by omega) (by omega) (fun h117 => ?_) (fun h117 => ?_)
  · refine q_iconst (x := (-1)) d142_132 rfl ?_
    refine q_goto 141 d142_133 (by decide) ?_
    refine n_iast d142_141 (xa_numbers hB.1 (by omega)) (by omega) (by decide) ?_
    refine q_aload_n d142_142 rfl ?_
    refine q_getr (c := 8) (f := 7) d142_143 ⟨rfl, rfl⟩ (xk_136 hB.1) (xf_aheads hB.1) ?_
    refine q_aload_n d142_146 rfl ?_
    refine q_getv (c := 8) (f := 0) d142_147 ⟨rfl, by decide⟩ (xk_136 hB.1) (Eq.trans (by (repeat (first | rw [wi_n (Or.inl (by omega))] | rw [wi_n (Or.inr (by omega))] | rw [wi_s] | rw [wr_i] | rw [cp_n (by omega)]))) hB.2.2.1) ?_
    refine n_aald d142_150 (xk_aheads hB.1) (by decide) (by omega) (by decide) (xr_aheads hB.1 (by omega)) ?_
    refine q_iload_n d142_151 rfl ?_
    refine q_iload_n d142_152 rfl ?_
    refine n_iast d142_153 (xa_aheads hB.1 (by omega)) (by omega) (by decide) ?_
    refine q_iconstN (z := 1) d142_154 ?_
    refine q_iload_n d142_155 rfl ?_
    refine n_ishl1 d142_156 (by omega) ?_
    refine q_iret d142_157 rfl ?_
    have g : Fi (fun a k => (a = 136 ∧ (k = 35 ∨ k = 36 ∨ k = 37)) ∨ a = 140 + c ∨ a = 147 + c ∨ a = 154 + c ∨ a = 161 + c ∨ a = 168 + c) M1 (zwi (zwi M1 (161 + c) i (-1)) (168 + c) i (nI ah)) := ((Fi.refl _ _).wi (Or.inr (by omega))).wi (Or.inr (by omega))
    exact k _ _ (hB.row g) (g.mono (fun a j q => by unfold FJ; omega))
  · refine q_iload_n d142_120 rfl ?_
    refine q_iconstN (z := 4) d142_121 ?_
    refine nc_eq 132 d142_122 (by decide) (by omega) (by omega) (fun h122 => ?_) (fun h122 => ?_)
    · refine q_iconst (x := (-1)) d142_132 rfl ?_
      refine q_goto 141 d142_133 (by decide) ?_
      refine n_iast d142_141 (xa_numbers hB.1 (by omega)) (by omega) (by decide) ?_
      refine q_aload_n d142_142 rfl ?_
      refine q_getr (c := 8) (f := 7) d142_143 ⟨rfl, rfl⟩ (xk_136 hB.1) (xf_aheads hB.1) ?_
      refine q_aload_n d142_146 rfl ?_
      refine q_getv (c := 8) (f := 0) d142_147 ⟨rfl, by decide⟩ (xk_136 hB.1) (Eq.trans (by (repeat (first | rw [wi_n (Or.inl (by omega))] | rw [wi_n (Or.inr (by omega))] | rw [wi_s] | rw [wr_i] | rw [cp_n (by omega)]))) hB.2.2.1) ?_
      refine n_aald d142_150 (xk_aheads hB.1) (by decide) (by omega) (by decide) (xr_aheads hB.1 (by omega)) ?_
      refine q_iload_n d142_151 rfl ?_
      refine q_iload_n d142_152 rfl ?_
      refine n_iast d142_153 (xa_aheads hB.1 (by omega)) (by omega) (by decide) ?_
      refine q_iconstN (z := 1) d142_154 ?_
      refine q_iload_n d142_155 rfl ?_
      refine n_ishl1 d142_156 (by omega) ?_
      refine q_iret d142_157 rfl ?_
      have g : Fi (fun a k => (a = 136 ∧ (k = 35 ∨ k = 36 ∨ k = 37)) ∨ a = 140 + c ∨ a = 147 + c ∨ a = 154 + c ∨ a = 161 + c ∨ a = 168 + c) M1 (zwi (zwi M1 (161 + c) i (-1)) (168 + c) i (nI ah)) := ((Fi.refl _ _).wi (Or.inr (by omega))).wi (Or.inr (by omega))
      exact k _ _ (hB.row g) (g.mono (fun a j q => by unfold FJ; omega))
    · refine q_aload_n d142_125 rfl ?_
      refine q_getv (c := 8) (f := 38) d142_126 ⟨rfl, by decide⟩ (xk_136 hB.1) hB.f0 ?_
      refine n0_eq 136 d142_129 (by decide) (by decide) (fun q => absurd q (by decide)) (fun _ => ?_)
      refine q_iconst (x := (-1)) d142_132 rfl ?_
      refine q_goto 141 d142_133 (by decide) ?_
      refine n_iast d142_141 (xa_numbers hB.1 (by omega)) (by omega) (by decide) ?_
      refine q_aload_n d142_142 rfl ?_
      refine q_getr (c := 8) (f := 7) d142_143 ⟨rfl, rfl⟩ (xk_136 hB.1) (xf_aheads hB.1) ?_
      refine q_aload_n d142_146 rfl ?_
      refine q_getv (c := 8) (f := 0) d142_147 ⟨rfl, by decide⟩ (xk_136 hB.1) (Eq.trans (by (repeat (first | rw [wi_n (Or.inl (by omega))] | rw [wi_n (Or.inr (by omega))] | rw [wi_s] | rw [wr_i] | rw [cp_n (by omega)]))) hB.2.2.1) ?_
      refine n_aald d142_150 (xk_aheads hB.1) (by decide) (by omega) (by decide) (xr_aheads hB.1 (by omega)) ?_
      refine q_iload_n d142_151 rfl ?_
      refine q_iload_n d142_152 rfl ?_
      refine n_iast d142_153 (xa_aheads hB.1 (by omega)) (by omega) (by decide) ?_
      refine q_iconstN (z := 1) d142_154 ?_
      refine q_iload_n d142_155 rfl ?_
      refine n_ishl1 d142_156 (by omega) ?_
      refine q_iret d142_157 rfl ?_
      have g : Fi (fun a k => (a = 136 ∧ (k = 35 ∨ k = 36 ∨ k = 37)) ∨ a = 140 + c ∨ a = 147 + c ∨ a = 154 + c ∨ a = 161 + c ∨ a = 168 + c) M1 (zwi (zwi M1 (161 + c) i (-1)) (168 + c) i (nI ah)) := ((Fi.refl _ _).wi (Or.inr (by omega))).wi (Or.inr (by omega))
      exact k _ _ (hB.row g) (g.mono (fun a j q => by unfold FJ; omega))
theorem b142b {d : Nat} {Q : Option Value → zM → Prop} {M1 : zM} {c n f i kd ah : Nat} {b : Nat → Nat} (hB : BX M1 c n b f) (hi : i < 12) (hk : kd < 6) (k : ∀ v M', BX M' c n b f → Fi (FJ c) M1 M' → Q (some (.int v)) M') : qW (zEv (d + 11)) 142 Q 68 [(3, .int (nI kd)), (2, .int (nI i)), (0, .ref 136), (1, .int (nI ah))] [] M1 := by
  have hc := hB.2.1
  refine q_aload_n d142_68 rfl ?_
  refine q_getr (c := 8) (f := 5) d142_69 ⟨rfl, rfl⟩ (xk_136 hB.1) (xf_seconds hB.1) ?_
  refine q_aload_n d142_72 rfl ?_
  refine q_getv (c := 8) (f := 0) d142_73 ⟨rfl, by decide⟩ (xk_136 hB.1) hB.2.2.1 ?_
  refine n_aald d142_76 (xk_seconds hB.1) (by decide) (by omega) (by decide) (xr_seconds hB.1 (by omega)) ?_
  refine q_iload_n d142_77 rfl ?_
  refine q_iload_n d142_78 rfl ?_
  refine q_iconstN (z := 2) d142_79 ?_
  refine nc_eq 88 d142_80 (by decide) (by omega) (by omega) (fun h80 => ?_) (fun h80 => ?_)
  · refine q_aload_n d142_88 rfl ?_
    refine q_getv (c := 8) (f := 38) d142_89 ⟨rfl, by decide⟩ (xk_136 hB.1) hB.f0 ?_
    refine n0_eq 99 d142_92 (by decide) (by decide) (fun q => absurd q (by decide)) (fun _ => ?_)
    refine q_iconst (x := (-1)) d142_95 rfl ?_
    refine q_goto 104 d142_96 (by decide) ?_
    refine n_iast d142_104 (xa_seconds hB.1 (by omega)) (by omega) (by decide) ?_
    have g : Fi (fun a k => (a = 136 ∧ (k = 35 ∨ k = 36 ∨ k = 37)) ∨ a = 140 + c ∨ a = 147 + c ∨ a = 154 + c ∨ a = 161 + c ∨ a = 168 + c) M1 (zwi M1 (154 + c) i (-1)) := (Fi.refl _ _).wi (Or.inr (by omega))
    exact b142c (hB.row g) hi hk (fun v M' h1 h2 => k v M' h1 ((g.mono (fun a j q => by unfold FJ; omega)).trans h2))
  · refine q_iload_n d142_83 rfl ?_
    refine q_iconstN (z := 4) d142_84 ?_
    refine nc_ne 95 d142_85 (by decide) (by omega) (by omega) (fun h85 => ?_) (fun h85 => ?_)
    · refine q_iconst (x := (-1)) d142_95 rfl ?_
      refine q_goto 104 d142_96 (by decide) ?_
      refine n_iast d142_104 (xa_seconds hB.1 (by omega)) (by omega) (by decide) ?_
      have g : Fi (fun a k => (a = 136 ∧ (k = 35 ∨ k = 36 ∨ k = 37)) ∨ a = 140 + c ∨ a = 147 + c ∨ a = 154 + c ∨ a = 161 + c ∨ a = 168 + c) M1 (zwi M1 (154 + c) i (-1)) := (Fi.refl _ _).wi (Or.inr (by omega))
      exact b142c (hB.row g) hi hk (fun v M' h1 h2 => k v M' h1 ((g.mono (fun a j q => by unfold FJ; omega)).trans h2))
    · refine q_aload_n d142_88 rfl ?_
      refine q_getv (c := 8) (f := 38) d142_89 ⟨rfl, by decide⟩ (xk_136 hB.1) hB.f0 ?_
      refine n0_eq 99 d142_92 (by decide) (by decide) (fun q => absurd q (by decide)) (fun _ => ?_)
      refine q_iconst (x := (-1)) d142_95 rfl ?_
      refine q_goto 104 d142_96 (by decide) ?_
      refine n_iast d142_104 (xa_seconds hB.1 (by omega)) (by omega) (by decide) ?_
      have g : Fi (fun a k => (a = 136 ∧ (k = 35 ∨ k = 36 ∨ k = 37)) ∨ a = 140 + c ∨ a = 147 + c ∨ a = 154 + c ∨ a = 161 + c ∨ a = 168 + c) M1 (zwi M1 (154 + c) i (-1)) := (Fi.refl _ _).wi (Or.inr (by omega))
      exact b142c (hB.row g) hi hk (fun v M' h1 h2 => k v M' h1 ((g.mono (fun a j q => by unfold FJ; omega)).trans h2))
theorem b142a {d : Nat} {Q : Option Value → zM → Prop} {M1 : zM} {c n f i kd ah : Nat} {b : Nat → Nat} (hB : BX M1 c n b f) (hi : i < 12) (hk : kd < 6) (k : ∀ v M', BX M' c n b f → Fi (FJ c) M1 M' → Q (some (.int v)) M') : qW (zEv (d + 11)) 142 Q 36 [(3, .int (nI kd)), (2, .int (nI i)), (0, .ref 136), (1, .int (nI ah))] [] M1 := by
  have hc := hB.2.1
  refine q_aload_n d142_36 rfl ?_
  refine q_getr (c := 8) (f := 4) d142_37 ⟨rfl, rfl⟩ (xk_136 hB.1) (xf_firsts hB.1) ?_
  refine q_aload_n d142_40 rfl ?_
  refine q_getv (c := 8) (f := 0) d142_41 ⟨rfl, by decide⟩ (xk_136 hB.1) hB.2.2.1 ?_
  refine n_aald d142_44 (xk_firsts hB.1) (by decide) (by omega) (by decide) (xr_firsts hB.1 (by omega)) ?_
  refine q_iload_n d142_45 rfl ?_
  refine q_iload_n d142_46 rfl ?_
  refine q_iconstN (z := 5) d142_47 ?_
  refine nc_eq 58 d142_48 (by decide) (by omega) (by omega) (fun h48 => ?_) (fun h48 => ?_)
  · refine q_iconst (x := (-1)) d142_58 rfl ?_
    refine q_goto 67 d142_59 (by decide) ?_
    refine n_iast d142_67 (xa_firsts hB.1 (by omega)) (by omega) (by decide) ?_
    have g : Fi (fun a k => (a = 136 ∧ (k = 35 ∨ k = 36 ∨ k = 37)) ∨ a = 140 + c ∨ a = 147 + c ∨ a = 154 + c ∨ a = 161 + c ∨ a = 168 + c) M1 (zwi M1 (147 + c) i (-1)) := (Fi.refl _ _).wi (Or.inr (by omega))
    exact b142b (hB.row g) hi hk (fun v M' h1 h2 => k v M' h1 ((g.mono (fun a j q => by unfold FJ; omega)).trans h2))
  · refine q_aload_n d142_51 rfl ?_
    refine q_getv (c := 8) (f := 38) d142_52 ⟨rfl, by decide⟩ (xk_136 hB.1) hB.f0 ?_
    refine n0_eq 62 d142_55 (by decide) (by decide) (fun q => absurd q (by decide)) (fun _ => ?_)
    refine q_iconst (x := (-1)) d142_58 rfl ?_
    refine q_goto 67 d142_59 (by decide) ?_
    refine n_iast d142_67 (xa_firsts hB.1 (by omega)) (by omega) (by decide) ?_
    have g : Fi (fun a k => (a = 136 ∧ (k = 35 ∨ k = 36 ∨ k = 37)) ∨ a = 140 + c ∨ a = 147 + c ∨ a = 154 + c ∨ a = 161 + c ∨ a = 168 + c) M1 (zwi M1 (147 + c) i (-1)) := (Fi.refl _ _).wi (Or.inr (by omega))
    exact b142b (hB.row g) hi hk (fun v M' h1 h2 => k v M' h1 ((g.mono (fun a j q => by unfold FJ; omega)).trans h2))
theorem g142c {d : Nat} {Q : Option Value → zM → Prop} {M1 : zM} {c n o kd ah : Nat} {b : Nat → Nat} {k0 : yK} {T : yT} {x y : Int32} (hM : GM M1 c n b o k0 T) (hv : yKv n b k0) (h12 : tn T < 12) (hk : kd < 6) (hkd : zi M1 (140 + c) (tn T) = nI kd) (hx : zi M1 (147 + c) (tn T) = x) (hy : zi M1 (154 + c) (tn T) = y) (k : cOX Q M1 c n b o (pS3 n b kd ah T x y k0)) : qW (zEv (d + 11)) 142 Q 105 [(3, .int (nI kd)), (2, .int (nI (tn T))), (0, .ref 136), (1, .int (nI ah))] [] M1 := by
  have hc := hM.2.1
  have hv1 := (pAd_v hv (fun i hi => (hM.1.2.1.2.2 i hi).2)).1
  rcases (show kd = 0 ∨ kd = 1 ∨ kd = 2 ∨ kd = 3 ∨ kd = 4 ∨ kd = 5 by omega) with rfl | rfl | rfl | rfl | rfl | rfl
  · by_cases hs : ∃ w, ytx b k0 = some (3, w)
    · obtain ⟨w, hw⟩ := hs
      have hk9 := k
      rw [show pS3 n b 0 ah T x y k0 = .ok (2 ^ tn T, ((pAd n b k0), pAp T 0 x y (nI w) ah)) by unfold pS3 pA3; rw [if_pos (by omega), pNu_g hw]] at hk9
      refine q_aload_n d142_105 rfl ?_
      refine q_getr (c := 8) (f := 6) d142_106 ⟨rfl, rfl⟩ (xk_136 hM.1.1) (xf_numbers hM.1.1) ?_
      refine q_aload_n d142_109 rfl ?_
      refine q_getv (c := 8) (f := 0) d142_110 ⟨rfl, by decide⟩ (xk_136 hM.1.1) hM.2.2.1 ?_
      refine n_aald d142_113 (xk_numbers hM.1.1) (by decide) (by omega) (by decide) (xr_numbers hM.1.1 (by omega)) ?_
      refine q_iload_n d142_114 rfl ?_
      refine q_iload_n d142_115 rfl ?_
      refine q_iconstN (z := 5) d142_116 ?_
      refine nc_eq 132 d142_117 (by decide) (by decide) (by decide) (fun q => absurd q (by decide)) (fun _ => ?_)
      refine q_iload_n d142_120 rfl ?_
      refine q_iconstN (z := 4) d142_121 ?_
      refine nc_eq 132 d142_122 (by decide) (by decide) (by decide) (fun q => absurd q (by decide)) (fun _ => ?_)
      refine q_aload_n d142_125 rfl ?_
      refine q_getv (c := 8) (f := 38) d142_126 ⟨rfl, by decide⟩ (xk_136 hM.1.1) hM.1.w ?_
      refine n0_eq 136 d142_129 (by decide) (by decide) (fun _ => ?_) (fun q => absurd q (by decide))
      refine q_aload_n d142_136 rfl ?_
      refine q_iconstN (z := 3) d142_137 ?_
      refine q_v1 d142_138 rfl rfl (xk_136 hM.1.1) (Nat.le_of_ble_eq_true rfl) (c143g hM.1 hv (by decide) (by decide) hw (fun hn M2 hG2 f2 => ?_) (fun hn v9 M2 hB2 f2 => ?_))
      · have hM2 := hM.fn hG2 f2
        have hk2 : zi M2 (140 + c) (tn T) = nI 0 := (f2.1 _ _ (by unfold FN; omega)).trans hkd
        refine n_iast d142_141 (xa_numbers hM2.1.1 hc) (by omega) (by decide) ?_
        refine q_aload_n d142_142 rfl ?_
        refine q_getr (c := 8) (f := 7) d142_143 ⟨rfl, rfl⟩ (xk_136 hM2.1.1) (xf_aheads hM2.1.1) ?_
        refine q_aload_n d142_146 rfl ?_
        refine q_getv (c := 8) (f := 0) d142_147 ⟨rfl, by decide⟩ (xk_136 hM2.1.1) (Eq.trans (by (repeat (first | rw [wi_n (Or.inl (by omega))] | rw [wi_n (Or.inr (by omega))] | rw [wi_s] | rw [wr_i] | rw [cp_n (by omega)]))) hM2.2.2.1) ?_
        refine n_aald d142_150 (xk_aheads hM2.1.1) (by decide) (by omega) (by decide) (xr_aheads hM2.1.1 (by omega)) ?_
        refine q_iload_n d142_151 rfl ?_
        refine q_iload_n d142_152 rfl ?_
        refine n_iast d142_153 (xa_aheads hM2.1.1 (by omega)) (by omega) (by decide) ?_
        refine q_iconstN (z := 1) d142_154 ?_
        refine q_iload_n d142_155 rfl ?_
        refine n_ishl1 d142_156 (by omega) ?_
        refine q_iret d142_157 rfl ?_
        have fr : Fi (FRw c (tn T)) M2 (zwi (zwi M2 (161 + c) (tn T) (nI w)) (168 + c) (tn T) (nI ah)) := ((Fi.refl _ _).wi ⟨by omega, rfl⟩).wi ⟨by omega, rfl⟩
        have hE := (hM2.rw fr).e (x := x) (y := y) (z := (nI w)) (ah := ah) (by (repeat (first | rw [wi_n (Or.inl (by omega))] | rw [wi_n (Or.inr (by omega))] | rw [wi_s] | rw [wr_i] | rw [cp_n (by omega)] | rw [cp_0 (by omega)])); exact hk2) (by (repeat (first | rw [wi_n (Or.inl (by omega))] | rw [wi_n (Or.inr (by omega))] | rw [wi_s] | rw [wr_i] | rw [cp_n (by omega)] | rw [cp_0 (by omega)])); exact (f2.1 _ _ (by unfold FN; omega)).trans hx) (by (repeat (first | rw [wi_n (Or.inl (by omega))] | rw [wi_n (Or.inr (by omega))] | rw [wi_s] | rw [wr_i] | rw [cp_n (by omega)] | rw [cp_0 (by omega)])); exact (f2.1 _ _ (by unfold FN; omega)).trans hy) (by (repeat (first | rw [wi_n (Or.inl (by omega))] | rw [wi_n (Or.inr (by omega))] | rw [wi_s] | rw [wr_i] | rw [cp_n (by omega)] | rw [cp_0 (by omega)]))) (wi_s _ _ _ _)
        have hn9 : ytx b (pAd n b k0) ≠ none := by
          obtain ⟨t, v, h5, h6⟩ := hE.2.2.2.2.2.1
          intro q
          have h5 : ytx b (pAd n b k0) = some (t, v) := h5
          rw [h5] at q; cases q
        exact (cOX_w hk9 ((f2.mono (fun a j q => FN_J q)).trans (fr.mono (fun a j q => FRw_J q))) (fun _ _ q => q)).1 hn9 _ hE (Fi.refl _ _)
      · have hB3 := hM.b hB2 f2
        refine n_iast d142_141 (xa_numbers hB3.1 hc) (by omega) (by decide) ?_
        refine q_aload_n d142_142 rfl ?_
        refine q_getr (c := 8) (f := 7) d142_143 ⟨rfl, rfl⟩ (xk_136 hB3.1) (xf_aheads hB3.1) ?_
        refine q_aload_n d142_146 rfl ?_
        refine q_getv (c := 8) (f := 0) d142_147 ⟨rfl, by decide⟩ (xk_136 hB3.1) (Eq.trans (by (repeat (first | rw [wi_n (Or.inl (by omega))] | rw [wi_n (Or.inr (by omega))] | rw [wi_s] | rw [wr_i] | rw [cp_n (by omega)]))) hB3.2.2.1) ?_
        refine n_aald d142_150 (xk_aheads hB3.1) (by decide) (by omega) (by decide) (xr_aheads hB3.1 (by omega)) ?_
        refine q_iload_n d142_151 rfl ?_
        refine q_iload_n d142_152 rfl ?_
        refine n_iast d142_153 (xa_aheads hB3.1 (by omega)) (by omega) (by decide) ?_
        refine q_iconstN (z := 1) d142_154 ?_
        refine q_iload_n d142_155 rfl ?_
        refine n_ishl1 d142_156 (by omega) ?_
        refine q_iret d142_157 rfl ?_
        have g : Fi (fun a k => (a = 136 ∧ (k = 35 ∨ k = 36 ∨ k = 37)) ∨ a = 140 + c ∨ a = 147 + c ∨ a = 154 + c ∨ a = 161 + c ∨ a = 168 + c) M2 (zwi (zwi M2 (161 + c) (tn T) v9) (168 + c) (tn T) (nI ah)) := ((Fi.refl _ _).wi (Or.inr (by omega))).wi (Or.inr (by omega))
        exact (cOX.bad hk9 (Or.inr ⟨_, _, rfl, hn, rfl⟩)) _ _ (hB3.row g) ((f2.mono (fun a j q => FN_J q)).trans (g.mono (fun a j q => by unfold FJ; omega)))
    · have hs2 : ∀ w, ytx b k0 ≠ some (3, w) := fun w q => hs ⟨w, q⟩
      have hk9 := k
      rw [show pS3 n b 0 ah T x y k0 = .error k0.2.1 by unfold pS3 pA3; rw [if_pos (by omega), pNu_b hs2]] at hk9
      refine q_aload_n d142_105 rfl ?_
      refine q_getr (c := 8) (f := 6) d142_106 ⟨rfl, rfl⟩ (xk_136 hM.1.1) (xf_numbers hM.1.1) ?_
      refine q_aload_n d142_109 rfl ?_
      refine q_getv (c := 8) (f := 0) d142_110 ⟨rfl, by decide⟩ (xk_136 hM.1.1) hM.2.2.1 ?_
      refine n_aald d142_113 (xk_numbers hM.1.1) (by decide) (by omega) (by decide) (xr_numbers hM.1.1 (by omega)) ?_
      refine q_iload_n d142_114 rfl ?_
      refine q_iload_n d142_115 rfl ?_
      refine q_iconstN (z := 5) d142_116 ?_
      refine nc_eq 132 d142_117 (by decide) (by decide) (by decide) (fun q => absurd q (by decide)) (fun _ => ?_)
      refine q_iload_n d142_120 rfl ?_
      refine q_iconstN (z := 4) d142_121 ?_
      refine nc_eq 132 d142_122 (by decide) (by decide) (by decide) (fun q => absurd q (by decide)) (fun _ => ?_)
      refine q_aload_n d142_125 rfl ?_
      refine q_getv (c := 8) (f := 38) d142_126 ⟨rfl, by decide⟩ (xk_136 hM.1.1) hM.1.w ?_
      refine n0_eq 136 d142_129 (by decide) (by decide) (fun _ => ?_) (fun q => absurd q (by decide))
      refine q_aload_n d142_136 rfl ?_
      refine q_iconstN (z := 3) d142_137 ?_
      refine q_v1 d142_138 rfl rfl (xk_136 hM.1.1) (Nat.le_of_ble_eq_true rfl) (c143e hM.1 hv (by decide) hs2 (fun v9 M2 hB2 f2 => ?_))
      have hB3 := hM.b hB2 f2
      refine n_iast d142_141 (xa_numbers hB3.1 hc) (by omega) (by decide) ?_
      refine q_aload_n d142_142 rfl ?_
      refine q_getr (c := 8) (f := 7) d142_143 ⟨rfl, rfl⟩ (xk_136 hB3.1) (xf_aheads hB3.1) ?_
      refine q_aload_n d142_146 rfl ?_
      refine q_getv (c := 8) (f := 0) d142_147 ⟨rfl, by decide⟩ (xk_136 hB3.1) (Eq.trans (by (repeat (first | rw [wi_n (Or.inl (by omega))] | rw [wi_n (Or.inr (by omega))] | rw [wi_s] | rw [wr_i] | rw [cp_n (by omega)]))) hB3.2.2.1) ?_
      refine n_aald d142_150 (xk_aheads hB3.1) (by decide) (by omega) (by decide) (xr_aheads hB3.1 (by omega)) ?_
      refine q_iload_n d142_151 rfl ?_
      refine q_iload_n d142_152 rfl ?_
      refine n_iast d142_153 (xa_aheads hB3.1 (by omega)) (by omega) (by decide) ?_
      refine q_iconstN (z := 1) d142_154 ?_
      refine q_iload_n d142_155 rfl ?_
      refine n_ishl1 d142_156 (by omega) ?_
      refine q_iret d142_157 rfl ?_
      have g : Fi (fun a k => (a = 136 ∧ (k = 35 ∨ k = 36 ∨ k = 37)) ∨ a = 140 + c ∨ a = 147 + c ∨ a = 154 + c ∨ a = 161 + c ∨ a = 168 + c) M2 (zwi (zwi M2 (161 + c) (tn T) v9) (168 + c) (tn T) (nI ah)) := ((Fi.refl _ _).wi (Or.inr (by omega))).wi (Or.inr (by omega))
      exact (cOX.e hk9 rfl) _ _ (hB3.row g) ((f2.mono (fun a j q => FN_J q)).trans (g.mono (fun a j q => by unfold FJ; omega)))
  · by_cases hs : ∃ w, ytx b k0 = some (3, w)
    · obtain ⟨w, hw⟩ := hs
      have hk9 := k
      rw [show pS3 n b 1 ah T x y k0 = .ok (2 ^ tn T, ((pAd n b k0), pAp T 1 x y (nI w) ah)) by unfold pS3 pA3; rw [if_pos (by omega), pNu_g hw]] at hk9
      refine q_aload_n d142_105 rfl ?_
      refine q_getr (c := 8) (f := 6) d142_106 ⟨rfl, rfl⟩ (xk_136 hM.1.1) (xf_numbers hM.1.1) ?_
      refine q_aload_n d142_109 rfl ?_
      refine q_getv (c := 8) (f := 0) d142_110 ⟨rfl, by decide⟩ (xk_136 hM.1.1) hM.2.2.1 ?_
      refine n_aald d142_113 (xk_numbers hM.1.1) (by decide) (by omega) (by decide) (xr_numbers hM.1.1 (by omega)) ?_
      refine q_iload_n d142_114 rfl ?_
      refine q_iload_n d142_115 rfl ?_
      refine q_iconstN (z := 5) d142_116 ?_
      refine nc_eq 132 d142_117 (by decide) (by decide) (by decide) (fun q => absurd q (by decide)) (fun _ => ?_)
      refine q_iload_n d142_120 rfl ?_
      refine q_iconstN (z := 4) d142_121 ?_
      refine nc_eq 132 d142_122 (by decide) (by decide) (by decide) (fun q => absurd q (by decide)) (fun _ => ?_)
      refine q_aload_n d142_125 rfl ?_
      refine q_getv (c := 8) (f := 38) d142_126 ⟨rfl, by decide⟩ (xk_136 hM.1.1) hM.1.w ?_
      refine n0_eq 136 d142_129 (by decide) (by decide) (fun _ => ?_) (fun q => absurd q (by decide))
      refine q_aload_n d142_136 rfl ?_
      refine q_iconstN (z := 3) d142_137 ?_
      refine q_v1 d142_138 rfl rfl (xk_136 hM.1.1) (Nat.le_of_ble_eq_true rfl) (c143g hM.1 hv (by decide) (by decide) hw (fun hn M2 hG2 f2 => ?_) (fun hn v9 M2 hB2 f2 => ?_))
      · have hM2 := hM.fn hG2 f2
        have hk2 : zi M2 (140 + c) (tn T) = nI 1 := (f2.1 _ _ (by unfold FN; omega)).trans hkd
        refine n_iast d142_141 (xa_numbers hM2.1.1 hc) (by omega) (by decide) ?_
        refine q_aload_n d142_142 rfl ?_
        refine q_getr (c := 8) (f := 7) d142_143 ⟨rfl, rfl⟩ (xk_136 hM2.1.1) (xf_aheads hM2.1.1) ?_
        refine q_aload_n d142_146 rfl ?_
        refine q_getv (c := 8) (f := 0) d142_147 ⟨rfl, by decide⟩ (xk_136 hM2.1.1) (Eq.trans (by (repeat (first | rw [wi_n (Or.inl (by omega))] | rw [wi_n (Or.inr (by omega))] | rw [wi_s] | rw [wr_i] | rw [cp_n (by omega)]))) hM2.2.2.1) ?_
        refine n_aald d142_150 (xk_aheads hM2.1.1) (by decide) (by omega) (by decide) (xr_aheads hM2.1.1 (by omega)) ?_
        refine q_iload_n d142_151 rfl ?_
        refine q_iload_n d142_152 rfl ?_
        refine n_iast d142_153 (xa_aheads hM2.1.1 (by omega)) (by omega) (by decide) ?_
        refine q_iconstN (z := 1) d142_154 ?_
        refine q_iload_n d142_155 rfl ?_
        refine n_ishl1 d142_156 (by omega) ?_
        refine q_iret d142_157 rfl ?_
        have fr : Fi (FRw c (tn T)) M2 (zwi (zwi M2 (161 + c) (tn T) (nI w)) (168 + c) (tn T) (nI ah)) := ((Fi.refl _ _).wi ⟨by omega, rfl⟩).wi ⟨by omega, rfl⟩
        have hE := (hM2.rw fr).e (x := x) (y := y) (z := (nI w)) (ah := ah) (by (repeat (first | rw [wi_n (Or.inl (by omega))] | rw [wi_n (Or.inr (by omega))] | rw [wi_s] | rw [wr_i] | rw [cp_n (by omega)] | rw [cp_0 (by omega)])); exact hk2) (by (repeat (first | rw [wi_n (Or.inl (by omega))] | rw [wi_n (Or.inr (by omega))] | rw [wi_s] | rw [wr_i] | rw [cp_n (by omega)] | rw [cp_0 (by omega)])); exact (f2.1 _ _ (by unfold FN; omega)).trans hx) (by (repeat (first | rw [wi_n (Or.inl (by omega))] | rw [wi_n (Or.inr (by omega))] | rw [wi_s] | rw [wr_i] | rw [cp_n (by omega)] | rw [cp_0 (by omega)])); exact (f2.1 _ _ (by unfold FN; omega)).trans hy) (by (repeat (first | rw [wi_n (Or.inl (by omega))] | rw [wi_n (Or.inr (by omega))] | rw [wi_s] | rw [wr_i] | rw [cp_n (by omega)] | rw [cp_0 (by omega)]))) (wi_s _ _ _ _)
        have hn9 : ytx b (pAd n b k0) ≠ none := by
          obtain ⟨t, v, h5, h6⟩ := hE.2.2.2.2.2.1
          intro q
          have h5 : ytx b (pAd n b k0) = some (t, v) := h5
          rw [h5] at q; cases q
        exact (cOX_w hk9 ((f2.mono (fun a j q => FN_J q)).trans (fr.mono (fun a j q => FRw_J q))) (fun _ _ q => q)).1 hn9 _ hE (Fi.refl _ _)
      · have hB3 := hM.b hB2 f2
        refine n_iast d142_141 (xa_numbers hB3.1 hc) (by omega) (by decide) ?_
        refine q_aload_n d142_142 rfl ?_
        refine q_getr (c := 8) (f := 7) d142_143 ⟨rfl, rfl⟩ (xk_136 hB3.1) (xf_aheads hB3.1) ?_
        refine q_aload_n d142_146 rfl ?_
        refine q_getv (c := 8) (f := 0) d142_147 ⟨rfl, by decide⟩ (xk_136 hB3.1) (Eq.trans (by (repeat (first | rw [wi_n (Or.inl (by omega))] | rw [wi_n (Or.inr (by omega))] | rw [wi_s] | rw [wr_i] | rw [cp_n (by omega)]))) hB3.2.2.1) ?_
        refine n_aald d142_150 (xk_aheads hB3.1) (by decide) (by omega) (by decide) (xr_aheads hB3.1 (by omega)) ?_
        refine q_iload_n d142_151 rfl ?_
        refine q_iload_n d142_152 rfl ?_
        refine n_iast d142_153 (xa_aheads hB3.1 (by omega)) (by omega) (by decide) ?_
        refine q_iconstN (z := 1) d142_154 ?_
        refine q_iload_n d142_155 rfl ?_
        refine n_ishl1 d142_156 (by omega) ?_
        refine q_iret d142_157 rfl ?_
        have g : Fi (fun a k => (a = 136 ∧ (k = 35 ∨ k = 36 ∨ k = 37)) ∨ a = 140 + c ∨ a = 147 + c ∨ a = 154 + c ∨ a = 161 + c ∨ a = 168 + c) M2 (zwi (zwi M2 (161 + c) (tn T) v9) (168 + c) (tn T) (nI ah)) := ((Fi.refl _ _).wi (Or.inr (by omega))).wi (Or.inr (by omega))
        exact (cOX.bad hk9 (Or.inr ⟨_, _, rfl, hn, rfl⟩)) _ _ (hB3.row g) ((f2.mono (fun a j q => FN_J q)).trans (g.mono (fun a j q => by unfold FJ; omega)))
    · have hs2 : ∀ w, ytx b k0 ≠ some (3, w) := fun w q => hs ⟨w, q⟩
      have hk9 := k
      rw [show pS3 n b 1 ah T x y k0 = .error k0.2.1 by unfold pS3 pA3; rw [if_pos (by omega), pNu_b hs2]] at hk9
      refine q_aload_n d142_105 rfl ?_
      refine q_getr (c := 8) (f := 6) d142_106 ⟨rfl, rfl⟩ (xk_136 hM.1.1) (xf_numbers hM.1.1) ?_
      refine q_aload_n d142_109 rfl ?_
      refine q_getv (c := 8) (f := 0) d142_110 ⟨rfl, by decide⟩ (xk_136 hM.1.1) hM.2.2.1 ?_
      refine n_aald d142_113 (xk_numbers hM.1.1) (by decide) (by omega) (by decide) (xr_numbers hM.1.1 (by omega)) ?_
      refine q_iload_n d142_114 rfl ?_
      refine q_iload_n d142_115 rfl ?_
      refine q_iconstN (z := 5) d142_116 ?_
      refine nc_eq 132 d142_117 (by decide) (by decide) (by decide) (fun q => absurd q (by decide)) (fun _ => ?_)
      refine q_iload_n d142_120 rfl ?_
      refine q_iconstN (z := 4) d142_121 ?_
      refine nc_eq 132 d142_122 (by decide) (by decide) (by decide) (fun q => absurd q (by decide)) (fun _ => ?_)
      refine q_aload_n d142_125 rfl ?_
      refine q_getv (c := 8) (f := 38) d142_126 ⟨rfl, by decide⟩ (xk_136 hM.1.1) hM.1.w ?_
      refine n0_eq 136 d142_129 (by decide) (by decide) (fun _ => ?_) (fun q => absurd q (by decide))
      refine q_aload_n d142_136 rfl ?_
      refine q_iconstN (z := 3) d142_137 ?_
      refine q_v1 d142_138 rfl rfl (xk_136 hM.1.1) (Nat.le_of_ble_eq_true rfl) (c143e hM.1 hv (by decide) hs2 (fun v9 M2 hB2 f2 => ?_))
      have hB3 := hM.b hB2 f2
      refine n_iast d142_141 (xa_numbers hB3.1 hc) (by omega) (by decide) ?_
      refine q_aload_n d142_142 rfl ?_
      refine q_getr (c := 8) (f := 7) d142_143 ⟨rfl, rfl⟩ (xk_136 hB3.1) (xf_aheads hB3.1) ?_
      refine q_aload_n d142_146 rfl ?_
      refine q_getv (c := 8) (f := 0) d142_147 ⟨rfl, by decide⟩ (xk_136 hB3.1) (Eq.trans (by (repeat (first | rw [wi_n (Or.inl (by omega))] | rw [wi_n (Or.inr (by omega))] | rw [wi_s] | rw [wr_i] | rw [cp_n (by omega)]))) hB3.2.2.1) ?_
      refine n_aald d142_150 (xk_aheads hB3.1) (by decide) (by omega) (by decide) (xr_aheads hB3.1 (by omega)) ?_
      refine q_iload_n d142_151 rfl ?_
      refine q_iload_n d142_152 rfl ?_
      refine n_iast d142_153 (xa_aheads hB3.1 (by omega)) (by omega) (by decide) ?_
      refine q_iconstN (z := 1) d142_154 ?_
      refine q_iload_n d142_155 rfl ?_
      refine n_ishl1 d142_156 (by omega) ?_
      refine q_iret d142_157 rfl ?_
      have g : Fi (fun a k => (a = 136 ∧ (k = 35 ∨ k = 36 ∨ k = 37)) ∨ a = 140 + c ∨ a = 147 + c ∨ a = 154 + c ∨ a = 161 + c ∨ a = 168 + c) M2 (zwi (zwi M2 (161 + c) (tn T) v9) (168 + c) (tn T) (nI ah)) := ((Fi.refl _ _).wi (Or.inr (by omega))).wi (Or.inr (by omega))
      exact (cOX.e hk9 rfl) _ _ (hB3.row g) ((f2.mono (fun a j q => FN_J q)).trans (g.mono (fun a j q => by unfold FJ; omega)))
  · by_cases hs : ∃ w, ytx b k0 = some (3, w)
    · obtain ⟨w, hw⟩ := hs
      have hk9 := k
      rw [show pS3 n b 2 ah T x y k0 = .ok (2 ^ tn T, ((pAd n b k0), pAp T 2 x y (nI w) ah)) by unfold pS3 pA3; rw [if_pos (by omega), pNu_g hw]] at hk9
      refine q_aload_n d142_105 rfl ?_
      refine q_getr (c := 8) (f := 6) d142_106 ⟨rfl, rfl⟩ (xk_136 hM.1.1) (xf_numbers hM.1.1) ?_
      refine q_aload_n d142_109 rfl ?_
      refine q_getv (c := 8) (f := 0) d142_110 ⟨rfl, by decide⟩ (xk_136 hM.1.1) hM.2.2.1 ?_
      refine n_aald d142_113 (xk_numbers hM.1.1) (by decide) (by omega) (by decide) (xr_numbers hM.1.1 (by omega)) ?_
      refine q_iload_n d142_114 rfl ?_
      refine q_iload_n d142_115 rfl ?_
      refine q_iconstN (z := 5) d142_116 ?_
      refine nc_eq 132 d142_117 (by decide) (by decide) (by decide) (fun q => absurd q (by decide)) (fun _ => ?_)
      refine q_iload_n d142_120 rfl ?_
      refine q_iconstN (z := 4) d142_121 ?_
      refine nc_eq 132 d142_122 (by decide) (by decide) (by decide) (fun q => absurd q (by decide)) (fun _ => ?_)
      refine q_aload_n d142_125 rfl ?_
      refine q_getv (c := 8) (f := 38) d142_126 ⟨rfl, by decide⟩ (xk_136 hM.1.1) hM.1.w ?_
      refine n0_eq 136 d142_129 (by decide) (by decide) (fun _ => ?_) (fun q => absurd q (by decide))
      refine q_aload_n d142_136 rfl ?_
      refine q_iconstN (z := 3) d142_137 ?_
      refine q_v1 d142_138 rfl rfl (xk_136 hM.1.1) (Nat.le_of_ble_eq_true rfl) (c143g hM.1 hv (by decide) (by decide) hw (fun hn M2 hG2 f2 => ?_) (fun hn v9 M2 hB2 f2 => ?_))
      · have hM2 := hM.fn hG2 f2
        have hk2 : zi M2 (140 + c) (tn T) = nI 2 := (f2.1 _ _ (by unfold FN; omega)).trans hkd
        refine n_iast d142_141 (xa_numbers hM2.1.1 hc) (by omega) (by decide) ?_
        refine q_aload_n d142_142 rfl ?_
        refine q_getr (c := 8) (f := 7) d142_143 ⟨rfl, rfl⟩ (xk_136 hM2.1.1) (xf_aheads hM2.1.1) ?_
        refine q_aload_n d142_146 rfl ?_
        refine q_getv (c := 8) (f := 0) d142_147 ⟨rfl, by decide⟩ (xk_136 hM2.1.1) (Eq.trans (by (repeat (first | rw [wi_n (Or.inl (by omega))] | rw [wi_n (Or.inr (by omega))] | rw [wi_s] | rw [wr_i] | rw [cp_n (by omega)]))) hM2.2.2.1) ?_
        refine n_aald d142_150 (xk_aheads hM2.1.1) (by decide) (by omega) (by decide) (xr_aheads hM2.1.1 (by omega)) ?_
        refine q_iload_n d142_151 rfl ?_
        refine q_iload_n d142_152 rfl ?_
        refine n_iast d142_153 (xa_aheads hM2.1.1 (by omega)) (by omega) (by decide) ?_
        refine q_iconstN (z := 1) d142_154 ?_
        refine q_iload_n d142_155 rfl ?_
        refine n_ishl1 d142_156 (by omega) ?_
        refine q_iret d142_157 rfl ?_
        have fr : Fi (FRw c (tn T)) M2 (zwi (zwi M2 (161 + c) (tn T) (nI w)) (168 + c) (tn T) (nI ah)) := ((Fi.refl _ _).wi ⟨by omega, rfl⟩).wi ⟨by omega, rfl⟩
        have hE := (hM2.rw fr).e (x := x) (y := y) (z := (nI w)) (ah := ah) (by (repeat (first | rw [wi_n (Or.inl (by omega))] | rw [wi_n (Or.inr (by omega))] | rw [wi_s] | rw [wr_i] | rw [cp_n (by omega)] | rw [cp_0 (by omega)])); exact hk2) (by (repeat (first | rw [wi_n (Or.inl (by omega))] | rw [wi_n (Or.inr (by omega))] | rw [wi_s] | rw [wr_i] | rw [cp_n (by omega)] | rw [cp_0 (by omega)])); exact (f2.1 _ _ (by unfold FN; omega)).trans hx) (by (repeat (first | rw [wi_n (Or.inl (by omega))] | rw [wi_n (Or.inr (by omega))] | rw [wi_s] | rw [wr_i] | rw [cp_n (by omega)] | rw [cp_0 (by omega)])); exact (f2.1 _ _ (by unfold FN; omega)).trans hy) (by (repeat (first | rw [wi_n (Or.inl (by omega))] | rw [wi_n (Or.inr (by omega))] | rw [wi_s] | rw [wr_i] | rw [cp_n (by omega)] | rw [cp_0 (by omega)]))) (wi_s _ _ _ _)
        have hn9 : ytx b (pAd n b k0) ≠ none := by
          obtain ⟨t, v, h5, h6⟩ := hE.2.2.2.2.2.1
          intro q
          have h5 : ytx b (pAd n b k0) = some (t, v) := h5
          rw [h5] at q; cases q
        exact (cOX_w hk9 ((f2.mono (fun a j q => FN_J q)).trans (fr.mono (fun a j q => FRw_J q))) (fun _ _ q => q)).1 hn9 _ hE (Fi.refl _ _)
      · have hB3 := hM.b hB2 f2
        refine n_iast d142_141 (xa_numbers hB3.1 hc) (by omega) (by decide) ?_
        refine q_aload_n d142_142 rfl ?_
        refine q_getr (c := 8) (f := 7) d142_143 ⟨rfl, rfl⟩ (xk_136 hB3.1) (xf_aheads hB3.1) ?_
        refine q_aload_n d142_146 rfl ?_
        refine q_getv (c := 8) (f := 0) d142_147 ⟨rfl, by decide⟩ (xk_136 hB3.1) (Eq.trans (by (repeat (first | rw [wi_n (Or.inl (by omega))] | rw [wi_n (Or.inr (by omega))] | rw [wi_s] | rw [wr_i] | rw [cp_n (by omega)]))) hB3.2.2.1) ?_
        refine n_aald d142_150 (xk_aheads hB3.1) (by decide) (by omega) (by decide) (xr_aheads hB3.1 (by omega)) ?_
        refine q_iload_n d142_151 rfl ?_
        refine q_iload_n d142_152 rfl ?_
        refine n_iast d142_153 (xa_aheads hB3.1 (by omega)) (by omega) (by decide) ?_
        refine q_iconstN (z := 1) d142_154 ?_
        refine q_iload_n d142_155 rfl ?_
        refine n_ishl1 d142_156 (by omega) ?_
        refine q_iret d142_157 rfl ?_
        have g : Fi (fun a k => (a = 136 ∧ (k = 35 ∨ k = 36 ∨ k = 37)) ∨ a = 140 + c ∨ a = 147 + c ∨ a = 154 + c ∨ a = 161 + c ∨ a = 168 + c) M2 (zwi (zwi M2 (161 + c) (tn T) v9) (168 + c) (tn T) (nI ah)) := ((Fi.refl _ _).wi (Or.inr (by omega))).wi (Or.inr (by omega))
        exact (cOX.bad hk9 (Or.inr ⟨_, _, rfl, hn, rfl⟩)) _ _ (hB3.row g) ((f2.mono (fun a j q => FN_J q)).trans (g.mono (fun a j q => by unfold FJ; omega)))
    · have hs2 : ∀ w, ytx b k0 ≠ some (3, w) := fun w q => hs ⟨w, q⟩
      have hk9 := k
      rw [show pS3 n b 2 ah T x y k0 = .error k0.2.1 by unfold pS3 pA3; rw [if_pos (by omega), pNu_b hs2]] at hk9
      refine q_aload_n d142_105 rfl ?_
      refine q_getr (c := 8) (f := 6) d142_106 ⟨rfl, rfl⟩ (xk_136 hM.1.1) (xf_numbers hM.1.1) ?_
      refine q_aload_n d142_109 rfl ?_
      refine q_getv (c := 8) (f := 0) d142_110 ⟨rfl, by decide⟩ (xk_136 hM.1.1) hM.2.2.1 ?_
      refine n_aald d142_113 (xk_numbers hM.1.1) (by decide) (by omega) (by decide) (xr_numbers hM.1.1 (by omega)) ?_
      refine q_iload_n d142_114 rfl ?_
      refine q_iload_n d142_115 rfl ?_
      refine q_iconstN (z := 5) d142_116 ?_
      refine nc_eq 132 d142_117 (by decide) (by decide) (by decide) (fun q => absurd q (by decide)) (fun _ => ?_)
      refine q_iload_n d142_120 rfl ?_
      refine q_iconstN (z := 4) d142_121 ?_
      refine nc_eq 132 d142_122 (by decide) (by decide) (by decide) (fun q => absurd q (by decide)) (fun _ => ?_)
      refine q_aload_n d142_125 rfl ?_
      refine q_getv (c := 8) (f := 38) d142_126 ⟨rfl, by decide⟩ (xk_136 hM.1.1) hM.1.w ?_
      refine n0_eq 136 d142_129 (by decide) (by decide) (fun _ => ?_) (fun q => absurd q (by decide))
      refine q_aload_n d142_136 rfl ?_
      refine q_iconstN (z := 3) d142_137 ?_
      refine q_v1 d142_138 rfl rfl (xk_136 hM.1.1) (Nat.le_of_ble_eq_true rfl) (c143e hM.1 hv (by decide) hs2 (fun v9 M2 hB2 f2 => ?_))
      have hB3 := hM.b hB2 f2
      refine n_iast d142_141 (xa_numbers hB3.1 hc) (by omega) (by decide) ?_
      refine q_aload_n d142_142 rfl ?_
      refine q_getr (c := 8) (f := 7) d142_143 ⟨rfl, rfl⟩ (xk_136 hB3.1) (xf_aheads hB3.1) ?_
      refine q_aload_n d142_146 rfl ?_
      refine q_getv (c := 8) (f := 0) d142_147 ⟨rfl, by decide⟩ (xk_136 hB3.1) (Eq.trans (by (repeat (first | rw [wi_n (Or.inl (by omega))] | rw [wi_n (Or.inr (by omega))] | rw [wi_s] | rw [wr_i] | rw [cp_n (by omega)]))) hB3.2.2.1) ?_
      refine n_aald d142_150 (xk_aheads hB3.1) (by decide) (by omega) (by decide) (xr_aheads hB3.1 (by omega)) ?_
      refine q_iload_n d142_151 rfl ?_
      refine q_iload_n d142_152 rfl ?_
      refine n_iast d142_153 (xa_aheads hB3.1 (by omega)) (by omega) (by decide) ?_
      refine q_iconstN (z := 1) d142_154 ?_
      refine q_iload_n d142_155 rfl ?_
      refine n_ishl1 d142_156 (by omega) ?_
      refine q_iret d142_157 rfl ?_
      have g : Fi (fun a k => (a = 136 ∧ (k = 35 ∨ k = 36 ∨ k = 37)) ∨ a = 140 + c ∨ a = 147 + c ∨ a = 154 + c ∨ a = 161 + c ∨ a = 168 + c) M2 (zwi (zwi M2 (161 + c) (tn T) v9) (168 + c) (tn T) (nI ah)) := ((Fi.refl _ _).wi (Or.inr (by omega))).wi (Or.inr (by omega))
      exact (cOX.e hk9 rfl) _ _ (hB3.row g) ((f2.mono (fun a j q => FN_J q)).trans (g.mono (fun a j q => by unfold FJ; omega)))
  · by_cases hs : ∃ w, ytx b k0 = some (3, w)
    · obtain ⟨w, hw⟩ := hs
      have hk9 := k
      rw [show pS3 n b 3 ah T x y k0 = .ok (2 ^ tn T, ((pAd n b k0), pAp T 3 x y (nI w) ah)) by unfold pS3 pA3; rw [if_pos (by omega), pNu_g hw]] at hk9
      refine q_aload_n d142_105 rfl ?_
      refine q_getr (c := 8) (f := 6) d142_106 ⟨rfl, rfl⟩ (xk_136 hM.1.1) (xf_numbers hM.1.1) ?_
      refine q_aload_n d142_109 rfl ?_
      refine q_getv (c := 8) (f := 0) d142_110 ⟨rfl, by decide⟩ (xk_136 hM.1.1) hM.2.2.1 ?_
      refine n_aald d142_113 (xk_numbers hM.1.1) (by decide) (by omega) (by decide) (xr_numbers hM.1.1 (by omega)) ?_
      refine q_iload_n d142_114 rfl ?_
      refine q_iload_n d142_115 rfl ?_
      refine q_iconstN (z := 5) d142_116 ?_
      refine nc_eq 132 d142_117 (by decide) (by decide) (by decide) (fun q => absurd q (by decide)) (fun _ => ?_)
      refine q_iload_n d142_120 rfl ?_
      refine q_iconstN (z := 4) d142_121 ?_
      refine nc_eq 132 d142_122 (by decide) (by decide) (by decide) (fun q => absurd q (by decide)) (fun _ => ?_)
      refine q_aload_n d142_125 rfl ?_
      refine q_getv (c := 8) (f := 38) d142_126 ⟨rfl, by decide⟩ (xk_136 hM.1.1) hM.1.w ?_
      refine n0_eq 136 d142_129 (by decide) (by decide) (fun _ => ?_) (fun q => absurd q (by decide))
      refine q_aload_n d142_136 rfl ?_
      refine q_iconstN (z := 3) d142_137 ?_
      refine q_v1 d142_138 rfl rfl (xk_136 hM.1.1) (Nat.le_of_ble_eq_true rfl) (c143g hM.1 hv (by decide) (by decide) hw (fun hn M2 hG2 f2 => ?_) (fun hn v9 M2 hB2 f2 => ?_))
      · have hM2 := hM.fn hG2 f2
        have hk2 : zi M2 (140 + c) (tn T) = nI 3 := (f2.1 _ _ (by unfold FN; omega)).trans hkd
        refine n_iast d142_141 (xa_numbers hM2.1.1 hc) (by omega) (by decide) ?_
        refine q_aload_n d142_142 rfl ?_
        refine q_getr (c := 8) (f := 7) d142_143 ⟨rfl, rfl⟩ (xk_136 hM2.1.1) (xf_aheads hM2.1.1) ?_
        refine q_aload_n d142_146 rfl ?_
        refine q_getv (c := 8) (f := 0) d142_147 ⟨rfl, by decide⟩ (xk_136 hM2.1.1) (Eq.trans (by (repeat (first | rw [wi_n (Or.inl (by omega))] | rw [wi_n (Or.inr (by omega))] | rw [wi_s] | rw [wr_i] | rw [cp_n (by omega)]))) hM2.2.2.1) ?_
        refine n_aald d142_150 (xk_aheads hM2.1.1) (by decide) (by omega) (by decide) (xr_aheads hM2.1.1 (by omega)) ?_
        refine q_iload_n d142_151 rfl ?_
        refine q_iload_n d142_152 rfl ?_
        refine n_iast d142_153 (xa_aheads hM2.1.1 (by omega)) (by omega) (by decide) ?_
        refine q_iconstN (z := 1) d142_154 ?_
        refine q_iload_n d142_155 rfl ?_
        refine n_ishl1 d142_156 (by omega) ?_
        refine q_iret d142_157 rfl ?_
        have fr : Fi (FRw c (tn T)) M2 (zwi (zwi M2 (161 + c) (tn T) (nI w)) (168 + c) (tn T) (nI ah)) := ((Fi.refl _ _).wi ⟨by omega, rfl⟩).wi ⟨by omega, rfl⟩
        have hE := (hM2.rw fr).e (x := x) (y := y) (z := (nI w)) (ah := ah) (by (repeat (first | rw [wi_n (Or.inl (by omega))] | rw [wi_n (Or.inr (by omega))] | rw [wi_s] | rw [wr_i] | rw [cp_n (by omega)] | rw [cp_0 (by omega)])); exact hk2) (by (repeat (first | rw [wi_n (Or.inl (by omega))] | rw [wi_n (Or.inr (by omega))] | rw [wi_s] | rw [wr_i] | rw [cp_n (by omega)] | rw [cp_0 (by omega)])); exact (f2.1 _ _ (by unfold FN; omega)).trans hx) (by (repeat (first | rw [wi_n (Or.inl (by omega))] | rw [wi_n (Or.inr (by omega))] | rw [wi_s] | rw [wr_i] | rw [cp_n (by omega)] | rw [cp_0 (by omega)])); exact (f2.1 _ _ (by unfold FN; omega)).trans hy) (by (repeat (first | rw [wi_n (Or.inl (by omega))] | rw [wi_n (Or.inr (by omega))] | rw [wi_s] | rw [wr_i] | rw [cp_n (by omega)] | rw [cp_0 (by omega)]))) (wi_s _ _ _ _)
        have hn9 : ytx b (pAd n b k0) ≠ none := by
          obtain ⟨t, v, h5, h6⟩ := hE.2.2.2.2.2.1
          intro q
          have h5 : ytx b (pAd n b k0) = some (t, v) := h5
          rw [h5] at q; cases q
        exact (cOX_w hk9 ((f2.mono (fun a j q => FN_J q)).trans (fr.mono (fun a j q => FRw_J q))) (fun _ _ q => q)).1 hn9 _ hE (Fi.refl _ _)
      · have hB3 := hM.b hB2 f2
        refine n_iast d142_141 (xa_numbers hB3.1 hc) (by omega) (by decide) ?_
        refine q_aload_n d142_142 rfl ?_
        refine q_getr (c := 8) (f := 7) d142_143 ⟨rfl, rfl⟩ (xk_136 hB3.1) (xf_aheads hB3.1) ?_
        refine q_aload_n d142_146 rfl ?_
        refine q_getv (c := 8) (f := 0) d142_147 ⟨rfl, by decide⟩ (xk_136 hB3.1) (Eq.trans (by (repeat (first | rw [wi_n (Or.inl (by omega))] | rw [wi_n (Or.inr (by omega))] | rw [wi_s] | rw [wr_i] | rw [cp_n (by omega)]))) hB3.2.2.1) ?_
        refine n_aald d142_150 (xk_aheads hB3.1) (by decide) (by omega) (by decide) (xr_aheads hB3.1 (by omega)) ?_
        refine q_iload_n d142_151 rfl ?_
        refine q_iload_n d142_152 rfl ?_
        refine n_iast d142_153 (xa_aheads hB3.1 (by omega)) (by omega) (by decide) ?_
        refine q_iconstN (z := 1) d142_154 ?_
        refine q_iload_n d142_155 rfl ?_
        refine n_ishl1 d142_156 (by omega) ?_
        refine q_iret d142_157 rfl ?_
        have g : Fi (fun a k => (a = 136 ∧ (k = 35 ∨ k = 36 ∨ k = 37)) ∨ a = 140 + c ∨ a = 147 + c ∨ a = 154 + c ∨ a = 161 + c ∨ a = 168 + c) M2 (zwi (zwi M2 (161 + c) (tn T) v9) (168 + c) (tn T) (nI ah)) := ((Fi.refl _ _).wi (Or.inr (by omega))).wi (Or.inr (by omega))
        exact (cOX.bad hk9 (Or.inr ⟨_, _, rfl, hn, rfl⟩)) _ _ (hB3.row g) ((f2.mono (fun a j q => FN_J q)).trans (g.mono (fun a j q => by unfold FJ; omega)))
    · have hs2 : ∀ w, ytx b k0 ≠ some (3, w) := fun w q => hs ⟨w, q⟩
      have hk9 := k
      rw [show pS3 n b 3 ah T x y k0 = .error k0.2.1 by unfold pS3 pA3; rw [if_pos (by omega), pNu_b hs2]] at hk9
      refine q_aload_n d142_105 rfl ?_
      refine q_getr (c := 8) (f := 6) d142_106 ⟨rfl, rfl⟩ (xk_136 hM.1.1) (xf_numbers hM.1.1) ?_
      refine q_aload_n d142_109 rfl ?_
      refine q_getv (c := 8) (f := 0) d142_110 ⟨rfl, by decide⟩ (xk_136 hM.1.1) hM.2.2.1 ?_
      refine n_aald d142_113 (xk_numbers hM.1.1) (by decide) (by omega) (by decide) (xr_numbers hM.1.1 (by omega)) ?_
      refine q_iload_n d142_114 rfl ?_
      refine q_iload_n d142_115 rfl ?_
      refine q_iconstN (z := 5) d142_116 ?_
      refine nc_eq 132 d142_117 (by decide) (by decide) (by decide) (fun q => absurd q (by decide)) (fun _ => ?_)
      refine q_iload_n d142_120 rfl ?_
      refine q_iconstN (z := 4) d142_121 ?_
      refine nc_eq 132 d142_122 (by decide) (by decide) (by decide) (fun q => absurd q (by decide)) (fun _ => ?_)
      refine q_aload_n d142_125 rfl ?_
      refine q_getv (c := 8) (f := 38) d142_126 ⟨rfl, by decide⟩ (xk_136 hM.1.1) hM.1.w ?_
      refine n0_eq 136 d142_129 (by decide) (by decide) (fun _ => ?_) (fun q => absurd q (by decide))
      refine q_aload_n d142_136 rfl ?_
      refine q_iconstN (z := 3) d142_137 ?_
      refine q_v1 d142_138 rfl rfl (xk_136 hM.1.1) (Nat.le_of_ble_eq_true rfl) (c143e hM.1 hv (by decide) hs2 (fun v9 M2 hB2 f2 => ?_))
      have hB3 := hM.b hB2 f2
      refine n_iast d142_141 (xa_numbers hB3.1 hc) (by omega) (by decide) ?_
      refine q_aload_n d142_142 rfl ?_
      refine q_getr (c := 8) (f := 7) d142_143 ⟨rfl, rfl⟩ (xk_136 hB3.1) (xf_aheads hB3.1) ?_
      refine q_aload_n d142_146 rfl ?_
      refine q_getv (c := 8) (f := 0) d142_147 ⟨rfl, by decide⟩ (xk_136 hB3.1) (Eq.trans (by (repeat (first | rw [wi_n (Or.inl (by omega))] | rw [wi_n (Or.inr (by omega))] | rw [wi_s] | rw [wr_i] | rw [cp_n (by omega)]))) hB3.2.2.1) ?_
      refine n_aald d142_150 (xk_aheads hB3.1) (by decide) (by omega) (by decide) (xr_aheads hB3.1 (by omega)) ?_
      refine q_iload_n d142_151 rfl ?_
      refine q_iload_n d142_152 rfl ?_
      refine n_iast d142_153 (xa_aheads hB3.1 (by omega)) (by omega) (by decide) ?_
      refine q_iconstN (z := 1) d142_154 ?_
      refine q_iload_n d142_155 rfl ?_
      refine n_ishl1 d142_156 (by omega) ?_
      refine q_iret d142_157 rfl ?_
      have g : Fi (fun a k => (a = 136 ∧ (k = 35 ∨ k = 36 ∨ k = 37)) ∨ a = 140 + c ∨ a = 147 + c ∨ a = 154 + c ∨ a = 161 + c ∨ a = 168 + c) M2 (zwi (zwi M2 (161 + c) (tn T) v9) (168 + c) (tn T) (nI ah)) := ((Fi.refl _ _).wi (Or.inr (by omega))).wi (Or.inr (by omega))
      exact (cOX.e hk9 rfl) _ _ (hB3.row g) ((f2.mono (fun a j q => FN_J q)).trans (g.mono (fun a j q => by unfold FJ; omega)))
  · have hk9 := k
    rw [show pS3 n b 4 ah T x y k0 = .ok (2 ^ tn T, (k0, pAp T 4 x y (-1) ah)) by unfold pS3 pA3; rw [if_neg (by omega)]] at hk9
    refine q_aload_n d142_105 rfl ?_
    refine q_getr (c := 8) (f := 6) d142_106 ⟨rfl, rfl⟩ (xk_136 hM.1.1) (xf_numbers hM.1.1) ?_
    refine q_aload_n d142_109 rfl ?_
    refine q_getv (c := 8) (f := 0) d142_110 ⟨rfl, by decide⟩ (xk_136 hM.1.1) hM.2.2.1 ?_
    refine n_aald d142_113 (xk_numbers hM.1.1) (by decide) (by omega) (by decide) (xr_numbers hM.1.1 (by omega)) ?_
    refine q_iload_n d142_114 rfl ?_
    refine q_iload_n d142_115 rfl ?_
    refine q_iconstN (z := 5) d142_116 ?_
    refine nc_eq 132 d142_117 (by decide) (by decide) (by decide) (fun q => absurd q (by decide)) (fun _ => ?_)
    refine q_iload_n d142_120 rfl ?_
    refine q_iconstN (z := 4) d142_121 ?_
    refine nc_eq 132 d142_122 (by decide) (by decide) (by decide) (fun _ => ?_) (fun q => absurd q (by decide))
    refine q_iconst (x := (-1)) d142_132 rfl ?_
    refine q_goto 141 d142_133 (by decide) ?_
    refine n_iast d142_141 (xa_numbers hM.1.1 (by omega)) (by omega) (by decide) ?_
    refine q_aload_n d142_142 rfl ?_
    refine q_getr (c := 8) (f := 7) d142_143 ⟨rfl, rfl⟩ (xk_136 hM.1.1) (xf_aheads hM.1.1) ?_
    refine q_aload_n d142_146 rfl ?_
    refine q_getv (c := 8) (f := 0) d142_147 ⟨rfl, by decide⟩ (xk_136 hM.1.1) (Eq.trans (by (repeat (first | rw [wi_n (Or.inl (by omega))] | rw [wi_n (Or.inr (by omega))] | rw [wi_s] | rw [wr_i] | rw [cp_n (by omega)]))) hM.2.2.1) ?_
    refine n_aald d142_150 (xk_aheads hM.1.1) (by decide) (by omega) (by decide) (xr_aheads hM.1.1 (by omega)) ?_
    refine q_iload_n d142_151 rfl ?_
    refine q_iload_n d142_152 rfl ?_
    refine n_iast d142_153 (xa_aheads hM.1.1 (by omega)) (by omega) (by decide) ?_
    refine q_iconstN (z := 1) d142_154 ?_
    refine q_iload_n d142_155 rfl ?_
    refine n_ishl1 d142_156 (by omega) ?_
    refine q_iret d142_157 rfl ?_
    have fr : Fi (FRw c (tn T)) M1 (zwi (zwi M1 (161 + c) (tn T) (-1)) (168 + c) (tn T) (nI ah)) := ((Fi.refl _ _).wi ⟨by omega, rfl⟩).wi ⟨by omega, rfl⟩
    have hE := (hM.rw fr).e (x := x) (y := y) (z := (-1)) (ah := ah) (by (repeat (first | rw [wi_n (Or.inl (by omega))] | rw [wi_n (Or.inr (by omega))] | rw [wi_s] | rw [wr_i] | rw [cp_n (by omega)] | rw [cp_0 (by omega)])); exact hkd) (by (repeat (first | rw [wi_n (Or.inl (by omega))] | rw [wi_n (Or.inr (by omega))] | rw [wi_s] | rw [wr_i] | rw [cp_n (by omega)] | rw [cp_0 (by omega)])); exact hx) (by (repeat (first | rw [wi_n (Or.inl (by omega))] | rw [wi_n (Or.inr (by omega))] | rw [wi_s] | rw [wr_i] | rw [cp_n (by omega)] | rw [cp_0 (by omega)])); exact hy) (by (repeat (first | rw [wi_n (Or.inl (by omega))] | rw [wi_n (Or.inr (by omega))] | rw [wi_s] | rw [wr_i] | rw [cp_n (by omega)] | rw [cp_0 (by omega)]))) (wi_s _ _ _ _)
    have hn9 : ytx b k0 ≠ none := by
      obtain ⟨t, v, h5, h6⟩ := hE.2.2.2.2.2.1
      intro q
      have h5 : ytx b k0 = some (t, v) := h5
      rw [h5] at q; cases q
    exact (cOX_w hk9 (fr.mono (fun a j q => FRw_J q)) (fun _ _ q => q)).1 hn9 _ hE (Fi.refl _ _)
  · have hk9 := k
    rw [show pS3 n b 5 ah T x y k0 = .ok (2 ^ tn T, (k0, pAp T 5 x y (-1) ah)) by unfold pS3 pA3; rw [if_neg (by omega)]] at hk9
    refine q_aload_n d142_105 rfl ?_
    refine q_getr (c := 8) (f := 6) d142_106 ⟨rfl, rfl⟩ (xk_136 hM.1.1) (xf_numbers hM.1.1) ?_
    refine q_aload_n d142_109 rfl ?_
    refine q_getv (c := 8) (f := 0) d142_110 ⟨rfl, by decide⟩ (xk_136 hM.1.1) hM.2.2.1 ?_
    refine n_aald d142_113 (xk_numbers hM.1.1) (by decide) (by omega) (by decide) (xr_numbers hM.1.1 (by omega)) ?_
    refine q_iload_n d142_114 rfl ?_
    refine q_iload_n d142_115 rfl ?_
    refine q_iconstN (z := 5) d142_116 ?_
    refine nc_eq 132 d142_117 (by decide) (by decide) (by decide) (fun _ => ?_) (fun q => absurd q (by decide))
    refine q_iconst (x := (-1)) d142_132 rfl ?_
    refine q_goto 141 d142_133 (by decide) ?_
    refine n_iast d142_141 (xa_numbers hM.1.1 (by omega)) (by omega) (by decide) ?_
    refine q_aload_n d142_142 rfl ?_
    refine q_getr (c := 8) (f := 7) d142_143 ⟨rfl, rfl⟩ (xk_136 hM.1.1) (xf_aheads hM.1.1) ?_
    refine q_aload_n d142_146 rfl ?_
    refine q_getv (c := 8) (f := 0) d142_147 ⟨rfl, by decide⟩ (xk_136 hM.1.1) (Eq.trans (by (repeat (first | rw [wi_n (Or.inl (by omega))] | rw [wi_n (Or.inr (by omega))] | rw [wi_s] | rw [wr_i] | rw [cp_n (by omega)]))) hM.2.2.1) ?_
    refine n_aald d142_150 (xk_aheads hM.1.1) (by decide) (by omega) (by decide) (xr_aheads hM.1.1 (by omega)) ?_
    refine q_iload_n d142_151 rfl ?_
    refine q_iload_n d142_152 rfl ?_
    refine n_iast d142_153 (xa_aheads hM.1.1 (by omega)) (by omega) (by decide) ?_
    refine q_iconstN (z := 1) d142_154 ?_
    refine q_iload_n d142_155 rfl ?_
    refine n_ishl1 d142_156 (by omega) ?_
    refine q_iret d142_157 rfl ?_
    have fr : Fi (FRw c (tn T)) M1 (zwi (zwi M1 (161 + c) (tn T) (-1)) (168 + c) (tn T) (nI ah)) := ((Fi.refl _ _).wi ⟨by omega, rfl⟩).wi ⟨by omega, rfl⟩
    have hE := (hM.rw fr).e (x := x) (y := y) (z := (-1)) (ah := ah) (by (repeat (first | rw [wi_n (Or.inl (by omega))] | rw [wi_n (Or.inr (by omega))] | rw [wi_s] | rw [wr_i] | rw [cp_n (by omega)] | rw [cp_0 (by omega)])); exact hkd) (by (repeat (first | rw [wi_n (Or.inl (by omega))] | rw [wi_n (Or.inr (by omega))] | rw [wi_s] | rw [wr_i] | rw [cp_n (by omega)] | rw [cp_0 (by omega)])); exact hx) (by (repeat (first | rw [wi_n (Or.inl (by omega))] | rw [wi_n (Or.inr (by omega))] | rw [wi_s] | rw [wr_i] | rw [cp_n (by omega)] | rw [cp_0 (by omega)])); exact hy) (by (repeat (first | rw [wi_n (Or.inl (by omega))] | rw [wi_n (Or.inr (by omega))] | rw [wi_s] | rw [wr_i] | rw [cp_n (by omega)] | rw [cp_0 (by omega)]))) (wi_s _ _ _ _)
    have hn9 : ytx b k0 ≠ none := by
      obtain ⟨t, v, h5, h6⟩ := hE.2.2.2.2.2.1
      intro q
      have h5 : ytx b k0 = some (t, v) := h5
      rw [h5] at q; cases q
    exact (cOX_w hk9 (fr.mono (fun a j q => FRw_J q)) (fun _ _ q => q)).1 hn9 _ hE (Fi.refl _ _)
theorem g142b {d : Nat} {Q : Option Value → zM → Prop} {M1 : zM} {c n o kd ah : Nat} {b : Nat → Nat} {k0 : yK} {T : yT} {x : Int32} (hM : GM M1 c n b o k0 T) (hv : yKv n b k0) (h12 : tn T < 12) (hk : kd < 6) (hkd : zi M1 (140 + c) (tn T) = nI kd) (hx : zi M1 (147 + c) (tn T) = x) (k : cOX Q M1 c n b o (pS2 n b kd ah T x k0)) : qW (zEv (d + 11)) 142 Q 68 [(3, .int (nI kd)), (2, .int (nI (tn T))), (0, .ref 136), (1, .int (nI ah))] [] M1 := by
  have hc := hM.2.1
  have hv1 := (pAd_v hv (fun i hi => (hM.1.2.1.2.2 i hi).2)).1
  rcases (show kd = 0 ∨ kd = 1 ∨ kd = 2 ∨ kd = 3 ∨ kd = 4 ∨ kd = 5 by omega) with rfl | rfl | rfl | rfl | rfl | rfl
  · have hk9 := k
    rw [show pS2 n b 0 ah T x k0 = pS3 n b 0 ah T x (-1) k0 by unfold pS2 pA2; rw [if_neg (by omega)]] at hk9
    refine q_aload_n d142_68 rfl ?_
    refine q_getr (c := 8) (f := 5) d142_69 ⟨rfl, rfl⟩ (xk_136 hM.1.1) (xf_seconds hM.1.1) ?_
    refine q_aload_n d142_72 rfl ?_
    refine q_getv (c := 8) (f := 0) d142_73 ⟨rfl, by decide⟩ (xk_136 hM.1.1) hM.2.2.1 ?_
    refine n_aald d142_76 (xk_seconds hM.1.1) (by decide) (by omega) (by decide) (xr_seconds hM.1.1 (by omega)) ?_
    refine q_iload_n d142_77 rfl ?_
    refine q_iload_n d142_78 rfl ?_
    refine q_iconstN (z := 2) d142_79 ?_
    refine nc_eq 88 d142_80 (by decide) (by decide) (by decide) (fun q => absurd q (by decide)) (fun _ => ?_)
    refine q_iload_n d142_83 rfl ?_
    refine q_iconstN (z := 4) d142_84 ?_
    refine nc_ne 95 d142_85 (by decide) (by decide) (by decide) (fun _ => ?_) (fun q => absurd q (by decide))
    refine q_iconst (x := (-1)) d142_95 rfl ?_
    refine q_goto 104 d142_96 (by decide) ?_
    refine n_iast d142_104 (xa_seconds hM.1.1 (by omega)) (by omega) (by decide) ?_
    have fr : Fi (FRw c (tn T)) M1 (zwi M1 (154 + c) (tn T) (-1)) := (Fi.refl _ _).wi ⟨by omega, rfl⟩
    exact g142c (hM.rw fr) hv h12 (by omega) (by (repeat (first | rw [wi_n (Or.inl (by omega))] | rw [wi_n (Or.inr (by omega))] | rw [wi_s] | rw [wr_i] | rw [cp_n (by omega)] | rw [cp_0 (by omega)])); exact hkd) (by (repeat (first | rw [wi_n (Or.inl (by omega))] | rw [wi_n (Or.inr (by omega))] | rw [wi_s] | rw [wr_i] | rw [cp_n (by omega)] | rw [cp_0 (by omega)])); exact hx) (by (repeat (first | rw [wi_n (Or.inl (by omega))] | rw [wi_n (Or.inr (by omega))] | rw [wi_s] | rw [wr_i] | rw [cp_n (by omega)] | rw [cp_0 (by omega)]))) (cOX_w hk9 (fr.mono (fun a j q => FRw_J q)) (fun _ _ q => q))
  · have hk9 := k
    rw [show pS2 n b 1 ah T x k0 = pS3 n b 1 ah T x (-1) k0 by unfold pS2 pA2; rw [if_neg (by omega)]] at hk9
    refine q_aload_n d142_68 rfl ?_
    refine q_getr (c := 8) (f := 5) d142_69 ⟨rfl, rfl⟩ (xk_136 hM.1.1) (xf_seconds hM.1.1) ?_
    refine q_aload_n d142_72 rfl ?_
    refine q_getv (c := 8) (f := 0) d142_73 ⟨rfl, by decide⟩ (xk_136 hM.1.1) hM.2.2.1 ?_
    refine n_aald d142_76 (xk_seconds hM.1.1) (by decide) (by omega) (by decide) (xr_seconds hM.1.1 (by omega)) ?_
    refine q_iload_n d142_77 rfl ?_
    refine q_iload_n d142_78 rfl ?_
    refine q_iconstN (z := 2) d142_79 ?_
    refine nc_eq 88 d142_80 (by decide) (by decide) (by decide) (fun q => absurd q (by decide)) (fun _ => ?_)
    refine q_iload_n d142_83 rfl ?_
    refine q_iconstN (z := 4) d142_84 ?_
    refine nc_ne 95 d142_85 (by decide) (by decide) (by decide) (fun _ => ?_) (fun q => absurd q (by decide))
    refine q_iconst (x := (-1)) d142_95 rfl ?_
    refine q_goto 104 d142_96 (by decide) ?_
    refine n_iast d142_104 (xa_seconds hM.1.1 (by omega)) (by omega) (by decide) ?_
    have fr : Fi (FRw c (tn T)) M1 (zwi M1 (154 + c) (tn T) (-1)) := (Fi.refl _ _).wi ⟨by omega, rfl⟩
    exact g142c (hM.rw fr) hv h12 (by omega) (by (repeat (first | rw [wi_n (Or.inl (by omega))] | rw [wi_n (Or.inr (by omega))] | rw [wi_s] | rw [wr_i] | rw [cp_n (by omega)] | rw [cp_0 (by omega)])); exact hkd) (by (repeat (first | rw [wi_n (Or.inl (by omega))] | rw [wi_n (Or.inr (by omega))] | rw [wi_s] | rw [wr_i] | rw [cp_n (by omega)] | rw [cp_0 (by omega)])); exact hx) (by (repeat (first | rw [wi_n (Or.inl (by omega))] | rw [wi_n (Or.inr (by omega))] | rw [wi_s] | rw [wr_i] | rw [cp_n (by omega)] | rw [cp_0 (by omega)]))) (cOX_w hk9 (fr.mono (fun a j q => FRw_J q)) (fun _ _ q => q))
  · by_cases hs : ∃ w, ytx b k0 = some (2, w)
    · obtain ⟨w, hw⟩ := hs
      have hk9 := k
      rw [show pS2 n b 2 ah T x k0 = pS3 n b 2 ah T x (nI w) (pAd n b k0) by unfold pS2 pA2; rw [if_pos (by omega), pAc_g hw]] at hk9
      refine q_aload_n d142_68 rfl ?_
      refine q_getr (c := 8) (f := 5) d142_69 ⟨rfl, rfl⟩ (xk_136 hM.1.1) (xf_seconds hM.1.1) ?_
      refine q_aload_n d142_72 rfl ?_
      refine q_getv (c := 8) (f := 0) d142_73 ⟨rfl, by decide⟩ (xk_136 hM.1.1) hM.2.2.1 ?_
      refine n_aald d142_76 (xk_seconds hM.1.1) (by decide) (by omega) (by decide) (xr_seconds hM.1.1 (by omega)) ?_
      refine q_iload_n d142_77 rfl ?_
      refine q_iload_n d142_78 rfl ?_
      refine q_iconstN (z := 2) d142_79 ?_
      refine nc_eq 88 d142_80 (by decide) (by decide) (by decide) (fun _ => ?_) (fun q => absurd q (by decide))
      refine q_aload_n d142_88 rfl ?_
      refine q_getv (c := 8) (f := 38) d142_89 ⟨rfl, by decide⟩ (xk_136 hM.1.1) hM.1.w ?_
      refine n0_eq 99 d142_92 (by decide) (by decide) (fun _ => ?_) (fun q => absurd q (by decide))
      refine q_aload_n d142_99 rfl ?_
      refine q_iconstN (z := 2) d142_100 ?_
      refine q_v1 d142_101 rfl rfl (xk_136 hM.1.1) (Nat.le_of_ble_eq_true rfl) (c143g hM.1 hv (by decide) (by decide) hw (fun hn M2 hG2 f2 => ?_) (fun hn v9 M2 hB2 f2 => ?_))
      · have hM2 := hM.fn hG2 f2
        have hk2 : zi M2 (140 + c) (tn T) = nI 2 := (f2.1 _ _ (by unfold FN; omega)).trans hkd
        refine n_iast d142_104 (xa_seconds hM2.1.1 hc) (by omega) (by decide) ?_
        have fr : Fi (FRw c (tn T)) M2 (zwi M2 (154 + c) (tn T) (nI w)) := (Fi.refl _ _).wi ⟨by omega, rfl⟩
        exact g142c (hM2.rw fr) hv1 h12 (by omega) (by (repeat (first | rw [wi_n (Or.inl (by omega))] | rw [wi_n (Or.inr (by omega))] | rw [wi_s] | rw [wr_i] | rw [cp_n (by omega)] | rw [cp_0 (by omega)])); exact hk2) (by (repeat (first | rw [wi_n (Or.inl (by omega))] | rw [wi_n (Or.inr (by omega))] | rw [wi_s] | rw [wr_i] | rw [cp_n (by omega)] | rw [cp_0 (by omega)])); exact (f2.1 _ _ (by unfold FN; omega)).trans hx) (by (repeat (first | rw [wi_n (Or.inl (by omega))] | rw [wi_n (Or.inr (by omega))] | rw [wi_s] | rw [wr_i] | rw [cp_n (by omega)] | rw [cp_0 (by omega)]))) (cOX_w hk9 ((f2.mono (fun a j q => FN_J q)).trans (fr.mono (fun a j q => FRw_J q))) (fun _ _ q => q))
      · have hB3 := hM.b hB2 f2
        refine n_iast d142_104 (xa_seconds hB3.1 hc) (by omega) (by decide) ?_
        have g : Fi (fun a k => (a = 136 ∧ (k = 35 ∨ k = 36 ∨ k = 37)) ∨ a = 140 + c ∨ a = 147 + c ∨ a = 154 + c ∨ a = 161 + c ∨ a = 168 + c) M2 (zwi M2 (154 + c) (tn T) v9) := (Fi.refl _ _).wi (Or.inr (by omega))
        exact b142c (hB3.row g) h12 (by omega) (fun v M' h1 h2 => (cOX.bad hk9 (pS3_b hn)) v M' h1 (((f2.mono (fun a j q => FN_J q)).trans (g.mono (fun a j q => by unfold FJ; omega))).trans h2))
    · have hs2 : ∀ w, ytx b k0 ≠ some (2, w) := fun w q => hs ⟨w, q⟩
      have hk9 := k
      rw [show pS2 n b 2 ah T x k0 = .error k0.2.1 by unfold pS2 pA2; rw [if_pos (by omega), pAc_b hs2]] at hk9
      refine q_aload_n d142_68 rfl ?_
      refine q_getr (c := 8) (f := 5) d142_69 ⟨rfl, rfl⟩ (xk_136 hM.1.1) (xf_seconds hM.1.1) ?_
      refine q_aload_n d142_72 rfl ?_
      refine q_getv (c := 8) (f := 0) d142_73 ⟨rfl, by decide⟩ (xk_136 hM.1.1) hM.2.2.1 ?_
      refine n_aald d142_76 (xk_seconds hM.1.1) (by decide) (by omega) (by decide) (xr_seconds hM.1.1 (by omega)) ?_
      refine q_iload_n d142_77 rfl ?_
      refine q_iload_n d142_78 rfl ?_
      refine q_iconstN (z := 2) d142_79 ?_
      refine nc_eq 88 d142_80 (by decide) (by decide) (by decide) (fun _ => ?_) (fun q => absurd q (by decide))
      refine q_aload_n d142_88 rfl ?_
      refine q_getv (c := 8) (f := 38) d142_89 ⟨rfl, by decide⟩ (xk_136 hM.1.1) hM.1.w ?_
      refine n0_eq 99 d142_92 (by decide) (by decide) (fun _ => ?_) (fun q => absurd q (by decide))
      refine q_aload_n d142_99 rfl ?_
      refine q_iconstN (z := 2) d142_100 ?_
      refine q_v1 d142_101 rfl rfl (xk_136 hM.1.1) (Nat.le_of_ble_eq_true rfl) (c143e hM.1 hv (by decide) hs2 (fun v9 M2 hB2 f2 => ?_))
      have hB3 := hM.b hB2 f2
      refine n_iast d142_104 (xa_seconds hB3.1 hc) (by omega) (by decide) ?_
      have g : Fi (fun a k => (a = 136 ∧ (k = 35 ∨ k = 36 ∨ k = 37)) ∨ a = 140 + c ∨ a = 147 + c ∨ a = 154 + c ∨ a = 161 + c ∨ a = 168 + c) M2 (zwi M2 (154 + c) (tn T) v9) := (Fi.refl _ _).wi (Or.inr (by omega))
      exact b142c (hB3.row g) h12 (by omega) (fun v M' h1 h2 => (cOX.e hk9 rfl) v M' h1 (((f2.mono (fun a j q => FN_J q)).trans (g.mono (fun a j q => by unfold FJ; omega))).trans h2))
  · have hk9 := k
    rw [show pS2 n b 3 ah T x k0 = pS3 n b 3 ah T x (-1) k0 by unfold pS2 pA2; rw [if_neg (by omega)]] at hk9
    refine q_aload_n d142_68 rfl ?_
    refine q_getr (c := 8) (f := 5) d142_69 ⟨rfl, rfl⟩ (xk_136 hM.1.1) (xf_seconds hM.1.1) ?_
    refine q_aload_n d142_72 rfl ?_
    refine q_getv (c := 8) (f := 0) d142_73 ⟨rfl, by decide⟩ (xk_136 hM.1.1) hM.2.2.1 ?_
    refine n_aald d142_76 (xk_seconds hM.1.1) (by decide) (by omega) (by decide) (xr_seconds hM.1.1 (by omega)) ?_
    refine q_iload_n d142_77 rfl ?_
    refine q_iload_n d142_78 rfl ?_
    refine q_iconstN (z := 2) d142_79 ?_
    refine nc_eq 88 d142_80 (by decide) (by decide) (by decide) (fun q => absurd q (by decide)) (fun _ => ?_)
    refine q_iload_n d142_83 rfl ?_
    refine q_iconstN (z := 4) d142_84 ?_
    refine nc_ne 95 d142_85 (by decide) (by decide) (by decide) (fun _ => ?_) (fun q => absurd q (by decide))
    refine q_iconst (x := (-1)) d142_95 rfl ?_
    refine q_goto 104 d142_96 (by decide) ?_
    refine n_iast d142_104 (xa_seconds hM.1.1 (by omega)) (by omega) (by decide) ?_
    have fr : Fi (FRw c (tn T)) M1 (zwi M1 (154 + c) (tn T) (-1)) := (Fi.refl _ _).wi ⟨by omega, rfl⟩
    exact g142c (hM.rw fr) hv h12 (by omega) (by (repeat (first | rw [wi_n (Or.inl (by omega))] | rw [wi_n (Or.inr (by omega))] | rw [wi_s] | rw [wr_i] | rw [cp_n (by omega)] | rw [cp_0 (by omega)])); exact hkd) (by (repeat (first | rw [wi_n (Or.inl (by omega))] | rw [wi_n (Or.inr (by omega))] | rw [wi_s] | rw [wr_i] | rw [cp_n (by omega)] | rw [cp_0 (by omega)])); exact hx) (by (repeat (first | rw [wi_n (Or.inl (by omega))] | rw [wi_n (Or.inr (by omega))] | rw [wi_s] | rw [wr_i] | rw [cp_n (by omega)] | rw [cp_0 (by omega)]))) (cOX_w hk9 (fr.mono (fun a j q => FRw_J q)) (fun _ _ q => q))
  · by_cases hs : ∃ w, ytx b k0 = some (2, w)
    · obtain ⟨w, hw⟩ := hs
      have hk9 := k
      rw [show pS2 n b 4 ah T x k0 = pS3 n b 4 ah T x (nI w) (pAd n b k0) by unfold pS2 pA2; rw [if_pos (by omega), pAc_g hw]] at hk9
      refine q_aload_n d142_68 rfl ?_
      refine q_getr (c := 8) (f := 5) d142_69 ⟨rfl, rfl⟩ (xk_136 hM.1.1) (xf_seconds hM.1.1) ?_
      refine q_aload_n d142_72 rfl ?_
      refine q_getv (c := 8) (f := 0) d142_73 ⟨rfl, by decide⟩ (xk_136 hM.1.1) hM.2.2.1 ?_
      refine n_aald d142_76 (xk_seconds hM.1.1) (by decide) (by omega) (by decide) (xr_seconds hM.1.1 (by omega)) ?_
      refine q_iload_n d142_77 rfl ?_
      refine q_iload_n d142_78 rfl ?_
      refine q_iconstN (z := 2) d142_79 ?_
      refine nc_eq 88 d142_80 (by decide) (by decide) (by decide) (fun q => absurd q (by decide)) (fun _ => ?_)
      refine q_iload_n d142_83 rfl ?_
      refine q_iconstN (z := 4) d142_84 ?_
      refine nc_ne 95 d142_85 (by decide) (by decide) (by decide) (fun q => absurd q (by decide)) (fun _ => ?_)
      refine q_aload_n d142_88 rfl ?_
      refine q_getv (c := 8) (f := 38) d142_89 ⟨rfl, by decide⟩ (xk_136 hM.1.1) hM.1.w ?_
      refine n0_eq 99 d142_92 (by decide) (by decide) (fun _ => ?_) (fun q => absurd q (by decide))
      refine q_aload_n d142_99 rfl ?_
      refine q_iconstN (z := 2) d142_100 ?_
      refine q_v1 d142_101 rfl rfl (xk_136 hM.1.1) (Nat.le_of_ble_eq_true rfl) (c143g hM.1 hv (by decide) (by decide) hw (fun hn M2 hG2 f2 => ?_) (fun hn v9 M2 hB2 f2 => ?_))
      · have hM2 := hM.fn hG2 f2
        have hk2 : zi M2 (140 + c) (tn T) = nI 4 := (f2.1 _ _ (by unfold FN; omega)).trans hkd
        refine n_iast d142_104 (xa_seconds hM2.1.1 hc) (by omega) (by decide) ?_
        have fr : Fi (FRw c (tn T)) M2 (zwi M2 (154 + c) (tn T) (nI w)) := (Fi.refl _ _).wi ⟨by omega, rfl⟩
        exact g142c (hM2.rw fr) hv1 h12 (by omega) (by (repeat (first | rw [wi_n (Or.inl (by omega))] | rw [wi_n (Or.inr (by omega))] | rw [wi_s] | rw [wr_i] | rw [cp_n (by omega)] | rw [cp_0 (by omega)])); exact hk2) (by (repeat (first | rw [wi_n (Or.inl (by omega))] | rw [wi_n (Or.inr (by omega))] | rw [wi_s] | rw [wr_i] | rw [cp_n (by omega)] | rw [cp_0 (by omega)])); exact (f2.1 _ _ (by unfold FN; omega)).trans hx) (by (repeat (first | rw [wi_n (Or.inl (by omega))] | rw [wi_n (Or.inr (by omega))] | rw [wi_s] | rw [wr_i] | rw [cp_n (by omega)] | rw [cp_0 (by omega)]))) (cOX_w hk9 ((f2.mono (fun a j q => FN_J q)).trans (fr.mono (fun a j q => FRw_J q))) (fun _ _ q => q))
      · have hB3 := hM.b hB2 f2
        refine n_iast d142_104 (xa_seconds hB3.1 hc) (by omega) (by decide) ?_
        have g : Fi (fun a k => (a = 136 ∧ (k = 35 ∨ k = 36 ∨ k = 37)) ∨ a = 140 + c ∨ a = 147 + c ∨ a = 154 + c ∨ a = 161 + c ∨ a = 168 + c) M2 (zwi M2 (154 + c) (tn T) v9) := (Fi.refl _ _).wi (Or.inr (by omega))
        exact b142c (hB3.row g) h12 (by omega) (fun v M' h1 h2 => (cOX.bad hk9 (pS3_b hn)) v M' h1 (((f2.mono (fun a j q => FN_J q)).trans (g.mono (fun a j q => by unfold FJ; omega))).trans h2))
    · have hs2 : ∀ w, ytx b k0 ≠ some (2, w) := fun w q => hs ⟨w, q⟩
      have hk9 := k
      rw [show pS2 n b 4 ah T x k0 = .error k0.2.1 by unfold pS2 pA2; rw [if_pos (by omega), pAc_b hs2]] at hk9
      refine q_aload_n d142_68 rfl ?_
      refine q_getr (c := 8) (f := 5) d142_69 ⟨rfl, rfl⟩ (xk_136 hM.1.1) (xf_seconds hM.1.1) ?_
      refine q_aload_n d142_72 rfl ?_
      refine q_getv (c := 8) (f := 0) d142_73 ⟨rfl, by decide⟩ (xk_136 hM.1.1) hM.2.2.1 ?_
      refine n_aald d142_76 (xk_seconds hM.1.1) (by decide) (by omega) (by decide) (xr_seconds hM.1.1 (by omega)) ?_
      refine q_iload_n d142_77 rfl ?_
      refine q_iload_n d142_78 rfl ?_
      refine q_iconstN (z := 2) d142_79 ?_
      refine nc_eq 88 d142_80 (by decide) (by decide) (by decide) (fun q => absurd q (by decide)) (fun _ => ?_)
      refine q_iload_n d142_83 rfl ?_
      refine q_iconstN (z := 4) d142_84 ?_
      refine nc_ne 95 d142_85 (by decide) (by decide) (by decide) (fun q => absurd q (by decide)) (fun _ => ?_)
      refine q_aload_n d142_88 rfl ?_
      refine q_getv (c := 8) (f := 38) d142_89 ⟨rfl, by decide⟩ (xk_136 hM.1.1) hM.1.w ?_
      refine n0_eq 99 d142_92 (by decide) (by decide) (fun _ => ?_) (fun q => absurd q (by decide))
      refine q_aload_n d142_99 rfl ?_
      refine q_iconstN (z := 2) d142_100 ?_
      refine q_v1 d142_101 rfl rfl (xk_136 hM.1.1) (Nat.le_of_ble_eq_true rfl) (c143e hM.1 hv (by decide) hs2 (fun v9 M2 hB2 f2 => ?_))
      have hB3 := hM.b hB2 f2
      refine n_iast d142_104 (xa_seconds hB3.1 hc) (by omega) (by decide) ?_
      have g : Fi (fun a k => (a = 136 ∧ (k = 35 ∨ k = 36 ∨ k = 37)) ∨ a = 140 + c ∨ a = 147 + c ∨ a = 154 + c ∨ a = 161 + c ∨ a = 168 + c) M2 (zwi M2 (154 + c) (tn T) v9) := (Fi.refl _ _).wi (Or.inr (by omega))
      exact b142c (hB3.row g) h12 (by omega) (fun v M' h1 h2 => (cOX.e hk9 rfl) v M' h1 (((f2.mono (fun a j q => FN_J q)).trans (g.mono (fun a j q => by unfold FJ; omega))).trans h2))
  · have hk9 := k
    rw [show pS2 n b 5 ah T x k0 = pS3 n b 5 ah T x (-1) k0 by unfold pS2 pA2; rw [if_neg (by omega)]] at hk9
    refine q_aload_n d142_68 rfl ?_
    refine q_getr (c := 8) (f := 5) d142_69 ⟨rfl, rfl⟩ (xk_136 hM.1.1) (xf_seconds hM.1.1) ?_
    refine q_aload_n d142_72 rfl ?_
    refine q_getv (c := 8) (f := 0) d142_73 ⟨rfl, by decide⟩ (xk_136 hM.1.1) hM.2.2.1 ?_
    refine n_aald d142_76 (xk_seconds hM.1.1) (by decide) (by omega) (by decide) (xr_seconds hM.1.1 (by omega)) ?_
    refine q_iload_n d142_77 rfl ?_
    refine q_iload_n d142_78 rfl ?_
    refine q_iconstN (z := 2) d142_79 ?_
    refine nc_eq 88 d142_80 (by decide) (by decide) (by decide) (fun q => absurd q (by decide)) (fun _ => ?_)
    refine q_iload_n d142_83 rfl ?_
    refine q_iconstN (z := 4) d142_84 ?_
    refine nc_ne 95 d142_85 (by decide) (by decide) (by decide) (fun _ => ?_) (fun q => absurd q (by decide))
    refine q_iconst (x := (-1)) d142_95 rfl ?_
    refine q_goto 104 d142_96 (by decide) ?_
    refine n_iast d142_104 (xa_seconds hM.1.1 (by omega)) (by omega) (by decide) ?_
    have fr : Fi (FRw c (tn T)) M1 (zwi M1 (154 + c) (tn T) (-1)) := (Fi.refl _ _).wi ⟨by omega, rfl⟩
    exact g142c (hM.rw fr) hv h12 (by omega) (by (repeat (first | rw [wi_n (Or.inl (by omega))] | rw [wi_n (Or.inr (by omega))] | rw [wi_s] | rw [wr_i] | rw [cp_n (by omega)] | rw [cp_0 (by omega)])); exact hkd) (by (repeat (first | rw [wi_n (Or.inl (by omega))] | rw [wi_n (Or.inr (by omega))] | rw [wi_s] | rw [wr_i] | rw [cp_n (by omega)] | rw [cp_0 (by omega)])); exact hx) (by (repeat (first | rw [wi_n (Or.inl (by omega))] | rw [wi_n (Or.inr (by omega))] | rw [wi_s] | rw [wr_i] | rw [cp_n (by omega)] | rw [cp_0 (by omega)]))) (cOX_w hk9 (fr.mono (fun a j q => FRw_J q)) (fun _ _ q => q))
theorem g142a {d : Nat} {Q : Option Value → zM → Prop} {M1 : zM} {c n o kd ah : Nat} {b : Nat → Nat} {k0 : yK} {T : yT}  (hM : GM M1 c n b o k0 T) (hv : yKv n b k0) (h12 : tn T < 12) (hk : kd < 6) (hkd : zi M1 (140 + c) (tn T) = nI kd) (k : cOX Q M1 c n b o (pS1 n b kd ah T k0)) : qW (zEv (d + 11)) 142 Q 36 [(3, .int (nI kd)), (2, .int (nI (tn T))), (0, .ref 136), (1, .int (nI ah))] [] M1 := by
  have hc := hM.2.1
  have hv1 := (pAd_v hv (fun i hi => (hM.1.2.1.2.2 i hi).2)).1
  rcases (show kd = 0 ∨ kd = 1 ∨ kd = 2 ∨ kd = 3 ∨ kd = 4 ∨ kd = 5 by omega) with rfl | rfl | rfl | rfl | rfl | rfl
  · by_cases hs : ∃ w, ytx b k0 = some (2, w)
    · obtain ⟨w, hw⟩ := hs
      have hk9 := k
      rw [show pS1 n b 0 ah T k0 = pS2 n b 0 ah T (nI w) (pAd n b k0) by unfold pS1 pA1; rw [if_neg (by omega), pAc_g hw]] at hk9
      refine q_aload_n d142_36 rfl ?_
      refine q_getr (c := 8) (f := 4) d142_37 ⟨rfl, rfl⟩ (xk_136 hM.1.1) (xf_firsts hM.1.1) ?_
      refine q_aload_n d142_40 rfl ?_
      refine q_getv (c := 8) (f := 0) d142_41 ⟨rfl, by decide⟩ (xk_136 hM.1.1) hM.2.2.1 ?_
      refine n_aald d142_44 (xk_firsts hM.1.1) (by decide) (by omega) (by decide) (xr_firsts hM.1.1 (by omega)) ?_
      refine q_iload_n d142_45 rfl ?_
      refine q_iload_n d142_46 rfl ?_
      refine q_iconstN (z := 5) d142_47 ?_
      refine nc_eq 58 d142_48 (by decide) (by decide) (by decide) (fun q => absurd q (by decide)) (fun _ => ?_)
      refine q_aload_n d142_51 rfl ?_
      refine q_getv (c := 8) (f := 38) d142_52 ⟨rfl, by decide⟩ (xk_136 hM.1.1) hM.1.w ?_
      refine n0_eq 62 d142_55 (by decide) (by decide) (fun _ => ?_) (fun q => absurd q (by decide))
      refine q_aload_n d142_62 rfl ?_
      refine q_iconstN (z := 2) d142_63 ?_
      refine q_v1 d142_64 rfl rfl (xk_136 hM.1.1) (Nat.le_of_ble_eq_true rfl) (c143g hM.1 hv (by decide) (by decide) hw (fun hn M2 hG2 f2 => ?_) (fun hn v9 M2 hB2 f2 => ?_))
      · have hM2 := hM.fn hG2 f2
        have hk2 : zi M2 (140 + c) (tn T) = nI 0 := (f2.1 _ _ (by unfold FN; omega)).trans hkd
        refine n_iast d142_67 (xa_firsts hM2.1.1 hc) (by omega) (by decide) ?_
        have fr : Fi (FRw c (tn T)) M2 (zwi M2 (147 + c) (tn T) (nI w)) := (Fi.refl _ _).wi ⟨by omega, rfl⟩
        exact g142b (hM2.rw fr) hv1 h12 (by omega) (by (repeat (first | rw [wi_n (Or.inl (by omega))] | rw [wi_n (Or.inr (by omega))] | rw [wi_s] | rw [wr_i] | rw [cp_n (by omega)] | rw [cp_0 (by omega)])); exact hk2) (by (repeat (first | rw [wi_n (Or.inl (by omega))] | rw [wi_n (Or.inr (by omega))] | rw [wi_s] | rw [wr_i] | rw [cp_n (by omega)] | rw [cp_0 (by omega)]))) (cOX_w hk9 ((f2.mono (fun a j q => FN_J q)).trans (fr.mono (fun a j q => FRw_J q))) (fun _ _ q => q))
      · have hB3 := hM.b hB2 f2
        refine n_iast d142_67 (xa_firsts hB3.1 hc) (by omega) (by decide) ?_
        have g : Fi (fun a k => (a = 136 ∧ (k = 35 ∨ k = 36 ∨ k = 37)) ∨ a = 140 + c ∨ a = 147 + c ∨ a = 154 + c ∨ a = 161 + c ∨ a = 168 + c) M2 (zwi M2 (147 + c) (tn T) v9) := (Fi.refl _ _).wi (Or.inr (by omega))
        exact b142b (hB3.row g) h12 (by omega) (fun v M' h1 h2 => (cOX.bad hk9 (pS2_b hn)) v M' h1 (((f2.mono (fun a j q => FN_J q)).trans (g.mono (fun a j q => by unfold FJ; omega))).trans h2))
    · have hs2 : ∀ w, ytx b k0 ≠ some (2, w) := fun w q => hs ⟨w, q⟩
      have hk9 := k
      rw [show pS1 n b 0 ah T k0 = .error k0.2.1 by unfold pS1 pA1; rw [if_neg (by omega), pAc_b hs2]] at hk9
      refine q_aload_n d142_36 rfl ?_
      refine q_getr (c := 8) (f := 4) d142_37 ⟨rfl, rfl⟩ (xk_136 hM.1.1) (xf_firsts hM.1.1) ?_
      refine q_aload_n d142_40 rfl ?_
      refine q_getv (c := 8) (f := 0) d142_41 ⟨rfl, by decide⟩ (xk_136 hM.1.1) hM.2.2.1 ?_
      refine n_aald d142_44 (xk_firsts hM.1.1) (by decide) (by omega) (by decide) (xr_firsts hM.1.1 (by omega)) ?_
      refine q_iload_n d142_45 rfl ?_
      refine q_iload_n d142_46 rfl ?_
      refine q_iconstN (z := 5) d142_47 ?_
      refine nc_eq 58 d142_48 (by decide) (by decide) (by decide) (fun q => absurd q (by decide)) (fun _ => ?_)
      refine q_aload_n d142_51 rfl ?_
      refine q_getv (c := 8) (f := 38) d142_52 ⟨rfl, by decide⟩ (xk_136 hM.1.1) hM.1.w ?_
      refine n0_eq 62 d142_55 (by decide) (by decide) (fun _ => ?_) (fun q => absurd q (by decide))
      refine q_aload_n d142_62 rfl ?_
      refine q_iconstN (z := 2) d142_63 ?_
      refine q_v1 d142_64 rfl rfl (xk_136 hM.1.1) (Nat.le_of_ble_eq_true rfl) (c143e hM.1 hv (by decide) hs2 (fun v9 M2 hB2 f2 => ?_))
      have hB3 := hM.b hB2 f2
      refine n_iast d142_67 (xa_firsts hB3.1 hc) (by omega) (by decide) ?_
      have g : Fi (fun a k => (a = 136 ∧ (k = 35 ∨ k = 36 ∨ k = 37)) ∨ a = 140 + c ∨ a = 147 + c ∨ a = 154 + c ∨ a = 161 + c ∨ a = 168 + c) M2 (zwi M2 (147 + c) (tn T) v9) := (Fi.refl _ _).wi (Or.inr (by omega))
      exact b142b (hB3.row g) h12 (by omega) (fun v M' h1 h2 => (cOX.e hk9 rfl) v M' h1 (((f2.mono (fun a j q => FN_J q)).trans (g.mono (fun a j q => by unfold FJ; omega))).trans h2))
  · by_cases hs : ∃ w, ytx b k0 = some (2, w)
    · obtain ⟨w, hw⟩ := hs
      have hk9 := k
      rw [show pS1 n b 1 ah T k0 = pS2 n b 1 ah T (nI w) (pAd n b k0) by unfold pS1 pA1; rw [if_neg (by omega), pAc_g hw]] at hk9
      refine q_aload_n d142_36 rfl ?_
      refine q_getr (c := 8) (f := 4) d142_37 ⟨rfl, rfl⟩ (xk_136 hM.1.1) (xf_firsts hM.1.1) ?_
      refine q_aload_n d142_40 rfl ?_
      refine q_getv (c := 8) (f := 0) d142_41 ⟨rfl, by decide⟩ (xk_136 hM.1.1) hM.2.2.1 ?_
      refine n_aald d142_44 (xk_firsts hM.1.1) (by decide) (by omega) (by decide) (xr_firsts hM.1.1 (by omega)) ?_
      refine q_iload_n d142_45 rfl ?_
      refine q_iload_n d142_46 rfl ?_
      refine q_iconstN (z := 5) d142_47 ?_
      refine nc_eq 58 d142_48 (by decide) (by decide) (by decide) (fun q => absurd q (by decide)) (fun _ => ?_)
      refine q_aload_n d142_51 rfl ?_
      refine q_getv (c := 8) (f := 38) d142_52 ⟨rfl, by decide⟩ (xk_136 hM.1.1) hM.1.w ?_
      refine n0_eq 62 d142_55 (by decide) (by decide) (fun _ => ?_) (fun q => absurd q (by decide))
      refine q_aload_n d142_62 rfl ?_
      refine q_iconstN (z := 2) d142_63 ?_
      refine q_v1 d142_64 rfl rfl (xk_136 hM.1.1) (Nat.le_of_ble_eq_true rfl) (c143g hM.1 hv (by decide) (by decide) hw (fun hn M2 hG2 f2 => ?_) (fun hn v9 M2 hB2 f2 => ?_))
      · have hM2 := hM.fn hG2 f2
        have hk2 : zi M2 (140 + c) (tn T) = nI 1 := (f2.1 _ _ (by unfold FN; omega)).trans hkd
        refine n_iast d142_67 (xa_firsts hM2.1.1 hc) (by omega) (by decide) ?_
        have fr : Fi (FRw c (tn T)) M2 (zwi M2 (147 + c) (tn T) (nI w)) := (Fi.refl _ _).wi ⟨by omega, rfl⟩
        exact g142b (hM2.rw fr) hv1 h12 (by omega) (by (repeat (first | rw [wi_n (Or.inl (by omega))] | rw [wi_n (Or.inr (by omega))] | rw [wi_s] | rw [wr_i] | rw [cp_n (by omega)] | rw [cp_0 (by omega)])); exact hk2) (by (repeat (first | rw [wi_n (Or.inl (by omega))] | rw [wi_n (Or.inr (by omega))] | rw [wi_s] | rw [wr_i] | rw [cp_n (by omega)] | rw [cp_0 (by omega)]))) (cOX_w hk9 ((f2.mono (fun a j q => FN_J q)).trans (fr.mono (fun a j q => FRw_J q))) (fun _ _ q => q))
      · have hB3 := hM.b hB2 f2
        refine n_iast d142_67 (xa_firsts hB3.1 hc) (by omega) (by decide) ?_
        have g : Fi (fun a k => (a = 136 ∧ (k = 35 ∨ k = 36 ∨ k = 37)) ∨ a = 140 + c ∨ a = 147 + c ∨ a = 154 + c ∨ a = 161 + c ∨ a = 168 + c) M2 (zwi M2 (147 + c) (tn T) v9) := (Fi.refl _ _).wi (Or.inr (by omega))
        exact b142b (hB3.row g) h12 (by omega) (fun v M' h1 h2 => (cOX.bad hk9 (pS2_b hn)) v M' h1 (((f2.mono (fun a j q => FN_J q)).trans (g.mono (fun a j q => by unfold FJ; omega))).trans h2))
    · have hs2 : ∀ w, ytx b k0 ≠ some (2, w) := fun w q => hs ⟨w, q⟩
      have hk9 := k
      rw [show pS1 n b 1 ah T k0 = .error k0.2.1 by unfold pS1 pA1; rw [if_neg (by omega), pAc_b hs2]] at hk9
      refine q_aload_n d142_36 rfl ?_
      refine q_getr (c := 8) (f := 4) d142_37 ⟨rfl, rfl⟩ (xk_136 hM.1.1) (xf_firsts hM.1.1) ?_
      refine q_aload_n d142_40 rfl ?_
      refine q_getv (c := 8) (f := 0) d142_41 ⟨rfl, by decide⟩ (xk_136 hM.1.1) hM.2.2.1 ?_
      refine n_aald d142_44 (xk_firsts hM.1.1) (by decide) (by omega) (by decide) (xr_firsts hM.1.1 (by omega)) ?_
      refine q_iload_n d142_45 rfl ?_
      refine q_iload_n d142_46 rfl ?_
      refine q_iconstN (z := 5) d142_47 ?_
      refine nc_eq 58 d142_48 (by decide) (by decide) (by decide) (fun q => absurd q (by decide)) (fun _ => ?_)
      refine q_aload_n d142_51 rfl ?_
      refine q_getv (c := 8) (f := 38) d142_52 ⟨rfl, by decide⟩ (xk_136 hM.1.1) hM.1.w ?_
      refine n0_eq 62 d142_55 (by decide) (by decide) (fun _ => ?_) (fun q => absurd q (by decide))
      refine q_aload_n d142_62 rfl ?_
      refine q_iconstN (z := 2) d142_63 ?_
      refine q_v1 d142_64 rfl rfl (xk_136 hM.1.1) (Nat.le_of_ble_eq_true rfl) (c143e hM.1 hv (by decide) hs2 (fun v9 M2 hB2 f2 => ?_))
      have hB3 := hM.b hB2 f2
      refine n_iast d142_67 (xa_firsts hB3.1 hc) (by omega) (by decide) ?_
      have g : Fi (fun a k => (a = 136 ∧ (k = 35 ∨ k = 36 ∨ k = 37)) ∨ a = 140 + c ∨ a = 147 + c ∨ a = 154 + c ∨ a = 161 + c ∨ a = 168 + c) M2 (zwi M2 (147 + c) (tn T) v9) := (Fi.refl _ _).wi (Or.inr (by omega))
      exact b142b (hB3.row g) h12 (by omega) (fun v M' h1 h2 => (cOX.e hk9 rfl) v M' h1 (((f2.mono (fun a j q => FN_J q)).trans (g.mono (fun a j q => by unfold FJ; omega))).trans h2))
  · by_cases hs : ∃ w, ytx b k0 = some (2, w)
    · obtain ⟨w, hw⟩ := hs
      have hk9 := k
      rw [show pS1 n b 2 ah T k0 = pS2 n b 2 ah T (nI w) (pAd n b k0) by unfold pS1 pA1; rw [if_neg (by omega), pAc_g hw]] at hk9
      refine q_aload_n d142_36 rfl ?_
      refine q_getr (c := 8) (f := 4) d142_37 ⟨rfl, rfl⟩ (xk_136 hM.1.1) (xf_firsts hM.1.1) ?_
      refine q_aload_n d142_40 rfl ?_
      refine q_getv (c := 8) (f := 0) d142_41 ⟨rfl, by decide⟩ (xk_136 hM.1.1) hM.2.2.1 ?_
      refine n_aald d142_44 (xk_firsts hM.1.1) (by decide) (by omega) (by decide) (xr_firsts hM.1.1 (by omega)) ?_
      refine q_iload_n d142_45 rfl ?_
      refine q_iload_n d142_46 rfl ?_
      refine q_iconstN (z := 5) d142_47 ?_
      refine nc_eq 58 d142_48 (by decide) (by decide) (by decide) (fun q => absurd q (by decide)) (fun _ => ?_)
      refine q_aload_n d142_51 rfl ?_
      refine q_getv (c := 8) (f := 38) d142_52 ⟨rfl, by decide⟩ (xk_136 hM.1.1) hM.1.w ?_
      refine n0_eq 62 d142_55 (by decide) (by decide) (fun _ => ?_) (fun q => absurd q (by decide))
      refine q_aload_n d142_62 rfl ?_
      refine q_iconstN (z := 2) d142_63 ?_
      refine q_v1 d142_64 rfl rfl (xk_136 hM.1.1) (Nat.le_of_ble_eq_true rfl) (c143g hM.1 hv (by decide) (by decide) hw (fun hn M2 hG2 f2 => ?_) (fun hn v9 M2 hB2 f2 => ?_))
      · have hM2 := hM.fn hG2 f2
        have hk2 : zi M2 (140 + c) (tn T) = nI 2 := (f2.1 _ _ (by unfold FN; omega)).trans hkd
        refine n_iast d142_67 (xa_firsts hM2.1.1 hc) (by omega) (by decide) ?_
        have fr : Fi (FRw c (tn T)) M2 (zwi M2 (147 + c) (tn T) (nI w)) := (Fi.refl _ _).wi ⟨by omega, rfl⟩
        exact g142b (hM2.rw fr) hv1 h12 (by omega) (by (repeat (first | rw [wi_n (Or.inl (by omega))] | rw [wi_n (Or.inr (by omega))] | rw [wi_s] | rw [wr_i] | rw [cp_n (by omega)] | rw [cp_0 (by omega)])); exact hk2) (by (repeat (first | rw [wi_n (Or.inl (by omega))] | rw [wi_n (Or.inr (by omega))] | rw [wi_s] | rw [wr_i] | rw [cp_n (by omega)] | rw [cp_0 (by omega)]))) (cOX_w hk9 ((f2.mono (fun a j q => FN_J q)).trans (fr.mono (fun a j q => FRw_J q))) (fun _ _ q => q))
      · have hB3 := hM.b hB2 f2
        refine n_iast d142_67 (xa_firsts hB3.1 hc) (by omega) (by decide) ?_
        have g : Fi (fun a k => (a = 136 ∧ (k = 35 ∨ k = 36 ∨ k = 37)) ∨ a = 140 + c ∨ a = 147 + c ∨ a = 154 + c ∨ a = 161 + c ∨ a = 168 + c) M2 (zwi M2 (147 + c) (tn T) v9) := (Fi.refl _ _).wi (Or.inr (by omega))
        exact b142b (hB3.row g) h12 (by omega) (fun v M' h1 h2 => (cOX.bad hk9 (pS2_b hn)) v M' h1 (((f2.mono (fun a j q => FN_J q)).trans (g.mono (fun a j q => by unfold FJ; omega))).trans h2))
    · have hs2 : ∀ w, ytx b k0 ≠ some (2, w) := fun w q => hs ⟨w, q⟩
      have hk9 := k
      rw [show pS1 n b 2 ah T k0 = .error k0.2.1 by unfold pS1 pA1; rw [if_neg (by omega), pAc_b hs2]] at hk9
      refine q_aload_n d142_36 rfl ?_
      refine q_getr (c := 8) (f := 4) d142_37 ⟨rfl, rfl⟩ (xk_136 hM.1.1) (xf_firsts hM.1.1) ?_
      refine q_aload_n d142_40 rfl ?_
      refine q_getv (c := 8) (f := 0) d142_41 ⟨rfl, by decide⟩ (xk_136 hM.1.1) hM.2.2.1 ?_
      refine n_aald d142_44 (xk_firsts hM.1.1) (by decide) (by omega) (by decide) (xr_firsts hM.1.1 (by omega)) ?_
      refine q_iload_n d142_45 rfl ?_
      refine q_iload_n d142_46 rfl ?_
      refine q_iconstN (z := 5) d142_47 ?_
      refine nc_eq 58 d142_48 (by decide) (by decide) (by decide) (fun q => absurd q (by decide)) (fun _ => ?_)
      refine q_aload_n d142_51 rfl ?_
      refine q_getv (c := 8) (f := 38) d142_52 ⟨rfl, by decide⟩ (xk_136 hM.1.1) hM.1.w ?_
      refine n0_eq 62 d142_55 (by decide) (by decide) (fun _ => ?_) (fun q => absurd q (by decide))
      refine q_aload_n d142_62 rfl ?_
      refine q_iconstN (z := 2) d142_63 ?_
      refine q_v1 d142_64 rfl rfl (xk_136 hM.1.1) (Nat.le_of_ble_eq_true rfl) (c143e hM.1 hv (by decide) hs2 (fun v9 M2 hB2 f2 => ?_))
      have hB3 := hM.b hB2 f2
      refine n_iast d142_67 (xa_firsts hB3.1 hc) (by omega) (by decide) ?_
      have g : Fi (fun a k => (a = 136 ∧ (k = 35 ∨ k = 36 ∨ k = 37)) ∨ a = 140 + c ∨ a = 147 + c ∨ a = 154 + c ∨ a = 161 + c ∨ a = 168 + c) M2 (zwi M2 (147 + c) (tn T) v9) := (Fi.refl _ _).wi (Or.inr (by omega))
      exact b142b (hB3.row g) h12 (by omega) (fun v M' h1 h2 => (cOX.e hk9 rfl) v M' h1 (((f2.mono (fun a j q => FN_J q)).trans (g.mono (fun a j q => by unfold FJ; omega))).trans h2))
  · by_cases hs : ∃ w, ytx b k0 = some (2, w)
    · obtain ⟨w, hw⟩ := hs
      have hk9 := k
      rw [show pS1 n b 3 ah T k0 = pS2 n b 3 ah T (nI w) (pAd n b k0) by unfold pS1 pA1; rw [if_neg (by omega), pAc_g hw]] at hk9
      refine q_aload_n d142_36 rfl ?_
      refine q_getr (c := 8) (f := 4) d142_37 ⟨rfl, rfl⟩ (xk_136 hM.1.1) (xf_firsts hM.1.1) ?_
      refine q_aload_n d142_40 rfl ?_
      refine q_getv (c := 8) (f := 0) d142_41 ⟨rfl, by decide⟩ (xk_136 hM.1.1) hM.2.2.1 ?_
      refine n_aald d142_44 (xk_firsts hM.1.1) (by decide) (by omega) (by decide) (xr_firsts hM.1.1 (by omega)) ?_
      refine q_iload_n d142_45 rfl ?_
      refine q_iload_n d142_46 rfl ?_
      refine q_iconstN (z := 5) d142_47 ?_
      refine nc_eq 58 d142_48 (by decide) (by decide) (by decide) (fun q => absurd q (by decide)) (fun _ => ?_)
      refine q_aload_n d142_51 rfl ?_
      refine q_getv (c := 8) (f := 38) d142_52 ⟨rfl, by decide⟩ (xk_136 hM.1.1) hM.1.w ?_
      refine n0_eq 62 d142_55 (by decide) (by decide) (fun _ => ?_) (fun q => absurd q (by decide))
      refine q_aload_n d142_62 rfl ?_
      refine q_iconstN (z := 2) d142_63 ?_
      refine q_v1 d142_64 rfl rfl (xk_136 hM.1.1) (Nat.le_of_ble_eq_true rfl) (c143g hM.1 hv (by decide) (by decide) hw (fun hn M2 hG2 f2 => ?_) (fun hn v9 M2 hB2 f2 => ?_))
      · have hM2 := hM.fn hG2 f2
        have hk2 : zi M2 (140 + c) (tn T) = nI 3 := (f2.1 _ _ (by unfold FN; omega)).trans hkd
        refine n_iast d142_67 (xa_firsts hM2.1.1 hc) (by omega) (by decide) ?_
        have fr : Fi (FRw c (tn T)) M2 (zwi M2 (147 + c) (tn T) (nI w)) := (Fi.refl _ _).wi ⟨by omega, rfl⟩
        exact g142b (hM2.rw fr) hv1 h12 (by omega) (by (repeat (first | rw [wi_n (Or.inl (by omega))] | rw [wi_n (Or.inr (by omega))] | rw [wi_s] | rw [wr_i] | rw [cp_n (by omega)] | rw [cp_0 (by omega)])); exact hk2) (by (repeat (first | rw [wi_n (Or.inl (by omega))] | rw [wi_n (Or.inr (by omega))] | rw [wi_s] | rw [wr_i] | rw [cp_n (by omega)] | rw [cp_0 (by omega)]))) (cOX_w hk9 ((f2.mono (fun a j q => FN_J q)).trans (fr.mono (fun a j q => FRw_J q))) (fun _ _ q => q))
      · have hB3 := hM.b hB2 f2
        refine n_iast d142_67 (xa_firsts hB3.1 hc) (by omega) (by decide) ?_
        have g : Fi (fun a k => (a = 136 ∧ (k = 35 ∨ k = 36 ∨ k = 37)) ∨ a = 140 + c ∨ a = 147 + c ∨ a = 154 + c ∨ a = 161 + c ∨ a = 168 + c) M2 (zwi M2 (147 + c) (tn T) v9) := (Fi.refl _ _).wi (Or.inr (by omega))
        exact b142b (hB3.row g) h12 (by omega) (fun v M' h1 h2 => (cOX.bad hk9 (pS2_b hn)) v M' h1 (((f2.mono (fun a j q => FN_J q)).trans (g.mono (fun a j q => by unfold FJ; omega))).trans h2))
    · have hs2 : ∀ w, ytx b k0 ≠ some (2, w) := fun w q => hs ⟨w, q⟩
      have hk9 := k
      rw [show pS1 n b 3 ah T k0 = .error k0.2.1 by unfold pS1 pA1; rw [if_neg (by omega), pAc_b hs2]] at hk9
      refine q_aload_n d142_36 rfl ?_
      refine q_getr (c := 8) (f := 4) d142_37 ⟨rfl, rfl⟩ (xk_136 hM.1.1) (xf_firsts hM.1.1) ?_
      refine q_aload_n d142_40 rfl ?_
      refine q_getv (c := 8) (f := 0) d142_41 ⟨rfl, by decide⟩ (xk_136 hM.1.1) hM.2.2.1 ?_
      refine n_aald d142_44 (xk_firsts hM.1.1) (by decide) (by omega) (by decide) (xr_firsts hM.1.1 (by omega)) ?_
      refine q_iload_n d142_45 rfl ?_
      refine q_iload_n d142_46 rfl ?_
      refine q_iconstN (z := 5) d142_47 ?_
      refine nc_eq 58 d142_48 (by decide) (by decide) (by decide) (fun q => absurd q (by decide)) (fun _ => ?_)
      refine q_aload_n d142_51 rfl ?_
      refine q_getv (c := 8) (f := 38) d142_52 ⟨rfl, by decide⟩ (xk_136 hM.1.1) hM.1.w ?_
      refine n0_eq 62 d142_55 (by decide) (by decide) (fun _ => ?_) (fun q => absurd q (by decide))
      refine q_aload_n d142_62 rfl ?_
      refine q_iconstN (z := 2) d142_63 ?_
      refine q_v1 d142_64 rfl rfl (xk_136 hM.1.1) (Nat.le_of_ble_eq_true rfl) (c143e hM.1 hv (by decide) hs2 (fun v9 M2 hB2 f2 => ?_))
      have hB3 := hM.b hB2 f2
      refine n_iast d142_67 (xa_firsts hB3.1 hc) (by omega) (by decide) ?_
      have g : Fi (fun a k => (a = 136 ∧ (k = 35 ∨ k = 36 ∨ k = 37)) ∨ a = 140 + c ∨ a = 147 + c ∨ a = 154 + c ∨ a = 161 + c ∨ a = 168 + c) M2 (zwi M2 (147 + c) (tn T) v9) := (Fi.refl _ _).wi (Or.inr (by omega))
      exact b142b (hB3.row g) h12 (by omega) (fun v M' h1 h2 => (cOX.e hk9 rfl) v M' h1 (((f2.mono (fun a j q => FN_J q)).trans (g.mono (fun a j q => by unfold FJ; omega))).trans h2))
  · by_cases hs : ∃ w, ytx b k0 = some (2, w)
    · obtain ⟨w, hw⟩ := hs
      have hk9 := k
      rw [show pS1 n b 4 ah T k0 = pS2 n b 4 ah T (nI w) (pAd n b k0) by unfold pS1 pA1; rw [if_neg (by omega), pAc_g hw]] at hk9
      refine q_aload_n d142_36 rfl ?_
      refine q_getr (c := 8) (f := 4) d142_37 ⟨rfl, rfl⟩ (xk_136 hM.1.1) (xf_firsts hM.1.1) ?_
      refine q_aload_n d142_40 rfl ?_
      refine q_getv (c := 8) (f := 0) d142_41 ⟨rfl, by decide⟩ (xk_136 hM.1.1) hM.2.2.1 ?_
      refine n_aald d142_44 (xk_firsts hM.1.1) (by decide) (by omega) (by decide) (xr_firsts hM.1.1 (by omega)) ?_
      refine q_iload_n d142_45 rfl ?_
      refine q_iload_n d142_46 rfl ?_
      refine q_iconstN (z := 5) d142_47 ?_
      refine nc_eq 58 d142_48 (by decide) (by decide) (by decide) (fun q => absurd q (by decide)) (fun _ => ?_)
      refine q_aload_n d142_51 rfl ?_
      refine q_getv (c := 8) (f := 38) d142_52 ⟨rfl, by decide⟩ (xk_136 hM.1.1) hM.1.w ?_
      refine n0_eq 62 d142_55 (by decide) (by decide) (fun _ => ?_) (fun q => absurd q (by decide))
      refine q_aload_n d142_62 rfl ?_
      refine q_iconstN (z := 2) d142_63 ?_
      refine q_v1 d142_64 rfl rfl (xk_136 hM.1.1) (Nat.le_of_ble_eq_true rfl) (c143g hM.1 hv (by decide) (by decide) hw (fun hn M2 hG2 f2 => ?_) (fun hn v9 M2 hB2 f2 => ?_))
      · have hM2 := hM.fn hG2 f2
        have hk2 : zi M2 (140 + c) (tn T) = nI 4 := (f2.1 _ _ (by unfold FN; omega)).trans hkd
        refine n_iast d142_67 (xa_firsts hM2.1.1 hc) (by omega) (by decide) ?_
        have fr : Fi (FRw c (tn T)) M2 (zwi M2 (147 + c) (tn T) (nI w)) := (Fi.refl _ _).wi ⟨by omega, rfl⟩
        exact g142b (hM2.rw fr) hv1 h12 (by omega) (by (repeat (first | rw [wi_n (Or.inl (by omega))] | rw [wi_n (Or.inr (by omega))] | rw [wi_s] | rw [wr_i] | rw [cp_n (by omega)] | rw [cp_0 (by omega)])); exact hk2) (by (repeat (first | rw [wi_n (Or.inl (by omega))] | rw [wi_n (Or.inr (by omega))] | rw [wi_s] | rw [wr_i] | rw [cp_n (by omega)] | rw [cp_0 (by omega)]))) (cOX_w hk9 ((f2.mono (fun a j q => FN_J q)).trans (fr.mono (fun a j q => FRw_J q))) (fun _ _ q => q))
      · have hB3 := hM.b hB2 f2
        refine n_iast d142_67 (xa_firsts hB3.1 hc) (by omega) (by decide) ?_
        have g : Fi (fun a k => (a = 136 ∧ (k = 35 ∨ k = 36 ∨ k = 37)) ∨ a = 140 + c ∨ a = 147 + c ∨ a = 154 + c ∨ a = 161 + c ∨ a = 168 + c) M2 (zwi M2 (147 + c) (tn T) v9) := (Fi.refl _ _).wi (Or.inr (by omega))
        exact b142b (hB3.row g) h12 (by omega) (fun v M' h1 h2 => (cOX.bad hk9 (pS2_b hn)) v M' h1 (((f2.mono (fun a j q => FN_J q)).trans (g.mono (fun a j q => by unfold FJ; omega))).trans h2))
    · have hs2 : ∀ w, ytx b k0 ≠ some (2, w) := fun w q => hs ⟨w, q⟩
      have hk9 := k
      rw [show pS1 n b 4 ah T k0 = .error k0.2.1 by unfold pS1 pA1; rw [if_neg (by omega), pAc_b hs2]] at hk9
      refine q_aload_n d142_36 rfl ?_
      refine q_getr (c := 8) (f := 4) d142_37 ⟨rfl, rfl⟩ (xk_136 hM.1.1) (xf_firsts hM.1.1) ?_
      refine q_aload_n d142_40 rfl ?_
      refine q_getv (c := 8) (f := 0) d142_41 ⟨rfl, by decide⟩ (xk_136 hM.1.1) hM.2.2.1 ?_
      refine n_aald d142_44 (xk_firsts hM.1.1) (by decide) (by omega) (by decide) (xr_firsts hM.1.1 (by omega)) ?_
      refine q_iload_n d142_45 rfl ?_
      refine q_iload_n d142_46 rfl ?_
      refine q_iconstN (z := 5) d142_47 ?_
      refine nc_eq 58 d142_48 (by decide) (by decide) (by decide) (fun q => absurd q (by decide)) (fun _ => ?_)
      refine q_aload_n d142_51 rfl ?_
      refine q_getv (c := 8) (f := 38) d142_52 ⟨rfl, by decide⟩ (xk_136 hM.1.1) hM.1.w ?_
      refine n0_eq 62 d142_55 (by decide) (by decide) (fun _ => ?_) (fun q => absurd q (by decide))
      refine q_aload_n d142_62 rfl ?_
      refine q_iconstN (z := 2) d142_63 ?_
      refine q_v1 d142_64 rfl rfl (xk_136 hM.1.1) (Nat.le_of_ble_eq_true rfl) (c143e hM.1 hv (by decide) hs2 (fun v9 M2 hB2 f2 => ?_))
      have hB3 := hM.b hB2 f2
      refine n_iast d142_67 (xa_firsts hB3.1 hc) (by omega) (by decide) ?_
      have g : Fi (fun a k => (a = 136 ∧ (k = 35 ∨ k = 36 ∨ k = 37)) ∨ a = 140 + c ∨ a = 147 + c ∨ a = 154 + c ∨ a = 161 + c ∨ a = 168 + c) M2 (zwi M2 (147 + c) (tn T) v9) := (Fi.refl _ _).wi (Or.inr (by omega))
      exact b142b (hB3.row g) h12 (by omega) (fun v M' h1 h2 => (cOX.e hk9 rfl) v M' h1 (((f2.mono (fun a j q => FN_J q)).trans (g.mono (fun a j q => by unfold FJ; omega))).trans h2))
  · have hk9 := k
    rw [show pS1 n b 5 ah T k0 = pS2 n b 5 ah T (-1) k0 by unfold pS1 pA1; rw [if_pos (by omega)]] at hk9
    refine q_aload_n d142_36 rfl ?_
    refine q_getr (c := 8) (f := 4) d142_37 ⟨rfl, rfl⟩ (xk_136 hM.1.1) (xf_firsts hM.1.1) ?_
    refine q_aload_n d142_40 rfl ?_
    refine q_getv (c := 8) (f := 0) d142_41 ⟨rfl, by decide⟩ (xk_136 hM.1.1) hM.2.2.1 ?_
    refine n_aald d142_44 (xk_firsts hM.1.1) (by decide) (by omega) (by decide) (xr_firsts hM.1.1 (by omega)) ?_
    refine q_iload_n d142_45 rfl ?_
    refine q_iload_n d142_46 rfl ?_
    refine q_iconstN (z := 5) d142_47 ?_
    refine nc_eq 58 d142_48 (by decide) (by decide) (by decide) (fun _ => ?_) (fun q => absurd q (by decide))
    refine q_iconst (x := (-1)) d142_58 rfl ?_
    refine q_goto 67 d142_59 (by decide) ?_
    refine n_iast d142_67 (xa_firsts hM.1.1 (by omega)) (by omega) (by decide) ?_
    have fr : Fi (FRw c (tn T)) M1 (zwi M1 (147 + c) (tn T) (-1)) := (Fi.refl _ _).wi ⟨by omega, rfl⟩
    exact g142b (hM.rw fr) hv h12 (by omega) (by (repeat (first | rw [wi_n (Or.inl (by omega))] | rw [wi_n (Or.inr (by omega))] | rw [wi_s] | rw [wr_i] | rw [cp_n (by omega)] | rw [cp_0 (by omega)])); exact hkd) (by (repeat (first | rw [wi_n (Or.inl (by omega))] | rw [wi_n (Or.inr (by omega))] | rw [wi_s] | rw [wr_i] | rw [cp_n (by omega)] | rw [cp_0 (by omega)]))) (cOX_w hk9 (fr.mono (fun a j q => FRw_J q)) (fun _ _ q => q))
theorem c142 {d : Nat} {M : zM} {Q : Option Value → zM → Prop} {c n o ah kd : Nat} {b : Nat → Nat} {K : yQ} (hG : GX M c n b o K) (hv : yQv n b K) (tok : ytx b K.1 = some (1, kd)) (h12 : tn K.2 < 12) (k : cOX Q M c n b o (pSt n b ah K)) : qC (d + 12) 142 [.ref 136, .int (nI ah)] M Q := by
  refine qC_of (by decide) (Nat.le_of_ble_eq_true rfl) ?_
  obtain ⟨e1, e2, h6⟩ := (ytx_i tok).1 rfl
  rw [pSt_1 e2.symm h6 h12] at k
  refine q_aload_n d142_0 rfl ?_
  refine q_getv (c := 8) (f := 37) d142_1 ⟨rfl, by decide⟩ (xk_136 hG.1) hG.2.2.2.2.2.2.2.2.1 ?_
  refine q_istore_n d142_4 (by decide) rfl ?_
  refine q_aload_n d142_5 rfl ?_
  refine q_dup d142_6 rfl ?_
  refine q_getv (c := 8) (f := 37) d142_7 ⟨rfl, by decide⟩ (xk_136 hG.1) hG.2.2.2.2.2.2.2.2.1 ?_
  refine q_iconstN (z := 1) d142_10 ?_
  refine n_iadd d142_11 ?_
  refine q_puti (c := 8) (f := 37) d142_12 ⟨rfl, rfl, by decide⟩ (xk_136 hG.1) ?_
  have f1 : Fi (fun a k => a = 136 ∧ k = 37) M (zwi M 136 37 (nI (tn K.2 + 1))) := (Fi.refl _ _).wi ⟨rfl, rfl⟩
  have hK1 := hG.k.fi f1 ⟨fun j _ _ _ => by omega, fun j => by omega⟩
  have hc := hG.2.1
  have hM1 : GM (zwi M 136 37 (nI (tn K.2 + 1))) c n b o K.1 K.2 := ⟨hK1, hc, (wi_n (by omega)).trans hG.2.2.1, (wi_n (by omega)).trans hG.2.2.2.2.2.2.1, (wi_n (by omega)).trans hG.2.2.2.2.2.2.2.1, wi_s _ _ _ _, hG.2.2.2.2.2.2.2.2.2.fi f1 (fun a j q => by omega)⟩
  obtain ⟨t9, v9, htv, h33, h34, h38⟩ := hK1.2.2.2
  rw [tok] at htv
  cases htv
  refine q_aload_n d142_15 rfl ?_
  refine q_getv (c := 8) (f := 34) d142_16 ⟨rfl, by decide⟩ (xk_136 hM1.1.1) (h34 (by decide)) ?_
  refine q_istore_n d142_19 (by decide) rfl ?_
  refine q_aload_n d142_20 rfl ?_
  refine q_v0 d142_21 rfl rfl (xk_136 hM1.1.1) (Nat.le_of_ble_eq_true rfl) (c134k hM1.1 hv.1 (fun hn M2 hG2 f2 => ?_) (fun hn M2 hB2 f2 => ?_))
  · have hM2 := hM1.fn hG2 f2
    refine q_aload_n d142_24 rfl ?_
    refine q_getr (c := 8) (f := 3) d142_25 ⟨rfl, rfl⟩ (xk_136 hM2.1.1) (xf_kinds hM2.1.1) ?_
    refine q_aload_n d142_28 rfl ?_
    refine q_getv (c := 8) (f := 0) d142_29 ⟨rfl, by decide⟩ (xk_136 hM2.1.1) hM2.2.2.1 ?_
    refine n_aald d142_32 (xk_kinds hM2.1.1) (by decide) (by omega) (by decide) (xr_kinds hM2.1.1 (by omega)) ?_
    refine q_iload_n d142_33 rfl ?_
    refine q_iload_n d142_34 rfl ?_
    refine n_iast d142_35 (xa_kinds hM2.1.1 (by omega)) (by omega) (by decide) ?_
    have fr : Fi (FRw c (tn K.2)) M2 (zwi M2 (140 + c) (tn K.2) (nI kd)) := (Fi.refl _ _).wi ⟨by omega, rfl⟩
    exact g142a (hM2.rw fr) (pAd_v hv.1 (fun i hi => (hG.2.2.2.1.2.2 i hi).2)).1 h12 h6 (wi_s _ _ _ _) (cOX_w k ((f1.mono (fun a j q => by unfold FJ; omega)).trans ((f2.mono (fun a j q => FN_J q)).trans (fr.mono (fun a j q => FRw_J q)))) (fun _ _ q => q))
  · have hB3 := hM1.b hB2 f2
    refine q_aload_n d142_24 rfl ?_
    refine q_getr (c := 8) (f := 3) d142_25 ⟨rfl, rfl⟩ (xk_136 hB3.1) (xf_kinds hB3.1) ?_
    refine q_aload_n d142_28 rfl ?_
    refine q_getv (c := 8) (f := 0) d142_29 ⟨rfl, by decide⟩ (xk_136 hB3.1) hB3.2.2.1 ?_
    refine n_aald d142_32 (xk_kinds hB3.1) (by decide) (by omega) (by decide) (xr_kinds hB3.1 (by omega)) ?_
    refine q_iload_n d142_33 rfl ?_
    refine q_iload_n d142_34 rfl ?_
    refine n_iast d142_35 (xa_kinds hB3.1 (by omega)) (by omega) (by decide) ?_
    have g : Fi (fun a k => (a = 136 ∧ (k = 35 ∨ k = 36 ∨ k = 37)) ∨ a = 140 + c ∨ a = 147 + c ∨ a = 154 + c ∨ a = 161 + c ∨ a = 168 + c) M2 (zwi M2 (140 + c) (tn K.2) (nI kd)) := (Fi.refl _ _).wi (Or.inr (by omega))
    exact b142a (hB3.row g) h12 h6 (fun v M' h1 h2 => k.bad (pS1_b hn) v M' h1 ((f1.mono (fun a j q => by unfold FJ; omega)).trans (((f2.mono (fun a j q => FN_J q)).trans (g.mono (fun a j q => by unfold FJ; omega))).trans h2)))
/-! ===== the reference: parts are read ===== -/
/-! the reference reads lines -/
theorem ykw_1 {b : Nat → Nat} {s e : Nat} (h : e - s = 1) : ykw b s e = 6 := by
  have f : ∀ i, i < 6 → ¬ ywd b s e i = true := fun i hi => by
    rw [ywd_f1 (by rw [h]; exact (show ∀ i, i < 6 → ¬ 1 = (ywl i).length by decide) i hi)]; decide
  unfold ykw
  rw [ykr, if_neg (f 0 (by omega)), ykr, if_neg (f 1 (by omega)), ykr, if_neg (f 2 (by omega)), ykr, if_neg (f 3 (by omega)), ykr, if_neg (f 4 (by omega)), ykr, if_neg (f 5 (by omega))]
  rfl
theorem ytx_n {b : Nat → Nat} {k : yK} (h : ytx b k = none) : (k.1 = 1 ∧ ykw b k.2.1 k.2.2 = 6) ∨ k.1 = 3 := by
  unfold ytx at h
  by_cases c0 : k.1 = 0
  · rw [if_pos c0] at h; cases h
  · rw [if_neg c0] at h
    by_cases c1 : k.1 = 1
    · rw [if_pos c1] at h
      by_cases d1 : k.2.2 - k.2.1 = 1 ∧ b k.2.1 ≤ 102
      · rw [if_pos d1] at h; cases h
      · rw [if_neg d1] at h
        by_cases d2 : ykw b k.2.1 k.2.2 < 6
        · rw [if_pos d2] at h; cases h
        · have h6 : ykw b k.2.1 k.2.2 ≤ 6 := ykr_le 6 0
          exact Or.inl ⟨c1, by omega⟩
    · rw [if_neg c1] at h
      by_cases c2 : k.1 = 2
      · rw [if_pos c2] at h; cases h
      · rw [if_neg c2] at h
        by_cases c3 : k.1 = 3
        · exact Or.inr c3
        · rw [if_neg c3] at h; cases h
theorem pPt_b {n ah : Nat} {b : Nat → Nat} {br : pFn} {top : Bool} {K : yQ} (h : ytx b K.1 = none) : pPt n b br top ah K = .error K.1.2.1 := by
  unfold pPt
  rcases ytx_n h with ⟨h1, h2⟩ | h1
  · rw [if_pos h1]
    unfold pSt
    exact if_pos (Or.inl h2)
  · rw [if_neg (by omega), if_neg (by omega), if_neg (by omega)]
theorem pLd_b {n ah m : Nat} {b : Nat → Nat} {top : Bool} {K : yQ} (h : ytx b K.1 = none) : pLd n b m top ah K = .error K.1.2.1 := by
  rw [pLd_eq]
  unfold pLn
  rw [pPt_b h]
theorem pEx_b {n c own : Nat} {b : Nat → Nat} {K : yQ} (h : ytx b K.1 = none) (hc : 3 < c) : pEx n b c own K = .error K.1.2.1 := by
  unfold pEx
  rcases ytx_n h with ⟨h1, h2⟩ | h1
  · exact if_neg (by omega)
  · exact if_neg (by omega)
theorem pRe_b {n ah r own : Nat} {b : Nat → Nat} {pt : pFn} {K : yQ} (h : ytx b K.1 = none) : pRe n b pt ah r own K = .ok (own, K) := pRe_no (by rcases ytx_n h with ⟨h1, h2⟩ | h1 <;> omega)
theorem GX.n {M : zM} {c n o : Nat} {b : Nat → Nat} {K : yQ} (h : GX M c n b o K) : ytx b K.1 ≠ none := by
  obtain ⟨t, v, h1, h2⟩ := h.2.2.2.2.2.1
  intro q; rw [h1] at q; cases q
theorem GX.bb {M : zM} {c n o : Nat} {b : Nat → Nat} {K : yQ} (h : GX M c n b o K) : ∀ i, i < n → b i < 256 := fun i hi => (h.2.2.2.1.2.2 i hi).2
theorem GX.pi {M : zM} {c n o ah : Nat} {b : Nat → Nat} {K : yQ} (h : GX M c n b o K) : GX (zwi M 136 36 (nI ah)) c n b o (K.1, pPi K.2 ah) := by
  have f : Fi (fun a k => a = 136 ∧ k = 36) M (zwi M 136 36 (nI ah)) := (Fi.refl _ _).wi ⟨rfl, rfl⟩
  obtain ⟨h1, h2, h3, h4, ⟨h5, h6⟩, ⟨t, v, h7, h8, h9, h10⟩, h11, h12, h13, h14⟩ := h
  exact ⟨SX_fi h1 f, h2, (f.1 _ _ (by omega)).trans h3, TXp_fi h4 f ⟨by omega, fun k => by omega⟩, ⟨(f.1 _ _ (by omega)).trans h5, (f.1 _ _ (by omega)).trans h6⟩, ⟨t, v, h7, (f.1 _ _ (by omega)).trans h8, fun q => (f.1 _ _ (by omega)).trans (h9 q), (f.1 _ _ (by omega)).trans h10⟩, (f.1 _ _ (by omega)).trans h11, wi_s _ _ _ _, (f.1 _ _ (by omega)).trans h13, h14.fi f (fun a k q => by omega)⟩
theorem GX.op {M : zM} {c n o p : Nat} {b : Nat → Nat} {K : yQ} (h : GX M c n b o K) : GX (zwi M 136 35 (nI p)) c n b p K := by
  have f : Fi (fun a k => a = 136 ∧ k = 35) M (zwi M 136 35 (nI p)) := (Fi.refl _ _).wi ⟨rfl, rfl⟩
  obtain ⟨h1, h2, h3, h4, ⟨h5, h6⟩, ⟨t, v, h7, h8, h9, h10⟩, h11, h12, h13, h14⟩ := h
  exact ⟨SX_fi h1 f, h2, (f.1 _ _ (by omega)).trans h3, TXp_fi h4 f ⟨by omega, fun k => by omega⟩, ⟨(f.1 _ _ (by omega)).trans h5, (f.1 _ _ (by omega)).trans h6⟩, ⟨t, v, h7, (f.1 _ _ (by omega)).trans h8, fun q => (f.1 _ _ (by omega)).trans (h9 q), (f.1 _ _ (by omega)).trans h10⟩, wi_s _ _ _ _, (f.1 _ _ (by omega)).trans h12, (f.1 _ _ (by omega)).trans h13, h14.fi f (fun a k q => by omega)⟩
theorem FJ_w {M : zM} {c k : Nat} {v : Int32} (h1 : 30 < k) (h2 : k < 39) : Fi (FJ c) M (zwi M 136 k v) := (Fi.refl _ _).wi (Or.inl ⟨rfl, h1, h2⟩)
def cPX (m : Nat) : Prop := ∀ (d : Nat) (M : zM) (Q : Option Value → zM → Prop) (K : yQ) (a1 a2 c n : Nat) (b : Nat → Nat), GX M c n b (3 - m) K → yQv n b K → a1 < 2 ^ tn K.2 → a2 < 2 ^ tn K.2 → (tq m = true → a1 = 0) → cOX Q M c n b (3 - m) (pPt n b (pB0 n b m) (tq m) (a1 ||| a2) K) → qC (d + 3 * m + 13) 139 [.ref 136, .int (nI a1), .int (nI a2)] M Q
def cLX (m : Nat) : Prop := ∀ (d : Nat) (M : zM) (Q : Option Value → zM → Prop) (K : yQ) (ah c n : Nat) (b : Nat → Nat), GX M c n b (3 - m) K → yQv n b K → ah < 2 ^ tn K.2 → (tq m = true → ah = 0) → cOX Q M c n b (3 - m) (pLd n b m (tq m) ah K) → qC (d + 3 * m + 14) 138 [.ref 136, .int (nI ah)] M Q
def cBX (m : Nat) : Prop := ∀ (d : Nat) (M : zM) (Q : Option Value → zM → Prop) (K : yQ) (ah c n : Nat) (b : Nat → Nat), GX M c n b (3 - (m + 1)) K → yQv n b K → ah < 2 ^ tn K.2 → cOX Q M c n b (3 - (m + 1)) (pBr n b (pLd n b m false) ah K) → qC (d + 3 * m + 15) 141 [.ref 136, .int (nI ah)] M Q
theorem d139_0 : decode (zB 139) 0 = .ok (.aload_n 0, 1) := (congrArg (fun c => decode c 0) zeq139).trans (by decide +kernel)
theorem d139_1 : decode (zB 139) 1 = .ok (.getfield 162, 3) := (congrArg (fun c => decode c 1) zeq139).trans (by decide +kernel)
theorem d139_4 : decode (zB 139) 4 = .ok (.ifCond .eq 5, 3) := (congrArg (fun c => decode c 4) zeq139).trans (by decide +kernel)
theorem d139_7 : decode (zB 139) 7 = .ok (.iconst 0, 1) := (congrArg (fun c => decode c 7) zeq139).trans (by decide +kernel)
theorem d139_8 : decode (zB 139) 8 = .ok (.ireturn, 1) := (congrArg (fun c => decode c 8) zeq139).trans (by decide +kernel)
theorem d139_9 : decode (zB 139) 9 = .ok (.aload_n 0, 1) := (congrArg (fun c => decode c 9) zeq139).trans (by decide +kernel)
theorem d139_10 : decode (zB 139) 10 = .ok (.bipush 33, 2) := (congrArg (fun c => decode c 10) zeq139).trans (by decide +kernel)
theorem d139_12 : decode (zB 139) 12 = .ok (.invokevirtual 182, 3) := (congrArg (fun c => decode c 12) zeq139).trans (by decide +kernel)
theorem d139_15 : decode (zB 139) 15 = .ok (.ifCond .eq 34, 3) := (congrArg (fun c => decode c 15) zeq139).trans (by decide +kernel)
theorem d139_18 : decode (zB 139) 18 = .ok (.aload_n 0, 1) := (congrArg (fun c => decode c 18) zeq139).trans (by decide +kernel)
theorem d139_19 : decode (zB 139) 19 = .ok (.getfield 185, 3) := (congrArg (fun c => decode c 19) zeq139).trans (by decide +kernel)
theorem d139_22 : decode (zB 139) 22 = .ok (.ifCond .gt 11, 3) := (congrArg (fun c => decode c 22) zeq139).trans (by decide +kernel)
theorem d139_25 : decode (zB 139) 25 = .ok (.aload_n 0, 1) := (congrArg (fun c => decode c 25) zeq139).trans (by decide +kernel)
theorem d139_26 : decode (zB 139) 26 = .ok (.getfield 188, 3) := (congrArg (fun c => decode c 26) zeq139).trans (by decide +kernel)
theorem d139_29 : decode (zB 139) 29 = .ok (.iconst (-1), 1) := (congrArg (fun c => decode c 29) zeq139).trans (by decide +kernel)
theorem d139_30 : decode (zB 139) 30 = .ok (.if_icmp .eq 8, 3) := (congrArg (fun c => decode c 30) zeq139).trans (by decide +kernel)
theorem d139_33 : decode (zB 139) 33 = .ok (.aload_n 0, 1) := (congrArg (fun c => decode c 33) zeq139).trans (by decide +kernel)
theorem d139_34 : decode (zB 139) 34 = .ok (.iconst 1, 1) := (congrArg (fun c => decode c 34) zeq139).trans (by decide +kernel)
theorem d139_35 : decode (zB 139) 35 = .ok (.putfield 162, 3) := (congrArg (fun c => decode c 35) zeq139).trans (by decide +kernel)
theorem d139_38 : decode (zB 139) 38 = .ok (.aload_n 0, 1) := (congrArg (fun c => decode c 38) zeq139).trans (by decide +kernel)
theorem d139_39 : decode (zB 139) 39 = .ok (.iload_n 2, 1) := (congrArg (fun c => decode c 39) zeq139).trans (by decide +kernel)
theorem d139_40 : decode (zB 139) 40 = .ok (.putfield 188, 3) := (congrArg (fun c => decode c 40) zeq139).trans (by decide +kernel)
theorem d139_43 : decode (zB 139) 43 = .ok (.aload_n 0, 1) := (congrArg (fun c => decode c 43) zeq139).trans (by decide +kernel)
theorem d139_44 : decode (zB 139) 44 = .ok (.invokevirtual 175, 3) := (congrArg (fun c => decode c 44) zeq139).trans (by decide +kernel)
theorem d139_47 : decode (zB 139) 47 = .ok (.iconst 0, 1) := (congrArg (fun c => decode c 47) zeq139).trans (by decide +kernel)
theorem d139_48 : decode (zB 139) 48 = .ok (.ireturn, 1) := (congrArg (fun c => decode c 48) zeq139).trans (by decide +kernel)
theorem d139_49 : decode (zB 139) 49 = .ok (.aload_n 0, 1) := (congrArg (fun c => decode c 49) zeq139).trans (by decide +kernel)
theorem d139_50 : decode (zB 139) 50 = .ok (.bipush 123, 2) := (congrArg (fun c => decode c 50) zeq139).trans (by decide +kernel)
theorem d139_52 : decode (zB 139) 52 = .ok (.invokevirtual 182, 3) := (congrArg (fun c => decode c 52) zeq139).trans (by decide +kernel)
theorem d139_55 : decode (zB 139) 55 = .ok (.ifCond .eq 11, 3) := (congrArg (fun c => decode c 55) zeq139).trans (by decide +kernel)
theorem d139_58 : decode (zB 139) 58 = .ok (.aload_n 0, 1) := (congrArg (fun c => decode c 58) zeq139).trans (by decide +kernel)
theorem d139_59 : decode (zB 139) 59 = .ok (.iload_n 1, 1) := (congrArg (fun c => decode c 59) zeq139).trans (by decide +kernel)
theorem d139_60 : decode (zB 139) 60 = .ok (.iload_n 2, 1) := (congrArg (fun c => decode c 60) zeq139).trans (by decide +kernel)
theorem d139_61 : decode (zB 139) 61 = .ok (.ior, 1) := (congrArg (fun c => decode c 61) zeq139).trans (by decide +kernel)
theorem d139_62 : decode (zB 139) 62 = .ok (.invokevirtual 191, 3) := (congrArg (fun c => decode c 62) zeq139).trans (by decide +kernel)
theorem d139_65 : decode (zB 139) 65 = .ok (.ireturn, 1) := (congrArg (fun c => decode c 65) zeq139).trans (by decide +kernel)
theorem d139_66 : decode (zB 139) 66 = .ok (.aload_n 0, 1) := (congrArg (fun c => decode c 66) zeq139).trans (by decide +kernel)
theorem d139_67 : decode (zB 139) 67 = .ok (.getfield 166, 3) := (congrArg (fun c => decode c 67) zeq139).trans (by decide +kernel)
theorem d139_70 : decode (zB 139) 70 = .ok (.iconst 1, 1) := (congrArg (fun c => decode c 70) zeq139).trans (by decide +kernel)
theorem d139_71 : decode (zB 139) 71 = .ok (.if_icmp .ne 12, 3) := (congrArg (fun c => decode c 71) zeq139).trans (by decide +kernel)
theorem d139_74 : decode (zB 139) 74 = .ok (.aload_n 0, 1) := (congrArg (fun c => decode c 74) zeq139).trans (by decide +kernel)
theorem d139_75 : decode (zB 139) 75 = .ok (.getfield 194, 3) := (congrArg (fun c => decode c 75) zeq139).trans (by decide +kernel)
theorem d139_78 : decode (zB 139) 78 = .ok (.bipush 12, 2) := (congrArg (fun c => decode c 78) zeq139).trans (by decide +kernel)
theorem d139_80 : decode (zB 139) 80 = .ok (.if_icmp .ne 10, 3) := (congrArg (fun c => decode c 80) zeq139).trans (by decide +kernel)
theorem d139_83 : decode (zB 139) 83 = .ok (.aload_n 0, 1) := (congrArg (fun c => decode c 83) zeq139).trans (by decide +kernel)
theorem d139_84 : decode (zB 139) 84 = .ok (.iconst 1, 1) := (congrArg (fun c => decode c 84) zeq139).trans (by decide +kernel)
theorem d139_85 : decode (zB 139) 85 = .ok (.putfield 162, 3) := (congrArg (fun c => decode c 85) zeq139).trans (by decide +kernel)
theorem d139_88 : decode (zB 139) 88 = .ok (.iconst 0, 1) := (congrArg (fun c => decode c 88) zeq139).trans (by decide +kernel)
theorem d139_89 : decode (zB 139) 89 = .ok (.ireturn, 1) := (congrArg (fun c => decode c 89) zeq139).trans (by decide +kernel)
theorem d139_90 : decode (zB 139) 90 = .ok (.aload_n 0, 1) := (congrArg (fun c => decode c 90) zeq139).trans (by decide +kernel)
theorem d139_91 : decode (zB 139) 91 = .ok (.iload_n 1, 1) := (congrArg (fun c => decode c 91) zeq139).trans (by decide +kernel)
theorem d139_92 : decode (zB 139) 92 = .ok (.iload_n 2, 1) := (congrArg (fun c => decode c 92) zeq139).trans (by decide +kernel)
theorem d139_93 : decode (zB 139) 93 = .ok (.ior, 1) := (congrArg (fun c => decode c 93) zeq139).trans (by decide +kernel)
theorem d139_94 : decode (zB 139) 94 = .ok (.invokevirtual 197, 3) := (congrArg (fun c => decode c 94) zeq139).trans (by decide +kernel)
theorem d139_97 : decode (zB 139) 97 = .ok (.ireturn, 1) := (congrArg (fun c => decode c 97) zeq139).trans (by decide +kernel)
theorem d138_0 : decode (zB 138) 0 = .ok (.aload_n 0, 1) := (congrArg (fun c => decode c 0) zeq138).trans (by decide +kernel)
theorem d138_1 : decode (zB 138) 1 = .ok (.iload_n 1, 1) := (congrArg (fun c => decode c 1) zeq138).trans (by decide +kernel)
theorem d138_2 : decode (zB 138) 2 = .ok (.iconst 0, 1) := (congrArg (fun c => decode c 2) zeq138).trans (by decide +kernel)
theorem d138_3 : decode (zB 138) 3 = .ok (.invokevirtual 178, 3) := (congrArg (fun c => decode c 3) zeq138).trans (by decide +kernel)
theorem d138_6 : decode (zB 138) 6 = .ok (.istore_n 2, 1) := (congrArg (fun c => decode c 6) zeq138).trans (by decide +kernel)
theorem d138_7 : decode (zB 138) 7 = .ok (.aload_n 0, 1) := (congrArg (fun c => decode c 7) zeq138).trans (by decide +kernel)
theorem d138_8 : decode (zB 138) 8 = .ok (.bipush 59, 2) := (congrArg (fun c => decode c 8) zeq138).trans (by decide +kernel)
theorem d138_10 : decode (zB 138) 10 = .ok (.invokevirtual 182, 3) := (congrArg (fun c => decode c 10) zeq138).trans (by decide +kernel)
theorem d138_13 : decode (zB 138) 13 = .ok (.ifCond .eq 19, 3) := (congrArg (fun c => decode c 13) zeq138).trans (by decide +kernel)
theorem d138_16 : decode (zB 138) 16 = .ok (.aload_n 0, 1) := (congrArg (fun c => decode c 16) zeq138).trans (by decide +kernel)
theorem d138_17 : decode (zB 138) 17 = .ok (.invokevirtual 175, 3) := (congrArg (fun c => decode c 17) zeq138).trans (by decide +kernel)
theorem d138_20 : decode (zB 138) 20 = .ok (.iload_n 2, 1) := (congrArg (fun c => decode c 20) zeq138).trans (by decide +kernel)
theorem d138_21 : decode (zB 138) 21 = .ok (.aload_n 0, 1) := (congrArg (fun c => decode c 21) zeq138).trans (by decide +kernel)
theorem d138_22 : decode (zB 138) 22 = .ok (.iload_n 1, 1) := (congrArg (fun c => decode c 22) zeq138).trans (by decide +kernel)
theorem d138_23 : decode (zB 138) 23 = .ok (.iload_n 2, 1) := (congrArg (fun c => decode c 23) zeq138).trans (by decide +kernel)
theorem d138_24 : decode (zB 138) 24 = .ok (.invokevirtual 178, 3) := (congrArg (fun c => decode c 24) zeq138).trans (by decide +kernel)
theorem d138_27 : decode (zB 138) 27 = .ok (.ior, 1) := (congrArg (fun c => decode c 27) zeq138).trans (by decide +kernel)
theorem d138_28 : decode (zB 138) 28 = .ok (.istore_n 2, 1) := (congrArg (fun c => decode c 28) zeq138).trans (by decide +kernel)
theorem d138_29 : decode (zB 138) 29 = .ok (.goto (-22), 3) := (congrArg (fun c => decode c 29) zeq138).trans (by decide +kernel)
theorem d138_32 : decode (zB 138) 32 = .ok (.iload_n 2, 1) := (congrArg (fun c => decode c 32) zeq138).trans (by decide +kernel)
theorem d138_33 : decode (zB 138) 33 = .ok (.ireturn, 1) := (congrArg (fun c => decode c 33) zeq138).trans (by decide +kernel)
theorem d141_0 : decode (zB 141) 0 = .ok (.aload_n 0, 1) := (congrArg (fun c => decode c 0) zeq141).trans (by decide +kernel)
theorem d141_1 : decode (zB 141) 1 = .ok (.getfield 185, 3) := (congrArg (fun c => decode c 1) zeq141).trans (by decide +kernel)
theorem d141_4 : decode (zB 141) 4 = .ok (.iconst 3, 1) := (congrArg (fun c => decode c 4) zeq141).trans (by decide +kernel)
theorem d141_5 : decode (zB 141) 5 = .ok (.if_icmp .ne 10, 3) := (congrArg (fun c => decode c 5) zeq141).trans (by decide +kernel)
theorem d141_8 : decode (zB 141) 8 = .ok (.aload_n 0, 1) := (congrArg (fun c => decode c 8) zeq141).trans (by decide +kernel)
theorem d141_9 : decode (zB 141) 9 = .ok (.iconst 1, 1) := (congrArg (fun c => decode c 9) zeq141).trans (by decide +kernel)
theorem d141_10 : decode (zB 141) 10 = .ok (.putfield 162, 3) := (congrArg (fun c => decode c 10) zeq141).trans (by decide +kernel)
theorem d141_13 : decode (zB 141) 13 = .ok (.iconst 0, 1) := (congrArg (fun c => decode c 13) zeq141).trans (by decide +kernel)
theorem d141_14 : decode (zB 141) 14 = .ok (.ireturn, 1) := (congrArg (fun c => decode c 14) zeq141).trans (by decide +kernel)
theorem d141_15 : decode (zB 141) 15 = .ok (.aload_n 0, 1) := (congrArg (fun c => decode c 15) zeq141).trans (by decide +kernel)
theorem d141_16 : decode (zB 141) 16 = .ok (.dup, 1) := (congrArg (fun c => decode c 16) zeq141).trans (by decide +kernel)
theorem d141_17 : decode (zB 141) 17 = .ok (.getfield 185, 3) := (congrArg (fun c => decode c 17) zeq141).trans (by decide +kernel)
theorem d141_20 : decode (zB 141) 20 = .ok (.iconst 1, 1) := (congrArg (fun c => decode c 20) zeq141).trans (by decide +kernel)
theorem d141_21 : decode (zB 141) 21 = .ok (.iadd, 1) := (congrArg (fun c => decode c 21) zeq141).trans (by decide +kernel)
theorem d141_22 : decode (zB 141) 22 = .ok (.putfield 185, 3) := (congrArg (fun c => decode c 22) zeq141).trans (by decide +kernel)
theorem d141_25 : decode (zB 141) 25 = .ok (.aload_n 0, 1) := (congrArg (fun c => decode c 25) zeq141).trans (by decide +kernel)
theorem d141_26 : decode (zB 141) 26 = .ok (.invokevirtual 175, 3) := (congrArg (fun c => decode c 26) zeq141).trans (by decide +kernel)
theorem d141_29 : decode (zB 141) 29 = .ok (.aload_n 0, 1) := (congrArg (fun c => decode c 29) zeq141).trans (by decide +kernel)
theorem d141_30 : decode (zB 141) 30 = .ok (.iload_n 1, 1) := (congrArg (fun c => decode c 30) zeq141).trans (by decide +kernel)
theorem d141_31 : decode (zB 141) 31 = .ok (.invokevirtual 200, 3) := (congrArg (fun c => decode c 31) zeq141).trans (by decide +kernel)
theorem d141_34 : decode (zB 141) 34 = .ok (.istore_n 2, 1) := (congrArg (fun c => decode c 34) zeq141).trans (by decide +kernel)
theorem d141_35 : decode (zB 141) 35 = .ok (.iconst 1, 1) := (congrArg (fun c => decode c 35) zeq141).trans (by decide +kernel)
theorem d141_36 : decode (zB 141) 36 = .ok (.istore_n 3, 1) := (congrArg (fun c => decode c 36) zeq141).trans (by decide +kernel)
theorem d141_37 : decode (zB 141) 37 = .ok (.aload_n 0, 1) := (congrArg (fun c => decode c 37) zeq141).trans (by decide +kernel)
theorem d141_38 : decode (zB 141) 38 = .ok (.bipush 124, 2) := (congrArg (fun c => decode c 38) zeq141).trans (by decide +kernel)
theorem d141_40 : decode (zB 141) 40 = .ok (.invokevirtual 182, 3) := (congrArg (fun c => decode c 40) zeq141).trans (by decide +kernel)
theorem d141_43 : decode (zB 141) 43 = .ok (.ifCond .eq 26, 3) := (congrArg (fun c => decode c 43) zeq141).trans (by decide +kernel)
theorem d141_46 : decode (zB 141) 46 = .ok (.iload_n 3, 1) := (congrArg (fun c => decode c 46) zeq141).trans (by decide +kernel)
theorem d141_47 : decode (zB 141) 47 = .ok (.iconst 3, 1) := (congrArg (fun c => decode c 47) zeq141).trans (by decide +kernel)
theorem d141_48 : decode (zB 141) 48 = .ok (.if_icmp .ge 21, 3) := (congrArg (fun c => decode c 48) zeq141).trans (by decide +kernel)
theorem d141_51 : decode (zB 141) 51 = .ok (.aload_n 0, 1) := (congrArg (fun c => decode c 51) zeq141).trans (by decide +kernel)
theorem d141_52 : decode (zB 141) 52 = .ok (.invokevirtual 175, 3) := (congrArg (fun c => decode c 52) zeq141).trans (by decide +kernel)
theorem d141_55 : decode (zB 141) 55 = .ok (.iload_n 2, 1) := (congrArg (fun c => decode c 55) zeq141).trans (by decide +kernel)
theorem d141_56 : decode (zB 141) 56 = .ok (.aload_n 0, 1) := (congrArg (fun c => decode c 56) zeq141).trans (by decide +kernel)
theorem d141_57 : decode (zB 141) 57 = .ok (.iload_n 1, 1) := (congrArg (fun c => decode c 57) zeq141).trans (by decide +kernel)
theorem d141_58 : decode (zB 141) 58 = .ok (.invokevirtual 200, 3) := (congrArg (fun c => decode c 58) zeq141).trans (by decide +kernel)
theorem d141_61 : decode (zB 141) 61 = .ok (.ior, 1) := (congrArg (fun c => decode c 61) zeq141).trans (by decide +kernel)
theorem d141_62 : decode (zB 141) 62 = .ok (.istore_n 2, 1) := (congrArg (fun c => decode c 62) zeq141).trans (by decide +kernel)
theorem d141_63 : decode (zB 141) 63 = .ok (.iinc 3 1, 3) := (congrArg (fun c => decode c 63) zeq141).trans (by decide +kernel)
theorem d141_66 : decode (zB 141) 66 = .ok (.goto (-29), 3) := (congrArg (fun c => decode c 66) zeq141).trans (by decide +kernel)
theorem d141_69 : decode (zB 141) 69 = .ok (.iload_n 3, 1) := (congrArg (fun c => decode c 69) zeq141).trans (by decide +kernel)
theorem d141_70 : decode (zB 141) 70 = .ok (.iconst 2, 1) := (congrArg (fun c => decode c 70) zeq141).trans (by decide +kernel)
theorem d141_71 : decode (zB 141) 71 = .ok (.if_icmp .lt 12, 3) := (congrArg (fun c => decode c 71) zeq141).trans (by decide +kernel)
theorem d141_74 : decode (zB 141) 74 = .ok (.aload_n 0, 1) := (congrArg (fun c => decode c 74) zeq141).trans (by decide +kernel)
theorem d141_75 : decode (zB 141) 75 = .ok (.bipush 125, 2) := (congrArg (fun c => decode c 75) zeq141).trans (by decide +kernel)
theorem d141_77 : decode (zB 141) 77 = .ok (.invokevirtual 182, 3) := (congrArg (fun c => decode c 77) zeq141).trans (by decide +kernel)
theorem d141_80 : decode (zB 141) 80 = .ok (.ifCond .ne 10, 3) := (congrArg (fun c => decode c 80) zeq141).trans (by decide +kernel)
theorem d141_83 : decode (zB 141) 83 = .ok (.aload_n 0, 1) := (congrArg (fun c => decode c 83) zeq141).trans (by decide +kernel)
theorem d141_84 : decode (zB 141) 84 = .ok (.iconst 1, 1) := (congrArg (fun c => decode c 84) zeq141).trans (by decide +kernel)
theorem d141_85 : decode (zB 141) 85 = .ok (.putfield 162, 3) := (congrArg (fun c => decode c 85) zeq141).trans (by decide +kernel)
theorem d141_88 : decode (zB 141) 88 = .ok (.iconst 0, 1) := (congrArg (fun c => decode c 88) zeq141).trans (by decide +kernel)
theorem d141_89 : decode (zB 141) 89 = .ok (.ireturn, 1) := (congrArg (fun c => decode c 89) zeq141).trans (by decide +kernel)
theorem d141_90 : decode (zB 141) 90 = .ok (.aload_n 0, 1) := (congrArg (fun c => decode c 90) zeq141).trans (by decide +kernel)
theorem d141_91 : decode (zB 141) 91 = .ok (.dup, 1) := (congrArg (fun c => decode c 91) zeq141).trans (by decide +kernel)
theorem d141_92 : decode (zB 141) 92 = .ok (.getfield 185, 3) := (congrArg (fun c => decode c 92) zeq141).trans (by decide +kernel)
theorem d141_95 : decode (zB 141) 95 = .ok (.iconst 1, 1) := (congrArg (fun c => decode c 95) zeq141).trans (by decide +kernel)
theorem d141_96 : decode (zB 141) 96 = .ok (.isub, 1) := (congrArg (fun c => decode c 96) zeq141).trans (by decide +kernel)
theorem d141_97 : decode (zB 141) 97 = .ok (.putfield 185, 3) := (congrArg (fun c => decode c 97) zeq141).trans (by decide +kernel)
theorem d141_100 : decode (zB 141) 100 = .ok (.aload_n 0, 1) := (congrArg (fun c => decode c 100) zeq141).trans (by decide +kernel)
theorem d141_101 : decode (zB 141) 101 = .ok (.invokevirtual 175, 3) := (congrArg (fun c => decode c 101) zeq141).trans (by decide +kernel)
theorem d141_104 : decode (zB 141) 104 = .ok (.iload_n 2, 1) := (congrArg (fun c => decode c 104) zeq141).trans (by decide +kernel)
theorem d141_105 : decode (zB 141) 105 = .ok (.ireturn, 1) := (congrArg (fun c => decode c 105) zeq141).trans (by decide +kernel)
theorem c139f {d : Nat} {M : zM} {Q : Option Value → zM → Prop} {c n f : Nat} {b : Nat → Nat} {x y : Int32} (hB : BX M c n b f) (k : Q (some (.int (nI 0))) M) : qC (d + 1) 139 [.ref 136, .int x, .int y] M Q := by
  refine qC_of (by decide) (Nat.le_of_ble_eq_true rfl) ?_
  refine q_aload_n d139_0 rfl ?_
  refine q_getv (c := 8) (f := 38) d139_1 ⟨rfl, by decide⟩ (xk_136 hB.1) hB.f0 ?_
  refine n0_eq 9 d139_4 (by decide) (by decide) (fun q => absurd q (by decide)) (fun _ => ?_)
  refine q_iconstN (z := 0) d139_7 ?_
  refine q_iret d139_8 rfl ?_
  exact k
theorem c138f {d : Nat} {M : zM} {Q : Option Value → zM → Prop} {c n f : Nat} {b : Nat → Nat} {x : Int32} (hB : BX M c n b f) (k : ∀ v, Q (some (.int v)) M) : qC (d + 2) 138 [.ref 136, .int x] M Q := by
  refine qC_of (by decide) (Nat.le_of_ble_eq_true rfl) ?_
  refine q_aload_n d138_0 rfl ?_
  refine q_iload_n d138_1 rfl ?_
  refine q_iconstN (z := 0) d138_2 ?_
  refine q_v2 d138_3 rfl rfl (xk_136 hB.1) (Nat.le_of_ble_eq_true rfl) (c139f hB ?_)
  refine q_istore_n d138_6 (by decide) rfl ?_
  refine q_aload_n d138_7 rfl ?_
  refine q_bipush (x := nI 59) d138_8 rfl ?_
  refine q_v1 d138_10 rfl rfl (xk_136 hB.1) (Nat.le_of_ble_eq_true rfl) (c140f hB ?_)
  refine n0_eq 32 d138_13 (by decide) (by decide) (fun _ => ?_) (fun q => absurd q (by decide))
  refine q_iload_n d138_32 rfl ?_
  refine q_iret d138_33 rfl ?_
  exact k _
theorem ytx_w {b : Nat → Nat} {k : yK} {t v : Nat} (h1 : k.1 = 1) (h : ytx b k = some (t, v)) : t = 1 ∨ t = 2 := by
  unfold ytx at h
  rw [if_neg (by omega), if_pos h1] at h
  split at h
  · cases h; omega
  · split at h
    · cases h; omega
    · cases h
theorem c141_0 {d : Nat} {M : zM} {Q : Option Value → zM → Prop} {c n : Nat} {b : Nat → Nat} {K : yQ} {x : Int32} (hG : GX M c n b 3 K) (k : Q (some (.int (nI 0))) (zwi M 136 38 (nI 1))) : qC (d + 12) 141 [.ref 136, .int x] M Q := by
  refine qC_of (by decide) (Nat.le_of_ble_eq_true rfl) ?_
  refine q_aload_n d141_0 rfl ?_
  refine q_getv (c := 8) (f := 35) d141_1 ⟨rfl, by decide⟩ (xk_136 hG.1) hG.2.2.2.2.2.2.1 ?_
  refine q_iconstN (z := 3) d141_4 ?_
  refine nc_ne 15 d141_5 (by decide) (by omega) (by omega) (fun h5 => (False.elim (h5 rfl))) (fun h5 => ?_)
  refine q_aload_n d141_8 rfl ?_
  refine q_iconstN (z := 1) d141_9 ?_
  refine q_putz (c := 8) (f := 38) d141_10 ⟨rfl, rfl, by decide⟩ (xk_136 hG.1) (Or.inr rfl) ?_
  refine q_iconstN (z := 0) d141_13 ?_
  refine q_iret d141_14 rfl ?_
  exact k
theorem c139_0 : cPX 0 := by
  intro d M Q K a1 a2 c n b hG hv ha1 ha2 ha hk
  refine qC_of (d := d + 3 * 0 + 12) (by decide) (Nat.le_of_ble_eq_true rfl) ?_
  have hc := hG.2.1
  have h120 := hG.2.2.2.1.1
  have hk1 := hv.1.1.1
  have hk2 := hv.1.1.2.1
  have hk3 := hv.1.1.2.2.1
  have ht12 := hv.2.1
  obtain ⟨t, v, htv, h33, h34, h38⟩ := hG.2.2.2.2.2.1
  have ht4 := ytx_t4 htv hk3
  by_cases h1 : K.1.1 = 1
  · rw [show pPt n b (pB0 n b 0) (tq 0) (a1 ||| a2) K = pSt n b (a1 ||| a2) K from if_pos h1] at hk
    by_cases ht : t = 1
    · subst ht
      by_cases h12 : tn K.2 < 12
      · skip
        refine q_aload_n d139_0 rfl ?_
        refine q_getv (c := 8) (f := 38) d139_1 ⟨rfl, by decide⟩ (xk_136 hG.1) hG.w ?_
        refine n0_eq 9 d139_4 (by decide) (by decide) (fun _ => ?_) (fun q => absurd q (by decide))
        refine q_aload_n d139_9 rfl ?_
        refine q_bipush (x := nI 33) d139_10 rfl ?_
        refine q_v1 d139_12 rfl rfl (xk_136 hG.1) (Nat.le_of_ble_eq_true rfl) (c140n hG hv (by decide) (by decide) (by omega) ?_)
        refine n0_eq 49 d139_15 (by decide) (by decide) (fun _ => ?_) (fun q => absurd q (by decide))
        refine q_aload_n d139_49 rfl ?_
        refine q_bipush (x := nI 123) d139_50 rfl ?_
        refine q_v1 d139_52 rfl rfl (xk_136 hG.1) (Nat.le_of_ble_eq_true rfl) (c140n hG hv (by decide) (by decide) (by omega) ?_)
        refine n0_eq 66 d139_55 (by decide) (by decide) (fun _ => ?_) (fun q => absurd q (by decide))
        refine q_aload_n d139_66 rfl ?_
        refine q_getv (c := 8) (f := 33) d139_67 ⟨rfl, by decide⟩ (xk_136 hG.1) h33 ?_
        refine q_iconstN (z := 1) d139_70 ?_
        refine nc_ne 83 d139_71 (by decide) (by omega) (by omega) (fun h71 => (False.elim (h71 rfl))) (fun h71 => ?_)
        refine q_aload_n d139_74 rfl ?_
        refine q_getv (c := 8) (f := 37) d139_75 ⟨rfl, by decide⟩ (xk_136 hG.1) hG.2.2.2.2.2.2.2.2.1 ?_
        refine q_bipush (x := nI 12) d139_78 rfl ?_
        refine nc_ne 90 d139_80 (by decide) (by omega) (by omega) (fun h80 => ?_) (fun h80 => (False.elim (by omega)))
        refine q_aload_n d139_90 rfl ?_
        refine q_iload_n d139_91 rfl ?_
        refine q_iload_n d139_92 rfl ?_
        refine n_ior d139_93 ?_
        refine q_v1 d139_94 rfl rfl (xk_136 hG.1) (Nat.le_of_ble_eq_true rfl) (c142 hG hv htv h12 ?_)
        exact cOX_w hk (Fi.refl _ _) (fun v M1 q => q_iret d139_97 rfl q)
      · rw [show pSt n b (a1 ||| a2) K = .error K.1.2.1 from by unfold pSt; exact if_pos (Or.inr (by omega))] at hk
        refine q_aload_n d139_0 rfl ?_
        refine q_getv (c := 8) (f := 38) d139_1 ⟨rfl, by decide⟩ (xk_136 hG.1) hG.w ?_
        refine n0_eq 9 d139_4 (by decide) (by decide) (fun _ => ?_) (fun q => absurd q (by decide))
        refine q_aload_n d139_9 rfl ?_
        refine q_bipush (x := nI 33) d139_10 rfl ?_
        refine q_v1 d139_12 rfl rfl (xk_136 hG.1) (Nat.le_of_ble_eq_true rfl) (c140n hG hv (by decide) (by decide) (by omega) ?_)
        refine n0_eq 49 d139_15 (by decide) (by decide) (fun _ => ?_) (fun q => absurd q (by decide))
        refine q_aload_n d139_49 rfl ?_
        refine q_bipush (x := nI 123) d139_50 rfl ?_
        refine q_v1 d139_52 rfl rfl (xk_136 hG.1) (Nat.le_of_ble_eq_true rfl) (c140n hG hv (by decide) (by decide) (by omega) ?_)
        refine n0_eq 66 d139_55 (by decide) (by decide) (fun _ => ?_) (fun q => absurd q (by decide))
        refine q_aload_n d139_66 rfl ?_
        refine q_getv (c := 8) (f := 33) d139_67 ⟨rfl, by decide⟩ (xk_136 hG.1) h33 ?_
        refine q_iconstN (z := 1) d139_70 ?_
        refine nc_ne 83 d139_71 (by decide) (by omega) (by omega) (fun h71 => (False.elim (h71 rfl))) (fun h71 => ?_)
        refine q_aload_n d139_74 rfl ?_
        refine q_getv (c := 8) (f := 37) d139_75 ⟨rfl, by decide⟩ (xk_136 hG.1) hG.2.2.2.2.2.2.2.2.1 ?_
        refine q_bipush (x := nI 12) d139_78 rfl ?_
        refine nc_ne 90 d139_80 (by decide) (by omega) (by omega) (fun h80 => (False.elim (h80 (show tn K.2 = 12 by have := hv.2.1; omega)))) (fun h80 => ?_)
        refine q_aload_n d139_83 rfl ?_
        refine q_iconstN (z := 1) d139_84 ?_
        refine q_putz (c := 8) (f := 38) d139_85 ⟨rfl, rfl, by decide⟩ (xk_136 hG.1) (Or.inr rfl) ?_
        refine q_iconstN (z := 0) d139_88 ?_
        refine q_iret d139_89 rfl ?_
        exact hk _ _ hG.bad GX.badF
    · have hkw : ykw b K.1.2.1 K.1.2.2 = 6 := by
        by_cases ht2 : t = 2
        · exact ykw_1 ((ytx_i htv).2.1 ht2).2.1.1
        · exfalso
          have y := ytx_i htv
          have y4 := (ytx_sg (s := v) htv)
          by_cases ht3 : t = 3
          · have := (y.2.2.1 ht3).1; omega
          · by_cases ht0 : t = 0
            · have := y.2.2.2 ht0; omega
            · exact absurd (ytx_w h1 htv) (by omega)
      rw [show pSt n b (a1 ||| a2) K = .error K.1.2.1 from by unfold pSt; exact if_pos (Or.inl hkw)] at hk
      refine q_aload_n d139_0 rfl ?_
      refine q_getv (c := 8) (f := 38) d139_1 ⟨rfl, by decide⟩ (xk_136 hG.1) hG.w ?_
      refine n0_eq 9 d139_4 (by decide) (by decide) (fun _ => ?_) (fun q => absurd q (by decide))
      refine q_aload_n d139_9 rfl ?_
      refine q_bipush (x := nI 33) d139_10 rfl ?_
      refine q_v1 d139_12 rfl rfl (xk_136 hG.1) (Nat.le_of_ble_eq_true rfl) (c140n hG hv (by decide) (by decide) (by omega) ?_)
      refine n0_eq 49 d139_15 (by decide) (by decide) (fun _ => ?_) (fun q => absurd q (by decide))
      refine q_aload_n d139_49 rfl ?_
      refine q_bipush (x := nI 123) d139_50 rfl ?_
      refine q_v1 d139_52 rfl rfl (xk_136 hG.1) (Nat.le_of_ble_eq_true rfl) (c140n hG hv (by decide) (by decide) (by omega) ?_)
      refine n0_eq 66 d139_55 (by decide) (by decide) (fun _ => ?_) (fun q => absurd q (by decide))
      refine q_aload_n d139_66 rfl ?_
      refine q_getv (c := 8) (f := 33) d139_67 ⟨rfl, by decide⟩ (xk_136 hG.1) h33 ?_
      refine q_iconstN (z := 1) d139_70 ?_
      refine nc_ne 83 d139_71 (by decide) (by omega) (by omega) (fun h71 => ?_) (fun h71 => (False.elim (ht h71)))
      refine q_aload_n d139_83 rfl ?_
      refine q_iconstN (z := 1) d139_84 ?_
      refine q_putz (c := 8) (f := 38) d139_85 ⟨rfl, rfl, by decide⟩ (xk_136 hG.1) (Or.inr rfl) ?_
      refine q_iconstN (z := 0) d139_88 ?_
      refine q_iret d139_89 rfl ?_
      exact hk _ _ hG.bad GX.badF
  · by_cases h2 : K.1.1 = 123
    · rw [show pPt n b (pB0 n b 0) (tq 0) (a1 ||| a2) K = pB0 n b 0 (a1 ||| a2) K from (if_neg h1).trans (if_pos h2)] at hk
      refine q_aload_n d139_0 rfl ?_
      refine q_getv (c := 8) (f := 38) d139_1 ⟨rfl, by decide⟩ (xk_136 hG.1) hG.w ?_
      refine n0_eq 9 d139_4 (by decide) (by decide) (fun _ => ?_) (fun q => absurd q (by decide))
      refine q_aload_n d139_9 rfl ?_
      refine q_bipush (x := nI 33) d139_10 rfl ?_
      refine q_v1 d139_12 rfl rfl (xk_136 hG.1) (Nat.le_of_ble_eq_true rfl) (c140n hG hv (by decide) (by decide) (by omega) ?_)
      refine n0_eq 49 d139_15 (by decide) (by decide) (fun _ => ?_) (fun q => absurd q (by decide))
      refine q_aload_n d139_49 rfl ?_
      refine q_bipush (x := nI 123) d139_50 rfl ?_
      refine q_v1 d139_52 rfl rfl (xk_136 hG.1) (Nat.le_of_ble_eq_true rfl) (c140t hG hv (by decide) (by decide) h2 ?_)
      refine n0_eq 66 d139_55 (by decide) (by decide) (fun q => absurd q (by decide)) (fun _ => ?_)
      refine q_aload_n d139_58 rfl ?_
      refine q_iload_n d139_59 rfl ?_
      refine q_iload_n d139_60 rfl ?_
      refine n_ior d139_61 ?_
      refine q_v1 d139_62 rfl rfl (xk_136 hG.1) (Nat.le_of_ble_eq_true rfl) (c141_0 hG ?_)
      refine q_iret d139_65 rfl ?_
      exact hk _ _ hG.bad GX.badF
    · by_cases h3 : K.1.1 = 33 ∧ tq 0 = true ∧ tp K.2 = -1
      · have hz : 0 = 3 := by have := h3.2.1; unfold tq at this; simp only [beq_iff_eq] at this; omega
        have ha0 := ha h3.2.1
        subst ha0
        rw [show pPt n b (pB0 n b 0) (tq 0) (0 ||| a2) K = .ok (0, (pAd n b K.1, pPi K.2 a2)) from (if_neg h1).trans ((if_neg h2).trans ((if_pos h3).trans (by rw [Nat.zero_or])))] at hk
        refine q_aload_n d139_0 rfl ?_
        refine q_getv (c := 8) (f := 38) d139_1 ⟨rfl, by decide⟩ (xk_136 hG.1) hG.w ?_
        refine n0_eq 9 d139_4 (by decide) (by decide) (fun _ => ?_) (fun q => absurd q (by decide))
        refine q_aload_n d139_9 rfl ?_
        refine q_bipush (x := nI 33) d139_10 rfl ?_
        refine q_v1 d139_12 rfl rfl (xk_136 hG.1) (Nat.le_of_ble_eq_true rfl) (c140t hG hv (by decide) (by decide) h3.1 ?_)
        refine n0_eq 49 d139_15 (by decide) (by decide) (fun q => absurd q (by decide)) (fun _ => ?_)
        refine q_aload_n d139_18 rfl ?_
        refine q_getv (c := 8) (f := 35) d139_19 ⟨rfl, by decide⟩ (xk_136 hG.1) hG.2.2.2.2.2.2.1 ?_
        refine n0_gt 33 d139_22 (by decide) (by omega) (fun h22 => (False.elim (by omega))) (fun h22 => ?_)
        refine q_aload_n d139_25 rfl ?_
        refine q_getv (c := 8) (f := 36) d139_26 ⟨rfl, by decide⟩ (xk_136 hG.1) hG.2.2.2.2.2.2.2.1 ?_
        refine q_iconst (x := (-1)) d139_29 rfl ?_
        refine ic_eq 38 d139_30 (by decide) (fun h30 => ?_) (fun h30 => (False.elim (h30 h3.2.2)))
        refine q_aload_n d139_38 rfl ?_
        refine q_iload_n d139_39 rfl ?_
        refine q_puti (c := 8) (f := 36) d139_40 ⟨rfl, rfl, by decide⟩ (xk_136 hG.1) ?_
        have hv9 : yQv n b (K.1, pPi K.2 a2) := ⟨hv.1, pPi_ok hv.2 ha2⟩
        refine q_aload_n d139_43 rfl ?_
        exact q_v0 d139_44 rfl rfl (xk_136 hG.pi.1) (Nat.le_of_ble_eq_true rfl) (c134g hG.pi hv9 (fun hn M1 hG1 f1 => q_iconstN (z := 0) d139_47 (q_iret d139_48 rfl (hk.1 hn M1 hG1 ((FJ_w (by decide) (by decide)).trans f1)))) (fun hn M1 hB1 f1 => q_iconstN (z := 0) d139_47 (q_iret d139_48 rfl (hk.2 hn _ M1 hB1 ((FJ_w (by decide) (by decide)).trans f1)))))
      · rw [show pPt n b (pB0 n b 0) (tq 0) (a1 ||| a2) K = .error K.1.2.1 from (if_neg h1).trans ((if_neg h2).trans (if_neg h3))] at hk
        by_cases h4 : K.1.1 = 33
        · skip
          refine q_aload_n d139_0 rfl ?_
          refine q_getv (c := 8) (f := 38) d139_1 ⟨rfl, by decide⟩ (xk_136 hG.1) hG.w ?_
          refine n0_eq 9 d139_4 (by decide) (by decide) (fun _ => ?_) (fun q => absurd q (by decide))
          refine q_aload_n d139_9 rfl ?_
          refine q_bipush (x := nI 33) d139_10 rfl ?_
          refine q_v1 d139_12 rfl rfl (xk_136 hG.1) (Nat.le_of_ble_eq_true rfl) (c140t hG hv (by decide) (by decide) h4 ?_)
          refine n0_eq 49 d139_15 (by decide) (by decide) (fun q => absurd q (by decide)) (fun _ => ?_)
          refine q_aload_n d139_18 rfl ?_
          refine q_getv (c := 8) (f := 35) d139_19 ⟨rfl, by decide⟩ (xk_136 hG.1) hG.2.2.2.2.2.2.1 ?_
          refine n0_gt 33 d139_22 (by decide) (by omega) (fun h22 => ?_) (fun h22 => ?_)
          · refine q_aload_n d139_33 rfl ?_
            refine q_iconstN (z := 1) d139_34 ?_
            refine q_putz (c := 8) (f := 38) d139_35 ⟨rfl, rfl, by decide⟩ (xk_136 hG.1) (Or.inr rfl) ?_
            refine q_aload_n d139_38 rfl ?_
            refine q_iload_n d139_39 rfl ?_
            refine q_puti (c := 8) (f := 36) d139_40 ⟨rfl, rfl, by decide⟩ (xk_136 hG.1) ?_
            have hB9 : BX (zwi (zwi M 136 38 (nI 1)) 136 36 (nI a2)) c n b K.1.2.1 := hG.bad.row ((Fi.refl _ _).wi (Or.inl ⟨rfl, by omega⟩))
            refine q_aload_n d139_43 rfl ?_
            refine q_v0 d139_44 rfl rfl (xk_136 hB9.1) (Nat.le_of_ble_eq_true rfl) (c134b hB9 ?_)
            refine q_iconstN (z := 0) d139_47 ?_
            refine q_iret d139_48 rfl ?_
            exact hk _ _ hB9 (GX.badF.trans (FJ_w (by decide) (by decide)))
          · refine q_aload_n d139_25 rfl ?_
            refine q_getv (c := 8) (f := 36) d139_26 ⟨rfl, by decide⟩ (xk_136 hG.1) hG.2.2.2.2.2.2.2.1 ?_
            refine q_iconst (x := (-1)) d139_29 rfl ?_
            refine ic_eq 38 d139_30 (by decide) (fun h30 => (False.elim (h3 ⟨h4, by unfold tq; rw [beq_iff_eq]; omega, h30⟩))) (fun h30 => ?_)
            refine q_aload_n d139_33 rfl ?_
            refine q_iconstN (z := 1) d139_34 ?_
            refine q_putz (c := 8) (f := 38) d139_35 ⟨rfl, rfl, by decide⟩ (xk_136 hG.1) (Or.inr rfl) ?_
            refine q_aload_n d139_38 rfl ?_
            refine q_iload_n d139_39 rfl ?_
            refine q_puti (c := 8) (f := 36) d139_40 ⟨rfl, rfl, by decide⟩ (xk_136 hG.1) ?_
            have hB9 : BX (zwi (zwi M 136 38 (nI 1)) 136 36 (nI a2)) c n b K.1.2.1 := hG.bad.row ((Fi.refl _ _).wi (Or.inl ⟨rfl, by omega⟩))
            refine q_aload_n d139_43 rfl ?_
            refine q_v0 d139_44 rfl rfl (xk_136 hB9.1) (Nat.le_of_ble_eq_true rfl) (c134b hB9 ?_)
            refine q_iconstN (z := 0) d139_47 ?_
            refine q_iret d139_48 rfl ?_
            exact hk _ _ hB9 (GX.badF.trans (FJ_w (by decide) (by decide)))
        · skip
          refine q_aload_n d139_0 rfl ?_
          refine q_getv (c := 8) (f := 38) d139_1 ⟨rfl, by decide⟩ (xk_136 hG.1) hG.w ?_
          refine n0_eq 9 d139_4 (by decide) (by decide) (fun _ => ?_) (fun q => absurd q (by decide))
          refine q_aload_n d139_9 rfl ?_
          refine q_bipush (x := nI 33) d139_10 rfl ?_
          refine q_v1 d139_12 rfl rfl (xk_136 hG.1) (Nat.le_of_ble_eq_true rfl) (c140n hG hv (by decide) (by decide) (by omega) ?_)
          refine n0_eq 49 d139_15 (by decide) (by decide) (fun _ => ?_) (fun q => absurd q (by decide))
          refine q_aload_n d139_49 rfl ?_
          refine q_bipush (x := nI 123) d139_50 rfl ?_
          refine q_v1 d139_52 rfl rfl (xk_136 hG.1) (Nat.le_of_ble_eq_true rfl) (c140n hG hv (by decide) (by decide) (by omega) ?_)
          refine n0_eq 66 d139_55 (by decide) (by decide) (fun _ => ?_) (fun q => absurd q (by decide))
          refine q_aload_n d139_66 rfl ?_
          refine q_getv (c := 8) (f := 33) d139_67 ⟨rfl, by decide⟩ (xk_136 hG.1) h33 ?_
          refine q_iconstN (z := 1) d139_70 ?_
          refine nc_ne 83 d139_71 (by decide) (by omega) (by omega) (fun h71 => ?_) (fun h71 => (False.elim (h1 ((ytx_i htv).1 h71).1)))
          refine q_aload_n d139_83 rfl ?_
          refine q_iconstN (z := 1) d139_84 ?_
          refine q_putz (c := 8) (f := 38) d139_85 ⟨rfl, rfl, by decide⟩ (xk_136 hG.1) (Or.inr rfl) ?_
          refine q_iconstN (z := 0) d139_88 ?_
          refine q_iret d139_89 rfl ?_
          exact hk _ _ hG.bad GX.badF
theorem c139_S (m : Nat) (hm2 : m ≤ 2) (hBr : cBX m) : cPX (m + 1) := by
  intro d M Q K a1 a2 c n b hG hv ha1 ha2 ha hk
  rw [show d + 3 * (m + 1) + 13 = d + 3 * m + 15 + 1 by omega]
  refine qC_of (by decide) (Nat.le_of_ble_eq_true rfl) ?_
  have hc := hG.2.1
  have h120 := hG.2.2.2.1.1
  have hk1 := hv.1.1.1
  have hk2 := hv.1.1.2.1
  have hk3 := hv.1.1.2.2.1
  have ht12 := hv.2.1
  obtain ⟨t, v, htv, h33, h34, h38⟩ := hG.2.2.2.2.2.1
  have ht4 := ytx_t4 htv hk3
  by_cases h1 : K.1.1 = 1
  · rw [show pPt n b (pB0 n b (m + 1)) (tq (m + 1)) (a1 ||| a2) K = pSt n b (a1 ||| a2) K from if_pos h1] at hk
    by_cases ht : t = 1
    · subst ht
      by_cases h12 : tn K.2 < 12
      · skip
        refine q_aload_n d139_0 rfl ?_
        refine q_getv (c := 8) (f := 38) d139_1 ⟨rfl, by decide⟩ (xk_136 hG.1) hG.w ?_
        refine n0_eq 9 d139_4 (by decide) (by decide) (fun _ => ?_) (fun q => absurd q (by decide))
        refine q_aload_n d139_9 rfl ?_
        refine q_bipush (x := nI 33) d139_10 rfl ?_
        refine q_v1 d139_12 rfl rfl (xk_136 hG.1) (Nat.le_of_ble_eq_true rfl) (c140n hG hv (by decide) (by decide) (by omega) ?_)
        refine n0_eq 49 d139_15 (by decide) (by decide) (fun _ => ?_) (fun q => absurd q (by decide))
        refine q_aload_n d139_49 rfl ?_
        refine q_bipush (x := nI 123) d139_50 rfl ?_
        refine q_v1 d139_52 rfl rfl (xk_136 hG.1) (Nat.le_of_ble_eq_true rfl) (c140n hG hv (by decide) (by decide) (by omega) ?_)
        refine n0_eq 66 d139_55 (by decide) (by decide) (fun _ => ?_) (fun q => absurd q (by decide))
        refine q_aload_n d139_66 rfl ?_
        refine q_getv (c := 8) (f := 33) d139_67 ⟨rfl, by decide⟩ (xk_136 hG.1) h33 ?_
        refine q_iconstN (z := 1) d139_70 ?_
        refine nc_ne 83 d139_71 (by decide) (by omega) (by omega) (fun h71 => (False.elim (h71 rfl))) (fun h71 => ?_)
        refine q_aload_n d139_74 rfl ?_
        refine q_getv (c := 8) (f := 37) d139_75 ⟨rfl, by decide⟩ (xk_136 hG.1) hG.2.2.2.2.2.2.2.2.1 ?_
        refine q_bipush (x := nI 12) d139_78 rfl ?_
        refine nc_ne 90 d139_80 (by decide) (by omega) (by omega) (fun h80 => ?_) (fun h80 => (False.elim (by omega)))
        refine q_aload_n d139_90 rfl ?_
        refine q_iload_n d139_91 rfl ?_
        refine q_iload_n d139_92 rfl ?_
        refine n_ior d139_93 ?_
        refine q_v1 d139_94 rfl rfl (xk_136 hG.1) (Nat.le_of_ble_eq_true rfl) (c142 hG hv htv h12 ?_)
        exact cOX_w hk (Fi.refl _ _) (fun v M1 q => q_iret d139_97 rfl q)
      · rw [show pSt n b (a1 ||| a2) K = .error K.1.2.1 from by unfold pSt; exact if_pos (Or.inr (by omega))] at hk
        refine q_aload_n d139_0 rfl ?_
        refine q_getv (c := 8) (f := 38) d139_1 ⟨rfl, by decide⟩ (xk_136 hG.1) hG.w ?_
        refine n0_eq 9 d139_4 (by decide) (by decide) (fun _ => ?_) (fun q => absurd q (by decide))
        refine q_aload_n d139_9 rfl ?_
        refine q_bipush (x := nI 33) d139_10 rfl ?_
        refine q_v1 d139_12 rfl rfl (xk_136 hG.1) (Nat.le_of_ble_eq_true rfl) (c140n hG hv (by decide) (by decide) (by omega) ?_)
        refine n0_eq 49 d139_15 (by decide) (by decide) (fun _ => ?_) (fun q => absurd q (by decide))
        refine q_aload_n d139_49 rfl ?_
        refine q_bipush (x := nI 123) d139_50 rfl ?_
        refine q_v1 d139_52 rfl rfl (xk_136 hG.1) (Nat.le_of_ble_eq_true rfl) (c140n hG hv (by decide) (by decide) (by omega) ?_)
        refine n0_eq 66 d139_55 (by decide) (by decide) (fun _ => ?_) (fun q => absurd q (by decide))
        refine q_aload_n d139_66 rfl ?_
        refine q_getv (c := 8) (f := 33) d139_67 ⟨rfl, by decide⟩ (xk_136 hG.1) h33 ?_
        refine q_iconstN (z := 1) d139_70 ?_
        refine nc_ne 83 d139_71 (by decide) (by omega) (by omega) (fun h71 => (False.elim (h71 rfl))) (fun h71 => ?_)
        refine q_aload_n d139_74 rfl ?_
        refine q_getv (c := 8) (f := 37) d139_75 ⟨rfl, by decide⟩ (xk_136 hG.1) hG.2.2.2.2.2.2.2.2.1 ?_
        refine q_bipush (x := nI 12) d139_78 rfl ?_
        refine nc_ne 90 d139_80 (by decide) (by omega) (by omega) (fun h80 => (False.elim (h80 (show tn K.2 = 12 by have := hv.2.1; omega)))) (fun h80 => ?_)
        refine q_aload_n d139_83 rfl ?_
        refine q_iconstN (z := 1) d139_84 ?_
        refine q_putz (c := 8) (f := 38) d139_85 ⟨rfl, rfl, by decide⟩ (xk_136 hG.1) (Or.inr rfl) ?_
        refine q_iconstN (z := 0) d139_88 ?_
        refine q_iret d139_89 rfl ?_
        exact hk _ _ hG.bad GX.badF
    · have hkw : ykw b K.1.2.1 K.1.2.2 = 6 := by
        by_cases ht2 : t = 2
        · exact ykw_1 ((ytx_i htv).2.1 ht2).2.1.1
        · exfalso
          have y := ytx_i htv
          have y4 := (ytx_sg (s := v) htv)
          by_cases ht3 : t = 3
          · have := (y.2.2.1 ht3).1; omega
          · by_cases ht0 : t = 0
            · have := y.2.2.2 ht0; omega
            · exact absurd (ytx_w h1 htv) (by omega)
      rw [show pSt n b (a1 ||| a2) K = .error K.1.2.1 from by unfold pSt; exact if_pos (Or.inl hkw)] at hk
      refine q_aload_n d139_0 rfl ?_
      refine q_getv (c := 8) (f := 38) d139_1 ⟨rfl, by decide⟩ (xk_136 hG.1) hG.w ?_
      refine n0_eq 9 d139_4 (by decide) (by decide) (fun _ => ?_) (fun q => absurd q (by decide))
      refine q_aload_n d139_9 rfl ?_
      refine q_bipush (x := nI 33) d139_10 rfl ?_
      refine q_v1 d139_12 rfl rfl (xk_136 hG.1) (Nat.le_of_ble_eq_true rfl) (c140n hG hv (by decide) (by decide) (by omega) ?_)
      refine n0_eq 49 d139_15 (by decide) (by decide) (fun _ => ?_) (fun q => absurd q (by decide))
      refine q_aload_n d139_49 rfl ?_
      refine q_bipush (x := nI 123) d139_50 rfl ?_
      refine q_v1 d139_52 rfl rfl (xk_136 hG.1) (Nat.le_of_ble_eq_true rfl) (c140n hG hv (by decide) (by decide) (by omega) ?_)
      refine n0_eq 66 d139_55 (by decide) (by decide) (fun _ => ?_) (fun q => absurd q (by decide))
      refine q_aload_n d139_66 rfl ?_
      refine q_getv (c := 8) (f := 33) d139_67 ⟨rfl, by decide⟩ (xk_136 hG.1) h33 ?_
      refine q_iconstN (z := 1) d139_70 ?_
      refine nc_ne 83 d139_71 (by decide) (by omega) (by omega) (fun h71 => ?_) (fun h71 => (False.elim (ht h71)))
      refine q_aload_n d139_83 rfl ?_
      refine q_iconstN (z := 1) d139_84 ?_
      refine q_putz (c := 8) (f := 38) d139_85 ⟨rfl, rfl, by decide⟩ (xk_136 hG.1) (Or.inr rfl) ?_
      refine q_iconstN (z := 0) d139_88 ?_
      refine q_iret d139_89 rfl ?_
      exact hk _ _ hG.bad GX.badF
  · by_cases h2 : K.1.1 = 123
    · rw [show pPt n b (pB0 n b (m + 1)) (tq (m + 1)) (a1 ||| a2) K = pB0 n b (m + 1) (a1 ||| a2) K from (if_neg h1).trans (if_pos h2)] at hk
      refine q_aload_n d139_0 rfl ?_
      refine q_getv (c := 8) (f := 38) d139_1 ⟨rfl, by decide⟩ (xk_136 hG.1) hG.w ?_
      refine n0_eq 9 d139_4 (by decide) (by decide) (fun _ => ?_) (fun q => absurd q (by decide))
      refine q_aload_n d139_9 rfl ?_
      refine q_bipush (x := nI 33) d139_10 rfl ?_
      refine q_v1 d139_12 rfl rfl (xk_136 hG.1) (Nat.le_of_ble_eq_true rfl) (c140n hG hv (by decide) (by decide) (by omega) ?_)
      refine n0_eq 49 d139_15 (by decide) (by decide) (fun _ => ?_) (fun q => absurd q (by decide))
      refine q_aload_n d139_49 rfl ?_
      refine q_bipush (x := nI 123) d139_50 rfl ?_
      refine q_v1 d139_52 rfl rfl (xk_136 hG.1) (Nat.le_of_ble_eq_true rfl) (c140t hG hv (by decide) (by decide) h2 ?_)
      refine n0_eq 66 d139_55 (by decide) (by decide) (fun q => absurd q (by decide)) (fun _ => ?_)
      refine q_aload_n d139_58 rfl ?_
      refine q_iload_n d139_59 rfl ?_
      refine q_iload_n d139_60 rfl ?_
      refine n_ior d139_61 ?_
      refine q_v1 d139_62 rfl rfl (xk_136 hG.1) (Nat.le_of_ble_eq_true rfl) (hBr (d + 0) _ _ _ _ _ _ _ hG hv (or_lt ha1 ha2) ?_)
      exact cOX_w hk (Fi.refl _ _) (fun v M1 q => q_iret d139_65 rfl q)
    · by_cases h3 : K.1.1 = 33 ∧ tq (m + 1) = true ∧ tp K.2 = -1
      · have hz : (m + 1) = 3 := by have := h3.2.1; unfold tq at this; simp only [beq_iff_eq] at this; omega
        have ha0 := ha h3.2.1
        subst ha0
        rw [show pPt n b (pB0 n b (m + 1)) (tq (m + 1)) (0 ||| a2) K = .ok (0, (pAd n b K.1, pPi K.2 a2)) from (if_neg h1).trans ((if_neg h2).trans ((if_pos h3).trans (by rw [Nat.zero_or])))] at hk
        refine q_aload_n d139_0 rfl ?_
        refine q_getv (c := 8) (f := 38) d139_1 ⟨rfl, by decide⟩ (xk_136 hG.1) hG.w ?_
        refine n0_eq 9 d139_4 (by decide) (by decide) (fun _ => ?_) (fun q => absurd q (by decide))
        refine q_aload_n d139_9 rfl ?_
        refine q_bipush (x := nI 33) d139_10 rfl ?_
        refine q_v1 d139_12 rfl rfl (xk_136 hG.1) (Nat.le_of_ble_eq_true rfl) (c140t hG hv (by decide) (by decide) h3.1 ?_)
        refine n0_eq 49 d139_15 (by decide) (by decide) (fun q => absurd q (by decide)) (fun _ => ?_)
        refine q_aload_n d139_18 rfl ?_
        refine q_getv (c := 8) (f := 35) d139_19 ⟨rfl, by decide⟩ (xk_136 hG.1) hG.2.2.2.2.2.2.1 ?_
        refine n0_gt 33 d139_22 (by decide) (by omega) (fun h22 => (False.elim (by omega))) (fun h22 => ?_)
        refine q_aload_n d139_25 rfl ?_
        refine q_getv (c := 8) (f := 36) d139_26 ⟨rfl, by decide⟩ (xk_136 hG.1) hG.2.2.2.2.2.2.2.1 ?_
        refine q_iconst (x := (-1)) d139_29 rfl ?_
        refine ic_eq 38 d139_30 (by decide) (fun h30 => ?_) (fun h30 => (False.elim (h30 h3.2.2)))
        refine q_aload_n d139_38 rfl ?_
        refine q_iload_n d139_39 rfl ?_
        refine q_puti (c := 8) (f := 36) d139_40 ⟨rfl, rfl, by decide⟩ (xk_136 hG.1) ?_
        have hv9 : yQv n b (K.1, pPi K.2 a2) := ⟨hv.1, pPi_ok hv.2 ha2⟩
        refine q_aload_n d139_43 rfl ?_
        exact q_v0 d139_44 rfl rfl (xk_136 hG.pi.1) (Nat.le_of_ble_eq_true rfl) (c134g hG.pi hv9 (fun hn M1 hG1 f1 => q_iconstN (z := 0) d139_47 (q_iret d139_48 rfl (hk.1 hn M1 hG1 ((FJ_w (by decide) (by decide)).trans f1)))) (fun hn M1 hB1 f1 => q_iconstN (z := 0) d139_47 (q_iret d139_48 rfl (hk.2 hn _ M1 hB1 ((FJ_w (by decide) (by decide)).trans f1)))))
      · rw [show pPt n b (pB0 n b (m + 1)) (tq (m + 1)) (a1 ||| a2) K = .error K.1.2.1 from (if_neg h1).trans ((if_neg h2).trans (if_neg h3))] at hk
        by_cases h4 : K.1.1 = 33
        · skip
          refine q_aload_n d139_0 rfl ?_
          refine q_getv (c := 8) (f := 38) d139_1 ⟨rfl, by decide⟩ (xk_136 hG.1) hG.w ?_
          refine n0_eq 9 d139_4 (by decide) (by decide) (fun _ => ?_) (fun q => absurd q (by decide))
          refine q_aload_n d139_9 rfl ?_
          refine q_bipush (x := nI 33) d139_10 rfl ?_
          refine q_v1 d139_12 rfl rfl (xk_136 hG.1) (Nat.le_of_ble_eq_true rfl) (c140t hG hv (by decide) (by decide) h4 ?_)
          refine n0_eq 49 d139_15 (by decide) (by decide) (fun q => absurd q (by decide)) (fun _ => ?_)
          refine q_aload_n d139_18 rfl ?_
          refine q_getv (c := 8) (f := 35) d139_19 ⟨rfl, by decide⟩ (xk_136 hG.1) hG.2.2.2.2.2.2.1 ?_
          refine n0_gt 33 d139_22 (by decide) (by omega) (fun h22 => ?_) (fun h22 => ?_)
          · refine q_aload_n d139_33 rfl ?_
            refine q_iconstN (z := 1) d139_34 ?_
            refine q_putz (c := 8) (f := 38) d139_35 ⟨rfl, rfl, by decide⟩ (xk_136 hG.1) (Or.inr rfl) ?_
            refine q_aload_n d139_38 rfl ?_
            refine q_iload_n d139_39 rfl ?_
            refine q_puti (c := 8) (f := 36) d139_40 ⟨rfl, rfl, by decide⟩ (xk_136 hG.1) ?_
            have hB9 : BX (zwi (zwi M 136 38 (nI 1)) 136 36 (nI a2)) c n b K.1.2.1 := hG.bad.row ((Fi.refl _ _).wi (Or.inl ⟨rfl, by omega⟩))
            refine q_aload_n d139_43 rfl ?_
            refine q_v0 d139_44 rfl rfl (xk_136 hB9.1) (Nat.le_of_ble_eq_true rfl) (c134b hB9 ?_)
            refine q_iconstN (z := 0) d139_47 ?_
            refine q_iret d139_48 rfl ?_
            exact hk _ _ hB9 (GX.badF.trans (FJ_w (by decide) (by decide)))
          · refine q_aload_n d139_25 rfl ?_
            refine q_getv (c := 8) (f := 36) d139_26 ⟨rfl, by decide⟩ (xk_136 hG.1) hG.2.2.2.2.2.2.2.1 ?_
            refine q_iconst (x := (-1)) d139_29 rfl ?_
            refine ic_eq 38 d139_30 (by decide) (fun h30 => (False.elim (h3 ⟨h4, by unfold tq; rw [beq_iff_eq]; omega, h30⟩))) (fun h30 => ?_)
            refine q_aload_n d139_33 rfl ?_
            refine q_iconstN (z := 1) d139_34 ?_
            refine q_putz (c := 8) (f := 38) d139_35 ⟨rfl, rfl, by decide⟩ (xk_136 hG.1) (Or.inr rfl) ?_
            refine q_aload_n d139_38 rfl ?_
            refine q_iload_n d139_39 rfl ?_
            refine q_puti (c := 8) (f := 36) d139_40 ⟨rfl, rfl, by decide⟩ (xk_136 hG.1) ?_
            have hB9 : BX (zwi (zwi M 136 38 (nI 1)) 136 36 (nI a2)) c n b K.1.2.1 := hG.bad.row ((Fi.refl _ _).wi (Or.inl ⟨rfl, by omega⟩))
            refine q_aload_n d139_43 rfl ?_
            refine q_v0 d139_44 rfl rfl (xk_136 hB9.1) (Nat.le_of_ble_eq_true rfl) (c134b hB9 ?_)
            refine q_iconstN (z := 0) d139_47 ?_
            refine q_iret d139_48 rfl ?_
            exact hk _ _ hB9 (GX.badF.trans (FJ_w (by decide) (by decide)))
        · skip
          refine q_aload_n d139_0 rfl ?_
          refine q_getv (c := 8) (f := 38) d139_1 ⟨rfl, by decide⟩ (xk_136 hG.1) hG.w ?_
          refine n0_eq 9 d139_4 (by decide) (by decide) (fun _ => ?_) (fun q => absurd q (by decide))
          refine q_aload_n d139_9 rfl ?_
          refine q_bipush (x := nI 33) d139_10 rfl ?_
          refine q_v1 d139_12 rfl rfl (xk_136 hG.1) (Nat.le_of_ble_eq_true rfl) (c140n hG hv (by decide) (by decide) (by omega) ?_)
          refine n0_eq 49 d139_15 (by decide) (by decide) (fun _ => ?_) (fun q => absurd q (by decide))
          refine q_aload_n d139_49 rfl ?_
          refine q_bipush (x := nI 123) d139_50 rfl ?_
          refine q_v1 d139_52 rfl rfl (xk_136 hG.1) (Nat.le_of_ble_eq_true rfl) (c140n hG hv (by decide) (by decide) (by omega) ?_)
          refine n0_eq 66 d139_55 (by decide) (by decide) (fun _ => ?_) (fun q => absurd q (by decide))
          refine q_aload_n d139_66 rfl ?_
          refine q_getv (c := 8) (f := 33) d139_67 ⟨rfl, by decide⟩ (xk_136 hG.1) h33 ?_
          refine q_iconstN (z := 1) d139_70 ?_
          refine nc_ne 83 d139_71 (by decide) (by omega) (by omega) (fun h71 => ?_) (fun h71 => (False.elim (h1 ((ytx_i htv).1 h71).1)))
          refine q_aload_n d139_83 rfl ?_
          refine q_iconstN (z := 1) d139_84 ?_
          refine q_putz (c := 8) (f := 38) d139_85 ⟨rfl, rfl, by decide⟩ (xk_136 hG.1) (Or.inr rfl) ?_
          refine q_iconstN (z := 0) d139_88 ?_
          refine q_iret d139_89 rfl ?_
          exact hk _ _ hG.bad GX.badF
/-! ===== the reference: lines and branches are read ===== -/
theorem l138b {d c n f : Nat} {b : Nat → Nat} {Q : Option Value → zM → Prop} {M1 : zM} {v9 x : Int32} (hB : BX M1 c n b f) (k : Q (some (.int v9)) M1) : qW (zEv (d + 1)) 138 Q 7 [(2, .int v9), (0, .ref 136), (1, .int x)] [] M1 := by
  refine q_aload_n d138_7 rfl ?_
  refine q_bipush (x := nI 59) d138_8 rfl ?_
  refine q_v1 d138_10 rfl rfl (xk_136 hB.1) (Nat.le_of_ble_eq_true rfl) (c140f hB ?_)
  refine n0_eq 32 d138_13 (by decide) (by decide) (fun _ => ?_) (fun q => absurd q (by decide))
  refine q_iload_n d138_32 rfl ?_
  refine q_iret d138_33 rfl ?_
  exact k
theorem l138 {d m : Nat} {Q : Option Value → zM → Prop} {ah c n : Nat} {b : Nat → Nat} (hP : cPX m) : ∀ (r i own : Nat) (K1 : yQ) (M1 : zM), i ≤ 120 → 120 < i + r → i ≤ K1.1.2.1 → GX M1 c n b (3 - m) K1 → yQv n b K1 → ah < 2 ^ tn K1.2 → own < 2 ^ tn K1.2 → (tq m = true → ah = 0) → cOX Q M1 c n b (3 - m) (pRe n b (pPt n b (pB0 n b m) (tq m)) ah (120 - i) own K1) →
    qW (zEv (d + 3 * m + 13)) 138 Q 7 [(2, .int (nI own)), (0, .ref 136), (1, .int (nI ah))] [] M1 := by
  intro r
  induction r with
  | zero => intros; omega
  | succ r ih =>
    intro i own K1 M1 h1 h2 hpos hG1 hv1 hah hown h0 hk
    have hc := hG1.2.1
    have h120 := hG1.2.2.2.1.1
    have hk1 := hv1.1.1.1
    have hk2 := hv1.1.1.2.1
    have hk3 := hv1.1.1.2.2.1
    have hk4 := hv1.1.1.2.2.2
    by_cases ht : K1.1.1 = 59
    · have hi : i < 120 := by have := hk4 (by omega); omega
      rw [show 120 - i = (120 - (i + 1)) + 1 by omega] at hk
      refine q_aload_n d138_7 rfl ?_
      refine q_bipush (x := nI 59) d138_8 rfl ?_
      refine q_v1 d138_10 rfl rfl (xk_136 hG1.1) (Nat.le_of_ble_eq_true rfl) (c140t hG1 hv1 (by decide) (by decide) ht ?_)
      refine n0_eq 32 d138_13 (by decide) (by decide) (fun q => absurd q (by decide)) (fun _ => ?_)
      refine q_aload_n d138_16 rfl ?_
      refine q_v0 d138_17 rfl rfl (xk_136 hG1.1) (Nat.le_of_ble_eq_true rfl) (c134g hG1 hv1 (fun hn M2 hG2 f2 => ?_) (fun hn M2 hB2 f2 => ?_))
      · have hv2 : yQv n b (pAd n b K1.1, K1.2) := ⟨(pAd_v hv1.1 hG1.bb).1, hv1.2⟩
        have hpd := (pAd_v hv1.1 hG1.bb).2
        cases e : pPt n b (pB0 n b m) (tq m) (ah ||| own) (pAd n b K1.1, K1.2) with
        | error f =>
          rw [pRe_er ht e] at hk
          refine q_iload_n d138_20 rfl ?_
          refine q_aload_n d138_21 rfl ?_
          refine q_iload_n d138_22 rfl ?_
          refine q_iload_n d138_23 rfl ?_
          refine q_v2 d138_24 rfl rfl (xk_136 hG2.1) (Nat.le_of_ble_eq_true rfl) (hP _ _ _ _ _ _ _ _ _ hG2 hv2 hah hown h0 (cOX_e e (fun v3 M3 hB3 f3 => ?_)))
          refine q_ior d138_27 ?_
          refine q_istore_n d138_28 (by decide) rfl ?_
          refine q_goto 7 d138_29 (by decide) ?_
          exact l138b hB3 (hk _ _ hB3 (f2.trans f3))
        | ok r9 =>
          obtain ⟨w, K2⟩ := r9
          rw [pRe_ok ht e] at hk
          have h9 := pPt_v (top := tq m) hG1.bb (pB0_v hG1.bb m) (ah ||| own) (pAd n b K1.1, K1.2) hv2 (or_lt hah hown)
          rw [e] at h9
          obtain ⟨p1, p2, p3, p4, p5⟩ := h9
          have p2 : tn K1.2 ≤ tn K2.2 := p2
          have p4 : (pAd n b K1.1).2.1 ≤ K2.1.2.1 := p4
          have hw : 2 ^ tn K1.2 ≤ 2 ^ tn K2.2 := Nat.pow_le_pow_right (by omega) p2
          refine q_iload_n d138_20 rfl ?_
          refine q_aload_n d138_21 rfl ?_
          refine q_iload_n d138_22 rfl ?_
          refine q_iload_n d138_23 rfl ?_
          refine q_v2 d138_24 rfl rfl (xk_136 hG2.1) (Nat.le_of_ble_eq_true rfl) (hP _ _ _ _ _ _ _ _ _ hG2 hv2 hah hown h0 (cOX_o e (fun hn M3 hG3 f3 => ?_) (fun hn v3 M3 hB3 f3 => ?_)))
          · refine n_ior d138_27 ?_
            refine q_istore_n d138_28 (by decide) rfl ?_
            refine q_goto 7 d138_29 (by decide) ?_
            exact ih (i + 1) _ _ _ (by omega) (by omega) (by have := hk4 (by omega); omega) hG3 p1 (by omega) (or_lt (by omega) p3) h0 (cOX_w hk (f2.trans f3) (fun _ _ q => q))
          · refine q_ior d138_27 ?_
            refine q_istore_n d138_28 (by decide) rfl ?_
            refine q_goto 7 d138_29 (by decide) ?_
            exact l138b hB3 (by rw [pRe_b hn] at hk; exact hk.2 hn _ _ hB3 (f2.trans f3))
      · rw [pRe_er ht (pPt_b (K := (pAd n b K1.1, K1.2)) hn)] at hk
        refine q_iload_n d138_20 rfl ?_
        refine q_aload_n d138_21 rfl ?_
        refine q_iload_n d138_22 rfl ?_
        refine q_iload_n d138_23 rfl ?_
        refine q_v2 d138_24 rfl rfl (xk_136 hB2.1) (Nat.le_of_ble_eq_true rfl) (c139f hB2 ?_)
        refine n_ior d138_27 ?_
        refine q_istore_n d138_28 (by decide) rfl ?_
        refine q_goto 7 d138_29 (by decide) ?_
        exact l138b hB2 (hk _ _ hB2 f2)
    · rw [pRe_no ht] at hk
      refine q_aload_n d138_7 rfl ?_
      refine q_bipush (x := nI 59) d138_8 rfl ?_
      refine q_v1 d138_10 rfl rfl (xk_136 hG1.1) (Nat.le_of_ble_eq_true rfl) (c140n hG1 hv1 (by decide) (by decide) ht ?_)
      refine n0_eq 32 d138_13 (by decide) (by decide) (fun _ => ?_) (fun q => absurd q (by decide))
      refine q_iload_n d138_32 rfl ?_
      refine q_iret d138_33 rfl ?_
      exact hk.1 hG1.n _ hG1 (Fi.refl _ _)
theorem c138_of (m : Nat) (hP : cPX m) : cLX m := by
  intro d M Q K ah c n b hG hv hah h0 hk
  refine qC_of (d := d + 3 * m + 13) (by decide) (Nat.le_of_ble_eq_true rfl) ?_
  rw [pLd_eq] at hk
  unfold pLn at hk
  cases e : pPt n b (pB0 n b m) (tq m) ah K with
  | error f =>
    rw [e] at hk
    simp only [] at hk
    rw [← Nat.or_zero ah] at e
    refine q_aload_n d138_0 rfl ?_
    refine q_iload_n d138_1 rfl ?_
    refine q_iconstN (z := 0) d138_2 ?_
    refine q_v2 d138_3 rfl rfl (xk_136 hG.1) (Nat.le_of_ble_eq_true rfl) (hP _ _ _ _ _ _ _ _ _ hG hv hah (Nat.two_pow_pos _) h0 (cOX_e e (fun v3 M3 hB3 f3 => ?_)))
    refine q_istore_n d138_6 (by decide) rfl ?_
    exact l138b hB3 (hk _ _ hB3 f3)
  | ok r9 =>
    obtain ⟨w, K2⟩ := r9
    rw [e] at hk
    simp only [] at hk
    have h9 := pPt_v (top := tq m) hG.bb (pB0_v hG.bb m) ah K hv hah
    rw [e] at h9
    obtain ⟨p1, p2, p3, p4, p5⟩ := h9
    have hw : 2 ^ tn K.2 ≤ 2 ^ tn K2.2 := Nat.pow_le_pow_right (by omega) p2
    rw [← Nat.or_zero ah] at e
    refine q_aload_n d138_0 rfl ?_
    refine q_iload_n d138_1 rfl ?_
    refine q_iconstN (z := 0) d138_2 ?_
    refine q_v2 d138_3 rfl rfl (xk_136 hG.1) (Nat.le_of_ble_eq_true rfl) (hP _ _ _ _ _ _ _ _ _ hG hv hah (Nat.two_pow_pos _) h0 (cOX_o e (fun hn M3 hG3 f3 => ?_) (fun hn v3 M3 hB3 f3 => ?_)))
    · refine q_istore_n d138_6 (by decide) rfl ?_
      exact l138 hP 121 0 _ _ _ (by omega) (by omega) (Nat.zero_le _) hG3 p1 (by omega) p3 h0 (cOX_w hk f3 (fun _ _ q => q))
    · refine q_istore_n d138_6 (by decide) rfl ?_
      exact l138b hB3 (by rw [pRe_b hn] at hk; exact hk.2 hn _ _ hB3 f3)
theorem x141 {d c n f mm : Nat} {b : Nat → Nat} {Q : Option Value → zM → Prop} {M1 : zM} {v9 x : Int32} (hB : BX M1 c n b f) (hm : mm < 5) (k : ∀ v M', BX M' c n b f → Fi (FJ c) M1 M' → Q (some (.int v)) M') : qW (zEv (d + 2)) 141 Q 37 [(0, .ref 136), (1, .int x), (2, .int v9), (3, .int (nI mm))] [] M1 := by
  refine q_aload_n d141_37 rfl ?_
  refine q_bipush (x := nI 124) d141_38 rfl ?_
  refine q_v1 d141_40 rfl rfl (xk_136 hB.1) (Nat.le_of_ble_eq_true rfl) (c140f hB ?_)
  refine n0_eq 69 d141_43 (by decide) (by decide) (fun _ => ?_) (fun q => absurd q (by decide))
  refine q_iload_n d141_69 rfl ?_
  refine q_iconstN (z := 2) d141_70 ?_
  refine nc_lt 83 d141_71 (by decide) (by omega) (by omega) (fun h71 => ?_) (fun h71 => ?_)
  · refine q_aload_n d141_83 rfl ?_
    refine q_iconstN (z := 1) d141_84 ?_
    refine q_putz (c := 8) (f := 38) d141_85 ⟨rfl, rfl, by decide⟩ (xk_136 hB.1) (Or.inr rfl) ?_
    refine q_iconstN (z := 0) d141_88 ?_
    refine q_iret d141_89 rfl ?_
    exact k _ _ hB.bad GX.badF
  · refine q_aload_n d141_74 rfl ?_
    refine q_bipush (x := nI 125) d141_75 rfl ?_
    refine q_v1 d141_77 rfl rfl (xk_136 hB.1) (Nat.le_of_ble_eq_true rfl) (c140f hB ?_)
    refine n0_ne 90 d141_80 (by decide) (by decide) (fun q => absurd q (by decide)) (fun _ => ?_)
    refine q_aload_n d141_83 rfl ?_
    refine q_iconstN (z := 1) d141_84 ?_
    refine q_putz (c := 8) (f := 38) d141_85 ⟨rfl, rfl, by decide⟩ (xk_136 hB.1) (Or.inr rfl) ?_
    refine q_iconstN (z := 0) d141_88 ?_
    refine q_iret d141_89 rfl ?_
    exact k _ _ hB.bad GX.badF
/-- branches, from behind their second line; from behind their first -/
def pBt (n : Nat) (b : Nat → Nat) (ln : pFn) (ah own : Nat) (K : yQ) : Except Nat (Nat × yQ) := match pB3 n b ln ah own K with
  | .error f => .error f
  | .ok (o3, Q4) => pEx n b 125 o3 Q4
def pBu (n : Nat) (b : Nat → Nat) (ln : pFn) (ah own : Nat) (K : yQ) : Except Nat (Nat × yQ) := match pEx n b 124 own K with
  | .error f => .error f
  | .ok (_, Q2) => match ln ah Q2 with
    | .error f => .error f
    | .ok (o2, Q3) => pBt n b ln ah (own ||| o2) Q3
theorem pBt_b {n ah own : Nat} {b : Nat → Nat} {ln : pFn} {K : yQ} (h : ytx b K.1 = none) : pBt n b ln ah own K = .error K.1.2.1 := by
  unfold pBt pB3
  rw [if_neg (by rcases ytx_n h with ⟨h1, h2⟩ | h1 <;> omega)]
  exact pEx_b h (by decide)
theorem pBu_b {n ah own : Nat} {b : Nat → Nat} {ln : pFn} {K : yQ} (h : ytx b K.1 = none) : pBu n b ln ah own K = .error K.1.2.1 := by
  unfold pBu
  rw [pEx_b h (by decide)]
theorem pBr_u {n ah : Nat} {b : Nat → Nat} {ln : pFn} {K : yQ} : pBr n b ln ah K = match ln ah (pAd n b K.1, K.2) with
    | .error f => .error f
    | .ok (o1, Q1) => pBu n b ln ah o1 Q1 := rfl
theorem e141 {d m : Nat} {Q : Option Value → zM → Prop} {ah own c n mm : Nat} {b : Nat → Nat} {K1 : yQ} {M1 : zM} (hm : m ≤ 2) (hL : cLX m) (hG1 : GX M1 c n b (3 - m) K1) (hv1 : yQv n b K1) (h2 : 2 ≤ mm) (h3 : mm ≤ 3) (k : cOX Q M1 c n b (3 - (m + 1)) (pEx n b 125 own K1)) : qW (zEv (d + 3 * m + 14)) 141 Q 69 [(0, .ref 136), (1, .int (nI ah)), (2, .int (nI own)), (3, .int (nI mm))] [] M1 := by
  have hc := hG1.2.1
  have h120 := hG1.2.2.2.1.1
  have hk1 := hv1.1.1.1
  have hk2 := hv1.1.1.2.1
  have hk3 := hv1.1.1.2.2.1
  have hk4 := hv1.1.1.2.2.2
  by_cases ht : K1.1.1 = 125
  · rw [show pEx n b 125 own K1 = .ok (own, (pAd n b K1.1, K1.2)) from if_pos ht] at k
    refine q_iload_n d141_69 rfl ?_
    refine q_iconstN (z := 2) d141_70 ?_
    refine nc_lt 83 d141_71 (by decide) (by omega) (by omega) (fun h71 => (False.elim (by omega))) (fun h71 => ?_)
    refine q_aload_n d141_74 rfl ?_
    refine q_bipush (x := nI 125) d141_75 rfl ?_
    refine q_v1 d141_77 rfl rfl (xk_136 hG1.1) (Nat.le_of_ble_eq_true rfl) (c140t hG1 hv1 (by decide) (by decide) ht ?_)
    refine n0_ne 90 d141_80 (by decide) (by decide) (fun _ => ?_) (fun q => absurd q (by decide))
    refine q_aload_n d141_90 rfl ?_
    refine q_dup d141_91 rfl ?_
    refine q_getv (c := 8) (f := 35) d141_92 ⟨rfl, by decide⟩ (xk_136 hG1.1) hG1.2.2.2.2.2.2.1 ?_
    refine q_iconstN (z := 1) d141_95 ?_
    refine n_isub d141_96 (by omega) ?_
    refine q_puti (c := 8) (f := 35) d141_97 ⟨rfl, rfl, by decide⟩ (xk_136 hG1.1) ?_
    have hG2 : GX (zwi M1 136 35 (nI (3 - m - 1))) c n b (3 - (m + 1)) K1 := by rw [show 3 - m - 1 = 3 - (m + 1) by omega]; exact hG1.op
    refine q_aload_n d141_100 rfl ?_
    exact q_v0 d141_101 rfl rfl (xk_136 hG2.1) (Nat.le_of_ble_eq_true rfl) (c134g hG2 hv1 (fun hn M2 hG3 f2 => q_iload_n d141_104 rfl (q_iret d141_105 rfl (k.1 hn M2 hG3 ((FJ_w (by decide) (by decide)).trans f2)))) (fun hn M2 hB3 f2 => q_iload_n d141_104 rfl (q_iret d141_105 rfl (k.2 hn _ M2 hB3 ((FJ_w (by decide) (by decide)).trans f2)))))
  · rw [show pEx n b 125 own K1 = .error K1.1.2.1 from if_neg ht] at k
    refine q_iload_n d141_69 rfl ?_
    refine q_iconstN (z := 2) d141_70 ?_
    refine nc_lt 83 d141_71 (by decide) (by omega) (by omega) (fun h71 => (False.elim (by omega))) (fun h71 => ?_)
    refine q_aload_n d141_74 rfl ?_
    refine q_bipush (x := nI 125) d141_75 rfl ?_
    refine q_v1 d141_77 rfl rfl (xk_136 hG1.1) (Nat.le_of_ble_eq_true rfl) (c140n hG1 hv1 (by decide) (by decide) ht ?_)
    refine n0_ne 90 d141_80 (by decide) (by decide) (fun q => absurd q (by decide)) (fun _ => ?_)
    refine q_aload_n d141_83 rfl ?_
    refine q_iconstN (z := 1) d141_84 ?_
    refine q_putz (c := 8) (f := 38) d141_85 ⟨rfl, rfl, by decide⟩ (xk_136 hG1.1) (Or.inr rfl) ?_
    refine q_iconstN (z := 0) d141_88 ?_
    refine q_iret d141_89 rfl ?_
    exact k _ _ hG1.bad GX.badF
theorem t141c {d m : Nat} {Q : Option Value → zM → Prop} {ah own c n : Nat} {b : Nat → Nat} {K1 : yQ} {M1 : zM} (hm : m ≤ 2) (hL : cLX m) (hG1 : GX M1 c n b (3 - m) K1) (hv1 : yQv n b K1) (k : cOX Q M1 c n b (3 - (m + 1)) (pEx n b 125 own K1)) : qW (zEv (d + 3 * m + 14)) 141 Q 37 [(0, .ref 136), (1, .int (nI ah)), (2, .int (nI own)), (3, .int (nI 3))] [] M1 := by
  have hc := hG1.2.1
  have h120 := hG1.2.2.2.1.1
  have hk1 := hv1.1.1.1
  have hk2 := hv1.1.1.2.1
  have hk3 := hv1.1.1.2.2.1
  have hk4 := hv1.1.1.2.2.2
  by_cases ht : K1.1.1 = 124
  · skip
    refine q_aload_n d141_37 rfl ?_
    refine q_bipush (x := nI 124) d141_38 rfl ?_
    refine q_v1 d141_40 rfl rfl (xk_136 hG1.1) (Nat.le_of_ble_eq_true rfl) (c140t hG1 hv1 (by decide) (by decide) ht ?_)
    refine n0_eq 69 d141_43 (by decide) (by decide) (fun q => absurd q (by decide)) (fun _ => ?_)
    refine q_iload_n d141_46 rfl ?_
    refine q_iconstN (z := 3) d141_47 ?_
    refine nc_ge 69 d141_48 (by decide) (by decide) (by decide) (fun _ => ?_) (fun q => absurd q (by decide))
    exact e141 hm hL hG1 hv1 (by decide) (by decide) k
  · skip
    refine q_aload_n d141_37 rfl ?_
    refine q_bipush (x := nI 124) d141_38 rfl ?_
    refine q_v1 d141_40 rfl rfl (xk_136 hG1.1) (Nat.le_of_ble_eq_true rfl) (c140n hG1 hv1 (by decide) (by decide) ht ?_)
    refine n0_eq 69 d141_43 (by decide) (by decide) (fun _ => ?_) (fun q => absurd q (by decide))
    exact e141 hm hL hG1 hv1 (by decide) (by decide) k
theorem t141b {d m : Nat} {Q : Option Value → zM → Prop} {ah own c n : Nat} {b : Nat → Nat} {K1 : yQ} {M1 : zM} (hm : m ≤ 2) (hL : cLX m) (hG1 : GX M1 c n b (3 - m) K1) (hv1 : yQv n b K1) (hah : ah < 2 ^ tn K1.2) (hown : own < 2 ^ tn K1.2) (h0 : tq m = true → ah = 0) (k : cOX Q M1 c n b (3 - (m + 1)) (pBt n b (pLd n b m (tq m)) ah own K1)) : qW (zEv (d + 3 * m + 14)) 141 Q 37 [(0, .ref 136), (1, .int (nI ah)), (2, .int (nI own)), (3, .int (nI 2))] [] M1 := by
  have hc := hG1.2.1
  have h120 := hG1.2.2.2.1.1
  have hk1 := hv1.1.1.1
  have hk2 := hv1.1.1.2.1
  have hk3 := hv1.1.1.2.2.1
  have hk4 := hv1.1.1.2.2.2
  by_cases ht : K1.1.1 = 124
  · skip
    refine q_aload_n d141_37 rfl ?_
    refine q_bipush (x := nI 124) d141_38 rfl ?_
    refine q_v1 d141_40 rfl rfl (xk_136 hG1.1) (Nat.le_of_ble_eq_true rfl) (c140t hG1 hv1 (by decide) (by decide) ht ?_)
    refine n0_eq 69 d141_43 (by decide) (by decide) (fun q => absurd q (by decide)) (fun _ => ?_)
    refine q_iload_n d141_46 rfl ?_
    refine q_iconstN (z := 3) d141_47 ?_
    refine nc_ge 69 d141_48 (by decide) (by decide) (by decide) (fun q => absurd q (by decide)) (fun _ => ?_)
    refine q_aload_n d141_51 rfl ?_
    refine q_v0 d141_52 rfl rfl (xk_136 hG1.1) (Nat.le_of_ble_eq_true rfl) (c134g hG1 hv1 (fun hn M2 hG2 f2 => ?_) (fun hn M2 hB2 f2 => ?_))
    · have hv2 : yQv n b (pAd n b K1.1, K1.2) := ⟨(pAd_v hv1.1 hG1.bb).1, hv1.2⟩
      cases e : pLd n b m (tq m) ah (pAd n b K1.1, K1.2) with
      | error f =>
        have ke : ∀ v M', BX M' c n b f → Fi (FJ c) M1 M' → Q (some (.int v)) M' := k.e (by unfold pBt pB3; rw [if_pos ht, e])
        refine q_iload_n d141_55 rfl ?_
        refine q_aload_n d141_56 rfl ?_
        refine q_iload_n d141_57 rfl ?_
        refine q_v1 d141_58 rfl rfl (xk_136 hG2.1) (Nat.le_of_ble_eq_true rfl) (hL _ _ _ _ _ _ _ _ hG2 hv2 hah h0 (cOX_e e (fun v3 M3 hB3 f3 => ?_)))
        refine q_ior d141_61 ?_
        refine q_istore_n d141_62 (by decide) rfl ?_
        refine n_iinc 1 d141_63 (by decide) rfl rfl ?_
        refine q_goto 37 d141_66 (by decide) ?_
        refine qW_srt rfl rfl ?_
        exact x141 hB3 (by decide) (fun v M' g1 g2 => ke v M' g1 ((f2.trans f3).trans g2))
      | ok r9 =>
        obtain ⟨w, K2⟩ := r9
        have h9 := pLd_v hG1.bb m (tq m) ah (pAd n b K1.1, K1.2) hv2 hah
        rw [e] at h9
        obtain ⟨p1, p2, p3, p4, p5⟩ := h9
        have p2 : tn K1.2 ≤ tn K2.2 := p2
        have hw : 2 ^ tn K1.2 ≤ 2 ^ tn K2.2 := Nat.pow_le_pow_right (by omega) p2
        have ko : ytx b K2.1 = none → ∀ v M', BX M' c n b K2.1.2.1 → Fi (FJ c) M1 M' → Q (some (.int v)) M' := fun hn => k.e (by unfold pBt pB3; rw [if_pos ht, e]; exact pEx_b hn (by decide))
        have kg : cOX Q M1 c n b (3 - (m + 1)) (pEx n b 125 (own ||| w) K2) := by
          have e8 : pBt n b (pLd n b m (tq m)) ah own K1 = pEx n b 125 (own ||| w) K2 := by unfold pBt pB3; rw [if_pos ht, e]
          rw [e8] at k; exact k
        refine q_iload_n d141_55 rfl ?_
        refine q_aload_n d141_56 rfl ?_
        refine q_iload_n d141_57 rfl ?_
        refine q_v1 d141_58 rfl rfl (xk_136 hG2.1) (Nat.le_of_ble_eq_true rfl) (hL _ _ _ _ _ _ _ _ hG2 hv2 hah h0 (cOX_o e (fun hn9 M3 hG3 f3 => ?_) (fun hn9 v3 M3 hB3 f3 => ?_)))
        · refine n_ior d141_61 ?_
          refine q_istore_n d141_62 (by decide) rfl ?_
          refine n_iinc 1 d141_63 (by decide) rfl rfl ?_
          refine q_goto 37 d141_66 (by decide) ?_
          refine qW_srt rfl rfl ?_
          exact t141c hm hL hG3 p1 (cOX_w kg (f2.trans f3) (fun _ _ q => q))
        · refine q_ior d141_61 ?_
          refine q_istore_n d141_62 (by decide) rfl ?_
          refine n_iinc 1 d141_63 (by decide) rfl rfl ?_
          refine q_goto 37 d141_66 (by decide) ?_
          refine qW_srt rfl rfl ?_
          exact x141 hB3 (by decide) (fun v M' g1 g2 => ko hn9 v M' g1 ((f2.trans f3).trans g2))
    · have ke : ∀ v M', BX M' c n b (pAd n b K1.1).2.1 → Fi (FJ c) M1 M' → Q (some (.int v)) M' := k.e (by unfold pBt pB3; rw [if_pos ht, pLd_b (K := (pAd n b K1.1, K1.2)) hn])
      refine q_iload_n d141_55 rfl ?_
      refine q_aload_n d141_56 rfl ?_
      refine q_iload_n d141_57 rfl ?_
      refine q_v1 d141_58 rfl rfl (xk_136 hB2.1) (Nat.le_of_ble_eq_true rfl) (c138f hB2 (fun v8 => ?_))
      refine q_ior d141_61 ?_
      refine q_istore_n d141_62 (by decide) rfl ?_
      refine n_iinc 1 d141_63 (by decide) rfl rfl ?_
      refine q_goto 37 d141_66 (by decide) ?_
      refine qW_srt rfl rfl ?_
      exact x141 hB2 (by decide) (fun v M' g1 g2 => ke v M' g1 (f2.trans g2))
  · rw [show pBt n b (pLd n b m (tq m)) ah own K1 = pEx n b 125 own K1 by unfold pBt pB3; rw [if_neg ht]] at k
    refine q_aload_n d141_37 rfl ?_
    refine q_bipush (x := nI 124) d141_38 rfl ?_
    refine q_v1 d141_40 rfl rfl (xk_136 hG1.1) (Nat.le_of_ble_eq_true rfl) (c140n hG1 hv1 (by decide) (by decide) ht ?_)
    refine n0_eq 69 d141_43 (by decide) (by decide) (fun _ => ?_) (fun q => absurd q (by decide))
    exact e141 hm hL hG1 hv1 (by decide) (by decide) k
theorem t141a {d m : Nat} {Q : Option Value → zM → Prop} {ah own c n : Nat} {b : Nat → Nat} {K1 : yQ} {M1 : zM} (hm : m ≤ 2) (hL : cLX m) (hG1 : GX M1 c n b (3 - m) K1) (hv1 : yQv n b K1) (hah : ah < 2 ^ tn K1.2) (hown : own < 2 ^ tn K1.2) (h0 : tq m = true → ah = 0) (k : cOX Q M1 c n b (3 - (m + 1)) (pBu n b (pLd n b m (tq m)) ah own K1)) : qW (zEv (d + 3 * m + 14)) 141 Q 37 [(0, .ref 136), (1, .int (nI ah)), (2, .int (nI own)), (3, .int (nI 1))] [] M1 := by
  have hc := hG1.2.1
  have h120 := hG1.2.2.2.1.1
  have hk1 := hv1.1.1.1
  have hk2 := hv1.1.1.2.1
  have hk3 := hv1.1.1.2.2.1
  have hk4 := hv1.1.1.2.2.2
  by_cases ht : K1.1.1 = 124
  · skip
    refine q_aload_n d141_37 rfl ?_
    refine q_bipush (x := nI 124) d141_38 rfl ?_
    refine q_v1 d141_40 rfl rfl (xk_136 hG1.1) (Nat.le_of_ble_eq_true rfl) (c140t hG1 hv1 (by decide) (by decide) ht ?_)
    refine n0_eq 69 d141_43 (by decide) (by decide) (fun q => absurd q (by decide)) (fun _ => ?_)
    refine q_iload_n d141_46 rfl ?_
    refine q_iconstN (z := 3) d141_47 ?_
    refine nc_ge 69 d141_48 (by decide) (by decide) (by decide) (fun q => absurd q (by decide)) (fun _ => ?_)
    refine q_aload_n d141_51 rfl ?_
    refine q_v0 d141_52 rfl rfl (xk_136 hG1.1) (Nat.le_of_ble_eq_true rfl) (c134g hG1 hv1 (fun hn M2 hG2 f2 => ?_) (fun hn M2 hB2 f2 => ?_))
    · have hv2 : yQv n b (pAd n b K1.1, K1.2) := ⟨(pAd_v hv1.1 hG1.bb).1, hv1.2⟩
      cases e : pLd n b m (tq m) ah (pAd n b K1.1, K1.2) with
      | error f =>
        have ke : ∀ v M', BX M' c n b f → Fi (FJ c) M1 M' → Q (some (.int v)) M' := k.e (by unfold pBu pEx; rw [if_pos ht]; show (match pLd n b m (tq m) ah (pAd n b K1.1, K1.2) with | .error f => Except.error f | .ok (o2, Q3) => pBt n b (pLd n b m (tq m)) ah (own ||| o2) Q3) = _; rw [e])
        refine q_iload_n d141_55 rfl ?_
        refine q_aload_n d141_56 rfl ?_
        refine q_iload_n d141_57 rfl ?_
        refine q_v1 d141_58 rfl rfl (xk_136 hG2.1) (Nat.le_of_ble_eq_true rfl) (hL _ _ _ _ _ _ _ _ hG2 hv2 hah h0 (cOX_e e (fun v3 M3 hB3 f3 => ?_)))
        refine q_ior d141_61 ?_
        refine q_istore_n d141_62 (by decide) rfl ?_
        refine n_iinc 1 d141_63 (by decide) rfl rfl ?_
        refine q_goto 37 d141_66 (by decide) ?_
        refine qW_srt rfl rfl ?_
        exact x141 hB3 (by decide) (fun v M' g1 g2 => ke v M' g1 ((f2.trans f3).trans g2))
      | ok r9 =>
        obtain ⟨w, K2⟩ := r9
        have h9 := pLd_v hG1.bb m (tq m) ah (pAd n b K1.1, K1.2) hv2 hah
        rw [e] at h9
        obtain ⟨p1, p2, p3, p4, p5⟩ := h9
        have p2 : tn K1.2 ≤ tn K2.2 := p2
        have hw : 2 ^ tn K1.2 ≤ 2 ^ tn K2.2 := Nat.pow_le_pow_right (by omega) p2
        have ko : ytx b K2.1 = none → ∀ v M', BX M' c n b K2.1.2.1 → Fi (FJ c) M1 M' → Q (some (.int v)) M' := fun hn => k.e (by unfold pBu pEx; rw [if_pos ht]; show (match pLd n b m (tq m) ah (pAd n b K1.1, K1.2) with | .error f => Except.error f | .ok (o2, Q3) => pBt n b (pLd n b m (tq m)) ah (own ||| o2) Q3) = _; rw [e]; exact pBt_b hn)
        have kg : cOX Q M1 c n b (3 - (m + 1)) (pBt n b (pLd n b m (tq m)) ah (own ||| w) K2) := by
          have e8 : pBu n b (pLd n b m (tq m)) ah own K1 = pBt n b (pLd n b m (tq m)) ah (own ||| w) K2 := by
            unfold pBu pEx; rw [if_pos ht]
            show (match pLd n b m (tq m) ah (pAd n b K1.1, K1.2) with | .error f => Except.error f | .ok (o2, Q3) => pBt n b (pLd n b m (tq m)) ah (own ||| o2) Q3) = _
            rw [e]
          rw [e8] at k; exact k
        refine q_iload_n d141_55 rfl ?_
        refine q_aload_n d141_56 rfl ?_
        refine q_iload_n d141_57 rfl ?_
        refine q_v1 d141_58 rfl rfl (xk_136 hG2.1) (Nat.le_of_ble_eq_true rfl) (hL _ _ _ _ _ _ _ _ hG2 hv2 hah h0 (cOX_o e (fun hn9 M3 hG3 f3 => ?_) (fun hn9 v3 M3 hB3 f3 => ?_)))
        · refine n_ior d141_61 ?_
          refine q_istore_n d141_62 (by decide) rfl ?_
          refine n_iinc 1 d141_63 (by decide) rfl rfl ?_
          refine q_goto 37 d141_66 (by decide) ?_
          refine qW_srt rfl rfl ?_
          exact t141b hm hL hG3 p1 (by omega) (or_lt (by omega) p3) h0 (cOX_w kg (f2.trans f3) (fun _ _ q => q))
        · refine q_ior d141_61 ?_
          refine q_istore_n d141_62 (by decide) rfl ?_
          refine n_iinc 1 d141_63 (by decide) rfl rfl ?_
          refine q_goto 37 d141_66 (by decide) ?_
          refine qW_srt rfl rfl ?_
          exact x141 hB3 (by decide) (fun v M' g1 g2 => ko hn9 v M' g1 ((f2.trans f3).trans g2))
    · have ke : ∀ v M', BX M' c n b (pAd n b K1.1).2.1 → Fi (FJ c) M1 M' → Q (some (.int v)) M' := k.e (by unfold pBu pEx; rw [if_pos ht]; show (match pLd n b m (tq m) ah (pAd n b K1.1, K1.2) with | .error f => Except.error f | .ok (o2, Q3) => pBt n b (pLd n b m (tq m)) ah (own ||| o2) Q3) = _; rw [pLd_b (K := (pAd n b K1.1, K1.2)) hn])
      refine q_iload_n d141_55 rfl ?_
      refine q_aload_n d141_56 rfl ?_
      refine q_iload_n d141_57 rfl ?_
      refine q_v1 d141_58 rfl rfl (xk_136 hB2.1) (Nat.le_of_ble_eq_true rfl) (c138f hB2 (fun v8 => ?_))
      refine q_ior d141_61 ?_
      refine q_istore_n d141_62 (by decide) rfl ?_
      refine n_iinc 1 d141_63 (by decide) rfl rfl ?_
      refine q_goto 37 d141_66 (by decide) ?_
      refine qW_srt rfl rfl ?_
      exact x141 hB2 (by decide) (fun v M' g1 g2 => ke v M' g1 (f2.trans g2))
  · rw [show pBu n b (pLd n b m (tq m)) ah own K1 = .error K1.1.2.1 by unfold pBu pEx; rw [if_neg ht]] at k
    refine q_aload_n d141_37 rfl ?_
    refine q_bipush (x := nI 124) d141_38 rfl ?_
    refine q_v1 d141_40 rfl rfl (xk_136 hG1.1) (Nat.le_of_ble_eq_true rfl) (c140n hG1 hv1 (by decide) (by decide) ht ?_)
    refine n0_eq 69 d141_43 (by decide) (by decide) (fun _ => ?_) (fun q => absurd q (by decide))
    refine q_iload_n d141_69 rfl ?_
    refine q_iconstN (z := 2) d141_70 ?_
    refine nc_lt 83 d141_71 (by decide) (by decide) (by decide) (fun _ => ?_) (fun q => absurd q (by decide))
    refine q_aload_n d141_83 rfl ?_
    refine q_iconstN (z := 1) d141_84 ?_
    refine q_putz (c := 8) (f := 38) d141_85 ⟨rfl, rfl, by decide⟩ (xk_136 hG1.1) (Or.inr rfl) ?_
    refine q_iconstN (z := 0) d141_88 ?_
    refine q_iret d141_89 rfl ?_
    exact k _ _ hG1.bad GX.badF
theorem c141_of (m : Nat) (hm : m ≤ 2) (hL : cLX m) : cBX m := by
  intro d M Q K ah c n b hG hv hah hk
  have hq : tq m = false := by unfold tq; exact beq_false_of_ne (by omega)
  have h0 : tq m = true → ah = 0 := fun q => by rw [hq] at q; cases q
  refine qC_of (d := d + 3 * m + 14) (by decide) (Nat.le_of_ble_eq_true rfl) ?_
  refine q_aload_n d141_0 rfl ?_
  refine q_getv (c := 8) (f := 35) d141_1 ⟨rfl, by decide⟩ (xk_136 hG.1) hG.2.2.2.2.2.2.1 ?_
  refine q_iconstN (z := 3) d141_4 ?_
  refine nc_ne 15 d141_5 (by decide) (by omega) (by omega) (fun h5 => ?_) (fun h5 => (False.elim (by omega)))
  refine q_aload_n d141_15 rfl ?_
  refine q_dup d141_16 rfl ?_
  refine q_getv (c := 8) (f := 35) d141_17 ⟨rfl, by decide⟩ (xk_136 hG.1) hG.2.2.2.2.2.2.1 ?_
  refine q_iconstN (z := 1) d141_20 ?_
  refine n_iadd d141_21 ?_
  refine q_puti (c := 8) (f := 35) d141_22 ⟨rfl, rfl, by decide⟩ (xk_136 hG.1) ?_
  have hG2 : GX (zwi M 136 35 (nI (3 - (m + 1) + 1))) c n b (3 - m) K := by rw [show 3 - (m + 1) + 1 = 3 - m by omega]; exact hG.op
  have f1 : Fi (FJ c) M (zwi M 136 35 (nI (3 - (m + 1) + 1))) := FJ_w (by decide) (by decide)
  refine q_aload_n d141_25 rfl ?_
  refine q_v0 d141_26 rfl rfl (xk_136 hG2.1) (Nat.le_of_ble_eq_true rfl) (c134g hG2 hv (fun hn M2 hG3 f2 => ?_) (fun hn M2 hB2 f2 => ?_))
  · have hv2 : yQv n b (pAd n b K.1, K.2) := ⟨(pAd_v hv.1 hG.bb).1, hv.2⟩
    cases e : pLd n b m (tq m) ah (pAd n b K.1, K.2) with
    | error f =>
      have ke : ∀ v M', BX M' c n b f → Fi (FJ c) M M' → Q (some (.int v)) M' := hk.e (by rw [pBr_u, ← hq, e])
      refine q_aload_n d141_29 rfl ?_
      refine q_iload_n d141_30 rfl ?_
      refine q_v1 d141_31 rfl rfl (xk_136 hG3.1) (Nat.le_of_ble_eq_true rfl) (hL _ _ _ _ _ _ _ _ hG3 hv2 hah h0 (cOX_e e (fun v3 M3 hB3 f3 => ?_)))
      refine q_istore_n d141_34 (by decide) rfl ?_
      refine q_iconstN (z := 1) d141_35 ?_
      refine q_istore_n d141_36 (by decide) rfl ?_
      refine qW_srt rfl rfl ?_
      exact x141 hB3 (by decide) (fun v M' g1 g2 => ke v M' g1 ((f1.trans (f2.trans f3)).trans g2))
    | ok r9 =>
      obtain ⟨w, K2⟩ := r9
      have h9 := pLd_v hG.bb m (tq m) ah (pAd n b K.1, K.2) hv2 hah
      rw [e] at h9
      obtain ⟨p1, p2, p3, p4, p5⟩ := h9
      have p2 : tn K.2 ≤ tn K2.2 := p2
      have hw : 2 ^ tn K.2 ≤ 2 ^ tn K2.2 := Nat.pow_le_pow_right (by omega) p2
      have kg : cOX Q M c n b (3 - (m + 1)) (pBu n b (pLd n b m (tq m)) ah w K2) := by
        rw [pBr_u, ← hq, e] at hk; exact hk
      refine q_aload_n d141_29 rfl ?_
      refine q_iload_n d141_30 rfl ?_
      refine q_v1 d141_31 rfl rfl (xk_136 hG3.1) (Nat.le_of_ble_eq_true rfl) (hL _ _ _ _ _ _ _ _ hG3 hv2 hah h0 (cOX_o e (fun hn9 M3 hG4 f3 => ?_) (fun hn9 v3 M3 hB3 f3 => ?_)))
      · refine q_istore_n d141_34 (by decide) rfl ?_
        refine q_iconstN (z := 1) d141_35 ?_
        refine q_istore_n d141_36 (by decide) rfl ?_
        refine qW_srt rfl rfl ?_
        exact t141a hm hL hG4 p1 (by omega) p3 h0 (cOX_w kg (f1.trans (f2.trans f3)) (fun _ _ q => q))
      · refine q_istore_n d141_34 (by decide) rfl ?_
        refine q_iconstN (z := 1) d141_35 ?_
        refine q_istore_n d141_36 (by decide) rfl ?_
        refine qW_srt rfl rfl ?_
        exact x141 hB3 (by decide) (fun v M' g1 g2 => kg.e (pBu_b hn9) v M' g1 ((f1.trans (f2.trans f3)).trans g2))
  · have ke : ∀ v M', BX M' c n b (pAd n b K.1).2.1 → Fi (FJ c) M M' → Q (some (.int v)) M' := hk.e (by rw [pBr_u, ← hq, pLd_b (K := (pAd n b K.1, K.2)) hn])
    refine q_aload_n d141_29 rfl ?_
    refine q_iload_n d141_30 rfl ?_
    refine q_v1 d141_31 rfl rfl (xk_136 hB2.1) (Nat.le_of_ble_eq_true rfl) (c138f hB2 (fun v8 => ?_))
    refine q_istore_n d141_34 (by decide) rfl ?_
    refine q_iconstN (z := 1) d141_35 ?_
    refine q_istore_n d141_36 (by decide) rfl ?_
    refine qW_srt rfl rfl ?_
    exact x141 hB2 (by decide) (fun v M' g1 g2 => ke v M' g1 ((f1.trans f2).trans g2))
theorem cLX_0 : cLX 0 := c138_of 0 c139_0
theorem cLX_1 : cLX 1 := c138_of 1 (c139_S 0 (by omega) (c141_of 0 (by omega) cLX_0))
theorem cLX_2 : cLX 2 := c138_of 2 (c139_S 1 (by omega) (c141_of 1 (by omega) cLX_1))
theorem cLX_3 : cLX 3 := c138_of 3 (c139_S 2 (by omega) (c141_of 2 (by omega) cLX_2))
/-! ===== the reference: text ===== -/
/-! the reference: a text -/
def FTx (c : Nat) : Nat → Nat → Prop := fun a k => (a = 136 ∧ (k = 0 ∨ (29 < k ∧ k < 39))) ∨ ((a = 137 ∨ a = 138) ∧ k = c) ∨ a = 140 + c ∨ a = 147 + c ∨ a = 154 + c ∨ a = 161 + c ∨ a = 168 + c
theorem FJ_T {c a k : Nat} (h : FJ c a k) : FTx c a k := by unfold FJ at h; unfold FTx; omega
theorem XT1_T {M M' : zM} {i c : Nat} {T : yT} (h : XT1 M i T) (hi : i < c) (hc : c < 6) (f : Fi (FTx c) M M') : XT1 M' i T :=
  ⟨(f.1 _ _ (by unfold FTx; omega)).trans h.1, (f.1 _ _ (by unfold FTx; omega)).trans h.2.1, fun k hk => ⟨(f.1 _ _ (by unfold FTx; omega)).trans (h.2.2 k hk).1, (f.1 _ _ (by unfold FTx; omega)).trans (h.2.2 k hk).2.1, (f.1 _ _ (by unfold FTx; omega)).trans (h.2.2 k hk).2.2.1, (f.1 _ _ (by unfold FTx; omega)).trans (h.2.2 k hk).2.2.2.1, (f.1 _ _ (by unfold FTx; omega)).trans (h.2.2 k hk).2.2.2.2⟩⟩
theorem RX.txE {M M' : zM} {D : yD} {κ : Nat} (h : RX M D κ) (hc : dc D < 6) (f : Fi (FTx (dc D)) M M') (h0 : zi M' 136 0 = nI (dc D)) (h30 : zi M' 136 30 = nI 0) : RX M' (dtS D 0 (db D)) κ := by
  obtain ⟨⟨h1, h2, h3, h4, h5, h6, h7, h8⟩, a2, a3, ⟨a4, a5, a6⟩, a7⟩ := h
  have b21 : zi M' 136 21 = -1 := (f.1 _ _ (by unfold FTx; omega)).trans a2
  exact ⟨⟨SX_fi h1 f, fun i hi => XT1_T (h2 i hi) hi hc f, h3, XPu_fi h4 f (fun b k q1 q2 => by unfold GP at q1; unfold FTx at q2; omega), fun s hs => (h5 s hs).fi f (fun b k q1 q2 => by unfold GS at q1; unfold FTx at q2; omega), (f.1 _ _ (by unfold FTx; omega)).trans h6, h7.fi f (fun b k q => by unfold GL at q; unfold FTx; omega), ⟨none, b21, fun s hs h0 k hk => rfl⟩⟩, b21, h0, ⟨Nat.zero_le _, h30, fun k hk => absurd hk (Nat.not_lt_zero _)⟩, fun i hi => ⟨(f.1 _ _ (by unfold FTx; omega)).trans (a7 i hi).1, (f.1 _ _ (by unfold FTx; omega)).trans (a7 i hi).2⟩⟩
theorem RX.txO {M M' : zM} {D : yD} {κ : Nat} {T : yT} (h : RX M D κ) (hc : dc D < 6) (hT : OKT T) (f : Fi (FTx (dc D)) M M') (h0 : zi M' 136 0 = nI (dc D + 1)) (h30 : zi M' 136 30 = nI 0) (hx : XT1 M' (dc D) T) : RX M' (dc D + 1, yu (dT D) (dc D) T, 0, D.2.2.2) κ := by
  obtain ⟨⟨h1, h2, h3, h4, h5, h6, h7, h8⟩, a2, a3, ⟨a4, a5, a6⟩, a7⟩ := h
  have b21 : zi M' 136 21 = -1 := (f.1 _ _ (by unfold FTx; omega)).trans a2
  refine ⟨⟨SX_fi h1 f, fun i hi => ?_, OKW_T h3 hT hc, XPu_fi h4 f (fun b k q1 q2 => by unfold GP at q1; unfold FTx at q2; omega), fun s hs => (h5 s hs).fi f (fun b k q1 q2 => by unfold GS at q1; unfold FTx at q2; omega), (f.1 _ _ (by unfold FTx; omega)).trans h6, h7.fi f (fun b k q => by unfold GL at q; unfold FTx; omega), ⟨none, b21, fun s hs h0 k hk => rfl⟩⟩, b21, h0, ⟨Nat.zero_le _, h30, fun k hk => absurd hk (Nat.not_lt_zero _)⟩, fun i hi => ⟨(f.1 _ _ (by unfold FTx; omega)).trans (a7 i hi).1, (f.1 _ _ (by unfold FTx; omega)).trans (a7 i hi).2⟩⟩
  show XT1 M' i (yu (dT D) (dc D) T i)
  by_cases e : i = dc D
  · subst e; rw [yu_s]; exact hx
  · rw [yu_n e]
    have hi : i < dc D + 1 := hi
    exact XT1_T (h2 i (by omega)) (by omega) hc f
theorem d133_0 : decode (zB 133) 0 = .ok (.aload_n 0, 1) := (congrArg (fun c => decode c 0) zeq133).trans (by decide +kernel)
theorem d133_1 : decode (zB 133) 1 = .ok (.getfield 116, 3) := (congrArg (fun c => decode c 1) zeq133).trans (by decide +kernel)
theorem d133_4 : decode (zB 133) 4 = .ok (.bipush 6, 2) := (congrArg (fun c => decode c 4) zeq133).trans (by decide +kernel)
theorem d133_6 : decode (zB 133) 6 = .ok (.if_icmp .ne 6, 3) := (congrArg (fun c => decode c 6) zeq133).trans (by decide +kernel)
theorem d133_9 : decode (zB 133) 9 = .ok (.bipush (-4), 2) := (congrArg (fun c => decode c 9) zeq133).trans (by decide +kernel)
theorem d133_11 : decode (zB 133) 11 = .ok (.ireturn, 1) := (congrArg (fun c => decode c 11) zeq133).trans (by decide +kernel)
theorem d133_12 : decode (zB 133) 12 = .ok (.aload_n 0, 1) := (congrArg (fun c => decode c 12) zeq133).trans (by decide +kernel)
theorem d133_13 : decode (zB 133) 13 = .ok (.iconst 0, 1) := (congrArg (fun c => decode c 13) zeq133).trans (by decide +kernel)
theorem d133_14 : decode (zB 133) 14 = .ok (.putfield 132, 3) := (congrArg (fun c => decode c 14) zeq133).trans (by decide +kernel)
theorem d133_17 : decode (zB 133) 17 = .ok (.aload_n 0, 1) := (congrArg (fun c => decode c 17) zeq133).trans (by decide +kernel)
theorem d133_18 : decode (zB 133) 18 = .ok (.iconst 0, 1) := (congrArg (fun c => decode c 18) zeq133).trans (by decide +kernel)
theorem d133_19 : decode (zB 133) 19 = .ok (.putfield 185, 3) := (congrArg (fun c => decode c 19) zeq133).trans (by decide +kernel)
theorem d133_22 : decode (zB 133) 22 = .ok (.aload_n 0, 1) := (congrArg (fun c => decode c 22) zeq133).trans (by decide +kernel)
theorem d133_23 : decode (zB 133) 23 = .ok (.iconst (-1), 1) := (congrArg (fun c => decode c 23) zeq133).trans (by decide +kernel)
theorem d133_24 : decode (zB 133) 24 = .ok (.putfield 188, 3) := (congrArg (fun c => decode c 24) zeq133).trans (by decide +kernel)
theorem d133_27 : decode (zB 133) 27 = .ok (.aload_n 0, 1) := (congrArg (fun c => decode c 27) zeq133).trans (by decide +kernel)
theorem d133_28 : decode (zB 133) 28 = .ok (.iconst 0, 1) := (congrArg (fun c => decode c 28) zeq133).trans (by decide +kernel)
theorem d133_29 : decode (zB 133) 29 = .ok (.putfield 194, 3) := (congrArg (fun c => decode c 29) zeq133).trans (by decide +kernel)
theorem d133_32 : decode (zB 133) 32 = .ok (.aload_n 0, 1) := (congrArg (fun c => decode c 32) zeq133).trans (by decide +kernel)
theorem d133_33 : decode (zB 133) 33 = .ok (.iconst 0, 1) := (congrArg (fun c => decode c 33) zeq133).trans (by decide +kernel)
theorem d133_34 : decode (zB 133) 34 = .ok (.putfield 162, 3) := (congrArg (fun c => decode c 34) zeq133).trans (by decide +kernel)
theorem d133_37 : decode (zB 133) 37 = .ok (.aload_n 0, 1) := (congrArg (fun c => decode c 37) zeq133).trans (by decide +kernel)
theorem d133_38 : decode (zB 133) 38 = .ok (.invokevirtual 175, 3) := (congrArg (fun c => decode c 38) zeq133).trans (by decide +kernel)
theorem d133_41 : decode (zB 133) 41 = .ok (.aload_n 0, 1) := (congrArg (fun c => decode c 41) zeq133).trans (by decide +kernel)
theorem d133_42 : decode (zB 133) 42 = .ok (.iconst 0, 1) := (congrArg (fun c => decode c 42) zeq133).trans (by decide +kernel)
theorem d133_43 : decode (zB 133) 43 = .ok (.invokevirtual 200, 3) := (congrArg (fun c => decode c 43) zeq133).trans (by decide +kernel)
theorem d133_46 : decode (zB 133) 46 = .ok (.istore_n 1, 1) := (congrArg (fun c => decode c 46) zeq133).trans (by decide +kernel)
theorem d133_47 : decode (zB 133) 47 = .ok (.aload_n 0, 1) := (congrArg (fun c => decode c 47) zeq133).trans (by decide +kernel)
theorem d133_48 : decode (zB 133) 48 = .ok (.dup, 1) := (congrArg (fun c => decode c 48) zeq133).trans (by decide +kernel)
theorem d133_49 : decode (zB 133) 49 = .ok (.getfield 162, 3) := (congrArg (fun c => decode c 49) zeq133).trans (by decide +kernel)
theorem d133_52 : decode (zB 133) 52 = .ok (.aload_n 0, 1) := (congrArg (fun c => decode c 52) zeq133).trans (by decide +kernel)
theorem d133_53 : decode (zB 133) 53 = .ok (.getfield 166, 3) := (congrArg (fun c => decode c 53) zeq133).trans (by decide +kernel)
theorem d133_56 : decode (zB 133) 56 = .ok (.ifCond .eq 7, 3) := (congrArg (fun c => decode c 56) zeq133).trans (by decide +kernel)
theorem d133_59 : decode (zB 133) 59 = .ok (.iconst 1, 1) := (congrArg (fun c => decode c 59) zeq133).trans (by decide +kernel)
theorem d133_60 : decode (zB 133) 60 = .ok (.goto 4, 3) := (congrArg (fun c => decode c 60) zeq133).trans (by decide +kernel)
theorem d133_63 : decode (zB 133) 63 = .ok (.iconst 0, 1) := (congrArg (fun c => decode c 63) zeq133).trans (by decide +kernel)
theorem d133_64 : decode (zB 133) 64 = .ok (.ior, 1) := (congrArg (fun c => decode c 64) zeq133).trans (by decide +kernel)
theorem d133_65 : decode (zB 133) 65 = .ok (.putfield 162, 3) := (congrArg (fun c => decode c 65) zeq133).trans (by decide +kernel)
theorem d133_68 : decode (zB 133) 68 = .ok (.aload_n 0, 1) := (congrArg (fun c => decode c 68) zeq133).trans (by decide +kernel)
theorem d133_69 : decode (zB 133) 69 = .ok (.getfield 123, 3) := (congrArg (fun c => decode c 69) zeq133).trans (by decide +kernel)
theorem d133_72 : decode (zB 133) 72 = .ok (.istore_n 2, 1) := (congrArg (fun c => decode c 72) zeq133).trans (by decide +kernel)
theorem d133_73 : decode (zB 133) 73 = .ok (.aload_n 0, 1) := (congrArg (fun c => decode c 73) zeq133).trans (by decide +kernel)
theorem d133_74 : decode (zB 133) 74 = .ok (.iconst 0, 1) := (congrArg (fun c => decode c 74) zeq133).trans (by decide +kernel)
theorem d133_75 : decode (zB 133) 75 = .ok (.putfield 123, 3) := (congrArg (fun c => decode c 75) zeq133).trans (by decide +kernel)
theorem d133_78 : decode (zB 133) 78 = .ok (.aload_n 0, 1) := (congrArg (fun c => decode c 78) zeq133).trans (by decide +kernel)
theorem d133_79 : decode (zB 133) 79 = .ok (.getfield 162, 3) := (congrArg (fun c => decode c 79) zeq133).trans (by decide +kernel)
theorem d133_82 : decode (zB 133) 82 = .ok (.ifCond .eq 11, 3) := (congrArg (fun c => decode c 82) zeq133).trans (by decide +kernel)
theorem d133_85 : decode (zB 133) 85 = .ok (.bipush (-100), 2) := (congrArg (fun c => decode c 85) zeq133).trans (by decide +kernel)
theorem d133_87 : decode (zB 133) 87 = .ok (.aload_n 0, 1) := (congrArg (fun c => decode c 87) zeq133).trans (by decide +kernel)
theorem d133_88 : decode (zB 133) 88 = .ok (.getfield 135, 3) := (congrArg (fun c => decode c 88) zeq133).trans (by decide +kernel)
theorem d133_91 : decode (zB 133) 91 = .ok (.isub, 1) := (congrArg (fun c => decode c 91) zeq133).trans (by decide +kernel)
theorem d133_92 : decode (zB 133) 92 = .ok (.ireturn, 1) := (congrArg (fun c => decode c 92) zeq133).trans (by decide +kernel)
theorem d133_93 : decode (zB 133) 93 = .ok (.aload_n 0, 1) := (congrArg (fun c => decode c 93) zeq133).trans (by decide +kernel)
theorem d133_94 : decode (zB 133) 94 = .ok (.getfield 194, 3) := (congrArg (fun c => decode c 94) zeq133).trans (by decide +kernel)
theorem d133_97 : decode (zB 133) 97 = .ok (.ifCond .ne 8, 3) := (congrArg (fun c => decode c 97) zeq133).trans (by decide +kernel)
theorem d133_100 : decode (zB 133) 100 = .ok (.bipush (-100), 2) := (congrArg (fun c => decode c 100) zeq133).trans (by decide +kernel)
theorem d133_102 : decode (zB 133) 102 = .ok (.iload_n 2, 1) := (congrArg (fun c => decode c 102) zeq133).trans (by decide +kernel)
theorem d133_103 : decode (zB 133) 103 = .ok (.isub, 1) := (congrArg (fun c => decode c 103) zeq133).trans (by decide +kernel)
theorem d133_104 : decode (zB 133) 104 = .ok (.ireturn, 1) := (congrArg (fun c => decode c 104) zeq133).trans (by decide +kernel)
theorem d133_105 : decode (zB 133) 105 = .ok (.aload_n 0, 1) := (congrArg (fun c => decode c 105) zeq133).trans (by decide +kernel)
theorem d133_106 : decode (zB 133) 106 = .ok (.getfield 9, 3) := (congrArg (fun c => decode c 106) zeq133).trans (by decide +kernel)
theorem d133_109 : decode (zB 133) 109 = .ok (.aload_n 0, 1) := (congrArg (fun c => decode c 109) zeq133).trans (by decide +kernel)
theorem d133_110 : decode (zB 133) 110 = .ok (.getfield 116, 3) := (congrArg (fun c => decode c 110) zeq133).trans (by decide +kernel)
theorem d133_113 : decode (zB 133) 113 = .ok (.aload_n 0, 1) := (congrArg (fun c => decode c 113) zeq133).trans (by decide +kernel)
theorem d133_114 : decode (zB 133) 114 = .ok (.getfield 194, 3) := (congrArg (fun c => decode c 114) zeq133).trans (by decide +kernel)
theorem d133_117 : decode (zB 133) 117 = .ok (.iastore, 1) := (congrArg (fun c => decode c 117) zeq133).trans (by decide +kernel)
theorem d133_118 : decode (zB 133) 118 = .ok (.aload_n 0, 1) := (congrArg (fun c => decode c 118) zeq133).trans (by decide +kernel)
theorem d133_119 : decode (zB 133) 119 = .ok (.getfield 13, 3) := (congrArg (fun c => decode c 119) zeq133).trans (by decide +kernel)
theorem d133_122 : decode (zB 133) 122 = .ok (.aload_n 0, 1) := (congrArg (fun c => decode c 122) zeq133).trans (by decide +kernel)
theorem d133_123 : decode (zB 133) 123 = .ok (.getfield 116, 3) := (congrArg (fun c => decode c 123) zeq133).trans (by decide +kernel)
theorem d133_126 : decode (zB 133) 126 = .ok (.aload_n 0, 1) := (congrArg (fun c => decode c 126) zeq133).trans (by decide +kernel)
theorem d133_127 : decode (zB 133) 127 = .ok (.getfield 188, 3) := (congrArg (fun c => decode c 127) zeq133).trans (by decide +kernel)
theorem d133_130 : decode (zB 133) 130 = .ok (.iastore, 1) := (congrArg (fun c => decode c 130) zeq133).trans (by decide +kernel)
theorem d133_131 : decode (zB 133) 131 = .ok (.aload_n 0, 1) := (congrArg (fun c => decode c 131) zeq133).trans (by decide +kernel)
theorem d133_132 : decode (zB 133) 132 = .ok (.dup, 1) := (congrArg (fun c => decode c 132) zeq133).trans (by decide +kernel)
theorem d133_133 : decode (zB 133) 133 = .ok (.getfield 116, 3) := (congrArg (fun c => decode c 133) zeq133).trans (by decide +kernel)
theorem d133_136 : decode (zB 133) 136 = .ok (.iconst 1, 1) := (congrArg (fun c => decode c 136) zeq133).trans (by decide +kernel)
theorem d133_137 : decode (zB 133) 137 = .ok (.iadd, 1) := (congrArg (fun c => decode c 137) zeq133).trans (by decide +kernel)
theorem d133_138 : decode (zB 133) 138 = .ok (.putfield 116, 3) := (congrArg (fun c => decode c 138) zeq133).trans (by decide +kernel)
theorem d133_141 : decode (zB 133) 141 = .ok (.aload_n 0, 1) := (congrArg (fun c => decode c 141) zeq133).trans (by decide +kernel)
theorem d133_142 : decode (zB 133) 142 = .ok (.getfield 116, 3) := (congrArg (fun c => decode c 142) zeq133).trans (by decide +kernel)
theorem d133_145 : decode (zB 133) 145 = .ok (.iconst 1, 1) := (congrArg (fun c => decode c 145) zeq133).trans (by decide +kernel)
theorem d133_146 : decode (zB 133) 146 = .ok (.isub, 1) := (congrArg (fun c => decode c 146) zeq133).trans (by decide +kernel)
theorem d133_147 : decode (zB 133) 147 = .ok (.ireturn, 1) := (congrArg (fun c => decode c 147) zeq133).trans (by decide +kernel)
/-- behind a fault -/
theorem z133b {d f : Nat} {M1 : zM} {Q : Option Value → zM → Prop} {v : Int32} {D : yD} {κ : Nat} {M0 : zM} (hR : RX M0 D κ) (hc : dc D < 6) (F : Fi (FJ (dc D)) M0 M1) (hB : BX M1 (dc D) (dn D) (db D) f) (e : pTx (dn D) (db D) = .error f) (k : ∀ M' κ', κ' ≤ κ + 240 → RX M' (sText D).2 κ' → Fi FY M0 M' → Q (some (.int (sText D).1)) M') : qW (zEv (d + 23)) 133 Q 47 [(1, .int v), (0, .ref 136)] [] M1 := by
  refine q_aload_n d133_47 rfl ?_
  refine q_dup d133_48 rfl ?_
  refine q_getv (c := 8) (f := 38) d133_49 ⟨rfl, by decide⟩ (xk_136 hB.1) hB.f0 ?_
  refine q_aload_n d133_52 rfl ?_
  refine q_getv (c := 8) (f := 33) d133_53 ⟨rfl, by decide⟩ (xk_136 hB.1) rfl ?_
  refine i0_eq 63 d133_56 (by decide) (fun h56 => ?_) (fun h56 => ?_)
  · refine q_iconstN (z := 0) d133_63 ?_
    refine n_ior d133_64 ?_
    refine q_putz (c := 8) (f := 38) d133_65 ⟨rfl, rfl, by decide⟩ (xk_136 hB.1) (Or.inr rfl) ?_
    refine q_aload_n d133_68 rfl ?_
    refine q_getv (c := 8) (f := 30) d133_69 ⟨rfl, by decide⟩ (xk_136 hB.1) (Eq.trans (by (repeat (first | rw [wi_n (Or.inl (by omega))] | rw [wi_n (Or.inr (by omega))] | rw [wi_s] | rw [wr_i] | rw [cp_n (by omega)]))) hB.2.2.2.1.2.1) ?_
    refine q_istore_n d133_72 (by decide) rfl ?_
    refine q_aload_n d133_73 rfl ?_
    refine q_iconstN (z := 0) d133_74 ?_
    refine q_puti (c := 8) (f := 30) d133_75 ⟨rfl, rfl, by decide⟩ (xk_136 hB.1) ?_
    refine q_aload_n d133_78 rfl ?_
    refine q_getv (c := 8) (f := 38) d133_79 ⟨rfl, by decide⟩ (xk_136 hB.1) (by (repeat (first | rw [wi_n (Or.inl (by omega))] | rw [wi_n (Or.inr (by omega))] | rw [wi_s] | rw [wr_i] | rw [cp_n (by omega)] | rw [cp_0 (by omega)]))) ?_
    refine n0_eq 93 d133_82 (by decide) (by decide) (fun q => absurd q (by decide)) (fun _ => ?_)
    refine q_bipush (x := (-100)) d133_85 rfl ?_
    refine q_aload_n d133_87 rfl ?_
    refine q_getv (c := 8) (f := 32) d133_88 ⟨rfl, by decide⟩ (xk_136 hB.1) (Eq.trans (by (repeat (first | rw [wi_n (Or.inl (by omega))] | rw [wi_n (Or.inr (by omega))] | rw [wi_s] | rw [wr_i] | rw [cp_n (by omega)]))) hB.2.2.2.2.2) ?_
    refine q_isub d133_91 ?_
    refine q_iret d133_92 rfl ?_
    have h0 := hB.2.2.1
    have e9 : sText D = (-100 - nI f, dtS D 0 (db D)) := by unfold sText; rw [if_neg (by omega), e]
    rw [e9] at k
    exact k _ κ (Nat.le_add_right _ _) (hR.txE hc (((F.mono (fun a j q => FJ_T q)).wi (Or.inl ⟨rfl, by omega⟩)).wi (Or.inl ⟨rfl, by omega⟩)) (by (repeat (first | rw [wi_n (Or.inl (by omega))] | rw [wi_n (Or.inr (by omega))] | rw [wi_s] | rw [wr_i] | rw [cp_n (by omega)] | rw [cp_0 (by omega)])); exact h0) (by (repeat (first | rw [wi_n (Or.inl (by omega))] | rw [wi_n (Or.inr (by omega))] | rw [wi_s] | rw [wr_i] | rw [cp_n (by omega)] | rw [cp_0 (by omega)])))) ((((F.mono (fun a j q => FJ_T q)).wi (Or.inl ⟨rfl, by omega⟩)).wi (Or.inl ⟨rfl, by omega⟩)).mono (fun a j q => by unfold FTx at q; unfold FY; omega))
  · refine q_iconstN (z := 1) d133_59 ?_
    refine q_goto 64 d133_60 (by decide) ?_
    refine n_ior d133_64 ?_
    refine q_putz (c := 8) (f := 38) d133_65 ⟨rfl, rfl, by decide⟩ (xk_136 hB.1) (Or.inr rfl) ?_
    refine q_aload_n d133_68 rfl ?_
    refine q_getv (c := 8) (f := 30) d133_69 ⟨rfl, by decide⟩ (xk_136 hB.1) (Eq.trans (by (repeat (first | rw [wi_n (Or.inl (by omega))] | rw [wi_n (Or.inr (by omega))] | rw [wi_s] | rw [wr_i] | rw [cp_n (by omega)]))) hB.2.2.2.1.2.1) ?_
    refine q_istore_n d133_72 (by decide) rfl ?_
    refine q_aload_n d133_73 rfl ?_
    refine q_iconstN (z := 0) d133_74 ?_
    refine q_puti (c := 8) (f := 30) d133_75 ⟨rfl, rfl, by decide⟩ (xk_136 hB.1) ?_
    refine q_aload_n d133_78 rfl ?_
    refine q_getv (c := 8) (f := 38) d133_79 ⟨rfl, by decide⟩ (xk_136 hB.1) (by (repeat (first | rw [wi_n (Or.inl (by omega))] | rw [wi_n (Or.inr (by omega))] | rw [wi_s] | rw [wr_i] | rw [cp_n (by omega)] | rw [cp_0 (by omega)]))) ?_
    refine n0_eq 93 d133_82 (by decide) (by decide) (fun q => absurd q (by decide)) (fun _ => ?_)
    refine q_bipush (x := (-100)) d133_85 rfl ?_
    refine q_aload_n d133_87 rfl ?_
    refine q_getv (c := 8) (f := 32) d133_88 ⟨rfl, by decide⟩ (xk_136 hB.1) (Eq.trans (by (repeat (first | rw [wi_n (Or.inl (by omega))] | rw [wi_n (Or.inr (by omega))] | rw [wi_s] | rw [wr_i] | rw [cp_n (by omega)]))) hB.2.2.2.2.2) ?_
    refine q_isub d133_91 ?_
    refine q_iret d133_92 rfl ?_
    have h0 := hB.2.2.1
    have e9 : sText D = (-100 - nI f, dtS D 0 (db D)) := by unfold sText; rw [if_neg (by omega), e]
    rw [e9] at k
    exact k _ κ (Nat.le_add_right _ _) (hR.txE hc (((F.mono (fun a j q => FJ_T q)).wi (Or.inl ⟨rfl, by omega⟩)).wi (Or.inl ⟨rfl, by omega⟩)) (by (repeat (first | rw [wi_n (Or.inl (by omega))] | rw [wi_n (Or.inr (by omega))] | rw [wi_s] | rw [wr_i] | rw [cp_n (by omega)] | rw [cp_0 (by omega)])); exact h0) (by (repeat (first | rw [wi_n (Or.inl (by omega))] | rw [wi_n (Or.inr (by omega))] | rw [wi_s] | rw [wr_i] | rw [cp_n (by omega)] | rw [cp_0 (by omega)])))) ((((F.mono (fun a j q => FJ_T q)).wi (Or.inl ⟨rfl, by omega⟩)).wi (Or.inl ⟨rfl, by omega⟩)).mono (fun a j q => by unfold FTx at q; unfold FY; omega))
/-- all is read -/
theorem z133g {d : Nat} {M1 : zM} {Q : Option Value → zM → Prop} {v : Int32} {K : yQ} {D : yD} {κ : Nat} {M0 : zM} (hR : RX M0 D κ) (hc : dc D < 6) (F : Fi (FJ (dc D)) M0 M1) (hG : GX M1 (dc D) (dn D) (db D) 0 K) (hv : yQv (dn D) (db D) K) {w9 : Nat} (eL : pLd (dn D) (db D) 3 true 0 (ltk (dn D) (db D) 0, yT0) = .ok (w9, K)) (k : ∀ M' κ', κ' ≤ κ + 240 → RX M' (sText D).2 κ' → Fi FY M0 M' → Q (some (.int (sText D).1)) M') : qW (zEv (d + 23)) 133 Q 47 [(1, .int v), (0, .ref 136)] [] M1 := by
  have hc6 := hG.2.1
  have h0 := hG.2.2.1
  have hk1 := hv.1.1.1
  have hk2 := hv.1.1.2.1
  have hk3 := hv.1.1.2.2.1
  have h120 := hG.2.2.2.1.1
  have h12 := hv.2.1
  obtain ⟨t, v9, htv, h33, h34, h38⟩ := hG.2.2.2.2.2.1
  have ht4 := ytx_t4 htv hk3
  have ht0 : t = 0 ↔ K.1.1 = 0 := ⟨fun q => (ytx_i htv).2.2.2 q, fun q => by unfold ytx at htv; rw [if_pos q] at htv; cases htv; rfl⟩
  by_cases h1 : K.1.1 ≠ 0
  · have e : pTx (dn D) (db D) = .error K.1.2.1 := by unfold pTx; rw [eL]; exact if_pos h1
    refine q_aload_n d133_47 rfl ?_
    refine q_dup d133_48 rfl ?_
    refine q_getv (c := 8) (f := 38) d133_49 ⟨rfl, by decide⟩ (xk_136 hG.1) hG.w ?_
    refine q_aload_n d133_52 rfl ?_
    refine q_getv (c := 8) (f := 33) d133_53 ⟨rfl, by decide⟩ (xk_136 hG.1) h33 ?_
    refine n0_eq 63 d133_56 (by decide) (by omega) (fun h56 => (False.elim (h1 (ht0.mp h56)))) (fun h56 => ?_)
    refine q_iconstN (z := 1) d133_59 ?_
    refine q_goto 64 d133_60 (by decide) ?_
    refine n_ior d133_64 ?_
    refine q_putz (c := 8) (f := 38) d133_65 ⟨rfl, rfl, by decide⟩ (xk_136 hG.1) (Or.inr rfl) ?_
    refine q_aload_n d133_68 rfl ?_
    refine q_getv (c := 8) (f := 30) d133_69 ⟨rfl, by decide⟩ (xk_136 hG.1) (Eq.trans (by (repeat (first | rw [wi_n (Or.inl (by omega))] | rw [wi_n (Or.inr (by omega))] | rw [wi_s] | rw [wr_i] | rw [cp_n (by omega)]))) hG.2.2.2.1.2.1) ?_
    refine q_istore_n d133_72 (by decide) rfl ?_
    refine q_aload_n d133_73 rfl ?_
    refine q_iconstN (z := 0) d133_74 ?_
    refine q_puti (c := 8) (f := 30) d133_75 ⟨rfl, rfl, by decide⟩ (xk_136 hG.1) ?_
    refine q_aload_n d133_78 rfl ?_
    refine q_getv (c := 8) (f := 38) d133_79 ⟨rfl, by decide⟩ (xk_136 hG.1) (by (repeat (first | rw [wi_n (Or.inl (by omega))] | rw [wi_n (Or.inr (by omega))] | rw [wi_s] | rw [wr_i] | rw [cp_n (by omega)] | rw [cp_0 (by omega)]))) ?_
    refine n0_eq 93 d133_82 (by decide) (by decide) (fun q => absurd q (by decide)) (fun _ => ?_)
    refine q_bipush (x := (-100)) d133_85 rfl ?_
    refine q_aload_n d133_87 rfl ?_
    refine q_getv (c := 8) (f := 32) d133_88 ⟨rfl, by decide⟩ (xk_136 hG.1) (Eq.trans (by (repeat (first | rw [wi_n (Or.inl (by omega))] | rw [wi_n (Or.inr (by omega))] | rw [wi_s] | rw [wr_i] | rw [cp_n (by omega)]))) hG.2.2.2.2.1.2) ?_
    refine q_isub d133_91 ?_
    refine q_iret d133_92 rfl ?_
    have e9 : sText D = (-100 - nI K.1.2.1, dtS D 0 (db D)) := by unfold sText; rw [if_neg (by omega), e]
    rw [e9] at k
    exact k _ κ (Nat.le_add_right _ _) (hR.txE hc (((F.mono (fun a j q => FJ_T q)).wi (Or.inl ⟨rfl, by omega⟩)).wi (Or.inl ⟨rfl, by omega⟩)) (by (repeat (first | rw [wi_n (Or.inl (by omega))] | rw [wi_n (Or.inr (by omega))] | rw [wi_s] | rw [wr_i] | rw [cp_n (by omega)] | rw [cp_0 (by omega)])); exact h0) (by (repeat (first | rw [wi_n (Or.inl (by omega))] | rw [wi_n (Or.inr (by omega))] | rw [wi_s] | rw [wr_i] | rw [cp_n (by omega)] | rw [cp_0 (by omega)])))) ((((F.mono (fun a j q => FJ_T q)).wi (Or.inl ⟨rfl, by omega⟩)).wi (Or.inl ⟨rfl, by omega⟩)).mono (fun a j q => by unfold FTx at q; unfold FY; omega))
  · have ht : t = 0 := ht0.mpr (by omega)
    by_cases h2 : tn K.2 = 0
    · have e : pTx (dn D) (db D) = .error (dn D) := by unfold pTx; rw [eL]; exact (if_neg h1).trans (if_pos h2)
      refine q_aload_n d133_47 rfl ?_
      refine q_dup d133_48 rfl ?_
      refine q_getv (c := 8) (f := 38) d133_49 ⟨rfl, by decide⟩ (xk_136 hG.1) hG.w ?_
      refine q_aload_n d133_52 rfl ?_
      refine q_getv (c := 8) (f := 33) d133_53 ⟨rfl, by decide⟩ (xk_136 hG.1) h33 ?_
      refine n0_eq 63 d133_56 (by decide) (by omega) (fun h56 => ?_) (fun h56 => (False.elim (h56 ht)))
      refine q_iconstN (z := 0) d133_63 ?_
      refine n_ior d133_64 ?_
      refine q_putz (c := 8) (f := 38) d133_65 ⟨rfl, rfl, by decide⟩ (xk_136 hG.1) (Or.inl rfl) ?_
      refine q_aload_n d133_68 rfl ?_
      refine q_getv (c := 8) (f := 30) d133_69 ⟨rfl, by decide⟩ (xk_136 hG.1) (Eq.trans (by (repeat (first | rw [wi_n (Or.inl (by omega))] | rw [wi_n (Or.inr (by omega))] | rw [wi_s] | rw [wr_i] | rw [cp_n (by omega)]))) hG.2.2.2.1.2.1) ?_
      refine q_istore_n d133_72 (by decide) rfl ?_
      refine q_aload_n d133_73 rfl ?_
      refine q_iconstN (z := 0) d133_74 ?_
      refine q_puti (c := 8) (f := 30) d133_75 ⟨rfl, rfl, by decide⟩ (xk_136 hG.1) ?_
      refine q_aload_n d133_78 rfl ?_
      refine q_getv (c := 8) (f := 38) d133_79 ⟨rfl, by decide⟩ (xk_136 hG.1) (by (repeat (first | rw [wi_n (Or.inl (by omega))] | rw [wi_n (Or.inr (by omega))] | rw [wi_s] | rw [wr_i] | rw [cp_n (by omega)] | rw [cp_0 (by omega)]))) ?_
      refine n0_eq 93 d133_82 (by decide) (by decide) (fun _ => ?_) (fun q => absurd q (by decide))
      refine q_aload_n d133_93 rfl ?_
      refine q_getv (c := 8) (f := 37) d133_94 ⟨rfl, by decide⟩ (xk_136 hG.1) (Eq.trans (by (repeat (first | rw [wi_n (Or.inl (by omega))] | rw [wi_n (Or.inr (by omega))] | rw [wi_s] | rw [wr_i] | rw [cp_n (by omega)]))) hG.2.2.2.2.2.2.2.2.1) ?_
      refine n0_ne 105 d133_97 (by decide) (by omega) (fun h97 => (False.elim (h97 h2))) (fun h97 => ?_)
      refine q_bipush (x := (-100)) d133_100 rfl ?_
      refine q_iload_n d133_102 rfl ?_
      refine q_isub d133_103 ?_
      refine q_iret d133_104 rfl ?_
      have e9 : sText D = (-100 - nI (dn D), dtS D 0 (db D)) := by unfold sText; rw [if_neg (by omega), e]
      rw [e9] at k
      exact k _ κ (Nat.le_add_right _ _) (hR.txE hc (((F.mono (fun a j q => FJ_T q)).wi (Or.inl ⟨rfl, by omega⟩)).wi (Or.inl ⟨rfl, by omega⟩)) (by (repeat (first | rw [wi_n (Or.inl (by omega))] | rw [wi_n (Or.inr (by omega))] | rw [wi_s] | rw [wr_i] | rw [cp_n (by omega)] | rw [cp_0 (by omega)])); exact h0) (by (repeat (first | rw [wi_n (Or.inl (by omega))] | rw [wi_n (Or.inr (by omega))] | rw [wi_s] | rw [wr_i] | rw [cp_n (by omega)] | rw [cp_0 (by omega)])))) ((((F.mono (fun a j q => FJ_T q)).wi (Or.inl ⟨rfl, by omega⟩)).wi (Or.inl ⟨rfl, by omega⟩)).mono (fun a j q => by unfold FTx at q; unfold FY; omega))
    · have e : pTx (dn D) (db D) = .ok K.2 := by unfold pTx; rw [eL]; exact (if_neg h1).trans (if_neg h2)
      have hT : OKT K.2 := hv.2.t h2
      refine q_aload_n d133_47 rfl ?_
      refine q_dup d133_48 rfl ?_
      refine q_getv (c := 8) (f := 38) d133_49 ⟨rfl, by decide⟩ (xk_136 hG.1) hG.w ?_
      refine q_aload_n d133_52 rfl ?_
      refine q_getv (c := 8) (f := 33) d133_53 ⟨rfl, by decide⟩ (xk_136 hG.1) h33 ?_
      refine n0_eq 63 d133_56 (by decide) (by omega) (fun h56 => ?_) (fun h56 => (False.elim (h56 ht)))
      refine q_iconstN (z := 0) d133_63 ?_
      refine n_ior d133_64 ?_
      refine q_putz (c := 8) (f := 38) d133_65 ⟨rfl, rfl, by decide⟩ (xk_136 hG.1) (Or.inl rfl) ?_
      refine q_aload_n d133_68 rfl ?_
      refine q_getv (c := 8) (f := 30) d133_69 ⟨rfl, by decide⟩ (xk_136 hG.1) (Eq.trans (by (repeat (first | rw [wi_n (Or.inl (by omega))] | rw [wi_n (Or.inr (by omega))] | rw [wi_s] | rw [wr_i] | rw [cp_n (by omega)]))) hG.2.2.2.1.2.1) ?_
      refine q_istore_n d133_72 (by decide) rfl ?_
      refine q_aload_n d133_73 rfl ?_
      refine q_iconstN (z := 0) d133_74 ?_
      refine q_puti (c := 8) (f := 30) d133_75 ⟨rfl, rfl, by decide⟩ (xk_136 hG.1) ?_
      refine q_aload_n d133_78 rfl ?_
      refine q_getv (c := 8) (f := 38) d133_79 ⟨rfl, by decide⟩ (xk_136 hG.1) (by (repeat (first | rw [wi_n (Or.inl (by omega))] | rw [wi_n (Or.inr (by omega))] | rw [wi_s] | rw [wr_i] | rw [cp_n (by omega)] | rw [cp_0 (by omega)]))) ?_
      refine n0_eq 93 d133_82 (by decide) (by decide) (fun _ => ?_) (fun q => absurd q (by decide))
      refine q_aload_n d133_93 rfl ?_
      refine q_getv (c := 8) (f := 37) d133_94 ⟨rfl, by decide⟩ (xk_136 hG.1) (Eq.trans (by (repeat (first | rw [wi_n (Or.inl (by omega))] | rw [wi_n (Or.inr (by omega))] | rw [wi_s] | rw [wr_i] | rw [cp_n (by omega)]))) hG.2.2.2.2.2.2.2.2.1) ?_
      refine n0_ne 105 d133_97 (by decide) (by omega) (fun h97 => ?_) (fun h97 => (False.elim (by omega)))
      refine q_aload_n d133_105 rfl ?_
      refine q_getr (c := 8) (f := 1) d133_106 ⟨rfl, rfl⟩ (xk_136 hG.1) (xf_stepMany hG.1) ?_
      refine q_aload_n d133_109 rfl ?_
      refine q_getv (c := 8) (f := 0) d133_110 ⟨rfl, by decide⟩ (xk_136 hG.1) (Eq.trans (by (repeat (first | rw [wi_n (Or.inl (by omega))] | rw [wi_n (Or.inr (by omega))] | rw [wi_s] | rw [wr_i] | rw [cp_n (by omega)]))) hG.2.2.1) ?_
      refine q_aload_n d133_113 rfl ?_
      refine q_getv (c := 8) (f := 37) d133_114 ⟨rfl, by decide⟩ (xk_136 hG.1) (Eq.trans (by (repeat (first | rw [wi_n (Or.inl (by omega))] | rw [wi_n (Or.inr (by omega))] | rw [wi_s] | rw [wr_i] | rw [cp_n (by omega)]))) hG.2.2.2.2.2.2.2.2.1) ?_
      refine n_iast d133_117 (xk_stepMany hG.1) (by omega) (by decide) ?_
      refine q_aload_n d133_118 rfl ?_
      refine q_getr (c := 8) (f := 2) d133_119 ⟨rfl, rfl⟩ (xk_136 hG.1) (xf_pivots hG.1) ?_
      refine q_aload_n d133_122 rfl ?_
      refine q_getv (c := 8) (f := 0) d133_123 ⟨rfl, by decide⟩ (xk_136 hG.1) (Eq.trans (by (repeat (first | rw [wi_n (Or.inl (by omega))] | rw [wi_n (Or.inr (by omega))] | rw [wi_s] | rw [wr_i] | rw [cp_n (by omega)]))) hG.2.2.1) ?_
      refine q_aload_n d133_126 rfl ?_
      refine q_getv (c := 8) (f := 36) d133_127 ⟨rfl, by decide⟩ (xk_136 hG.1) (Eq.trans (by (repeat (first | rw [wi_n (Or.inl (by omega))] | rw [wi_n (Or.inr (by omega))] | rw [wi_s] | rw [wr_i] | rw [cp_n (by omega)]))) hG.2.2.2.2.2.2.2.1) ?_
      refine n_iast d133_130 (xk_pivots hG.1) (by omega) (by decide) ?_
      refine q_aload_n d133_131 rfl ?_
      refine q_dup d133_132 rfl ?_
      refine q_getv (c := 8) (f := 0) d133_133 ⟨rfl, by decide⟩ (xk_136 hG.1) (Eq.trans (by (repeat (first | rw [wi_n (Or.inl (by omega))] | rw [wi_n (Or.inr (by omega))] | rw [wi_s] | rw [wr_i] | rw [cp_n (by omega)]))) hG.2.2.1) ?_
      refine q_iconstN (z := 1) d133_136 ?_
      refine n_iadd d133_137 ?_
      refine q_puti (c := 8) (f := 0) d133_138 ⟨rfl, rfl, by decide⟩ (xk_136 hG.1) ?_
      refine q_aload_n d133_141 rfl ?_
      refine q_getv (c := 8) (f := 0) d133_142 ⟨rfl, by decide⟩ (xk_136 hG.1) (wi_s _ _ _ _) ?_
      refine q_iconstN (z := 1) d133_145 ?_
      refine n_isub d133_146 (by omega) ?_
      refine q_iret d133_147 rfl ?_
      have e9 : sText D = (nI (dc D), (dc D + 1, yu (dT D) (dc D) K.2, 0, D.2.2.2)) := by unfold sText; rw [if_neg (by omega), e]
      rw [e9] at k
      rw [show dc D + 1 - 1 = dc D by omega]
      refine k _ κ (Nat.le_add_right _ _) (hR.txO hc hT (((((((F.mono (fun a j q => FJ_T q)).wi (Or.inl ⟨rfl, by omega⟩)).wi (Or.inl ⟨rfl, by omega⟩)).wi (Or.inr (Or.inl ⟨Or.inl rfl, rfl⟩))).wi (Or.inr (Or.inl ⟨Or.inr rfl, rfl⟩))).wi (Or.inl ⟨rfl, Or.inl rfl⟩))) (by (repeat (first | rw [wi_n (Or.inl (by omega))] | rw [wi_n (Or.inr (by omega))] | rw [wi_s] | rw [wr_i] | rw [cp_n (by omega)] | rw [cp_0 (by omega)]))) (by (repeat (first | rw [wi_n (Or.inl (by omega))] | rw [wi_n (Or.inr (by omega))] | rw [wi_s] | rw [wr_i] | rw [cp_n (by omega)] | rw [cp_0 (by omega)]))) ⟨by (repeat (first | rw [wi_n (Or.inl (by omega))] | rw [wi_n (Or.inr (by omega))] | rw [wi_s] | rw [wr_i] | rw [cp_n (by omega)] | rw [cp_0 (by omega)])), by (repeat (first | rw [wi_n (Or.inl (by omega))] | rw [wi_n (Or.inr (by omega))] | rw [wi_s] | rw [wr_i] | rw [cp_n (by omega)] | rw [cp_0 (by omega)])), fun j hj => ?_⟩) ((((((((F.mono (fun a j q => FJ_T q)).wi (Or.inl ⟨rfl, by omega⟩)).wi (Or.inl ⟨rfl, by omega⟩)).wi (Or.inr (Or.inl ⟨Or.inl rfl, rfl⟩))).wi (Or.inr (Or.inl ⟨Or.inr rfl, rfl⟩))).wi (Or.inl ⟨rfl, Or.inl rfl⟩))).mono (fun a j q => by unfold FTx at q; unfold FY; omega))
      have hr := hG.2.2.2.2.2.2.2.2.2 j hj
      exact ⟨by (repeat (first | rw [wi_n (Or.inl (by omega))] | rw [wi_n (Or.inr (by omega))] | rw [wi_s] | rw [wr_i] | rw [cp_n (by omega)] | rw [cp_0 (by omega)])); exact hr.1, by (repeat (first | rw [wi_n (Or.inl (by omega))] | rw [wi_n (Or.inr (by omega))] | rw [wi_s] | rw [wr_i] | rw [cp_n (by omega)] | rw [cp_0 (by omega)])); exact hr.2.1, by (repeat (first | rw [wi_n (Or.inl (by omega))] | rw [wi_n (Or.inr (by omega))] | rw [wi_s] | rw [wr_i] | rw [cp_n (by omega)] | rw [cp_0 (by omega)])); exact hr.2.2.1, by (repeat (first | rw [wi_n (Or.inl (by omega))] | rw [wi_n (Or.inr (by omega))] | rw [wi_s] | rw [wr_i] | rw [cp_n (by omega)] | rw [cp_0 (by omega)])); exact hr.2.2.2.1, by (repeat (first | rw [wi_n (Or.inl (by omega))] | rw [wi_n (Or.inr (by omega))] | rw [wi_s] | rw [wr_i] | rw [cp_n (by omega)] | rw [cp_0 (by omega)])); exact hr.2.2.2.2⟩
theorem x133 {d : Nat} {M : zM} {Q : Option Value → zM → Prop} {D : yD} {κ : Nat} (hR : RX M D κ) (hb9 : ∀ i, i < dn D → db D i < 256) (k : ∀ M' κ', κ' ≤ κ + 240 → RX M' (sText D).2 κ' → Fi FY M M' → Q (some (.int (sText D).1)) M') : qC (d + 24) 133 [.ref 136] M Q := by
  refine qC_of (by decide) (Nat.le_of_ble_eq_true rfl) ?_
  have hC := hR.1
  have hX := hC.1
  have hO : OKW (dT D) (dc D) (dW D) := hC.2.2.1
  have hc6 := hO.1.1
  have hL : XLo [] M (some (dL D)) := hC.2.2.2.2.2.2.1
  have hSa : ∀ s, s < 3 → XSa M s (dS D s) κ := hC.2.2.2.2.1
  have hTk := hC.k
  have hck := hC.2.2.2.2.2.1
  have hb : ∀ i, i < dn D → db D i < 256 := hb9
  have ht0 : TXp M (dn D) (db D) := ⟨hR.2.2.2.1.1, hR.2.2.2.1.2.1, fun i hi => ⟨hR.2.2.2.1.2.2 i hi, hb i hi⟩⟩
  by_cases h6 : 6 ≤ dc D
  · rw [show sText D = (-4, D) from if_pos h6] at k
    refine q_aload_n d133_0 rfl ?_
    refine q_getv (c := 8) (f := 0) d133_1 ⟨rfl, by decide⟩ (xk_136 hX) hR.2.2.1 ?_
    refine q_bipush (x := nI 6) d133_4 rfl ?_
    refine nc_ne 12 d133_6 (by decide) (by omega) (by omega) (fun h6 => (False.elim (absurd h6 (by omega)))) (fun h6 => ?_)
    refine q_bipush (x := (-4)) d133_9 rfl ?_
    refine q_iret d133_11 rfl ?_
    exact k _ κ (Nat.le_add_right _ _) hR (Fi.refl _ _)
  · have hc : dc D < 6 := by omega
    refine q_aload_n d133_0 rfl ?_
    refine q_getv (c := 8) (f := 0) d133_1 ⟨rfl, by decide⟩ (xk_136 hX) hR.2.2.1 ?_
    refine q_bipush (x := nI 6) d133_4 rfl ?_
    refine nc_ne 12 d133_6 (by decide) (by omega) (by omega) (fun h6 => ?_) (fun h6 => (False.elim (absurd h6 (by omega))))
    refine q_aload_n d133_12 rfl ?_
    refine q_iconstN (z := 0) d133_13 ?_
    refine q_puti (c := 8) (f := 31) d133_14 ⟨rfl, rfl, by decide⟩ (xk_136 hX) ?_
    refine q_aload_n d133_17 rfl ?_
    refine q_iconstN (z := 0) d133_18 ?_
    refine q_puti (c := 8) (f := 35) d133_19 ⟨rfl, rfl, by decide⟩ (xk_136 hX) ?_
    refine q_aload_n d133_22 rfl ?_
    refine q_iconst (x := (-1)) d133_23 rfl ?_
    refine q_puti (c := 8) (f := 36) d133_24 ⟨rfl, rfl, by decide⟩ (xk_136 hX) ?_
    refine q_aload_n d133_27 rfl ?_
    refine q_iconstN (z := 0) d133_28 ?_
    refine q_puti (c := 8) (f := 37) d133_29 ⟨rfl, rfl, by decide⟩ (xk_136 hX) ?_
    refine q_aload_n d133_32 rfl ?_
    refine q_iconstN (z := 0) d133_33 ?_
    refine q_putz (c := 8) (f := 38) d133_34 ⟨rfl, rfl, by decide⟩ (xk_136 hX) (Or.inl rfl) ?_
    have f1 : Fi (FJ (dc D)) M (zwi (zwi (zwi (zwi (zwi M 136 31 (nI 0)) 136 35 (nI 0)) 136 36 (-1)) 136 37 (nI 0)) 136 38 (nI 0)) := (((((Fi.refl _ _).wi (Or.inl ⟨rfl, by omega⟩)).wi (Or.inl ⟨rfl, by omega⟩)).wi (Or.inl ⟨rfl, by omega⟩)).wi (Or.inl ⟨rfl, by omega⟩)).wi (Or.inl ⟨rfl, by omega⟩)
    have hX1 := SX_fi hX f1
    have ht1 := TXp_fi ht0 f1 (FJ_t hc)
    refine q_aload_n d133_37 rfl ?_
    refine q_v0 d133_38 rfl rfl (xk_136 hX1) (Nat.le_of_ble_eq_true rfl) (c134 hX1 ht1 (p := 0) (by (repeat (first | rw [wi_n (Or.inl (by omega))] | rw [wi_n (Or.inr (by omega))] | rw [wi_s] | rw [wr_i] | rw [cp_n (by omega)] | rw [cp_0 (by omega)]))) (Nat.zero_le _) (by (repeat (first | rw [wi_n (Or.inl (by omega))] | rw [wi_n (Or.inr (by omega))] | rw [wi_s] | rw [wr_i] | rw [cp_n (by omega)] | rw [cp_0 (by omega)]))) (fun M2 ha2 hb2 hk2 f2 => ?_))
    have hX2 := SX_fi hX1 f2
    have ht2 := TXp_fi ht1 f2 FN_t
    have f12 : Fi (FJ (dc D)) M M2 := f1.trans (f2.mono (fun a j q => FN_J q))
    have h02 : zi M2 136 0 = nI (dc D) := (f12.1 _ _ (by unfold FJ; omega)).trans hR.2.2.1
    have hlt := ltk_v (n := dn D) (p := 0) (b := db D) (Nat.zero_le _) hb
    cases ey : ytx (db D) (ltk (dn D) (db D) 0) with
    | none =>
      have hB : BX M2 (dc D) (dn D) (db D) (ltk (dn D) (db D) 0).2.1 := ⟨hX2, hc, h02, ht2, hk2.2 ey, hb2⟩
      have e : pTx (dn D) (db D) = .error (ltk (dn D) (db D) 0).2.1 := by unfold pTx; rw [pLd_b (K := (ltk (dn D) (db D) 0, yT0)) ey]
      refine q_aload_n d133_41 rfl ?_
      refine q_iconstN (z := 0) d133_42 ?_
      refine q_v1 d133_43 rfl rfl (xk_136 hX2) (Nat.le_of_ble_eq_true rfl) (c138f hB (fun v8 => ?_))
      refine q_istore_n d133_46 (by decide) rfl ?_
      exact z133b hR hc f12 hB e k
    | some tv =>
      have hG : GX M2 (dc D) (dn D) (db D) 0 (ltk (dn D) (db D) 0, yT0) := ⟨hX2, hc, h02, ht2, ⟨ha2, hb2⟩, ⟨tv.1, tv.2, ey, hk2.1 tv.1 tv.2 ey⟩, (f2.1 _ _ (by unfold FN; omega)).trans (by (repeat (first | rw [wi_n (Or.inl (by omega))] | rw [wi_n (Or.inr (by omega))] | rw [wi_s] | rw [wr_i] | rw [cp_n (by omega)] | rw [cp_0 (by omega)]))), (f2.1 _ _ (by unfold FN; omega)).trans (by (repeat (first | rw [wi_n (Or.inl (by omega))] | rw [wi_n (Or.inr (by omega))] | rw [wi_s] | rw [wr_i] | rw [cp_n (by omega)] | rw [cp_0 (by omega)])); rfl), (f2.1 _ _ (by unfold FN; omega)).trans (by (repeat (first | rw [wi_n (Or.inl (by omega))] | rw [wi_n (Or.inr (by omega))] | rw [wi_s] | rw [wr_i] | rw [cp_n (by omega)] | rw [cp_0 (by omega)])); rfl), fun j hj => absurd hj (Nat.not_lt_zero _)⟩
      have hv : yQv (dn D) (db D) (ltk (dn D) (db D) 0, yT0) := ⟨hlt.1, OKB_0⟩
      have hp := pLd_v hb 3 true 0 (ltk (dn D) (db D) 0, yT0) hv (by show 0 < 2 ^ 0; decide)
      cases eL : pLd (dn D) (db D) 3 true 0 (ltk (dn D) (db D) 0, yT0) with
      | error f =>
        have e : pTx (dn D) (db D) = .error f := by unfold pTx; rw [eL]
        refine q_aload_n d133_41 rfl ?_
        refine q_iconstN (z := 0) d133_42 ?_
        refine q_v1 d133_43 rfl rfl (xk_136 hX2) (Nat.le_of_ble_eq_true rfl) (cLX_3 _ _ _ _ 0 _ _ _ hG hv (by show 0 < 2 ^ 0; decide) (fun _ => rfl) (cOX_e eL (fun v3 M3 hB3 f3 => ?_)))
        refine q_istore_n d133_46 (by decide) rfl ?_
        exact z133b hR hc (f12.trans f3) hB3 e k
      | ok r9 =>
        obtain ⟨w, K1⟩ := r9
        rw [eL] at hp
        refine q_aload_n d133_41 rfl ?_
        refine q_iconstN (z := 0) d133_42 ?_
        refine q_v1 d133_43 rfl rfl (xk_136 hX2) (Nat.le_of_ble_eq_true rfl) (cLX_3 _ _ _ _ 0 _ _ _ hG hv (by show 0 < 2 ^ 0; decide) (fun _ => rfl) (cOX_o eL (fun hn M3 hG3 f3 => ?_) (fun hn v3 M3 hB3 f3 => ?_)))
        · refine q_istore_n d133_46 (by decide) rfl ?_
          exact z133g hR hc (f12.trans f3) hG3 hp.1 eL k
        · have e : pTx (dn D) (db D) = .error K1.1.2.1 := by
            have h1 : K1.1.1 ≠ 0 := by rcases ytx_n hn with ⟨h1, h2⟩ | h1 <;> omega
            unfold pTx; rw [eL]; exact if_pos h1
          refine q_istore_n d133_46 (by decide) rfl ?_
          exact z133b hR hc (f12.trans f3) hB3 e k
