/-! ===== the reference: tokens ===== -/
/-! the reference's tape and tokens -/
def TXp (M : zM) (n : Nat) (b : Nat → Nat) : Prop := n ≤ 120 ∧ zi M 136 30 = nI n ∧ ∀ k, k < n → zi M 208 k = nI (b k) ∧ b k < 256
theorem TXp_fi {M M' : zM} {F : Nat → Nat → Prop} {n : Nat} {b : Nat → Nat} (h : TXp M n b) (f : Fi F M M') (hs : ¬ F 136 30 ∧ ∀ k, ¬ F 208 k) : TXp M' n b := ⟨h.1, (f.1 _ _ hs.1).trans h.2.1, fun k hk => ⟨(f.1 _ _ (hs.2 k)).trans (h.2.2 k hk).1, (h.2.2 k hk).2⟩⟩
def FQ : Nat → Nat → Prop := fun a k => a = 136 ∧ k = 31
def FN : Nat → Nat → Prop := fun a k => a = 136 ∧ (k = 31 ∨ k = 32 ∨ k = 33 ∨ k = 34 ∨ k = 38)
theorem FQ_t : ¬ FQ 136 30 ∧ ∀ k, ¬ FQ 208 k := ⟨by unfold FQ; omega, fun k => by unfold FQ; omega⟩
theorem FN_t : ¬ FN 136 30 ∧ ∀ k, ¬ FN 208 k := ⟨by unfold FN; omega, fun k => by unfold FN; omega⟩
theorem FQ_N {a k : Nat} (h : FQ a k) : FN a k := by unfold FQ at h; unfold FN; omega
/-- a token as the reference has it; none: a wrong one -/
def ytx (b : Nat → Nat) (k : yK) : Option (Nat × Nat) := if k.1 = 0 then some (0, 0) else if k.1 = 1 then (if k.2.2 - k.2.1 = 1 ∧ b k.2.1 ≤ 102 then some (2, b k.2.1 - 97) else if ykw b k.2.1 k.2.2 < 6 then some (1, ykw b k.2.1 k.2.2) else none) else if k.1 = 2 then some (3, ynd b k.2.1 (k.2.2 - k.2.1)) else if k.1 = 3 then none else some (4, k.1)
theorem d135_0 : decode (zB 135) 0 = .ok (.iload_n 1, 1) := by decide +kernel
theorem d135_1 : decode (zB 135) 1 = .ok (.aload_n 0, 1) := by decide +kernel
theorem d135_2 : decode (zB 135) 2 = .ok (.getfield 123, 3) := by decide +kernel
theorem d135_5 : decode (zB 135) 5 = .ok (.if_icmp .ge 12, 3) := by decide +kernel
theorem d135_8 : decode (zB 135) 8 = .ok (.aload_n 0, 1) := by decide +kernel
theorem d135_9 : decode (zB 135) 9 = .ok (.getfield 76, 3) := by decide +kernel
theorem d135_12 : decode (zB 135) 12 = .ok (.iload_n 1, 1) := by decide +kernel
theorem d135_13 : decode (zB 135) 13 = .ok (.iaload, 1) := by decide +kernel
theorem d135_14 : decode (zB 135) 14 = .ok (.goto 4, 3) := by decide +kernel
theorem d135_17 : decode (zB 135) 17 = .ok (.iconst (-1), 1) := by decide +kernel
theorem d135_18 : decode (zB 135) 18 = .ok (.ireturn, 1) := by decide +kernel
theorem c135t {d : Nat} {M : zM} {Q : Option Value → zM → Prop} {n : Nat} {b : Nat → Nat} {p : Nat} (hX : SX M) (ht : TXp M n b) (hp : p < n) (k : Q (some (.int (nI (b p)))) M) : qC (d + 1) 135 [.ref 136, .int (nI p)] M Q := by
  refine qC_of (by decide) (Nat.le_of_ble_eq_true rfl) ?_
  have h120 := ht.1
  refine q_iload_n d135_0 rfl ?_
  refine q_aload_n d135_1 rfl ?_
  refine q_getv (c := 8) (f := 30) d135_2 ⟨rfl, by decide⟩ (xk_136 hX) ht.2.1 ?_
  refine nc_ge 17 d135_5 (by decide) (by omega) (by omega) (fun h5 => (False.elim (by omega))) (fun h5 => ?_)
  refine q_aload_n d135_8 rfl ?_
  refine q_getr (c := 8) (f := 29) d135_9 ⟨rfl, rfl⟩ (xk_136 hX) (xf_tape hX) ?_
  refine q_iload_n d135_12 rfl ?_
  refine n_iald d135_13 (xk_tape hX) (by omega) (by decide) (ht.2.2 _ (by omega)).1 ?_
  refine q_goto 18 d135_14 (by decide) ?_
  refine q_iret d135_18 rfl ?_
  exact k
theorem c135f {d : Nat} {M : zM} {Q : Option Value → zM → Prop} {n : Nat} {b : Nat → Nat} {p : Nat} (hX : SX M) (ht : TXp M n b) (hp : n ≤ p) (hp2 : p < 2147483648) (k : Q (some (.int (-1))) M) : qC (d + 1) 135 [.ref 136, .int (nI p)] M Q := by
  refine qC_of (by decide) (Nat.le_of_ble_eq_true rfl) ?_
  have h120 := ht.1
  refine q_iload_n d135_0 rfl ?_
  refine q_aload_n d135_1 rfl ?_
  refine q_getv (c := 8) (f := 30) d135_2 ⟨rfl, by decide⟩ (xk_136 hX) ht.2.1 ?_
  refine nc_ge 17 d135_5 (by decide) (by omega) (by omega) (fun h5 => ?_) (fun h5 => (False.elim (by omega)))
  refine q_iconst (x := (-1)) d135_17 rfl ?_
  refine q_iret d135_18 rfl ?_
  exact k
theorem d137_0 : decode (zB 137) 0 = .ok (.aload_n 1, 1) := by decide +kernel
theorem d137_1 : decode (zB 137) 1 = .ok (.invokevirtual 126, 3) := by decide +kernel
theorem d137_4 : decode (zB 137) 4 = .ok (.aload_n 0, 1) := by decide +kernel
theorem d137_5 : decode (zB 137) 5 = .ok (.getfield 132, 3) := by decide +kernel
theorem d137_8 : decode (zB 137) 8 = .ok (.aload_n 0, 1) := by decide +kernel
theorem d137_9 : decode (zB 137) 9 = .ok (.getfield 135, 3) := by decide +kernel
theorem d137_12 : decode (zB 137) 12 = .ok (.isub, 1) := by decide +kernel
theorem d137_13 : decode (zB 137) 13 = .ok (.if_icmp .eq 5, 3) := by decide +kernel
theorem d137_16 : decode (zB 137) 16 = .ok (.iconst 0, 1) := by decide +kernel
theorem d137_17 : decode (zB 137) 17 = .ok (.ireturn, 1) := by decide +kernel
theorem d137_18 : decode (zB 137) 18 = .ok (.iconst 0, 1) := by decide +kernel
theorem d137_19 : decode (zB 137) 19 = .ok (.istore_n 2, 1) := by decide +kernel
theorem d137_20 : decode (zB 137) 20 = .ok (.iload_n 2, 1) := by decide +kernel
theorem d137_21 : decode (zB 137) 21 = .ok (.aload_n 1, 1) := by decide +kernel
theorem d137_22 : decode (zB 137) 22 = .ok (.invokevirtual 126, 3) := by decide +kernel
theorem d137_25 : decode (zB 137) 25 = .ok (.if_icmp .ge 29, 3) := by decide +kernel
theorem d137_28 : decode (zB 137) 28 = .ok (.aload_n 1, 1) := by decide +kernel
theorem d137_29 : decode (zB 137) 29 = .ok (.iload_n 2, 1) := by decide +kernel
theorem d137_30 : decode (zB 137) 30 = .ok (.invokevirtual 138, 3) := by decide +kernel
theorem d137_33 : decode (zB 137) 33 = .ok (.aload_n 0, 1) := by decide +kernel
theorem d137_34 : decode (zB 137) 34 = .ok (.aload_n 0, 1) := by decide +kernel
theorem d137_35 : decode (zB 137) 35 = .ok (.getfield 135, 3) := by decide +kernel
theorem d137_38 : decode (zB 137) 38 = .ok (.iload_n 2, 1) := by decide +kernel
theorem d137_39 : decode (zB 137) 39 = .ok (.iadd, 1) := by decide +kernel
theorem d137_40 : decode (zB 137) 40 = .ok (.invokevirtual 142, 3) := by decide +kernel
theorem d137_43 : decode (zB 137) 43 = .ok (.if_icmp .eq 5, 3) := by decide +kernel
theorem d137_46 : decode (zB 137) 46 = .ok (.iconst 0, 1) := by decide +kernel
theorem d137_47 : decode (zB 137) 47 = .ok (.ireturn, 1) := by decide +kernel
theorem d137_48 : decode (zB 137) 48 = .ok (.iinc 2 1, 3) := by decide +kernel
theorem d137_51 : decode (zB 137) 51 = .ok (.goto (-31), 3) := by decide +kernel
theorem d137_54 : decode (zB 137) 54 = .ok (.iconst 1, 1) := by decide +kernel
theorem d137_55 : decode (zB 137) 55 = .ok (.ireturn, 1) := by decide +kernel
theorem l137 {d : Nat} {M : zM} {Q : Option Value → zM → Prop} {n : Nat} {b : Nat → Nat} {s e i : Nat} (hX : SX M) (ht : TXp M n b) (ha : zi M 136 31 = nI e) (hb : zi M 136 32 = nI s) (hse : s ≤ e) (hen : e ≤ n) (hi : i < 6) (k : Q (some (.int (bI (ywd b s e i)))) M) (he : e - s = (ywl i).length) : ∀ (r q : Nat), q ≤ (ywl i).length → (ywl i).length < q + r →  (∀ p, p < q → b (s + p) = (ywl i).getD p 0) → qW (zEv (d + 7)) 137 Q 20 [(2, .int (nI q)), (0, .ref 136), (1, .ref (3 + i))] [] M := by
  intro r
  induction r with
  | zero => intros; omega
  | succ r ih =>
    intro q h1 h2 hq 
    have h120 := ht.1
    have hl := ywl_len i hi
    refine q_iload_n d137_20 rfl ?_
    refine q_aload_n d137_21 rfl ?_
    refine q_t0 d137_22 (Or.inl rfl) (Nat.le_of_ble_eq_true rfl) (c900 hi ?_)
    refine nc_ge 54 d137_25 (by decide) (by omega) (by omega) (fun h25 => ?_) (fun h25 => ?_)
    · refine q_iconstN (z := 1) d137_54 ?_
      refine q_zret d137_55 rfl (by decide) ?_
      rw [ywd_t he (fun p hp => hq p (by omega))] at k
      exact k
    · refine q_aload_n d137_28 rfl ?_
      refine q_iload_n d137_29 rfl ?_
      refine q_t1 d137_30 (Or.inr rfl) (Nat.le_of_ble_eq_true rfl) (c901 hi (by omega) ?_)
      refine q_aload_n d137_33 rfl ?_
      refine q_aload_n d137_34 rfl ?_
      refine q_getv (c := 8) (f := 32) d137_35 ⟨rfl, by decide⟩ (xk_136 hX) hb ?_
      refine q_iload_n d137_38 rfl ?_
      refine n_iadd d137_39 ?_
      refine q_v1 d137_40 rfl rfl (xk_136 hX) (Nat.le_of_ble_eq_true rfl) (c135t hX ht (by omega) ?_)
      have hg := (hl.2 q (by omega))
      have hbb := (ht.2.2 (s + q) (by omega)).2
      refine nc_eq 48 d137_43 (by decide) (by omega) (by omega) (fun h43 => ?_) (fun h43 => ?_)
      · refine n_iinc 1 d137_48 (by decide) rfl rfl ?_
        refine q_goto 20 d137_51 (by decide) ?_
        exact ih (q + 1) (by omega) (by omega) (fun p hp => by by_cases e9 : p = q; (subst e9; exact h43.symm); exact hq p (by omega))
      · refine q_iconstN (z := 0) d137_46 ?_
        refine q_zret d137_47 rfl (by decide) ?_
        rw [ywd_f2 (k := q) (by omega) (fun e9 => h43 e9.symm)] at k
        exact k
theorem c137 {d : Nat} {M : zM} {Q : Option Value → zM → Prop} {n : Nat} {b : Nat → Nat} {s e i : Nat} (hX : SX M) (ht : TXp M n b) (ha : zi M 136 31 = nI e) (hb : zi M 136 32 = nI s) (hse : s ≤ e) (hen : e ≤ n) (hi : i < 6) (k : Q (some (.int (bI (ywd b s e i)))) M) : qC (d + 8) 137 [.ref 136, .ref (3 + i)] M Q := by
  refine qC_of (by decide) (Nat.le_of_ble_eq_true rfl) ?_
  have h120 := ht.1
  have hl := ywl_len i hi
  refine q_aload_n d137_0 rfl ?_
  refine q_t0 d137_1 (Or.inl rfl) (Nat.le_of_ble_eq_true rfl) (c900 hi ?_)
  refine q_aload_n d137_4 rfl ?_
  refine q_getv (c := 8) (f := 31) d137_5 ⟨rfl, by decide⟩ (xk_136 hX) ha ?_
  refine q_aload_n d137_8 rfl ?_
  refine q_getv (c := 8) (f := 32) d137_9 ⟨rfl, by decide⟩ (xk_136 hX) hb ?_
  refine n_isub d137_12 (by omega) ?_
  refine nc_eq 18 d137_13 (by decide) (by omega) (by omega) (fun h13 => ?_) (fun h13 => ?_)
  · refine q_iconstN (z := 0) d137_18 ?_
    refine q_istore_n d137_19 (by decide) rfl ?_
    exact l137 hX ht ha hb hse hen hi k h13.symm ((ywl i).length + 1) 0 (Nat.zero_le _) (by omega) (fun p hp => absurd hp (Nat.not_lt_zero _))
  · refine q_iconstN (z := 0) d137_16 ?_
    refine q_zret d137_17 rfl (by decide) ?_
    rw [ywd_f1 (fun e9 => h13 e9.symm)] at k
    exact k
theorem d136_0 : decode (zB 136) 0 = .ok (.aload_n 0, 1) := by decide +kernel
theorem d136_1 : decode (zB 136) 1 = .ok (.ldc 146, 2) := by decide +kernel
theorem d136_3 : decode (zB 136) 3 = .ok (.invokevirtual 148, 3) := by decide +kernel
theorem d136_6 : decode (zB 136) 6 = .ok (.ifCond .eq 7, 3) := by decide +kernel
theorem d136_9 : decode (zB 136) 9 = .ok (.iconst 0, 1) := by decide +kernel
theorem d136_10 : decode (zB 136) 10 = .ok (.goto 69, 3) := by decide +kernel
theorem d136_13 : decode (zB 136) 13 = .ok (.aload_n 0, 1) := by decide +kernel
theorem d136_14 : decode (zB 136) 14 = .ok (.ldc 152, 2) := by decide +kernel
theorem d136_16 : decode (zB 136) 16 = .ok (.invokevirtual 148, 3) := by decide +kernel
theorem d136_19 : decode (zB 136) 19 = .ok (.ifCond .eq 7, 3) := by decide +kernel
theorem d136_22 : decode (zB 136) 22 = .ok (.iconst 1, 1) := by decide +kernel
theorem d136_23 : decode (zB 136) 23 = .ok (.goto 56, 3) := by decide +kernel
theorem d136_26 : decode (zB 136) 26 = .ok (.aload_n 0, 1) := by decide +kernel
theorem d136_27 : decode (zB 136) 27 = .ok (.ldc 154, 2) := by decide +kernel
theorem d136_29 : decode (zB 136) 29 = .ok (.invokevirtual 148, 3) := by decide +kernel
theorem d136_32 : decode (zB 136) 32 = .ok (.ifCond .eq 7, 3) := by decide +kernel
theorem d136_35 : decode (zB 136) 35 = .ok (.iconst 2, 1) := by decide +kernel
theorem d136_36 : decode (zB 136) 36 = .ok (.goto 43, 3) := by decide +kernel
theorem d136_39 : decode (zB 136) 39 = .ok (.aload_n 0, 1) := by decide +kernel
theorem d136_40 : decode (zB 136) 40 = .ok (.ldc 156, 2) := by decide +kernel
theorem d136_42 : decode (zB 136) 42 = .ok (.invokevirtual 148, 3) := by decide +kernel
theorem d136_45 : decode (zB 136) 45 = .ok (.ifCond .eq 7, 3) := by decide +kernel
theorem d136_48 : decode (zB 136) 48 = .ok (.iconst 3, 1) := by decide +kernel
theorem d136_49 : decode (zB 136) 49 = .ok (.goto 30, 3) := by decide +kernel
theorem d136_52 : decode (zB 136) 52 = .ok (.aload_n 0, 1) := by decide +kernel
theorem d136_53 : decode (zB 136) 53 = .ok (.ldc 158, 2) := by decide +kernel
theorem d136_55 : decode (zB 136) 55 = .ok (.invokevirtual 148, 3) := by decide +kernel
theorem d136_58 : decode (zB 136) 58 = .ok (.ifCond .eq 7, 3) := by decide +kernel
theorem d136_61 : decode (zB 136) 61 = .ok (.iconst 4, 1) := by decide +kernel
theorem d136_62 : decode (zB 136) 62 = .ok (.goto 17, 3) := by decide +kernel
theorem d136_65 : decode (zB 136) 65 = .ok (.aload_n 0, 1) := by decide +kernel
theorem d136_66 : decode (zB 136) 66 = .ok (.ldc 160, 2) := by decide +kernel
theorem d136_68 : decode (zB 136) 68 = .ok (.invokevirtual 148, 3) := by decide +kernel
theorem d136_71 : decode (zB 136) 71 = .ok (.ifCond .eq 7, 3) := by decide +kernel
theorem d136_74 : decode (zB 136) 74 = .ok (.iconst 5, 1) := by decide +kernel
theorem d136_75 : decode (zB 136) 75 = .ok (.goto 4, 3) := by decide +kernel
theorem d136_78 : decode (zB 136) 78 = .ok (.iconst (-1), 1) := by decide +kernel
theorem d136_79 : decode (zB 136) 79 = .ok (.ireturn, 1) := by decide +kernel
theorem bo_n {p : Bool} (h : p = false) : ¬ p = true := by rw [h]; decide
theorem c136 {d : Nat} {M : zM} {Q : Option Value → zM → Prop} {n : Nat} {b : Nat → Nat} {s e : Nat} (hX : SX M) (ht : TXp M n b) (ha : zi M 136 31 = nI e) (hb : zi M 136 32 = nI s) (hse : s ≤ e) (hen : e ≤ n) (k : Q (some (.int (ykv (ykw b s e)))) M) : qC (d + 9) 136 [.ref 136] M Q := by
  refine qC_of (by decide) (Nat.le_of_ble_eq_true rfl) ?_
  refine q_aload_n d136_0 rfl ?_
  refine q_ldcs d136_1 rfl ?_
  refine q_v1 d136_3 rfl rfl (xk_136 hX) (Nat.le_of_ble_eq_true rfl) (c137 (i := 0) hX ht ha hb hse hen (by omega) ?_)
  refine b0_eq 13 d136_6 (by decide) (fun h6 => ?_) (fun h6 => ?_)
  · refine q_aload_n d136_13 rfl ?_
    refine q_ldcs d136_14 rfl ?_
    refine q_v1 d136_16 rfl rfl (xk_136 hX) (Nat.le_of_ble_eq_true rfl) (c137 (i := 1) hX ht ha hb hse hen (by omega) ?_)
    refine b0_eq 26 d136_19 (by decide) (fun h19 => ?_) (fun h19 => ?_)
    · refine q_aload_n d136_26 rfl ?_
      refine q_ldcs d136_27 rfl ?_
      refine q_v1 d136_29 rfl rfl (xk_136 hX) (Nat.le_of_ble_eq_true rfl) (c137 (i := 2) hX ht ha hb hse hen (by omega) ?_)
      refine b0_eq 39 d136_32 (by decide) (fun h32 => ?_) (fun h32 => ?_)
      · refine q_aload_n d136_39 rfl ?_
        refine q_ldcs d136_40 rfl ?_
        refine q_v1 d136_42 rfl rfl (xk_136 hX) (Nat.le_of_ble_eq_true rfl) (c137 (i := 3) hX ht ha hb hse hen (by omega) ?_)
        refine b0_eq 52 d136_45 (by decide) (fun h45 => ?_) (fun h45 => ?_)
        · refine q_aload_n d136_52 rfl ?_
          refine q_ldcs d136_53 rfl ?_
          refine q_v1 d136_55 rfl rfl (xk_136 hX) (Nat.le_of_ble_eq_true rfl) (c137 (i := 4) hX ht ha hb hse hen (by omega) ?_)
          refine b0_eq 65 d136_58 (by decide) (fun h58 => ?_) (fun h58 => ?_)
          · refine q_aload_n d136_65 rfl ?_
            refine q_ldcs d136_66 rfl ?_
            refine q_v1 d136_68 rfl rfl (xk_136 hX) (Nat.le_of_ble_eq_true rfl) (c137 (i := 5) hX ht ha hb hse hen (by omega) ?_)
            refine b0_eq 78 d136_71 (by decide) (fun h71 => ?_) (fun h71 => ?_)
            · refine q_iconst (x := (-1)) d136_78 rfl ?_
              refine q_iret d136_79 rfl ?_
              have e9 : ykw b s e = 6 := by
                unfold ykw
                rw [ykr, if_neg (bo_n h6), ykr, if_neg (bo_n h19), ykr, if_neg (bo_n h32), ykr, if_neg (bo_n h45), ykr, if_neg (bo_n h58), ykr, if_neg (bo_n h71)]
                rfl
              rw [e9] at k
              exact k
            · refine q_iconstN (z := 5) d136_74 ?_
              refine q_goto 79 d136_75 (by decide) ?_
              refine q_iret d136_79 rfl ?_
              have e9 : ykw b s e = 5 := by
                unfold ykw
                rw [ykr, if_neg (bo_n h6), ykr, if_neg (bo_n h19), ykr, if_neg (bo_n h32), ykr, if_neg (bo_n h45), ykr, if_neg (bo_n h58), ykr, if_pos h71]
              rw [e9] at k
              exact k
          · refine q_iconstN (z := 4) d136_61 ?_
            refine q_goto 79 d136_62 (by decide) ?_
            refine q_iret d136_79 rfl ?_
            have e9 : ykw b s e = 4 := by
              unfold ykw
              rw [ykr, if_neg (bo_n h6), ykr, if_neg (bo_n h19), ykr, if_neg (bo_n h32), ykr, if_neg (bo_n h45), ykr, if_pos h58]
            rw [e9] at k
            exact k
        · refine q_iconstN (z := 3) d136_48 ?_
          refine q_goto 79 d136_49 (by decide) ?_
          refine q_iret d136_79 rfl ?_
          have e9 : ykw b s e = 3 := by
            unfold ykw
            rw [ykr, if_neg (bo_n h6), ykr, if_neg (bo_n h19), ykr, if_neg (bo_n h32), ykr, if_pos h45]
          rw [e9] at k
          exact k
      · refine q_iconstN (z := 2) d136_35 ?_
        refine q_goto 79 d136_36 (by decide) ?_
        refine q_iret d136_79 rfl ?_
        have e9 : ykw b s e = 2 := by
          unfold ykw
          rw [ykr, if_neg (bo_n h6), ykr, if_neg (bo_n h19), ykr, if_pos h32]
        rw [e9] at k
        exact k
    · refine q_iconstN (z := 1) d136_22 ?_
      refine q_goto 79 d136_23 (by decide) ?_
      refine q_iret d136_79 rfl ?_
      have e9 : ykw b s e = 1 := by
        unfold ykw
        rw [ykr, if_neg (bo_n h6), ykr, if_pos h19]
      rw [e9] at k
      exact k
  · refine q_iconstN (z := 0) d136_9 ?_
    refine q_goto 79 d136_10 (by decide) ?_
    refine q_iret d136_79 rfl ?_
    have e9 : ykw b s e = 0 := by
      unfold ykw
      rw [ykr, if_pos h6]
    rw [e9] at k
    exact k
theorem c136t {d : Nat} {M : zM} {Q : Option Value → zM → Prop} {kd : Nat} {n : Nat} {b : Nat → Nat} {s e : Nat} (hX : SX M) (ht : TXp M n b) (ha : zi M 136 31 = nI e) (hb : zi M 136 32 = nI s) (hse : s ≤ e) (hen : e ≤ n) (h : ykw b s e = kd) (h6 : kd < 6) (k : Q (some (.int (nI kd))) M) : qC (d + 9) 136 [.ref 136] M Q := c136 hX ht ha hb hse hen (by rw [h]; unfold ykv; rw [if_pos h6]; exact k)
theorem c136n {d : Nat} {M : zM} {Q : Option Value → zM → Prop} {n : Nat} {b : Nat → Nat} {s e : Nat} (hX : SX M) (ht : TXp M n b) (ha : zi M 136 31 = nI e) (hb : zi M 136 32 = nI s) (hse : s ≤ e) (hen : e ≤ n) (h : ¬ ykw b s e < 6) (k : Q (some (.int (-1))) M) : qC (d + 9) 136 [.ref 136] M Q := c136 hX ht ha hb hse hen (by unfold ykv; rw [if_neg h]; exact k)
theorem d134_0 : decode (zB 134) 0 = .ok (.aload_n 0, 1) := by decide +kernel
theorem d134_1 : decode (zB 134) 1 = .ok (.getfield 162, 3) := by decide +kernel
theorem d134_4 : decode (zB 134) 4 = .ok (.ifCond .eq 4, 3) := by decide +kernel
theorem d134_7 : decode (zB 134) 7 = .ok (.return_, 1) := by decide +kernel
theorem d134_8 : decode (zB 134) 8 = .ok (.aload_n 0, 1) := by decide +kernel
theorem d134_9 : decode (zB 134) 9 = .ok (.aload_n 0, 1) := by decide +kernel
theorem d134_10 : decode (zB 134) 10 = .ok (.getfield 132, 3) := by decide +kernel
theorem d134_13 : decode (zB 134) 13 = .ok (.invokevirtual 142, 3) := by decide +kernel
theorem d134_16 : decode (zB 134) 16 = .ok (.bipush 32, 2) := by decide +kernel
theorem d134_18 : decode (zB 134) 18 = .ok (.if_icmp .eq 16, 3) := by decide +kernel
theorem d134_21 : decode (zB 134) 21 = .ok (.aload_n 0, 1) := by decide +kernel
theorem d134_22 : decode (zB 134) 22 = .ok (.aload_n 0, 1) := by decide +kernel
theorem d134_23 : decode (zB 134) 23 = .ok (.getfield 132, 3) := by decide +kernel
theorem d134_26 : decode (zB 134) 26 = .ok (.invokevirtual 142, 3) := by decide +kernel
theorem d134_29 : decode (zB 134) 29 = .ok (.bipush 10, 2) := by decide +kernel
theorem d134_31 : decode (zB 134) 31 = .ok (.if_icmp .ne 16, 3) := by decide +kernel
theorem d134_34 : decode (zB 134) 34 = .ok (.aload_n 0, 1) := by decide +kernel
theorem d134_35 : decode (zB 134) 35 = .ok (.dup, 1) := by decide +kernel
theorem d134_36 : decode (zB 134) 36 = .ok (.getfield 132, 3) := by decide +kernel
theorem d134_39 : decode (zB 134) 39 = .ok (.iconst 1, 1) := by decide +kernel
theorem d134_40 : decode (zB 134) 40 = .ok (.iadd, 1) := by decide +kernel
theorem d134_41 : decode (zB 134) 41 = .ok (.putfield 132, 3) := by decide +kernel
theorem d134_44 : decode (zB 134) 44 = .ok (.goto (-36), 3) := by decide +kernel
theorem d134_47 : decode (zB 134) 47 = .ok (.aload_n 0, 1) := by decide +kernel
theorem d134_48 : decode (zB 134) 48 = .ok (.aload_n 0, 1) := by decide +kernel
theorem d134_49 : decode (zB 134) 49 = .ok (.getfield 132, 3) := by decide +kernel
theorem d134_52 : decode (zB 134) 52 = .ok (.putfield 135, 3) := by decide +kernel
theorem d134_55 : decode (zB 134) 55 = .ok (.aload_n 0, 1) := by decide +kernel
theorem d134_56 : decode (zB 134) 56 = .ok (.aload_n 0, 1) := by decide +kernel
theorem d134_57 : decode (zB 134) 57 = .ok (.getfield 132, 3) := by decide +kernel
theorem d134_60 : decode (zB 134) 60 = .ok (.invokevirtual 142, 3) := by decide +kernel
theorem d134_63 : decode (zB 134) 63 = .ok (.istore_n 1, 1) := by decide +kernel
theorem d134_64 : decode (zB 134) 64 = .ok (.iload_n 1, 1) := by decide +kernel
theorem d134_65 : decode (zB 134) 65 = .ok (.iconst (-1), 1) := by decide +kernel
theorem d134_66 : decode (zB 134) 66 = .ok (.if_icmp .ne 11, 3) := by decide +kernel
theorem d134_69 : decode (zB 134) 69 = .ok (.aload_n 0, 1) := by decide +kernel
theorem d134_70 : decode (zB 134) 70 = .ok (.iconst 0, 1) := by decide +kernel
theorem d134_71 : decode (zB 134) 71 = .ok (.putfield 166, 3) := by decide +kernel
theorem d134_74 : decode (zB 134) 74 = .ok (.goto 294, 3) := by decide +kernel
theorem d134_77 : decode (zB 134) 77 = .ok (.iload_n 1, 1) := by decide +kernel
theorem d134_78 : decode (zB 134) 78 = .ok (.bipush 97, 2) := by decide +kernel
theorem d134_80 : decode (zB 134) 80 = .ok (.bipush 122, 2) := by decide +kernel
theorem d134_82 : decode (zB 134) 82 = .ok (.invokestatic 112, 3) := by decide +kernel
theorem d134_85 : decode (zB 134) 85 = .ok (.ifCond .eq 111, 3) := by decide +kernel
theorem d134_88 : decode (zB 134) 88 = .ok (.aload_n 0, 1) := by decide +kernel
theorem d134_89 : decode (zB 134) 89 = .ok (.aload_n 0, 1) := by decide +kernel
theorem d134_90 : decode (zB 134) 90 = .ok (.getfield 132, 3) := by decide +kernel
theorem d134_93 : decode (zB 134) 93 = .ok (.invokevirtual 142, 3) := by decide +kernel
theorem d134_96 : decode (zB 134) 96 = .ok (.bipush 97, 2) := by decide +kernel
theorem d134_98 : decode (zB 134) 98 = .ok (.bipush 122, 2) := by decide +kernel
theorem d134_100 : decode (zB 134) 100 = .ok (.invokestatic 112, 3) := by decide +kernel
theorem d134_103 : decode (zB 134) 103 = .ok (.ifCond .eq 16, 3) := by decide +kernel
theorem d134_106 : decode (zB 134) 106 = .ok (.aload_n 0, 1) := by decide +kernel
theorem d134_107 : decode (zB 134) 107 = .ok (.dup, 1) := by decide +kernel
theorem d134_108 : decode (zB 134) 108 = .ok (.getfield 132, 3) := by decide +kernel
theorem d134_111 : decode (zB 134) 111 = .ok (.iconst 1, 1) := by decide +kernel
theorem d134_112 : decode (zB 134) 112 = .ok (.iadd, 1) := by decide +kernel
theorem d134_113 : decode (zB 134) 113 = .ok (.putfield 132, 3) := by decide +kernel
theorem d134_116 : decode (zB 134) 116 = .ok (.goto (-28), 3) := by decide +kernel
theorem d134_119 : decode (zB 134) 119 = .ok (.aload_n 0, 1) := by decide +kernel
theorem d134_120 : decode (zB 134) 120 = .ok (.getfield 132, 3) := by decide +kernel
theorem d134_123 : decode (zB 134) 123 = .ok (.aload_n 0, 1) := by decide +kernel
theorem d134_124 : decode (zB 134) 124 = .ok (.getfield 135, 3) := by decide +kernel
theorem d134_127 : decode (zB 134) 127 = .ok (.isub, 1) := by decide +kernel
theorem d134_128 : decode (zB 134) 128 = .ok (.iconst 1, 1) := by decide +kernel
theorem d134_129 : decode (zB 134) 129 = .ok (.if_icmp .ne 13, 3) := by decide +kernel
theorem d134_132 : decode (zB 134) 132 = .ok (.iload_n 1, 1) := by decide +kernel
theorem d134_133 : decode (zB 134) 133 = .ok (.bipush 102, 2) := by decide +kernel
theorem d134_135 : decode (zB 134) 135 = .ok (.if_icmp .gt 7, 3) := by decide +kernel
theorem d134_138 : decode (zB 134) 138 = .ok (.iconst 1, 1) := by decide +kernel
theorem d134_139 : decode (zB 134) 139 = .ok (.goto 4, 3) := by decide +kernel
theorem d134_142 : decode (zB 134) 142 = .ok (.iconst 0, 1) := by decide +kernel
theorem d134_143 : decode (zB 134) 143 = .ok (.istore_n 2, 1) := by decide +kernel
theorem d134_144 : decode (zB 134) 144 = .ok (.aload_n 0, 1) := by decide +kernel
theorem d134_145 : decode (zB 134) 145 = .ok (.iload_n 2, 1) := by decide +kernel
theorem d134_146 : decode (zB 134) 146 = .ok (.ifCond .eq 7, 3) := by decide +kernel
theorem d134_149 : decode (zB 134) 149 = .ok (.iconst 2, 1) := by decide +kernel
theorem d134_150 : decode (zB 134) 150 = .ok (.goto 4, 3) := by decide +kernel
theorem d134_153 : decode (zB 134) 153 = .ok (.iconst 1, 1) := by decide +kernel
theorem d134_154 : decode (zB 134) 154 = .ok (.putfield 166, 3) := by decide +kernel
theorem d134_157 : decode (zB 134) 157 = .ok (.aload_n 0, 1) := by decide +kernel
theorem d134_158 : decode (zB 134) 158 = .ok (.iload_n 2, 1) := by decide +kernel
theorem d134_159 : decode (zB 134) 159 = .ok (.ifCond .eq 10, 3) := by decide +kernel
theorem d134_162 : decode (zB 134) 162 = .ok (.iload_n 1, 1) := by decide +kernel
theorem d134_163 : decode (zB 134) 163 = .ok (.bipush 97, 2) := by decide +kernel
theorem d134_165 : decode (zB 134) 165 = .ok (.isub, 1) := by decide +kernel
theorem d134_166 : decode (zB 134) 166 = .ok (.goto 7, 3) := by decide +kernel
theorem d134_169 : decode (zB 134) 169 = .ok (.aload_n 0, 1) := by decide +kernel
theorem d134_170 : decode (zB 134) 170 = .ok (.invokevirtual 169, 3) := by decide +kernel
theorem d134_173 : decode (zB 134) 173 = .ok (.putfield 172, 3) := by decide +kernel
theorem d134_176 : decode (zB 134) 176 = .ok (.aload_n 0, 1) := by decide +kernel
theorem d134_177 : decode (zB 134) 177 = .ok (.aload_n 0, 1) := by decide +kernel
theorem d134_178 : decode (zB 134) 178 = .ok (.getfield 172, 3) := by decide +kernel
theorem d134_181 : decode (zB 134) 181 = .ok (.iconst (-1), 1) := by decide +kernel
theorem d134_182 : decode (zB 134) 182 = .ok (.if_icmp .ne 7, 3) := by decide +kernel
theorem d134_185 : decode (zB 134) 185 = .ok (.iconst 1, 1) := by decide +kernel
theorem d134_186 : decode (zB 134) 186 = .ok (.goto 4, 3) := by decide +kernel
theorem d134_189 : decode (zB 134) 189 = .ok (.iconst 0, 1) := by decide +kernel
theorem d134_190 : decode (zB 134) 190 = .ok (.putfield 162, 3) := by decide +kernel
theorem d134_193 : decode (zB 134) 193 = .ok (.goto 175, 3) := by decide +kernel
theorem d134_196 : decode (zB 134) 196 = .ok (.iload_n 1, 1) := by decide +kernel
theorem d134_197 : decode (zB 134) 197 = .ok (.bipush 48, 2) := by decide +kernel
theorem d134_199 : decode (zB 134) 199 = .ok (.bipush 57, 2) := by decide +kernel
theorem d134_201 : decode (zB 134) 201 = .ok (.invokestatic 112, 3) := by decide +kernel
theorem d134_204 : decode (zB 134) 204 = .ok (.ifCond .eq 105, 3) := by decide +kernel
theorem d134_207 : decode (zB 134) 207 = .ok (.aload_n 0, 1) := by decide +kernel
theorem d134_208 : decode (zB 134) 208 = .ok (.iconst 3, 1) := by decide +kernel
theorem d134_209 : decode (zB 134) 209 = .ok (.putfield 166, 3) := by decide +kernel
theorem d134_212 : decode (zB 134) 212 = .ok (.aload_n 0, 1) := by decide +kernel
theorem d134_213 : decode (zB 134) 213 = .ok (.iconst 0, 1) := by decide +kernel
theorem d134_214 : decode (zB 134) 214 = .ok (.putfield 172, 3) := by decide +kernel
theorem d134_217 : decode (zB 134) 217 = .ok (.aload_n 0, 1) := by decide +kernel
theorem d134_218 : decode (zB 134) 218 = .ok (.aload_n 0, 1) := by decide +kernel
theorem d134_219 : decode (zB 134) 219 = .ok (.getfield 132, 3) := by decide +kernel
theorem d134_222 : decode (zB 134) 222 = .ok (.invokevirtual 142, 3) := by decide +kernel
theorem d134_225 : decode (zB 134) 225 = .ok (.bipush 48, 2) := by decide +kernel
theorem d134_227 : decode (zB 134) 227 = .ok (.bipush 57, 2) := by decide +kernel
theorem d134_229 : decode (zB 134) 229 = .ok (.invokestatic 112, 3) := by decide +kernel
theorem d134_232 : decode (zB 134) 232 = .ok (.ifCond .eq 52, 3) := by decide +kernel
theorem d134_235 : decode (zB 134) 235 = .ok (.aload_n 0, 1) := by decide +kernel
theorem d134_236 : decode (zB 134) 236 = .ok (.getfield 132, 3) := by decide +kernel
theorem d134_239 : decode (zB 134) 239 = .ok (.aload_n 0, 1) := by decide +kernel
theorem d134_240 : decode (zB 134) 240 = .ok (.getfield 135, 3) := by decide +kernel
theorem d134_243 : decode (zB 134) 243 = .ok (.isub, 1) := by decide +kernel
theorem d134_244 : decode (zB 134) 244 = .ok (.iconst 3, 1) := by decide +kernel
theorem d134_245 : decode (zB 134) 245 = .ok (.if_icmp .ge 26, 3) := by decide +kernel
theorem d134_248 : decode (zB 134) 248 = .ok (.aload_n 0, 1) := by decide +kernel
theorem d134_249 : decode (zB 134) 249 = .ok (.bipush 10, 2) := by decide +kernel
theorem d134_251 : decode (zB 134) 251 = .ok (.aload_n 0, 1) := by decide +kernel
theorem d134_252 : decode (zB 134) 252 = .ok (.getfield 172, 3) := by decide +kernel
theorem d134_255 : decode (zB 134) 255 = .ok (.imul, 1) := by decide +kernel
theorem d134_256 : decode (zB 134) 256 = .ok (.aload_n 0, 1) := by decide +kernel
theorem d134_257 : decode (zB 134) 257 = .ok (.aload_n 0, 1) := by decide +kernel
theorem d134_258 : decode (zB 134) 258 = .ok (.getfield 132, 3) := by decide +kernel
theorem d134_261 : decode (zB 134) 261 = .ok (.invokevirtual 142, 3) := by decide +kernel
theorem d134_264 : decode (zB 134) 264 = .ok (.iadd, 1) := by decide +kernel
theorem d134_265 : decode (zB 134) 265 = .ok (.bipush 48, 2) := by decide +kernel
theorem d134_267 : decode (zB 134) 267 = .ok (.isub, 1) := by decide +kernel
theorem d134_268 : decode (zB 134) 268 = .ok (.putfield 172, 3) := by decide +kernel
theorem d134_271 : decode (zB 134) 271 = .ok (.aload_n 0, 1) := by decide +kernel
theorem d134_272 : decode (zB 134) 272 = .ok (.dup, 1) := by decide +kernel
theorem d134_273 : decode (zB 134) 273 = .ok (.getfield 132, 3) := by decide +kernel
theorem d134_276 : decode (zB 134) 276 = .ok (.iconst 1, 1) := by decide +kernel
theorem d134_277 : decode (zB 134) 277 = .ok (.iadd, 1) := by decide +kernel
theorem d134_278 : decode (zB 134) 278 = .ok (.putfield 132, 3) := by decide +kernel
theorem d134_281 : decode (zB 134) 281 = .ok (.goto (-64), 3) := by decide +kernel
theorem d134_284 : decode (zB 134) 284 = .ok (.aload_n 0, 1) := by decide +kernel
theorem d134_285 : decode (zB 134) 285 = .ok (.aload_n 0, 1) := by decide +kernel
theorem d134_286 : decode (zB 134) 286 = .ok (.getfield 132, 3) := by decide +kernel
theorem d134_289 : decode (zB 134) 289 = .ok (.aload_n 0, 1) := by decide +kernel
theorem d134_290 : decode (zB 134) 290 = .ok (.getfield 135, 3) := by decide +kernel
theorem d134_293 : decode (zB 134) 293 = .ok (.isub, 1) := by decide +kernel
theorem d134_294 : decode (zB 134) 294 = .ok (.iconst 3, 1) := by decide +kernel
theorem d134_295 : decode (zB 134) 295 = .ok (.if_icmp .le 7, 3) := by decide +kernel
theorem d134_298 : decode (zB 134) 298 = .ok (.iconst 1, 1) := by decide +kernel
theorem d134_299 : decode (zB 134) 299 = .ok (.goto 4, 3) := by decide +kernel
theorem d134_302 : decode (zB 134) 302 = .ok (.iconst 0, 1) := by decide +kernel
theorem d134_303 : decode (zB 134) 303 = .ok (.putfield 162, 3) := by decide +kernel
theorem d134_306 : decode (zB 134) 306 = .ok (.goto 62, 3) := by decide +kernel
theorem d134_309 : decode (zB 134) 309 = .ok (.aload_n 0, 1) := by decide +kernel
theorem d134_310 : decode (zB 134) 310 = .ok (.iconst 4, 1) := by decide +kernel
theorem d134_311 : decode (zB 134) 311 = .ok (.putfield 166, 3) := by decide +kernel
theorem d134_314 : decode (zB 134) 314 = .ok (.aload_n 0, 1) := by decide +kernel
theorem d134_315 : decode (zB 134) 315 = .ok (.iload_n 1, 1) := by decide +kernel
theorem d134_316 : decode (zB 134) 316 = .ok (.putfield 172, 3) := by decide +kernel
theorem d134_319 : decode (zB 134) 319 = .ok (.aload_n 0, 1) := by decide +kernel
theorem d134_320 : decode (zB 134) 320 = .ok (.dup, 1) := by decide +kernel
theorem d134_321 : decode (zB 134) 321 = .ok (.getfield 132, 3) := by decide +kernel
theorem d134_324 : decode (zB 134) 324 = .ok (.iconst 1, 1) := by decide +kernel
theorem d134_325 : decode (zB 134) 325 = .ok (.iadd, 1) := by decide +kernel
theorem d134_326 : decode (zB 134) 326 = .ok (.putfield 132, 3) := by decide +kernel
theorem d134_329 : decode (zB 134) 329 = .ok (.aload_n 0, 1) := by decide +kernel
theorem d134_330 : decode (zB 134) 330 = .ok (.iload_n 1, 1) := by decide +kernel
theorem d134_331 : decode (zB 134) 331 = .ok (.bipush 59, 2) := by decide +kernel
theorem d134_333 : decode (zB 134) 333 = .ok (.if_icmp .eq 31, 3) := by decide +kernel
theorem d134_336 : decode (zB 134) 336 = .ok (.iload_n 1, 1) := by decide +kernel
theorem d134_337 : decode (zB 134) 337 = .ok (.bipush 123, 2) := by decide +kernel
theorem d134_339 : decode (zB 134) 339 = .ok (.if_icmp .eq 25, 3) := by decide +kernel
theorem d134_342 : decode (zB 134) 342 = .ok (.iload_n 1, 1) := by decide +kernel
theorem d134_343 : decode (zB 134) 343 = .ok (.bipush 124, 2) := by decide +kernel
theorem d134_345 : decode (zB 134) 345 = .ok (.if_icmp .eq 19, 3) := by decide +kernel
theorem d134_348 : decode (zB 134) 348 = .ok (.iload_n 1, 1) := by decide +kernel
theorem d134_349 : decode (zB 134) 349 = .ok (.bipush 125, 2) := by decide +kernel
theorem d134_351 : decode (zB 134) 351 = .ok (.if_icmp .eq 13, 3) := by decide +kernel
theorem d134_354 : decode (zB 134) 354 = .ok (.iload_n 1, 1) := by decide +kernel
theorem d134_355 : decode (zB 134) 355 = .ok (.bipush 33, 2) := by decide +kernel
theorem d134_357 : decode (zB 134) 357 = .ok (.if_icmp .eq 7, 3) := by decide +kernel
theorem d134_360 : decode (zB 134) 360 = .ok (.iconst 1, 1) := by decide +kernel
theorem d134_361 : decode (zB 134) 361 = .ok (.goto 4, 3) := by decide +kernel
theorem d134_364 : decode (zB 134) 364 = .ok (.iconst 0, 1) := by decide +kernel
theorem d134_365 : decode (zB 134) 365 = .ok (.putfield 162, 3) := by decide +kernel
theorem d134_368 : decode (zB 134) 368 = .ok (.return_, 1) := by decide +kernel
theorem l134a {d : Nat} {Q : Option Value → zM → Prop} {n : Nat} {b : Nat → Nat} {M0 : zM} (hX : SX M0) (ht : TXp M0 n b) : ∀ (r p : Nat) (M1 : zM), n ≤ p + r → zi M1 136 31 = nI p → Fi FQ M0 M1 → (∀ M', zi M' 136 31 = nI (lsk n b r p) → Fi FQ M0 M' → qW (zEv (d + 9)) 134 Q 47 [(0, .ref 136)] [] M') → p ≤ n → qW (zEv (d + 9)) 134 Q 8 [(0, .ref 136)] [] M1 := by
  intro r
  induction r with
  | zero =>
    intro p M1 h1 hp hF k hpn
    have h120 := ht.1
    have hpn2 : ¬ p < n := by omega
    refine q_aload_n d134_8 rfl ?_
    refine q_aload_n d134_9 rfl ?_
    refine q_getv (c := 8) (f := 31) d134_10 ⟨rfl, by decide⟩ (xk_136 (SX_fi hX hF)) hp ?_
    refine q_v1 d134_13 rfl rfl (xk_136 (SX_fi hX hF)) (Nat.le_of_ble_eq_true rfl) (c135f (SX_fi hX hF) (TXp_fi ht hF FQ_t) (by omega) (by omega) ?_)
    refine q_bipush (x := nI 32) d134_16 rfl ?_
    refine ic_eq 34 d134_18 (by decide) (fun h18 => (False.elim (absurd h18 (by decide)))) (fun h18 => ?_)
    refine q_aload_n d134_21 rfl ?_
    refine q_aload_n d134_22 rfl ?_
    refine q_getv (c := 8) (f := 31) d134_23 ⟨rfl, by decide⟩ (xk_136 (SX_fi hX hF)) hp ?_
    refine q_v1 d134_26 rfl rfl (xk_136 (SX_fi hX hF)) (Nat.le_of_ble_eq_true rfl) (c135f (SX_fi hX hF) (TXp_fi ht hF FQ_t) (by omega) (by omega) ?_)
    refine q_bipush (x := nI 10) d134_29 rfl ?_
    refine ic_ne 47 d134_31 (by decide) (fun h31 => ?_) (fun h31 => (False.elim (absurd h31 (by decide))))
    exact k _ hp hF
  | succ r ih =>
    intro p M1 h1 hp hF k hpn
    have h120 := ht.1
    by_cases hpn2 : p < n
    · have hbb := (ht.2.2 p hpn2).2
      refine q_aload_n d134_8 rfl ?_
      refine q_aload_n d134_9 rfl ?_
      refine q_getv (c := 8) (f := 31) d134_10 ⟨rfl, by decide⟩ (xk_136 (SX_fi hX hF)) hp ?_
      refine q_v1 d134_13 rfl rfl (xk_136 (SX_fi hX hF)) (Nat.le_of_ble_eq_true rfl) (c135t (SX_fi hX hF) (TXp_fi ht hF FQ_t) hpn2 ?_)
      refine q_bipush (x := nI 32) d134_16 rfl ?_
      refine nc_eq 34 d134_18 (by decide) (by omega) (by omega) (fun h18 => ?_) (fun h18 => ?_)
      · refine q_aload_n d134_34 rfl ?_
        refine q_dup d134_35 rfl ?_
        refine q_getv (c := 8) (f := 31) d134_36 ⟨rfl, by decide⟩ (xk_136 (SX_fi hX hF)) hp ?_
        refine q_iconstN (z := 1) d134_39 ?_
        refine n_iadd d134_40 ?_
        refine q_puti (c := 8) (f := 31) d134_41 ⟨rfl, rfl, by decide⟩ (xk_136 (SX_fi hX hF)) ?_
        refine q_goto 8 d134_44 (by decide) ?_
        exact ih (p + 1) _ (by omega) (wi_s _ _ _ _) (hF.wi ⟨rfl, rfl⟩) (by rw [lsk, if_pos ⟨hpn2, by omega⟩] at k; exact k) (by omega)
      · refine q_aload_n d134_21 rfl ?_
        refine q_aload_n d134_22 rfl ?_
        refine q_getv (c := 8) (f := 31) d134_23 ⟨rfl, by decide⟩ (xk_136 (SX_fi hX hF)) hp ?_
        refine q_v1 d134_26 rfl rfl (xk_136 (SX_fi hX hF)) (Nat.le_of_ble_eq_true rfl) (c135t (SX_fi hX hF) (TXp_fi ht hF FQ_t) hpn2 ?_)
        refine q_bipush (x := nI 10) d134_29 rfl ?_
        refine nc_ne 47 d134_31 (by decide) (by omega) (by omega) (fun h31 => ?_) (fun h31 => ?_)
        · rw [lsk, if_neg (fun q => by omega)] at k
          exact k _ hp hF
        · refine q_aload_n d134_34 rfl ?_
          refine q_dup d134_35 rfl ?_
          refine q_getv (c := 8) (f := 31) d134_36 ⟨rfl, by decide⟩ (xk_136 (SX_fi hX hF)) hp ?_
          refine q_iconstN (z := 1) d134_39 ?_
          refine n_iadd d134_40 ?_
          refine q_puti (c := 8) (f := 31) d134_41 ⟨rfl, rfl, by decide⟩ (xk_136 (SX_fi hX hF)) ?_
          refine q_goto 8 d134_44 (by decide) ?_
          exact ih (p + 1) _ (by omega) (wi_s _ _ _ _) (hF.wi ⟨rfl, rfl⟩) (by rw [lsk, if_pos ⟨hpn2, by omega⟩] at k; exact k) (by omega)
    · skip
      refine q_aload_n d134_8 rfl ?_
      refine q_aload_n d134_9 rfl ?_
      refine q_getv (c := 8) (f := 31) d134_10 ⟨rfl, by decide⟩ (xk_136 (SX_fi hX hF)) hp ?_
      refine q_v1 d134_13 rfl rfl (xk_136 (SX_fi hX hF)) (Nat.le_of_ble_eq_true rfl) (c135f (SX_fi hX hF) (TXp_fi ht hF FQ_t) (by omega) (by omega) ?_)
      refine q_bipush (x := nI 32) d134_16 rfl ?_
      refine ic_eq 34 d134_18 (by decide) (fun h18 => (False.elim (absurd h18 (by decide)))) (fun h18 => ?_)
      refine q_aload_n d134_21 rfl ?_
      refine q_aload_n d134_22 rfl ?_
      refine q_getv (c := 8) (f := 31) d134_23 ⟨rfl, by decide⟩ (xk_136 (SX_fi hX hF)) hp ?_
      refine q_v1 d134_26 rfl rfl (xk_136 (SX_fi hX hF)) (Nat.le_of_ble_eq_true rfl) (c135f (SX_fi hX hF) (TXp_fi ht hF FQ_t) (by omega) (by omega) ?_)
      refine q_bipush (x := nI 10) d134_29 rfl ?_
      refine ic_ne 47 d134_31 (by decide) (fun h31 => ?_) (fun h31 => (False.elim (absurd h31 (by decide))))
      rw [lsk, if_neg (fun q => by omega)] at k
      exact k _ hp hF
theorem c131b {d x a b : Nat} {M : zM} {Q : Option Value → zM → Prop} (ha : a < 2147483648) (hx : x < 2147483648) (hb : b < 2147483648) (k : Q (some (.int (bI (decide (a ≤ x ∧ x ≤ b))))) M) : qC (d + 1) 131 [.int (nI x), .int (nI a), .int (nI b)] M Q := by
  by_cases h : a ≤ x ∧ x ≤ b
  · rw [decide_eq_true h] at k; exact c131t h hb k
  · rw [decide_eq_false h] at k; exact c131n h ha hx hb k
theorem l134b {d : Nat} {Q : Option Value → zM → Prop} {n : Nat} {b : Nat → Nat} {v1 : Int32} {M0 : zM} (hX : SX M0) (ht : TXp M0 n b) : ∀ (r p : Nat) (M1 : zM), n ≤ p + r → zi M1 136 31 = nI p → Fi FQ M0 M1 → (∀ M', zi M' 136 31 = nI (lrn n b 97 122 r p) → Fi FQ M0 M' → qW (zEv (d + 9)) 134 Q 119 [(1, .int v1), (0, .ref 136)] [] M') → p ≤ n → qW (zEv (d + 9)) 134 Q 88 [(1, .int v1), (0, .ref 136)] [] M1 := by
  intro r
  induction r with
  | zero =>
    intro p M1 h1 hp hF k hpn
    have h120 := ht.1
    have hpn2 : ¬ p < n := by omega
    refine q_aload_n d134_88 rfl ?_
    refine q_aload_n d134_89 rfl ?_
    refine q_getv (c := 8) (f := 31) d134_90 ⟨rfl, by decide⟩ (xk_136 (SX_fi hX hF)) hp ?_
    refine q_v1 d134_93 rfl rfl (xk_136 (SX_fi hX hF)) (Nat.le_of_ble_eq_true rfl) (c135f (SX_fi hX hF) (TXp_fi ht hF FQ_t) (by omega) (by omega) ?_)
    refine q_bipush (x := nI 97) d134_96 rfl ?_
    refine q_bipush (x := nI 122) d134_98 rfl ?_
    refine q_s3 d134_100 (Or.inl rfl) rfl (Nat.le_of_ble_eq_true rfl) (c131f (by decide) (by decide) (by decide) ?_)
    refine n0_eq 119 d134_103 (by decide) (by decide) (fun _ => ?_) (fun q => absurd q (by decide))
    exact k _ hp hF
  | succ r ih =>
    intro p M1 h1 hp hF k hpn
    have h120 := ht.1
    by_cases hpn2 : p < n
    · have hbb := (ht.2.2 p hpn2).2
      refine q_aload_n d134_88 rfl ?_
      refine q_aload_n d134_89 rfl ?_
      refine q_getv (c := 8) (f := 31) d134_90 ⟨rfl, by decide⟩ (xk_136 (SX_fi hX hF)) hp ?_
      refine q_v1 d134_93 rfl rfl (xk_136 (SX_fi hX hF)) (Nat.le_of_ble_eq_true rfl) (c135t (SX_fi hX hF) (TXp_fi ht hF FQ_t) hpn2 ?_)
      refine q_bipush (x := nI 97) d134_96 rfl ?_
      refine q_bipush (x := nI 122) d134_98 rfl ?_
      refine q_s3 d134_100 (Or.inl rfl) rfl (Nat.le_of_ble_eq_true rfl) (c131b (by omega) (by omega) (by omega) ?_)
      refine b0_eq 119 d134_103 (by decide) (fun h103 => ?_) (fun h103 => ?_)
      · rw [lrn, if_neg (fun q => by first | exact absurd ⟨q.2.1, q.2.2⟩ (of_decide_eq_false h103) | omega)] at k
        exact k _ hp hF
      · refine q_aload_n d134_106 rfl ?_
        refine q_dup d134_107 rfl ?_
        refine q_getv (c := 8) (f := 31) d134_108 ⟨rfl, by decide⟩ (xk_136 (SX_fi hX hF)) hp ?_
        refine q_iconstN (z := 1) d134_111 ?_
        refine n_iadd d134_112 ?_
        refine q_puti (c := 8) (f := 31) d134_113 ⟨rfl, rfl, by decide⟩ (xk_136 (SX_fi hX hF)) ?_
        refine q_goto 88 d134_116 (by decide) ?_
        exact ih (p + 1) _ (by omega) (wi_s _ _ _ _) (hF.wi ⟨rfl, rfl⟩) (by rw [lrn, if_pos ⟨hpn2, of_decide_eq_true h103⟩] at k; exact k) (by omega)
    · skip
      refine q_aload_n d134_88 rfl ?_
      refine q_aload_n d134_89 rfl ?_
      refine q_getv (c := 8) (f := 31) d134_90 ⟨rfl, by decide⟩ (xk_136 (SX_fi hX hF)) hp ?_
      refine q_v1 d134_93 rfl rfl (xk_136 (SX_fi hX hF)) (Nat.le_of_ble_eq_true rfl) (c135f (SX_fi hX hF) (TXp_fi ht hF FQ_t) (by omega) (by omega) ?_)
      refine q_bipush (x := nI 97) d134_96 rfl ?_
      refine q_bipush (x := nI 122) d134_98 rfl ?_
      refine q_s3 d134_100 (Or.inl rfl) rfl (Nat.le_of_ble_eq_true rfl) (c131f (by decide) (by decide) (by decide) ?_)
      refine n0_eq 119 d134_103 (by decide) (by decide) (fun _ => ?_) (fun q => absurd q (by decide))
      rw [lrn, if_neg (fun q => by first | exact absurd ⟨q.2.1, q.2.2⟩ (of_decide_eq_false h103) | omega)] at k
      exact k _ hp hF
theorem ynd_s {b : Nat → Nat} {q p : Nat} (h : q ≤ p) (h3 : p - q < 3) : ynd b q (min (p + 1 - q) 3) = 10 * ynd b q (min (p - q) 3) + b p - 48 := by
  rw [show min (p + 1 - q) 3 = (p - q) + 1 by omega, show min (p - q) 3 = p - q by omega, ynd, show q + (p - q) = p by omega, Nat.mul_comm]
theorem ynd_m {b : Nat → Nat} {q p : Nat} (h : q ≤ p) (h3 : ¬ p - q < 3) : ynd b q (min (p + 1 - q) 3) = ynd b q (min (p - q) 3) := by
  rw [show min (p + 1 - q) 3 = 3 by omega, show min (p - q) 3 = 3 by omega]
def FVv : Nat → Nat → Prop := fun a k => a = 136 ∧ (k = 31 ∨ k = 34)
theorem FVv_t : ¬ FVv 136 30 ∧ ∀ k, ¬ FVv 208 k := ⟨by unfold FVv; omega, fun k => by unfold FVv; omega⟩
theorem FVv_N {a k : Nat} (h : FVv a k) : FN a k := by unfold FVv at h; unfold FN; omega
theorem l134c {d : Nat} {Q : Option Value → zM → Prop} {n : Nat} {b : Nat → Nat} {M0 : zM} {v1 : Int32} {q : Nat} (hX : SX M0) (ht : TXp M0 n b) (hb : zi M0 136 32 = nI q) : ∀ (r p : Nat) (M1 : zM), n ≤ p + r → q ≤ p → zi M1 136 31 = nI p → zi M1 136 34 = nI (ynd b q (min (p - q) 3)) → Fi FVv M0 M1 → (∀ M', zi M' 136 31 = nI (lrn n b 48 57 r p) → zi M' 136 34 = nI (ynd b q (min (lrn n b 48 57 r p - q) 3)) → Fi FVv M0 M' → qW (zEv (d + 9)) 134 Q 284 [(1, .int v1), (0, .ref 136)] [] M') → p ≤ n → qW (zEv (d + 9)) 134 Q 217 [(1, .int v1), (0, .ref 136)] [] M1 := by
  intro r
  induction r with
  | zero =>
    intro p M1 h1 hqp hp hv hF k hpn
    have h120 := ht.1
    have hX1 := SX_fi hX hF
    have ht1 := TXp_fi ht hF FVv_t
    have hpn2 : ¬ p < n := by omega
    refine q_aload_n d134_217 rfl ?_
    refine q_aload_n d134_218 rfl ?_
    refine q_getv (c := 8) (f := 31) d134_219 ⟨rfl, by decide⟩ (xk_136 hX1) hp ?_
    refine q_v1 d134_222 rfl rfl (xk_136 hX1) (Nat.le_of_ble_eq_true rfl) (c135f hX1 ht1 (by omega) (by omega) ?_)
    refine q_bipush (x := nI 48) d134_225 rfl ?_
    refine q_bipush (x := nI 57) d134_227 rfl ?_
    refine q_s3 d134_229 (Or.inl rfl) rfl (Nat.le_of_ble_eq_true rfl) (c131f (by decide) (by decide) (by decide) ?_)
    refine n0_eq 284 d134_232 (by decide) (by decide) (fun _ => ?_) (fun q => absurd q (by decide))
    exact k _ hp hv hF
  | succ r ih =>
    intro p M1 h1 hqp hp hv hF k hpn
    have h120 := ht.1
    have hX1 := SX_fi hX hF
    have ht1 := TXp_fi ht hF FVv_t
    by_cases hpn2 : p < n
    · have hbb := (ht.2.2 p hpn2).2
      by_cases hd9 : 48 ≤ b p ∧ b p ≤ 57
      · by_cases h3 : p - q < 3
        · skip
          refine q_aload_n d134_217 rfl ?_
          refine q_aload_n d134_218 rfl ?_
          refine q_getv (c := 8) (f := 31) d134_219 ⟨rfl, by decide⟩ (xk_136 hX1) hp ?_
          refine q_v1 d134_222 rfl rfl (xk_136 hX1) (Nat.le_of_ble_eq_true rfl) (c135t hX1 ht1 hpn2 ?_)
          refine q_bipush (x := nI 48) d134_225 rfl ?_
          refine q_bipush (x := nI 57) d134_227 rfl ?_
          refine q_s3 d134_229 (Or.inl rfl) rfl (Nat.le_of_ble_eq_true rfl) (c131t hd9 (by omega) ?_)
          refine n0_eq 284 d134_232 (by decide) (by decide) (fun q => absurd q (by decide)) (fun _ => ?_)
          refine q_aload_n d134_235 rfl ?_
          refine q_getv (c := 8) (f := 31) d134_236 ⟨rfl, by decide⟩ (xk_136 hX1) hp ?_
          refine q_aload_n d134_239 rfl ?_
          refine q_getv (c := 8) (f := 32) d134_240 ⟨rfl, by decide⟩ (xk_136 hX1) ((hF.1 _ _ (by unfold FVv; omega)).trans hb) ?_
          refine n_isub d134_243 (by omega) ?_
          refine q_iconstN (z := 3) d134_244 ?_
          refine nc_ge 271 d134_245 (by decide) (by omega) (by omega) (fun h245 => (False.elim (by omega))) (fun h245 => ?_)
          refine q_aload_n d134_248 rfl ?_
          refine q_bipush (x := nI 10) d134_249 rfl ?_
          refine q_aload_n d134_251 rfl ?_
          refine q_getv (c := 8) (f := 34) d134_252 ⟨rfl, by decide⟩ (xk_136 hX1) hv ?_
          refine n_imul d134_255 ?_
          refine q_aload_n d134_256 rfl ?_
          refine q_aload_n d134_257 rfl ?_
          refine q_getv (c := 8) (f := 31) d134_258 ⟨rfl, by decide⟩ (xk_136 hX1) hp ?_
          refine q_v1 d134_261 rfl rfl (xk_136 hX1) (Nat.le_of_ble_eq_true rfl) (c135t hX1 ht1 hpn2 ?_)
          refine n_iadd d134_264 ?_
          refine q_bipush (x := nI 48) d134_265 rfl ?_
          refine n_isub d134_267 (by omega) ?_
          refine q_puti (c := 8) (f := 34) d134_268 ⟨rfl, rfl, by decide⟩ (xk_136 hX1) ?_
          refine q_aload_n d134_271 rfl ?_
          refine q_dup d134_272 rfl ?_
          refine q_getv (c := 8) (f := 31) d134_273 ⟨rfl, by decide⟩ (xk_136 hX1) (Eq.trans (by (repeat (first | rw [wi_n (Or.inl (by omega))] | rw [wi_n (Or.inr (by omega))] | rw [wi_s] | rw [wr_i] | rw [cp_n (by omega)]))) hp) ?_
          refine q_iconstN (z := 1) d134_276 ?_
          refine n_iadd d134_277 ?_
          refine q_puti (c := 8) (f := 31) d134_278 ⟨rfl, rfl, by decide⟩ (xk_136 hX1) ?_
          refine q_goto 217 d134_281 (by decide) ?_
          exact ih (p + 1) _ (by omega) (by omega) (wi_s _ _ _ _) (by rw [ynd_s hqp (by omega)]; (repeat (first | rw [wi_n (Or.inl (by omega))] | rw [wi_n (Or.inr (by omega))] | rw [wi_s] | rw [wr_i] | rw [cp_n (by omega)] | rw [cp_0 (by omega)]))) ((hF.wi ⟨rfl, Or.inr rfl⟩).wi ⟨rfl, Or.inl rfl⟩) (by rw [lrn, if_pos ⟨hpn2, hd9⟩] at k; exact k) (by omega)
        · skip
          refine q_aload_n d134_217 rfl ?_
          refine q_aload_n d134_218 rfl ?_
          refine q_getv (c := 8) (f := 31) d134_219 ⟨rfl, by decide⟩ (xk_136 hX1) hp ?_
          refine q_v1 d134_222 rfl rfl (xk_136 hX1) (Nat.le_of_ble_eq_true rfl) (c135t hX1 ht1 hpn2 ?_)
          refine q_bipush (x := nI 48) d134_225 rfl ?_
          refine q_bipush (x := nI 57) d134_227 rfl ?_
          refine q_s3 d134_229 (Or.inl rfl) rfl (Nat.le_of_ble_eq_true rfl) (c131t hd9 (by omega) ?_)
          refine n0_eq 284 d134_232 (by decide) (by decide) (fun q => absurd q (by decide)) (fun _ => ?_)
          refine q_aload_n d134_235 rfl ?_
          refine q_getv (c := 8) (f := 31) d134_236 ⟨rfl, by decide⟩ (xk_136 hX1) hp ?_
          refine q_aload_n d134_239 rfl ?_
          refine q_getv (c := 8) (f := 32) d134_240 ⟨rfl, by decide⟩ (xk_136 hX1) ((hF.1 _ _ (by unfold FVv; omega)).trans hb) ?_
          refine n_isub d134_243 (by omega) ?_
          refine q_iconstN (z := 3) d134_244 ?_
          refine nc_ge 271 d134_245 (by decide) (by omega) (by omega) (fun h245 => ?_) (fun h245 => (False.elim (by omega)))
          refine q_aload_n d134_271 rfl ?_
          refine q_dup d134_272 rfl ?_
          refine q_getv (c := 8) (f := 31) d134_273 ⟨rfl, by decide⟩ (xk_136 hX1) hp ?_
          refine q_iconstN (z := 1) d134_276 ?_
          refine n_iadd d134_277 ?_
          refine q_puti (c := 8) (f := 31) d134_278 ⟨rfl, rfl, by decide⟩ (xk_136 hX1) ?_
          refine q_goto 217 d134_281 (by decide) ?_
          exact ih (p + 1) _ (by omega) (by omega) (wi_s _ _ _ _) (by rw [ynd_m hqp (by omega)]; (repeat (first | rw [wi_n (Or.inl (by omega))] | rw [wi_n (Or.inr (by omega))] | rw [wi_s] | rw [wr_i] | rw [cp_n (by omega)] | rw [cp_0 (by omega)])); exact hv) (hF.wi ⟨rfl, Or.inl rfl⟩) (by rw [lrn, if_pos ⟨hpn2, hd9⟩] at k; exact k) (by omega)
      · skip
        refine q_aload_n d134_217 rfl ?_
        refine q_aload_n d134_218 rfl ?_
        refine q_getv (c := 8) (f := 31) d134_219 ⟨rfl, by decide⟩ (xk_136 hX1) hp ?_
        refine q_v1 d134_222 rfl rfl (xk_136 hX1) (Nat.le_of_ble_eq_true rfl) (c135t hX1 ht1 hpn2 ?_)
        refine q_bipush (x := nI 48) d134_225 rfl ?_
        refine q_bipush (x := nI 57) d134_227 rfl ?_
        refine q_s3 d134_229 (Or.inl rfl) rfl (Nat.le_of_ble_eq_true rfl) (c131n hd9 (by omega) (by omega) (by omega) ?_)
        refine n0_eq 284 d134_232 (by decide) (by decide) (fun _ => ?_) (fun q => absurd q (by decide))
        rw [lrn, if_neg (fun q => by omega)] at k
        exact k _ hp hv hF
    · skip
      refine q_aload_n d134_217 rfl ?_
      refine q_aload_n d134_218 rfl ?_
      refine q_getv (c := 8) (f := 31) d134_219 ⟨rfl, by decide⟩ (xk_136 hX1) hp ?_
      refine q_v1 d134_222 rfl rfl (xk_136 hX1) (Nat.le_of_ble_eq_true rfl) (c135f hX1 ht1 (by omega) (by omega) ?_)
      refine q_bipush (x := nI 48) d134_225 rfl ?_
      refine q_bipush (x := nI 57) d134_227 rfl ?_
      refine q_s3 d134_229 (Or.inl rfl) rfl (Nat.le_of_ble_eq_true rfl) (c131f (by decide) (by decide) (by decide) ?_)
      refine n0_eq 284 d134_232 (by decide) (by decide) (fun _ => ?_) (fun q => absurd q (by decide))
      rw [lrn, if_neg (fun q => by omega)] at k
      exact k _ hp hv hF
