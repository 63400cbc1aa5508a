/-! ===== the reference: its sagas ===== -/
/-! a saga -/
def XSa (M : zM) (s : Nat) (S : yS) (κ : Nat) : Prop := (zi M 175 s = nI (gt S) ∧ zi M 176 s = txt S) ∧ (∀ k, k < 12 → zi M (178 + s) k = nI (gd S k) ∧ zi M (190 + s) k = gf S k ∧ zi M (194 + s) k = gw S k ∧ zi M (198 + s) k = gp S k ∧ zi M (202 + s) k = gq S k) ∧ (∀ k, k < 12 → gd S k = 1 → zi M (186 + s) k = gb S k) ∧
  ∃ w : Nat → Nat, (∀ i, i ∈ go S → zi M (182 + s) i = nI (w i) ∧ w i ≤ κ) ∧ (go S).Pairwise (fun i j => w j < w i)
/-- texts, as they are needed -/
def XTk (M : zM) (T : Nat → yT) (c : Nat) : Prop := XTx M T c ∧ c ≤ 6 ∧ ∀ i, i < c → OKT (T i)
theorem gm_0 {T : Nat → yT} {c v : Nat} {S : yS} (ho : OKS T c S) (h0 : gt S = 0) (hv : v ≠ 0) : gm S v = 0 := by
  have hz : ∀ i, gd S i = 0 := fun i => ho.2.2.2.2.1 i (by unfold gz; rw [if_pos h0]; omega)
  unfold gm
  apply Nat.eq_of_testBit_eq
  intro i
  rw [ymk_bit, Nat.zero_testBit, hz i]
  cases h : ((0 : Nat) == v) with
  | true => exact absurd (eq_of_beq h).symm hv
  | false => exact Bool.and_false _
theorem gm_n {T : Nat → yT} {c v : Nat} {S : yS} (ho : OKS T c S) (hv : v ≠ 0) (hn : gz T S ≤ 12) : ymk (fun k => gd S k == v) (gz T S) = gm S v := by
  unfold gm
  apply ymk_eq
  intro i
  by_cases h : i < gz T S
  · rw [decide_eq_true h, decide_eq_true (show i < 12 by omega)]
  · rw [ho.2.2.2.2.1 i (by omega)]
    cases h2 : ((0 : Nat) == v) with
    | true => exact absurd (eq_of_beq h2).symm hv
    | false => rw [Bool.and_false, Bool.and_false]
theorem gz_n {T : Nat → yT} {S : yS} (h0 : gt S ≠ 0) : gz T S = tn (T (gx S)) := if_neg h0
theorem d179_0 : decode (zB 179) 0 = .ok (.iconst 0, 1) := by decide +kernel
theorem d179_1 : decode (zB 179) 1 = .ok (.istore_n 3, 1) := by decide +kernel
theorem d179_2 : decode (zB 179) 2 = .ok (.iconst 0, 1) := by decide +kernel
theorem d179_3 : decode (zB 179) 3 = .ok (.istore 4, 2) := by decide +kernel
theorem d179_5 : decode (zB 179) 5 = .ok (.aload_n 0, 1) := by decide +kernel
theorem d179_6 : decode (zB 179) 6 = .ok (.getfield 36, 3) := by decide +kernel
theorem d179_9 : decode (zB 179) 9 = .ok (.iload_n 1, 1) := by decide +kernel
theorem d179_10 : decode (zB 179) 10 = .ok (.iaload, 1) := by decide +kernel
theorem d179_11 : decode (zB 179) 11 = .ok (.ifCond .eq 45, 3) := by decide +kernel
theorem d179_14 : decode (zB 179) 14 = .ok (.iload 4, 2) := by decide +kernel
theorem d179_16 : decode (zB 179) 16 = .ok (.aload_n 0, 1) := by decide +kernel
theorem d179_17 : decode (zB 179) 17 = .ok (.getfield 9, 3) := by decide +kernel
theorem d179_20 : decode (zB 179) 20 = .ok (.aload_n 0, 1) := by decide +kernel
theorem d179_21 : decode (zB 179) 21 = .ok (.getfield 39, 3) := by decide +kernel
theorem d179_24 : decode (zB 179) 24 = .ok (.iload_n 1, 1) := by decide +kernel
theorem d179_25 : decode (zB 179) 25 = .ok (.iaload, 1) := by decide +kernel
theorem d179_26 : decode (zB 179) 26 = .ok (.iaload, 1) := by decide +kernel
theorem d179_27 : decode (zB 179) 27 = .ok (.if_icmp .ge 29, 3) := by decide +kernel
theorem d179_30 : decode (zB 179) 30 = .ok (.aload_n 0, 1) := by decide +kernel
theorem d179_31 : decode (zB 179) 31 = .ok (.getfield 42, 3) := by decide +kernel
theorem d179_34 : decode (zB 179) 34 = .ok (.iload_n 1, 1) := by decide +kernel
theorem d179_35 : decode (zB 179) 35 = .ok (.aaload, 1) := by decide +kernel
theorem d179_36 : decode (zB 179) 36 = .ok (.iload 4, 2) := by decide +kernel
theorem d179_38 : decode (zB 179) 38 = .ok (.iaload, 1) := by decide +kernel
theorem d179_39 : decode (zB 179) 39 = .ok (.iload_n 2, 1) := by decide +kernel
theorem d179_40 : decode (zB 179) 40 = .ok (.if_icmp .ne 10, 3) := by decide +kernel
theorem d179_43 : decode (zB 179) 43 = .ok (.iload_n 3, 1) := by decide +kernel
theorem d179_44 : decode (zB 179) 44 = .ok (.iconst 1, 1) := by decide +kernel
theorem d179_45 : decode (zB 179) 45 = .ok (.iload 4, 2) := by decide +kernel
theorem d179_47 : decode (zB 179) 47 = .ok (.ishl, 1) := by decide +kernel
theorem d179_48 : decode (zB 179) 48 = .ok (.ior, 1) := by decide +kernel
theorem d179_49 : decode (zB 179) 49 = .ok (.istore_n 3, 1) := by decide +kernel
theorem d179_50 : decode (zB 179) 50 = .ok (.iinc 4 1, 3) := by decide +kernel
theorem d179_53 : decode (zB 179) 53 = .ok (.goto (-48), 3) := by decide +kernel
theorem d179_56 : decode (zB 179) 56 = .ok (.iload_n 3, 1) := by decide +kernel
theorem d179_57 : decode (zB 179) 57 = .ok (.ireturn, 1) := by decide +kernel
theorem l179 {d : Nat} {M : zM} {Q : Option Value → zM → Prop} {T : Nat → yT} {c s κ : Nat} {S : yS} {v : Nat} (hX : SX M) (hs : s < 3) (hsa : XSa M s S κ) (hT : XTk M T c) (ho : OKS T c S) (h0 : gt S ≠ 0) (hv : v < 4) (k : Q (some (.int (nI (ymk (fun k => gd S k == v) (tn (T (gx S))))))) M) : ∀ (r i : Nat), i ≤ tn (T (gx S)) → tn (T (gx S)) < i + r → qW (zEv (d + 0)) 179 Q 5 [(4, .int (nI i)), (3, .int (nI (ymk (fun k => gd S k == v) i))), (0, .ref 136), (1, .int (nI s)), (2, .int (nI v))] [] M := by
  intro r
  induction r with
  | zero => intros; omega
  | succ r ih =>
    intro i  h1 h2 
    have hg5 := ho.1
    have hx : gx S < c := ho.2.1 h0
    have hx1 : zi M 176 s = nI (gx S) := hsa.1.2.trans (if_neg h0)
    have hoT := hT.2.2 _ hx
    have hn := hoT.n
    have hc6 := hT.2.1
    have hd3 := ho.2.2.2.2.2 i
    refine q_aload_n d179_5 rfl ?_
    refine q_getr (c := 8) (f := 11) d179_6 ⟨rfl, rfl⟩ (xk_136 hX) (xf_states hX) ?_
    refine q_iload_n d179_9 rfl ?_
    refine n_iald d179_10 (xk_states hX) (by omega) (by decide) hsa.1.1 ?_
    refine n0_eq 56 d179_11 (by decide) (by omega) (fun h11 => (False.elim (h0 h11))) (fun h11 => ?_)
    refine q_iload d179_14 rfl ?_
    refine q_aload_n d179_16 rfl ?_
    refine q_getr (c := 8) (f := 1) d179_17 ⟨rfl, rfl⟩ (xk_136 hX) (xf_stepMany hX) ?_
    refine q_aload_n d179_20 rfl ?_
    refine q_getr (c := 8) (f := 12) d179_21 ⟨rfl, rfl⟩ (xk_136 hX) (xf_textOf hX) ?_
    refine q_iload_n d179_24 rfl ?_
    refine n_iald d179_25 (xk_textOf hX) (by omega) (by decide) hx1 ?_
    refine n_iald d179_26 (xk_stepMany hX) (by omega) (by decide) (hT.1 _ hx).1 ?_
    refine nc_ge 56 d179_27 (by decide) (by omega) (by omega) (fun h27 => ?_) (fun h27 => ?_)
    · refine q_iload_n d179_56 rfl ?_
      refine q_iret d179_57 rfl ?_
      rw [show i = tn (T (gx S)) by omega]
      exact k
    · refine q_aload_n d179_30 rfl ?_
      refine q_getr (c := 8) (f := 13) d179_31 ⟨rfl, rfl⟩ (xk_136 hX) (xf_stands hX) ?_
      refine q_iload_n d179_34 rfl ?_
      refine n_aald d179_35 (xk_stands hX) (by decide) (by omega) (by decide) (xr_stands hX (by omega)) ?_
      refine q_iload d179_36 rfl ?_
      refine n_iald d179_38 (xa_stands hX (by omega)) (by omega) (by decide) (hsa.2.1 _ (by omega)).1 ?_
      refine q_iload_n d179_39 rfl ?_
      refine nc_ne 50 d179_40 (by decide) (by omega) (by omega) (fun h40 => ?_) (fun h40 => ?_)
      · refine n_iinc 1 d179_50 (by decide) rfl rfl ?_
        refine q_goto 5 d179_53 (by decide) ?_
        rw [show ymk (fun k => gd S k == v) i = ymk (fun k => gd S k == v) (i + 1) from (ymk_f (by show (gd S i == v) = false; exact beq_false_of_ne h40)).symm]
        exact ih (i + 1) (by omega) (by omega)
      · refine q_iload_n d179_43 rfl ?_
        refine q_iconstN (z := 1) d179_44 ?_
        refine q_iload d179_45 rfl ?_
        refine n_ishl1 d179_47 (by omega) ?_
        refine n_ior d179_48 ?_
        refine q_istore_n d179_49 (by decide) rfl ?_
        refine n_iinc 1 d179_50 (by decide) rfl rfl ?_
        refine q_goto 5 d179_53 (by decide) ?_
        rw [show ymk (fun k => gd S k == v) i ||| 2 ^ i = ymk (fun k => gd S k == v) (i + 1) from (ymk_t (by show (gd S i == v) = true; rw [h40]; exact beq_self_eq_true v)).symm]
        exact ih (i + 1) (by omega) (by omega)
theorem c179 {d : Nat} {M : zM} {Q : Option Value → zM → Prop} {T : Nat → yT} {c s κ : Nat} {S : yS} {v : Nat} (hX : SX M) (hs : s < 3) (hsa : XSa M s S κ) (hT : XTk M T c) (ho : OKS T c S) (hv : 1 ≤ v ∧ v < 4) (k : Q (some (.int (nI (gm S v)))) M) : qC (d + 1) 179 [.ref 136, .int (nI s), .int (nI v)] M Q := by
  refine qC_of (by decide) (Nat.le_of_ble_eq_true rfl) ?_
  have hg5 := ho.1
  by_cases h0 : gt S = 0
  · rw [gm_0 ho h0 (by omega)] at k
    refine q_iconstN (z := 0) d179_0 ?_
    refine q_istore_n d179_1 (by decide) rfl ?_
    refine q_iconstN (z := 0) d179_2 ?_
    refine q_istore d179_3 (by decide) rfl ?_
    refine q_aload_n d179_5 rfl ?_
    refine q_getr (c := 8) (f := 11) d179_6 ⟨rfl, rfl⟩ (xk_136 hX) (xf_states hX) ?_
    refine q_iload_n d179_9 rfl ?_
    refine n_iald d179_10 (xk_states hX) (by omega) (by decide) hsa.1.1 ?_
    refine n0_eq 56 d179_11 (by decide) (by omega) (fun h11 => ?_) (fun h11 => (False.elim (h11 h0)))
    refine q_iload_n d179_56 rfl ?_
    refine q_iret d179_57 rfl ?_
    exact k
  · have hn := (hT.2.2 _ (ho.2.1 h0)).n
    rw [← gm_n ho (by omega) (by rw [gz_n h0]; omega), gz_n h0] at k
    refine q_iconstN (z := 0) d179_0 ?_
    refine q_istore_n d179_1 (by decide) rfl ?_
    refine q_iconstN (z := 0) d179_2 ?_
    refine q_istore d179_3 (by decide) rfl ?_
    exact l179 hX hs hsa hT ho h0 hv.2 k (tn (T (gx S)) + 1) 0 (Nat.zero_le _) (by omega)
theorem d185_0 : decode (zB 185) 0 = .ok (.aload_n 0, 1) := by decide +kernel
theorem d185_1 : decode (zB 185) 1 = .ok (.getfield 36, 3) := by decide +kernel
theorem d185_4 : decode (zB 185) 4 = .ok (.iload_n 1, 1) := by decide +kernel
theorem d185_5 : decode (zB 185) 5 = .ok (.iaload, 1) := by decide +kernel
theorem d185_6 : decode (zB 185) 6 = .ok (.ifCond .ne 7, 3) := by decide +kernel
theorem d185_9 : decode (zB 185) 9 = .ok (.iconst (-1), 1) := by decide +kernel
theorem d185_10 : decode (zB 185) 10 = .ok (.goto 14, 3) := by decide +kernel
theorem d185_13 : decode (zB 185) 13 = .ok (.aload_n 0, 1) := by decide +kernel
theorem d185_14 : decode (zB 185) 14 = .ok (.getfield 13, 3) := by decide +kernel
theorem d185_17 : decode (zB 185) 17 = .ok (.aload_n 0, 1) := by decide +kernel
theorem d185_18 : decode (zB 185) 18 = .ok (.getfield 39, 3) := by decide +kernel
theorem d185_21 : decode (zB 185) 21 = .ok (.iload_n 1, 1) := by decide +kernel
theorem d185_22 : decode (zB 185) 22 = .ok (.iaload, 1) := by decide +kernel
theorem d185_23 : decode (zB 185) 23 = .ok (.iaload, 1) := by decide +kernel
theorem d185_24 : decode (zB 185) 24 = .ok (.istore_n 2, 1) := by decide +kernel
theorem d185_25 : decode (zB 185) 25 = .ok (.iload_n 2, 1) := by decide +kernel
theorem d185_26 : decode (zB 185) 26 = .ok (.iconst (-1), 1) := by decide +kernel
theorem d185_27 : decode (zB 185) 27 = .ok (.if_icmp .eq 20, 3) := by decide +kernel
theorem d185_30 : decode (zB 185) 30 = .ok (.iload_n 2, 1) := by decide +kernel
theorem d185_31 : decode (zB 185) 31 = .ok (.aload_n 0, 1) := by decide +kernel
theorem d185_32 : decode (zB 185) 32 = .ok (.iload_n 1, 1) := by decide +kernel
theorem d185_33 : decode (zB 185) 33 = .ok (.iconst 1, 1) := by decide +kernel
theorem d185_34 : decode (zB 185) 34 = .ok (.invokevirtual 304, 3) := by decide +kernel
theorem d185_37 : decode (zB 185) 37 = .ok (.iconst (-1), 1) := by decide +kernel
theorem d185_38 : decode (zB 185) 38 = .ok (.ixor, 1) := by decide +kernel
theorem d185_39 : decode (zB 185) 39 = .ok (.iand, 1) := by decide +kernel
theorem d185_40 : decode (zB 185) 40 = .ok (.ifCond .ne 7, 3) := by decide +kernel
theorem d185_43 : decode (zB 185) 43 = .ok (.iconst 1, 1) := by decide +kernel
theorem d185_44 : decode (zB 185) 44 = .ok (.goto 4, 3) := by decide +kernel
theorem d185_47 : decode (zB 185) 47 = .ok (.iconst 0, 1) := by decide +kernel
theorem d185_48 : decode (zB 185) 48 = .ok (.ireturn, 1) := by decide +kernel
/-- whether a saga's pivot is passed -/
def yps (T : Nat → yT) (S : yS) : Bool := if gt S = 0 then false else ypa (T (gx S)) (gm S 1)
theorem c185 {d : Nat} {M : zM} {Q : Option Value → zM → Prop} {T : Nat → yT} {c s κ : Nat} {S : yS} (hX : SX M) (hs : s < 3) (hsa : XSa M s S κ) (hT : XTk M T c) (ho : OKS T c S) (k : Q (some (.int (bI (yps T S)))) M) : qC (d + 2) 185 [.ref 136, .int (nI s)] M Q := by
  refine qC_of (by decide) (Nat.le_of_ble_eq_true rfl) ?_
  have hg5 := ho.1
  unfold yps at k
  by_cases h0 : gt S = 0
  · rw [if_pos h0] at k
    refine q_aload_n d185_0 rfl ?_
    refine q_getr (c := 8) (f := 11) d185_1 ⟨rfl, rfl⟩ (xk_136 hX) (xf_states hX) ?_
    refine q_iload_n d185_4 rfl ?_
    refine n_iald d185_5 (xk_states hX) (by omega) (by decide) hsa.1.1 ?_
    refine n0_ne 13 d185_6 (by decide) (by omega) (fun h6 => (False.elim (h6 h0))) (fun h6 => ?_)
    refine q_iconst (x := (-1)) d185_9 rfl ?_
    refine q_goto 24 d185_10 (by decide) ?_
    refine q_istore_n d185_24 (by decide) rfl ?_
    refine q_iload_n d185_25 rfl ?_
    refine q_iconst (x := (-1)) d185_26 rfl ?_
    refine ic_eq 47 d185_27 (by decide) (fun h27 => ?_) (fun h27 => (False.elim (h27 rfl)))
    refine q_iconstN (z := 0) d185_47 ?_
    refine q_zret d185_48 rfl (by decide) ?_
    exact k
  · rw [if_neg h0] at k
    have hx : gx S < c := ho.2.1 h0
    have hx1 : zi M 176 s = nI (gx S) := hsa.1.2.trans (if_neg h0)
    have hoT := hT.2.2 _ hx
    have hn := hoT.n
    have hc6 := hT.2.1

    refine q_aload_n d185_0 rfl ?_
    refine q_getr (c := 8) (f := 11) d185_1 ⟨rfl, rfl⟩ (xk_136 hX) (xf_states hX) ?_
    refine q_iload_n d185_4 rfl ?_
    refine n_iald d185_5 (xk_states hX) (by omega) (by decide) hsa.1.1 ?_
    refine n0_ne 13 d185_6 (by decide) (by omega) (fun h6 => ?_) (fun h6 => (False.elim (h0 h6)))
    refine q_aload_n d185_13 rfl ?_
    refine q_getr (c := 8) (f := 2) d185_14 ⟨rfl, rfl⟩ (xk_136 hX) (xf_pivots hX) ?_
    refine q_aload_n d185_17 rfl ?_
    refine q_getr (c := 8) (f := 12) d185_18 ⟨rfl, rfl⟩ (xk_136 hX) (xf_textOf hX) ?_
    refine q_iload_n d185_21 rfl ?_
    refine n_iald d185_22 (xk_textOf hX) (by omega) (by decide) hx1 ?_
    refine n_iald d185_23 (xk_pivots hX) (by omega) (by decide) (hT.1 _ hx).2.1 ?_
    refine q_istore_n d185_24 (by decide) rfl ?_
    refine q_iload_n d185_25 rfl ?_
    refine q_iconst (x := (-1)) d185_26 rfl ?_
    refine ic_eq 47 d185_27 (by decide) (fun h27 => ?_) (fun h27 => ?_)
    · refine q_iconstN (z := 0) d185_47 ?_
      refine q_zret d185_48 rfl (by decide) ?_
      have e : ypa (T (gx S)) (gm S 1) = false := decide_eq_false (fun q => q.1 h27)
      rw [e] at k
      exact k
    · refine q_iload_n d185_30 rfl ?_
      refine q_aload_n d185_31 rfl ?_
      refine q_iload_n d185_32 rfl ?_
      refine q_iconstN (z := 1) d185_33 ?_
      refine q_v2 d185_34 rfl rfl (xk_136 hX) (Nat.le_of_ble_eq_true rfl) (c179 hX hs hsa hT ho (by omega) ?_)
      refine q_iconst (x := (-1)) d185_37 rfl ?_
      refine q_ixor d185_38 ?_
      refine q_iand d185_39 ?_
      refine i0_ne 47 d185_40 (by decide) (fun h40 => ?_) (fun h40 => ?_)
      · refine q_iconstN (z := 0) d185_47 ?_
        refine q_zret d185_48 rfl (by decide) ?_
        have e : ypa (T (gx S)) (gm S 1) = false := decide_eq_false (fun q => h40 q.2)
        rw [e] at k
        exact k
      · refine q_iconstN (z := 1) d185_43 ?_
        refine q_goto 48 d185_44 (by decide) ?_
        refine q_zret d185_48 rfl (by decide) ?_
        have e : ypa (T (gx S)) (gm S 1) = true := decide_eq_true ⟨h27, h40⟩
        rw [e] at k
        exact k
theorem d182_0 : decode (zB 182) 0 = .ok (.aload_n 0, 1) := by decide +kernel
theorem d182_1 : decode (zB 182) 1 = .ok (.getfield 36, 3) := by decide +kernel
theorem d182_4 : decode (zB 182) 4 = .ok (.iload_n 1, 1) := by decide +kernel
theorem d182_5 : decode (zB 182) 5 = .ok (.iaload, 1) := by decide +kernel
theorem d182_6 : decode (zB 182) 6 = .ok (.iconst 1, 1) := by decide +kernel
theorem d182_7 : decode (zB 182) 7 = .ok (.if_icmp .eq 5, 3) := by decide +kernel
theorem d182_10 : decode (zB 182) 10 = .ok (.iconst 0, 1) := by decide +kernel
theorem d182_11 : decode (zB 182) 11 = .ok (.ireturn, 1) := by decide +kernel
theorem d182_12 : decode (zB 182) 12 = .ok (.iconst 0, 1) := by decide +kernel
theorem d182_13 : decode (zB 182) 13 = .ok (.istore_n 2, 1) := by decide +kernel
theorem d182_14 : decode (zB 182) 14 = .ok (.aload_n 0, 1) := by decide +kernel
theorem d182_15 : decode (zB 182) 15 = .ok (.iload_n 1, 1) := by decide +kernel
theorem d182_16 : decode (zB 182) 16 = .ok (.iconst 1, 1) := by decide +kernel
theorem d182_17 : decode (zB 182) 17 = .ok (.invokevirtual 304, 3) := by decide +kernel
theorem d182_20 : decode (zB 182) 20 = .ok (.istore_n 3, 1) := by decide +kernel
theorem d182_21 : decode (zB 182) 21 = .ok (.iconst 0, 1) := by decide +kernel
theorem d182_22 : decode (zB 182) 22 = .ok (.istore 4, 2) := by decide +kernel
theorem d182_24 : decode (zB 182) 24 = .ok (.iload 4, 2) := by decide +kernel
theorem d182_26 : decode (zB 182) 26 = .ok (.aload_n 0, 1) := by decide +kernel
theorem d182_27 : decode (zB 182) 27 = .ok (.getfield 9, 3) := by decide +kernel
theorem d182_30 : decode (zB 182) 30 = .ok (.aload_n 0, 1) := by decide +kernel
theorem d182_31 : decode (zB 182) 31 = .ok (.getfield 39, 3) := by decide +kernel
theorem d182_34 : decode (zB 182) 34 = .ok (.iload_n 1, 1) := by decide +kernel
theorem d182_35 : decode (zB 182) 35 = .ok (.iaload, 1) := by decide +kernel
theorem d182_36 : decode (zB 182) 36 = .ok (.iaload, 1) := by decide +kernel
theorem d182_37 : decode (zB 182) 37 = .ok (.if_icmp .ge 49, 3) := by decide +kernel
theorem d182_40 : decode (zB 182) 40 = .ok (.aload_n 0, 1) := by decide +kernel
theorem d182_41 : decode (zB 182) 41 = .ok (.getfield 42, 3) := by decide +kernel
theorem d182_44 : decode (zB 182) 44 = .ok (.iload_n 1, 1) := by decide +kernel
theorem d182_45 : decode (zB 182) 45 = .ok (.aaload, 1) := by decide +kernel
theorem d182_46 : decode (zB 182) 46 = .ok (.iload 4, 2) := by decide +kernel
theorem d182_48 : decode (zB 182) 48 = .ok (.iaload, 1) := by decide +kernel
theorem d182_49 : decode (zB 182) 49 = .ok (.ifCond .ne 31, 3) := by decide +kernel
theorem d182_52 : decode (zB 182) 52 = .ok (.aload_n 0, 1) := by decide +kernel
theorem d182_53 : decode (zB 182) 53 = .ok (.getfield 30, 3) := by decide +kernel
theorem d182_56 : decode (zB 182) 56 = .ok (.aload_n 0, 1) := by decide +kernel
theorem d182_57 : decode (zB 182) 57 = .ok (.getfield 39, 3) := by decide +kernel
theorem d182_60 : decode (zB 182) 60 = .ok (.iload_n 1, 1) := by decide +kernel
theorem d182_61 : decode (zB 182) 61 = .ok (.iaload, 1) := by decide +kernel
theorem d182_62 : decode (zB 182) 62 = .ok (.aaload, 1) := by decide +kernel
theorem d182_63 : decode (zB 182) 63 = .ok (.iload 4, 2) := by decide +kernel
theorem d182_65 : decode (zB 182) 65 = .ok (.iaload, 1) := by decide +kernel
theorem d182_66 : decode (zB 182) 66 = .ok (.iload_n 3, 1) := by decide +kernel
theorem d182_67 : decode (zB 182) 67 = .ok (.iconst (-1), 1) := by decide +kernel
theorem d182_68 : decode (zB 182) 68 = .ok (.ixor, 1) := by decide +kernel
theorem d182_69 : decode (zB 182) 69 = .ok (.iand, 1) := by decide +kernel
theorem d182_70 : decode (zB 182) 70 = .ok (.ifCond .ne 10, 3) := by decide +kernel
theorem d182_73 : decode (zB 182) 73 = .ok (.iload_n 2, 1) := by decide +kernel
theorem d182_74 : decode (zB 182) 74 = .ok (.iconst 1, 1) := by decide +kernel
theorem d182_75 : decode (zB 182) 75 = .ok (.iload 4, 2) := by decide +kernel
theorem d182_77 : decode (zB 182) 77 = .ok (.ishl, 1) := by decide +kernel
theorem d182_78 : decode (zB 182) 78 = .ok (.ior, 1) := by decide +kernel
theorem d182_79 : decode (zB 182) 79 = .ok (.istore_n 2, 1) := by decide +kernel
theorem d182_80 : decode (zB 182) 80 = .ok (.iinc 4 1, 3) := by decide +kernel
theorem d182_83 : decode (zB 182) 83 = .ok (.goto (-59), 3) := by decide +kernel
theorem d182_86 : decode (zB 182) 86 = .ok (.iload_n 2, 1) := by decide +kernel
theorem d182_87 : decode (zB 182) 87 = .ok (.ireturn, 1) := by decide +kernel
theorem l182 {d : Nat} {M : zM} {Q : Option Value → zM → Prop} {T : Nat → yT} {c s κ : Nat} {S : yS} (hX : SX M) (hs : s < 3) (hsa : XSa M s S κ) (hT : XTk M T c) (ho : OKS T c S) (h0 : gt S ≠ 0) (k : Q (some (.int (nI (yfr (T (gx S)) S)))) M) : ∀ (r i : Nat), i ≤ tn (T (gx S)) → tn (T (gx S)) < i + r → qW (zEv (d + 1)) 182 Q 24 [(0, .ref 136), (1, .int (nI s)), (2, .int (nI (ymk (fun i => gd S i == 0 && zdf (ta (T (gx S)) i) (gm S 1) == 0) i))), (3, .int (nI (gm S 1))), (4, .int (nI i))] [] M := by
  intro r
  induction r with
  | zero => intros; omega
  | succ r ih =>
    intro i  h1 h2 
    have hg5 := ho.1
    have hx : gx S < c := ho.2.1 h0
    have hx1 : zi M 176 s = nI (gx S) := hsa.1.2.trans (if_neg h0)
    have hoT := hT.2.2 _ hx
    have hn := hoT.n
    have hc6 := hT.2.1
    have hd3 := ho.2.2.2.2.2 i
    have hz1 : ∀ x, x < tn (T (gx S)) → zdf (ta (T (gx S)) x) (gm S 1) < 2147483648 := fun x hx => Nat.lt_trans (zdf_lt (n := 12) (show _ < 2 ^ 12 from hoT.a hx)) (by decide)
    refine q_iload d182_24 rfl ?_
    refine q_aload_n d182_26 rfl ?_
    refine q_getr (c := 8) (f := 1) d182_27 ⟨rfl, rfl⟩ (xk_136 hX) (xf_stepMany hX) ?_
    refine q_aload_n d182_30 rfl ?_
    refine q_getr (c := 8) (f := 12) d182_31 ⟨rfl, rfl⟩ (xk_136 hX) (xf_textOf hX) ?_
    refine q_iload_n d182_34 rfl ?_
    refine n_iald d182_35 (xk_textOf hX) (by omega) (by decide) hx1 ?_
    refine n_iald d182_36 (xk_stepMany hX) (by omega) (by decide) (hT.1 _ hx).1 ?_
    refine nc_ge 86 d182_37 (by decide) (by omega) (by omega) (fun h37 => ?_) (fun h37 => ?_)
    · refine q_iload_n d182_86 rfl ?_
      refine q_iret d182_87 rfl ?_
      rw [show i = tn (T (gx S)) by omega]
      exact k
    · refine q_aload_n d182_40 rfl ?_
      refine q_getr (c := 8) (f := 13) d182_41 ⟨rfl, rfl⟩ (xk_136 hX) (xf_stands hX) ?_
      refine q_iload_n d182_44 rfl ?_
      refine n_aald d182_45 (xk_stands hX) (by decide) (by omega) (by decide) (xr_stands hX (by omega)) ?_
      refine q_iload d182_46 rfl ?_
      refine n_iald d182_48 (xa_stands hX (by omega)) (by omega) (by decide) (hsa.2.1 _ (by omega)).1 ?_
      refine n0_ne 80 d182_49 (by decide) (by omega) (fun h49 => ?_) (fun h49 => ?_)
      · refine n_iinc 1 d182_80 (by decide) rfl rfl ?_
        refine q_goto 24 d182_83 (by decide) ?_
        refine qW_srt rfl rfl ?_
        rw [show ymk (fun i => gd S i == 0 && zdf (ta (T (gx S)) i) (gm S 1) == 0) i = ymk (fun i => gd S i == 0 && zdf (ta (T (gx S)) i) (gm S 1) == 0) (i + 1) from (ymk_f (by show (gd S i == 0 && zdf (ta (T (gx S)) i) (gm S 1) == 0) = false; rw [beq_false_of_ne h49]; rfl)).symm]
        exact ih (i + 1) (by omega) (by omega)
      · refine q_aload_n d182_52 rfl ?_
        refine q_getr (c := 8) (f := 7) d182_53 ⟨rfl, rfl⟩ (xk_136 hX) (xf_aheads hX) ?_
        refine q_aload_n d182_56 rfl ?_
        refine q_getr (c := 8) (f := 12) d182_57 ⟨rfl, rfl⟩ (xk_136 hX) (xf_textOf hX) ?_
        refine q_iload_n d182_60 rfl ?_
        refine n_iald d182_61 (xk_textOf hX) (by omega) (by decide) hx1 ?_
        refine n_aald d182_62 (xk_aheads hX) (by decide) (by omega) (by decide) (xr_aheads hX (by omega)) ?_
        refine q_iload d182_63 rfl ?_
        refine n_iald d182_65 (xa_aheads hX (by omega)) (by omega) (by decide) ((hT.1 _ hx).2.2 _ (by omega)).2.2.2.2 ?_
        refine q_iload_n d182_66 rfl ?_
        refine q_iconst (x := (-1)) d182_67 rfl ?_
        refine q_ixor d182_68 ?_
        refine n_iandn d182_69 ?_
        refine n0_ne 80 d182_70 (by decide) (hz1 _ (by omega)) (fun h70 => ?_) (fun h70 => ?_)
        · refine n_iinc 1 d182_80 (by decide) rfl rfl ?_
          refine q_goto 24 d182_83 (by decide) ?_
          refine qW_srt rfl rfl ?_
          rw [show ymk (fun i => gd S i == 0 && zdf (ta (T (gx S)) i) (gm S 1) == 0) i = ymk (fun i => gd S i == 0 && zdf (ta (T (gx S)) i) (gm S 1) == 0) (i + 1) from (ymk_f (by show (gd S i == 0 && zdf (ta (T (gx S)) i) (gm S 1) == 0) = false; rw [beq_false_of_ne h70, Bool.and_false])).symm]
          exact ih (i + 1) (by omega) (by omega)
        · refine q_iload_n d182_73 rfl ?_
          refine q_iconstN (z := 1) d182_74 ?_
          refine q_iload d182_75 rfl ?_
          refine n_ishl1 d182_77 (by omega) ?_
          refine n_ior d182_78 ?_
          refine q_istore_n d182_79 (by decide) rfl ?_
          refine n_iinc 1 d182_80 (by decide) rfl rfl ?_
          refine q_goto 24 d182_83 (by decide) ?_
          refine qW_srt rfl rfl ?_
          rw [show ymk (fun i => gd S i == 0 && zdf (ta (T (gx S)) i) (gm S 1) == 0) i ||| 2 ^ i = ymk (fun i => gd S i == 0 && zdf (ta (T (gx S)) i) (gm S 1) == 0) (i + 1) from (ymk_t (by show (gd S i == 0 && zdf (ta (T (gx S)) i) (gm S 1) == 0) = true; rw [h49, h70]; rfl)).symm]
          exact ih (i + 1) (by omega) (by omega)
theorem c182 {d : Nat} {M : zM} {Q : Option Value → zM → Prop} {T : Nat → yT} {c s κ : Nat} {S : yS} (hX : SX M) (hs : s < 3) (hsa : XSa M s S κ) (hT : XTk M T c) (ho : OKS T c S) (k : Q (some (.int (nI (if gt S = 1 then yfr (T (gx S)) S else 0)))) M) : qC (d + 2) 182 [.ref 136, .int (nI s)] M Q := by
  refine qC_of (by decide) (Nat.le_of_ble_eq_true rfl) ?_
  have hg5 := ho.1
  by_cases h1 : gt S = 1
  · rw [if_pos h1] at k
    have h0 : gt S ≠ 0 := by omega
    refine q_aload_n d182_0 rfl ?_
    refine q_getr (c := 8) (f := 11) d182_1 ⟨rfl, rfl⟩ (xk_136 hX) (xf_states hX) ?_
    refine q_iload_n d182_4 rfl ?_
    refine n_iald d182_5 (xk_states hX) (by omega) (by decide) hsa.1.1 ?_
    refine q_iconstN (z := 1) d182_6 ?_
    refine nc_eq 12 d182_7 (by decide) (by omega) (by omega) (fun h7 => ?_) (fun h7 => (False.elim (h7 h1)))
    refine q_iconstN (z := 0) d182_12 ?_
    refine q_istore_n d182_13 (by decide) rfl ?_
    refine q_aload_n d182_14 rfl ?_
    refine q_iload_n d182_15 rfl ?_
    refine q_iconstN (z := 1) d182_16 ?_
    refine q_v2 d182_17 rfl rfl (xk_136 hX) (Nat.le_of_ble_eq_true rfl) (c179 hX hs hsa hT ho (by omega) ?_)
    refine q_istore_n d182_20 (by decide) rfl ?_
    refine q_iconstN (z := 0) d182_21 ?_
    refine q_istore d182_22 (by decide) rfl ?_
    refine qW_srt rfl rfl ?_
    exact l182 hX hs hsa hT ho h0 k (tn (T (gx S)) + 1) 0 (Nat.zero_le _) (by omega)
  · rw [if_neg h1] at k
    refine q_aload_n d182_0 rfl ?_
    refine q_getr (c := 8) (f := 11) d182_1 ⟨rfl, rfl⟩ (xk_136 hX) (xf_states hX) ?_
    refine q_iload_n d182_4 rfl ?_
    refine n_iald d182_5 (xk_states hX) (by omega) (by decide) hsa.1.1 ?_
    refine q_iconstN (z := 1) d182_6 ?_
    refine nc_eq 12 d182_7 (by decide) (by omega) (by omega) (fun h7 => (False.elim (h1 h7))) (fun h7 => ?_)
    refine q_iconstN (z := 0) d182_10 ?_
    refine q_iret d182_11 rfl ?_
    exact k
/-- the one of the done steps below i that came last -/
def yfd_ (L : List Nat) (i : Nat) : Option Nat := L.find? (fun j => decide (j < i))
def yfi (o : Option Nat) : Int32 := match o with
  | none => -1
  | some j => nI j
theorem yls_n {L : List Nat} {i : Nat} (h : i ∉ L) : yfd_ L (i + 1) = yfd_ L i := by
  unfold yfd_
  induction L with
  | nil => rfl
  | cons a t ih =>
    have ha : a ≠ i := fun e => h (by rw [e]; exact List.mem_cons_self)
    rw [List.find?_cons, List.find?_cons, ih (fun q => h (List.mem_cons_of_mem _ q))]
    rw [show decide (a < i + 1) = decide (a < i) by simp only [decide_eq_decide]; omega]
theorem yls_m {L : List Nat} {i j : Nat} (h : yfd_ L i = some j) : j ∈ L ∧ j < i := by
  unfold yfd_ at h
  have h2 := List.find?_some h
  exact ⟨List.mem_of_find?_eq_some h, of_decide_eq_true (show decide (j < i) = true from h2)⟩
theorem yls_s {w : Nat → Nat} {L : List Nat} {i : Nat} (hp : L.Pairwise (fun i j => w j < w i)) (h : i ∈ L) : (∀ j, yfd_ L i = some j → w j < w i) → yfd_ L (i + 1) = some i := by
  induction L with
  | nil => cases h
  | cons a t ih =>
    intro hj
    obtain ⟨h1, h2⟩ := List.pairwise_cons.mp hp
    unfold yfd_ at hj ⊢
    rw [List.find?_cons] at hj ⊢
    by_cases e : a = i
    · subst e
      rw [decide_eq_true (show a < a + 1 by omega)]
    · have hi : i ∈ t := (List.mem_cons.mp h).resolve_left (fun q => e q.symm)
      by_cases h3 : a < i
      · exfalso
        have := hj a (by rw [decide_eq_true h3])
        have := h1 i hi
        omega
      · rw [decide_eq_false (show ¬ a < i + 1 by omega)]
        exact ih h2 hi (fun j q => hj j (by rw [decide_eq_false h3]; exact q))
theorem yls_k {w : Nat → Nat} {L : List Nat} {i j : Nat} (hp : L.Pairwise (fun i j => w j < w i)) (h : i ∈ L) (hj : yfd_ L i = some j) (hw : w i ≤ w j) : yfd_ L (i + 1) = some j := by
  induction L with
  | nil => cases h
  | cons a t ih =>
    obtain ⟨h1, h2⟩ := List.pairwise_cons.mp hp
    unfold yfd_ at hj ⊢
    rw [List.find?_cons] at hj ⊢
    by_cases h3 : a < i
    · rw [decide_eq_true h3] at hj
      rw [decide_eq_true (show a < i + 1 by omega)]
      exact hj
    · rw [decide_eq_false h3] at hj
      by_cases e : a = i
      · subst e
        have hm : j ∈ t := List.mem_of_find?_eq_some hj
        have := h1 j hm
        omega
      · rw [decide_eq_false (show ¬ a < i + 1 by omega)]
        exact ih h2 ((List.mem_cons.mp h).resolve_left (fun q => e q.symm)) hj
theorem yls_12 {L : List Nat} (h : ∀ i, i ∈ L → i < 12) : yfi (yfd_ L 12) = ylast L := by
  cases L with
  | nil => rfl
  | cons a t =>
    unfold yfd_
    rw [List.find?_cons, decide_eq_true (h a List.mem_cons_self)]
    rfl
theorem yls_z (L : List Nat) : yfd_ L 0 = none := by
  unfold yfd_
  rw [List.find?_eq_none]
  intro x _
  simp
theorem d178_0 : decode (zB 178) 0 = .ok (.iconst (-1), 1) := by decide +kernel
theorem d178_1 : decode (zB 178) 1 = .ok (.istore_n 2, 1) := by decide +kernel
theorem d178_2 : decode (zB 178) 2 = .ok (.aload_n 0, 1) := by decide +kernel
theorem d178_3 : decode (zB 178) 3 = .ok (.iload_n 1, 1) := by decide +kernel
theorem d178_4 : decode (zB 178) 4 = .ok (.iconst 1, 1) := by decide +kernel
theorem d178_5 : decode (zB 178) 5 = .ok (.invokevirtual 304, 3) := by decide +kernel
theorem d178_8 : decode (zB 178) 8 = .ok (.istore_n 3, 1) := by decide +kernel
theorem d178_9 : decode (zB 178) 9 = .ok (.iconst 0, 1) := by decide +kernel
theorem d178_10 : decode (zB 178) 10 = .ok (.istore 4, 2) := by decide +kernel
theorem d178_12 : decode (zB 178) 12 = .ok (.iload 4, 2) := by decide +kernel
theorem d178_14 : decode (zB 178) 14 = .ok (.bipush 12, 2) := by decide +kernel
theorem d178_16 : decode (zB 178) 16 = .ok (.if_icmp .ge 47, 3) := by decide +kernel
theorem d178_19 : decode (zB 178) 19 = .ok (.iload_n 3, 1) := by decide +kernel
theorem d178_20 : decode (zB 178) 20 = .ok (.iload 4, 2) := by decide +kernel
theorem d178_22 : decode (zB 178) 22 = .ok (.ishr, 1) := by decide +kernel
theorem d178_23 : decode (zB 178) 23 = .ok (.iconst 1, 1) := by decide +kernel
theorem d178_24 : decode (zB 178) 24 = .ok (.iand, 1) := by decide +kernel
theorem d178_25 : decode (zB 178) 25 = .ok (.iconst 1, 1) := by decide +kernel
theorem d178_26 : decode (zB 178) 26 = .ok (.if_icmp .ne 31, 3) := by decide +kernel
theorem d178_29 : decode (zB 178) 29 = .ok (.iload_n 2, 1) := by decide +kernel
theorem d178_30 : decode (zB 178) 30 = .ok (.iconst (-1), 1) := by decide +kernel
theorem d178_31 : decode (zB 178) 31 = .ok (.if_icmp .eq 23, 3) := by decide +kernel
theorem d178_34 : decode (zB 178) 34 = .ok (.aload_n 0, 1) := by decide +kernel
theorem d178_35 : decode (zB 178) 35 = .ok (.getfield 45, 3) := by decide +kernel
theorem d178_38 : decode (zB 178) 38 = .ok (.iload_n 1, 1) := by decide +kernel
theorem d178_39 : decode (zB 178) 39 = .ok (.aaload, 1) := by decide +kernel
theorem d178_40 : decode (zB 178) 40 = .ok (.iload 4, 2) := by decide +kernel
theorem d178_42 : decode (zB 178) 42 = .ok (.iaload, 1) := by decide +kernel
theorem d178_43 : decode (zB 178) 43 = .ok (.aload_n 0, 1) := by decide +kernel
theorem d178_44 : decode (zB 178) 44 = .ok (.getfield 45, 3) := by decide +kernel
theorem d178_47 : decode (zB 178) 47 = .ok (.iload_n 1, 1) := by decide +kernel
theorem d178_48 : decode (zB 178) 48 = .ok (.aaload, 1) := by decide +kernel
theorem d178_49 : decode (zB 178) 49 = .ok (.iload_n 2, 1) := by decide +kernel
theorem d178_50 : decode (zB 178) 50 = .ok (.iaload, 1) := by decide +kernel
theorem d178_51 : decode (zB 178) 51 = .ok (.if_icmp .le 6, 3) := by decide +kernel
theorem d178_54 : decode (zB 178) 54 = .ok (.iload 4, 2) := by decide +kernel
theorem d178_56 : decode (zB 178) 56 = .ok (.istore_n 2, 1) := by decide +kernel
theorem d178_57 : decode (zB 178) 57 = .ok (.iinc 4 1, 3) := by decide +kernel
theorem d178_60 : decode (zB 178) 60 = .ok (.goto (-48), 3) := by decide +kernel
theorem d178_63 : decode (zB 178) 63 = .ok (.iload_n 2, 1) := by decide +kernel
theorem d178_64 : decode (zB 178) 64 = .ok (.ireturn, 1) := by decide +kernel
theorem l178 {d : Nat} {M : zM} {Q : Option Value → zM → Prop} {T : Nat → yT} {c s κ : Nat} {S : yS} {w : Nat → Nat} (hX : SX M) (hs : s < 3) (hsa : XSa M s S κ) (hT : XTk M T c) (ho : OKS T c S) (hk : κ < 2147483648) (hw1 : ∀ i, i ∈ go S → zi M (182 + s) i = nI (w i) ∧ w i ≤ κ) (hw2 : (go S).Pairwise (fun i j => w j < w i)) (k : Q (some (.int (ylast (go S)))) M) : ∀ (r i : Nat), i ≤ 12 → 12 < i + r → qW (zEv (d + 1)) 178 Q 12 [(0, .ref 136), (1, .int (nI s)), (2, .int (yfi (yfd_ (go S) i))), (3, .int (nI (gm S 1))), (4, .int (nI i))] [] M := by
  intro r
  induction r with
  | zero => intros; omega
  | succ r ih =>
    intro i  h1 h2 
    have h12 : ∀ j, j ∈ go S → j < 12 := fun j hj => by
      have e := (ho.2.2.2.1 j).mp hj
      apply Classical.byContradiction
      intro q
      have := ho.2.2.2.2.1 j (by
        unfold gz
        by_cases h0 : gt S = 0
        · rw [if_pos h0]; omega
        · rw [if_neg h0]; have := (hT.2.2 _ (ho.2.1 h0)).n; omega)
      omega
    have hbit := gm_bit S 1 i
    have hg4 := gm_lt S 1
    by_cases h16 : i = 12
    · refine q_iload d178_12 rfl ?_
      refine q_bipush (x := nI 12) d178_14 rfl ?_
      refine nc_ge 63 d178_16 (by decide) (by omega) (by omega) (fun h16 => ?_) (fun h16 => (False.elim (by omega)))
      refine q_iload_n d178_63 rfl ?_
      refine q_iret d178_64 rfl ?_
      have e12 : i = 12 := by omega
      rw [e12, yls_12 h12]
      exact k
    · cases ef : yfd_ (go S) i with
      | none =>
        refine q_iload d178_12 rfl ?_
        refine q_bipush (x := nI 12) d178_14 rfl ?_
        refine nc_ge 63 d178_16 (by decide) (by omega) (by omega) (fun h16 => (False.elim (by omega))) (fun h16 => ?_)
        refine q_iload_n d178_19 rfl ?_
        refine q_iload d178_20 rfl ?_
        refine q_ishr d178_22 ?_
        refine q_iconstN (z := 1) d178_23 ?_
        refine q_iand d178_24 ?_
        rw [n_bit (by omega) (by omega)]
        refine q_iconstN (z := 1) d178_25 ?_
        refine ic_ne 57 d178_26 (by decide) (fun h26 => ?_) (fun h26 => ?_)
        · refine n_iinc 1 d178_57 (by decide) rfl rfl ?_
          refine q_goto 12 d178_60 (by decide) ?_
          refine qW_srt rfl rfl ?_
          have hni : i ∉ go S := fun q => h26 (by rw [hbit, (ho.2.2.2.1 i).mp q, decide_eq_true (show i < 12 by omega)]; rfl)
          rw [show yfi none = yfi (yfd_ (go S) (i + 1)) by rw [yls_n hni, ef]]
          exact ih (i + 1) (by omega) (by omega)
        · refine q_iload_n d178_29 rfl ?_
          refine q_iconst (x := (-1)) d178_30 rfl ?_
          refine ic_eq 54 d178_31 (by decide) (fun h31 => ?_) (fun h31 => (False.elim (h31 rfl)))
          refine q_iload d178_54 rfl ?_
          refine q_istore_n d178_56 (by decide) rfl ?_
          refine n_iinc 1 d178_57 (by decide) rfl rfl ?_
          refine q_goto 12 d178_60 (by decide) ?_
          refine qW_srt rfl rfl ?_
          have hmem : i ∈ go S := (ho.2.2.2.1 i).mpr (by
            apply Classical.byContradiction
            intro q
            rw [hbit, beq_false_of_ne q, Bool.and_false] at h26
            exact absurd h26 (by decide))
          rw [show nI i = yfi (yfd_ (go S) (i + 1)) by rw [yls_s hw2 hmem (fun j q => by rw [ef] at q; cases q)]; rfl]
          exact ih (i + 1) (by omega) (by omega)
      | some j =>
        obtain ⟨hjm, hji⟩ := yls_m ef
        refine q_iload d178_12 rfl ?_
        refine q_bipush (x := nI 12) d178_14 rfl ?_
        refine nc_ge 63 d178_16 (by decide) (by omega) (by omega) (fun h16 => (False.elim (by omega))) (fun h16 => ?_)
        refine q_iload_n d178_19 rfl ?_
        refine q_iload d178_20 rfl ?_
        refine q_ishr d178_22 ?_
        refine q_iconstN (z := 1) d178_23 ?_
        refine q_iand d178_24 ?_
        rw [n_bit (by omega) (by omega)]
        refine q_iconstN (z := 1) d178_25 ?_
        refine ic_ne 57 d178_26 (by decide) (fun h26 => ?_) (fun h26 => ?_)
        · refine n_iinc 1 d178_57 (by decide) rfl rfl ?_
          refine q_goto 12 d178_60 (by decide) ?_
          refine qW_srt rfl rfl ?_
          have hni : i ∉ go S := fun q => h26 (by rw [hbit, (ho.2.2.2.1 i).mp q, decide_eq_true (show i < 12 by omega)]; rfl)
          rw [show yfi (some j) = yfi (yfd_ (go S) (i + 1)) by rw [yls_n hni, ef]]
          exact ih (i + 1) (by omega) (by omega)
        · refine q_iload_n d178_29 rfl ?_
          refine q_iconst (x := (-1)) d178_30 rfl ?_
          refine ic_eq 54 d178_31 (by decide) (fun h31 => (False.elim (nI_m1 (by omega) h31))) (fun h31 => ?_)
          have hmem : i ∈ go S := (ho.2.2.2.1 i).mpr (by
            apply Classical.byContradiction
            intro q
            rw [hbit, beq_false_of_ne q, Bool.and_false] at h26
            exact absurd h26 (by decide))
          have hwi := (hw1 i hmem).2
          have hwj := (hw1 j hjm).2
          refine q_aload_n d178_34 rfl ?_
          refine q_getr (c := 8) (f := 14) d178_35 ⟨rfl, rfl⟩ (xk_136 hX) (xf_when hX) ?_
          refine q_iload_n d178_38 rfl ?_
          refine n_aald d178_39 (xk_when hX) (by decide) (by omega) (by decide) (xr_when hX (by omega)) ?_
          refine q_iload d178_40 rfl ?_
          refine n_iald d178_42 (xa_when hX (by omega)) (by omega) (by decide) (hw1 _ hmem).1 ?_
          refine q_aload_n d178_43 rfl ?_
          refine q_getr (c := 8) (f := 14) d178_44 ⟨rfl, rfl⟩ (xk_136 hX) (xf_when hX) ?_
          refine q_iload_n d178_47 rfl ?_
          refine n_aald d178_48 (xk_when hX) (by decide) (by omega) (by decide) (xr_when hX (by omega)) ?_
          refine q_iload_n d178_49 rfl ?_
          refine n_iald d178_50 (xa_when hX (by omega)) (by omega) (by decide) (hw1 _ hjm).1 ?_
          refine nc_le 57 d178_51 (by decide) (by omega) (by omega) (fun h51 => ?_) (fun h51 => ?_)
          · refine n_iinc 1 d178_57 (by decide) rfl rfl ?_
            refine q_goto 12 d178_60 (by decide) ?_
            refine qW_srt rfl rfl ?_
            rw [show yfi (some j) = yfi (yfd_ (go S) (i + 1)) by rw [yls_k hw2 hmem ef h51]]
            exact ih (i + 1) (by omega) (by omega)
          · refine q_iload d178_54 rfl ?_
            refine q_istore_n d178_56 (by decide) rfl ?_
            refine n_iinc 1 d178_57 (by decide) rfl rfl ?_
            refine q_goto 12 d178_60 (by decide) ?_
            refine qW_srt rfl rfl ?_
            rw [show nI i = yfi (yfd_ (go S) (i + 1)) by rw [yls_s hw2 hmem (fun j2 q => by rw [ef] at q; cases q; exact h51)]; rfl]
            exact ih (i + 1) (by omega) (by omega)
theorem c178 {d : Nat} {M : zM} {Q : Option Value → zM → Prop} {T : Nat → yT} {c s κ : Nat} {S : yS} (hX : SX M) (hs : s < 3) (hsa : XSa M s S κ) (hT : XTk M T c) (ho : OKS T c S) (hk : κ < 2147483648) (k : Q (some (.int (ylast (go S)))) M) : qC (d + 2) 178 [.ref 136, .int (nI s)] M Q := by
  refine qC_of (by decide) (Nat.le_of_ble_eq_true rfl) ?_
  obtain ⟨w, hw1, hw2⟩ := hsa.2.2.2
  refine q_iconst (x := (-1)) d178_0 rfl ?_
  refine q_istore_n d178_1 (by decide) rfl ?_
  refine q_aload_n d178_2 rfl ?_
  refine q_iload_n d178_3 rfl ?_
  refine q_iconstN (z := 1) d178_4 ?_
  refine q_v2 d178_5 rfl rfl (xk_136 hX) (Nat.le_of_ble_eq_true rfl) (c179 hX hs hsa hT ho (by omega) ?_)
  refine q_istore_n d178_8 (by decide) rfl ?_
  refine q_iconstN (z := 0) d178_9 ?_
  refine q_istore d178_10 (by decide) rfl ?_
  refine qW_srt rfl rfl ?_
  rw [show (-1 : Int32) = yfi (yfd_ (go S) 0) by rw [yls_z]; rfl]
  exact l178 hX hs hsa hT ho hk hw1 hw2 k 13 0 (by omega) (by omega)
