/-! ===== contracts: clashes, chains ===== -/
def yap (T : yT) (i j : Nat) : Bool := (ybd T i).testBit j && (yao T i &&& yao T j) != 0
/-- how many j < n with i < j clash with i -/
def ycj (T : yT) (i : Nat) : Nat → Nat
  | 0 => 0
  | j + 1 => ycj T i j + (if i < j ∧ yap T i j = true then 1 else 0)
def ycl (T : yT) : Nat → Nat
  | 0 => 0
  | i + 1 => ycl T i + ycj T i (tn T)
theorem ycj_le (T : yT) (i : Nat) : ∀ j, ycj T i j ≤ j
  | 0 => Nat.le_refl _
  | j + 1 => by have := ycj_le T i j; rw [ycj]; split <;> omega
theorem ycj_0 (T : yT) (i : Nat) : ∀ j, j ≤ i + 1 → ycj T i j = 0
  | 0, _ => rfl
  | j + 1, h => by rw [ycj, ycj_0 T i j (by omega), if_neg (fun q => by omega)]
theorem yao_lt (T : yT) (i : Nat) : yao T i < 64 := or_lt (n := 6) (yac_lt _) (yac_lt _)
theorem ycj_t {T : yT} {i j : Nat} (h : i < j) (h1 : (ybd T i).testBit j = true) (h2 : ¬ yao T i &&& yao T j = 0) : ycj T i (j + 1) = ycj T i j + 1 := by
  rw [ycj, if_pos ⟨h, by unfold yap; rw [h1]; simp [h2]⟩]
theorem ycj_f {T : yT} {i j : Nat} (h : (ybd T i).testBit j = false ∨ yao T i &&& yao T j = 0) : ycj T i (j + 1) = ycj T i j := by
  rw [ycj, if_neg (fun q => by
    have q2 := q.2
    unfold yap at q2
    rcases h with e | e <;> rw [e] at q2 <;> simp at q2)]
  rfl
theorem d40_0 : decode (zB 40) 0 = .ok (.iconst 0, 1) := by decide +kernel
theorem d40_1 : decode (zB 40) 1 = .ok (.istore_n 1, 1) := by decide +kernel
theorem d40_2 : decode (zB 40) 2 = .ok (.iconst 0, 1) := by decide +kernel
theorem d40_3 : decode (zB 40) 3 = .ok (.istore_n 2, 1) := by decide +kernel
theorem d40_4 : decode (zB 40) 4 = .ok (.iload_n 2, 1) := by decide +kernel
theorem d40_5 : decode (zB 40) 5 = .ok (.aload_n 0, 1) := by decide +kernel
theorem d40_6 : decode (zB 40) 6 = .ok (.getfield 34, 3) := by decide +kernel
theorem d40_9 : decode (zB 40) 9 = .ok (.if_icmp .ge 62, 3) := by decide +kernel
theorem d40_12 : decode (zB 40) 12 = .ok (.aload_n 0, 1) := by decide +kernel
theorem d40_13 : decode (zB 40) 13 = .ok (.iload_n 2, 1) := by decide +kernel
theorem d40_14 : decode (zB 40) 14 = .ok (.invokevirtual 55, 3) := by decide +kernel
theorem d40_17 : decode (zB 40) 17 = .ok (.istore_n 3, 1) := by decide +kernel
theorem d40_18 : decode (zB 40) 18 = .ok (.iload_n 2, 1) := by decide +kernel
theorem d40_19 : decode (zB 40) 19 = .ok (.iconst 1, 1) := by decide +kernel
theorem d40_20 : decode (zB 40) 20 = .ok (.iadd, 1) := by decide +kernel
theorem d40_21 : decode (zB 40) 21 = .ok (.istore 4, 2) := by decide +kernel
theorem d40_23 : decode (zB 40) 23 = .ok (.iload 4, 2) := by decide +kernel
theorem d40_25 : decode (zB 40) 25 = .ok (.aload_n 0, 1) := by decide +kernel
theorem d40_26 : decode (zB 40) 26 = .ok (.getfield 34, 3) := by decide +kernel
theorem d40_29 : decode (zB 40) 29 = .ok (.if_icmp .ge 36, 3) := by decide +kernel
theorem d40_32 : decode (zB 40) 32 = .ok (.iload_n 3, 1) := by decide +kernel
theorem d40_33 : decode (zB 40) 33 = .ok (.iload 4, 2) := by decide +kernel
theorem d40_35 : decode (zB 40) 35 = .ok (.invokestatic 37, 3) := by decide +kernel
theorem d40_38 : decode (zB 40) 38 = .ok (.ifCond .eq 21, 3) := by decide +kernel
theorem d40_41 : decode (zB 40) 41 = .ok (.aload_n 0, 1) := by decide +kernel
theorem d40_42 : decode (zB 40) 42 = .ok (.iload_n 2, 1) := by decide +kernel
theorem d40_43 : decode (zB 40) 43 = .ok (.invokevirtual 63, 3) := by decide +kernel
theorem d40_46 : decode (zB 40) 46 = .ok (.aload_n 0, 1) := by decide +kernel
theorem d40_47 : decode (zB 40) 47 = .ok (.iload 4, 2) := by decide +kernel
theorem d40_49 : decode (zB 40) 49 = .ok (.invokevirtual 63, 3) := by decide +kernel
theorem d40_52 : decode (zB 40) 52 = .ok (.iand, 1) := by decide +kernel
theorem d40_53 : decode (zB 40) 53 = .ok (.ifCond .eq 6, 3) := by decide +kernel
theorem d40_56 : decode (zB 40) 56 = .ok (.iinc 1 1, 3) := by decide +kernel
theorem d40_59 : decode (zB 40) 59 = .ok (.iinc 4 1, 3) := by decide +kernel
theorem d40_62 : decode (zB 40) 62 = .ok (.goto (-39), 3) := by decide +kernel
theorem d40_65 : decode (zB 40) 65 = .ok (.iinc 2 1, 3) := by decide +kernel
theorem d40_68 : decode (zB 40) 68 = .ok (.goto (-64), 3) := by decide +kernel
theorem d40_71 : decode (zB 40) 71 = .ok (.iload_n 1, 1) := by decide +kernel
theorem d40_72 : decode (zB 40) 72 = .ok (.ireturn, 1) := by decide +kernel
theorem l40i {d : Nat} {M : zM} {Q : Option Value → zM → Prop} {a : Nat} {T : yT} {i c : Nat} (hp : SPr M a) (hr : RP M a T) (ho : OKT T) (hi : i < tn T) (k : qW (zEv (d + 3)) 40 Q 65 [(0, .ref a), (1, .int (nI (c + ycj T i (tn T)))), (2, .int (nI i)), (3, .int (nI (ybd T i))), (4, .int (nI (tn T)))] [] M) : ∀ (r j : Nat), j ≤ tn T → tn T < j + r → i < j → qW (zEv (d + 3)) 40 Q 23 [(0, .ref a), (1, .int (nI (c + ycj T i j))), (2, .int (nI i)), (3, .int (nI (ybd T i))), (4, .int (nI j))] [] M := by
  intro r
  induction r with
  | zero => intros; omega
  | succ r ih =>
    intro j  h1 h2 hj
    have hn := ho.n
    have hb1 := ybd_lt T i hn
    refine q_iload d40_23 rfl ?_
    refine q_aload_n d40_25 rfl ?_
    refine q_getv (c := 1) (f := 6) d40_26 ⟨rfl, by decide⟩ hp.1 hr.1 ?_
    refine nc_ge 65 d40_29 (by decide) (by omega) (by omega) (fun h29 => ?_) (fun h29 => ?_)
    · refine qW_srt rfl rfl ?_
      rw [show j = tn T by omega]; exact k
    · refine q_iload_n d40_32 rfl ?_
      refine q_iload d40_33 rfl ?_
      refine q_s2 d40_35 (Or.inr rfl) rfl (Nat.le_of_ble_eq_true rfl) (c35 (by omega) (by omega) ?_)
      refine b0_eq 59 d40_38 (by decide) (fun h38 => ?_) (fun h38 => ?_)
      · refine n_iinc 1 d40_59 (by decide) rfl rfl ?_
        refine q_goto 23 d40_62 (by decide) ?_
        refine qW_srt rfl rfl ?_
        first
        | (rw [show c + ycj T i j + 1 = c + ycj T i (j + 1) by rw [ycj_t (by omega) h38 h53]; rfl]; exact ih (j + 1) (by omega) (by omega) (by omega))
        | (rw [show ycj T i j = ycj T i (j + 1) by rw [ycj_f (Or.inr h53)]]; exact ih (j + 1) (by omega) (by omega) (by omega))
        | (rw [show ycj T i j = ycj T i (j + 1) by rw [ycj_f (Or.inl h38)]]; exact ih (j + 1) (by omega) (by omega) (by omega))
      · have ha1 : yao T i &&& yao T j < 2147483648 := Nat.lt_of_le_of_lt Nat.and_le_left (Nat.lt_trans (yao_lt T i) (by decide))
        refine q_aload_n d40_41 rfl ?_
        refine q_iload_n d40_42 rfl ?_
        refine q_v1 d40_43 rfl rfl hp.1 (Nat.le_of_ble_eq_true rfl) (c41 hp hr hi hn ?_)
        refine q_aload_n d40_46 rfl ?_
        refine q_iload d40_47 rfl ?_
        refine q_v1 d40_49 rfl rfl hp.1 (Nat.le_of_ble_eq_true rfl) (c41 hp hr (by omega) hn ?_)
        refine n_iand d40_52 ?_
        refine n0_eq 59 d40_53 (by decide) (by omega) (fun h53 => ?_) (fun h53 => ?_)
        · refine n_iinc 1 d40_59 (by decide) rfl rfl ?_
          refine q_goto 23 d40_62 (by decide) ?_
          refine qW_srt rfl rfl ?_
          first
          | (rw [show c + ycj T i j + 1 = c + ycj T i (j + 1) by rw [ycj_t (by omega) h38 h53]; rfl]; exact ih (j + 1) (by omega) (by omega) (by omega))
          | (rw [show ycj T i j = ycj T i (j + 1) by rw [ycj_f (Or.inr h53)]]; exact ih (j + 1) (by omega) (by omega) (by omega))
          | (rw [show ycj T i j = ycj T i (j + 1) by rw [ycj_f (Or.inl h38)]]; exact ih (j + 1) (by omega) (by omega) (by omega))
        · refine n_iinc 1 d40_56 (by decide) rfl rfl ?_
          refine n_iinc 1 d40_59 (by decide) rfl rfl ?_
          refine q_goto 23 d40_62 (by decide) ?_
          refine qW_srt rfl rfl ?_
          first
          | (rw [show c + ycj T i j + 1 = c + ycj T i (j + 1) by rw [ycj_t (by omega) h38 h53]; rfl]; exact ih (j + 1) (by omega) (by omega) (by omega))
          | (rw [show ycj T i j = ycj T i (j + 1) by rw [ycj_f (Or.inr h53)]]; exact ih (j + 1) (by omega) (by omega) (by omega))
          | (rw [show ycj T i j = ycj T i (j + 1) by rw [ycj_f (Or.inl h38)]]; exact ih (j + 1) (by omega) (by omega) (by omega))
theorem l40 {d : Nat} {M : zM} {Q : Option Value → zM → Prop} {a : Nat} {T : yT} (hp : SPr M a) (hr : RP M a T) (ho : OKT T) (k : Q (some (.int (nI (ycl T (tn T))))) M) : ∀ (r i : Nat) (a3 a4 : Value), i ≤ tn T → tn T < i + r → qW (zEv (d + 3)) 40 Q 4 [(0, .ref a), (1, .int (nI (ycl T i))), (2, .int (nI i)), (3, a3), (4, a4)] [] M := by
  intro r
  induction r with
  | zero => intros; omega
  | succ r ih =>
    intro i a3 a4 h1 h2 
    have hn := ho.n
    refine q_iload_n d40_4 rfl ?_
    refine q_aload_n d40_5 rfl ?_
    refine q_getv (c := 1) (f := 6) d40_6 ⟨rfl, by decide⟩ hp.1 hr.1 ?_
    refine nc_ge 71 d40_9 (by decide) (by omega) (by omega) (fun h9 => ?_) (fun h9 => ?_)
    · refine q_iload_n d40_71 rfl ?_
      refine q_iret d40_72 rfl ?_
      rw [show i = tn T by omega]; exact k
    · refine q_aload_n d40_12 rfl ?_
      refine q_iload_n d40_13 rfl ?_
      refine q_v1 d40_14 rfl rfl hp.1 (Nat.le_of_ble_eq_true rfl) (c39 hp hr ho (by omega) ?_)
      refine q_istore_n d40_17 (by decide) rfl ?_
      refine q_iload_n d40_18 rfl ?_
      refine q_iconstN (z := 1) d40_19 ?_
      refine n_iadd d40_20 ?_
      refine q_istore d40_21 (by decide) rfl ?_
      refine qW_srt rfl rfl ?_
      rw [show ycl T i = ycl T i + ycj T i (i + 1) by rw [ycj_0 T i _ (Nat.le_refl _)]; rfl]
      exact l40i hp hr ho (by omega) (by
        refine n_iinc (x := i) 1 d40_65 (by decide) rfl rfl ?_
        refine q_goto 4 d40_68 (by decide) ?_
        refine qW_srt rfl rfl ?_
        exact ih (i + 1) _ _ (by omega) (by omega)) (tn T + 1) (i + 1) (by omega) (by omega) (by omega)
theorem c40 {d : Nat} {M : zM} {Q : Option Value → zM → Prop} {a : Nat} {T : yT} (hp : SPr M a) (hr : RP M a T) (ho : OKT T) (k : Q (some (.int (nI (ycl T (tn T))))) M) : qC (d + 4) 40 [.ref a] M Q := by
  have hn := ho.n
  have h1n := ho.1
  refine qC_of (by decide) (Nat.le_of_ble_eq_true rfl) ?_
  refine q_iconstN (z := 0) d40_0 ?_
  refine q_istore_n d40_1 (by decide) rfl ?_
  refine q_iconstN (z := 0) d40_2 ?_
  refine q_istore_n d40_3 (by decide) rfl ?_
  refine q_iload_n d40_4 rfl ?_
  refine q_aload_n d40_5 rfl ?_
  refine q_getv (c := 1) (f := 6) d40_6 ⟨rfl, by decide⟩ hp.1 hr.1 ?_
  refine nc_ge 71 d40_9 (by decide) (by omega) (by omega) (fun h9 => ?_) (fun h9 => ?_)
  · refine q_iload_n d40_71 rfl ?_
    refine q_iret d40_72 rfl ?_
    omega
  · refine q_aload_n d40_12 rfl ?_
    refine q_iload_n d40_13 rfl ?_
    refine q_v1 d40_14 rfl rfl hp.1 (Nat.le_of_ble_eq_true rfl) (c39 hp hr ho (by omega) ?_)
    refine q_istore_n d40_17 (by decide) rfl ?_
    refine q_iload_n d40_18 rfl ?_
    refine q_iconstN (z := 1) d40_19 ?_
    refine n_iadd d40_20 ?_
    refine q_istore d40_21 (by decide) rfl ?_
    refine qW_srt rfl rfl ?_
    exact l40i (c := 0) (i := 0) hp hr ho (by omega) (by
      refine n_iinc (x := 0) 1 d40_65 (by decide) rfl rfl ?_
      refine q_goto 4 d40_68 (by decide) ?_
      refine qW_srt rfl rfl ?_
      exact l40 hp hr ho k (tn T + 1) 1 _ _ (by omega) (by omega)) (tn T + 1) 1 (by omega) (by omega) (by omega)
/-- how long a chain is that ends at i, looking at steps below j; c: those known -/
def yc1 (T : yT) (c : Nat → Nat) (i : Nat) : Nat → Nat
  | 0 => 1
  | j + 1 => if (ta T i).testBit j then max (yc1 T c i j) (c j + 1) else yc1 T c i j
def ycs (T : yT) : Nat → Nat → Nat
  | 0 => fun _ => 0
  | i + 1 => yu (ycs T i) i (yc1 T (ycs T i) i i)
def ylo (T : yT) : Nat → Nat
  | 0 => 0
  | i + 1 => max (ylo T i) (yc1 T (ycs T i) i i)
theorem yc1_le {T : yT} {c : Nat → Nat} {i b : Nat} (h : ∀ k, c k ≤ b) : ∀ j, yc1 T c i j ≤ b + 1
  | 0 => by show 1 ≤ b + 1; omega
  | j + 1 => by
    have := yc1_le (T := T) (i := i) h j
    have := h j
    rw [yc1]
    split
    · exact Nat.max_le.mpr ⟨by omega, by omega⟩
    · omega
theorem ycs_le (T : yT) : ∀ i k, ycs T i k ≤ i
  | 0, _ => Nat.le_refl _
  | i + 1, k => by
    show yu (ycs T i) i (yc1 T (ycs T i) i i) k ≤ i + 1
    by_cases e : k = i
    · subst e; rw [yu_s]; exact yc1_le (ycs_le T k) k
    · rw [yu_n e]; have := ycs_le T i k; omega
theorem ylo_le (T : yT) : ∀ i, ylo T i ≤ i
  | 0 => Nat.le_refl _
  | i + 1 => by
    have := ylo_le T i
    have := yc1_le (T := T) (i := i) (ycs_le T i) i
    rw [ylo]
    exact Nat.max_le.mpr ⟨by omega, by omega⟩
theorem d34_0 : decode (zB 34) 0 = .ok (.iconst 0, 1) := by decide +kernel
theorem d34_1 : decode (zB 34) 1 = .ok (.istore_n 1, 1) := by decide +kernel
theorem d34_2 : decode (zB 34) 2 = .ok (.iconst 0, 1) := by decide +kernel
theorem d34_3 : decode (zB 34) 3 = .ok (.istore_n 2, 1) := by decide +kernel
theorem d34_4 : decode (zB 34) 4 = .ok (.iload_n 2, 1) := by decide +kernel
theorem d34_5 : decode (zB 34) 5 = .ok (.aload_n 0, 1) := by decide +kernel
theorem d34_6 : decode (zB 34) 6 = .ok (.getfield 34, 3) := by decide +kernel
theorem d34_9 : decode (zB 34) 9 = .ok (.if_icmp .ge 76, 3) := by decide +kernel
theorem d34_12 : decode (zB 34) 12 = .ok (.aload_n 0, 1) := by decide +kernel
theorem d34_13 : decode (zB 34) 13 = .ok (.getfield 27, 3) := by decide +kernel
theorem d34_16 : decode (zB 34) 16 = .ok (.iload_n 2, 1) := by decide +kernel
theorem d34_17 : decode (zB 34) 17 = .ok (.iconst 1, 1) := by decide +kernel
theorem d34_18 : decode (zB 34) 18 = .ok (.iastore, 1) := by decide +kernel
theorem d34_19 : decode (zB 34) 19 = .ok (.iconst 0, 1) := by decide +kernel
theorem d34_20 : decode (zB 34) 20 = .ok (.istore_n 3, 1) := by decide +kernel
theorem d34_21 : decode (zB 34) 21 = .ok (.iload_n 3, 1) := by decide +kernel
theorem d34_22 : decode (zB 34) 22 = .ok (.iload_n 2, 1) := by decide +kernel
theorem d34_23 : decode (zB 34) 23 = .ok (.if_icmp .ge 45, 3) := by decide +kernel
theorem d34_26 : decode (zB 34) 26 = .ok (.aload_n 0, 1) := by decide +kernel
theorem d34_27 : decode (zB 34) 27 = .ok (.getfield 24, 3) := by decide +kernel
theorem d34_30 : decode (zB 34) 30 = .ok (.iload_n 2, 1) := by decide +kernel
theorem d34_31 : decode (zB 34) 31 = .ok (.iaload, 1) := by decide +kernel
theorem d34_32 : decode (zB 34) 32 = .ok (.iload_n 3, 1) := by decide +kernel
theorem d34_33 : decode (zB 34) 33 = .ok (.invokestatic 37, 3) := by decide +kernel
theorem d34_36 : decode (zB 34) 36 = .ok (.ifCond .eq 26, 3) := by decide +kernel
theorem d34_39 : decode (zB 34) 39 = .ok (.aload_n 0, 1) := by decide +kernel
theorem d34_40 : decode (zB 34) 40 = .ok (.getfield 27, 3) := by decide +kernel
theorem d34_43 : decode (zB 34) 43 = .ok (.iload_n 2, 1) := by decide +kernel
theorem d34_44 : decode (zB 34) 44 = .ok (.aload_n 0, 1) := by decide +kernel
theorem d34_45 : decode (zB 34) 45 = .ok (.getfield 27, 3) := by decide +kernel
theorem d34_48 : decode (zB 34) 48 = .ok (.iload_n 2, 1) := by decide +kernel
theorem d34_49 : decode (zB 34) 49 = .ok (.iaload, 1) := by decide +kernel
theorem d34_50 : decode (zB 34) 50 = .ok (.aload_n 0, 1) := by decide +kernel
theorem d34_51 : decode (zB 34) 51 = .ok (.getfield 27, 3) := by decide +kernel
theorem d34_54 : decode (zB 34) 54 = .ok (.iload_n 3, 1) := by decide +kernel
theorem d34_55 : decode (zB 34) 55 = .ok (.iaload, 1) := by decide +kernel
theorem d34_56 : decode (zB 34) 56 = .ok (.iconst 1, 1) := by decide +kernel
theorem d34_57 : decode (zB 34) 57 = .ok (.iadd, 1) := by decide +kernel
theorem d34_58 : decode (zB 34) 58 = .ok (.invokestatic 45, 3) := by decide +kernel
theorem d34_61 : decode (zB 34) 61 = .ok (.iastore, 1) := by decide +kernel
theorem d34_62 : decode (zB 34) 62 = .ok (.iinc 3 1, 3) := by decide +kernel
theorem d34_65 : decode (zB 34) 65 = .ok (.goto (-44), 3) := by decide +kernel
theorem d34_68 : decode (zB 34) 68 = .ok (.iload_n 1, 1) := by decide +kernel
theorem d34_69 : decode (zB 34) 69 = .ok (.aload_n 0, 1) := by decide +kernel
theorem d34_70 : decode (zB 34) 70 = .ok (.getfield 27, 3) := by decide +kernel
theorem d34_73 : decode (zB 34) 73 = .ok (.iload_n 2, 1) := by decide +kernel
theorem d34_74 : decode (zB 34) 74 = .ok (.iaload, 1) := by decide +kernel
theorem d34_75 : decode (zB 34) 75 = .ok (.invokestatic 45, 3) := by decide +kernel
theorem d34_78 : decode (zB 34) 78 = .ok (.istore_n 1, 1) := by decide +kernel
theorem d34_79 : decode (zB 34) 79 = .ok (.iinc 2 1, 3) := by decide +kernel
theorem d34_82 : decode (zB 34) 82 = .ok (.goto (-78), 3) := by decide +kernel
theorem d34_85 : decode (zB 34) 85 = .ok (.iload_n 1, 1) := by decide +kernel
theorem d34_86 : decode (zB 34) 86 = .ok (.ireturn, 1) := by decide +kernel
theorem l34i {d : Nat} {Q : Option Value → zM → Prop} {a : Nat} {T : yT} {i lo : Nat} {M0 : zM} (hp : SPr M0 a) (hr : RP M0 a T) (ho : OKT T) (hi : i < tn T) (k : ∀ M', (∀ q, q ≤ i → zi M' (a + 6) q = nI (ycs T (i + 1) q)) → Fi (fun b _ => b = a + 6) M0 M' → qW (zEv (d + 1)) 34 Q 68 [(0, .ref a), (1, .int (nI lo)), (2, .int (nI i)), (3, .int (nI i))] [] M') : ∀ (r j : Nat) (M1 : zM), j ≤ i → i < j + r → (∀ q, q < i → zi M1 (a + 6) q = nI (ycs T i q)) → zi M1 (a + 6) i = nI (yc1 T (ycs T i) i j) → Fi (fun b _ => b = a + 6) M0 M1 → qW (zEv (d + 1)) 34 Q 21 [(0, .ref a), (1, .int (nI lo)), (2, .int (nI i)), (3, .int (nI j))] [] M1 := by
  intro r
  induction r with
  | zero => intros; omega
  | succ r ih =>
    intro j M1 h1 h2 hq hc hF
    have hn := ho.n
    refine q_iload_n d34_21 rfl ?_
    refine q_iload_n d34_22 rfl ?_
    refine nc_ge 68 d34_23 (by decide) (by omega) (by omega) (fun h23 => ?_) (fun h23 => ?_)
    · refine qW_srt rfl rfl ?_
      rw [show j = i by omega] at hc ⊢
      refine k _ (fun q hq1 => ?_) hF
      show _ = nI (yu (ycs T i) i (yc1 T (ycs T i) i i) q)
      by_cases e : q = i
      · subst e; rw [yu_s]; exact hc
      · rw [yu_n e]; exact hq q (by omega)
    · have ha1 : ta T i < 4096 := ho.a hi
      have hb1 := yc1_le (T := T) (i := i) (ycs_le T i) j
      have hb2 := ycs_le T i j
      refine q_aload_n d34_26 rfl ?_
      refine q_getr (c := 1) (f := 4) d34_27 ⟨rfl, rfl⟩ (SPr_fi hp hF).1 ((SPr_fi hp hF).2 4 (by decide)).1 ?_
      refine q_iload_n d34_30 rfl ?_
      refine n_iald d34_31 ((SPr_fi hp hF).2 4 (by decide)).2 (by omega) (by decide) ((RP_fr hr hF.fr (fun b q h1 h2 e => by omega)).2.2 _ (by omega)).2.2.2.2 ?_
      refine q_iload_n d34_32 rfl ?_
      refine q_s2 d34_33 (Or.inr rfl) rfl (Nat.le_of_ble_eq_true rfl) (c35 (by omega) (by omega) ?_)
      refine b0_eq 62 d34_36 (by decide) (fun h36 => ?_) (fun h36 => ?_)
      · refine n_iinc 1 d34_62 (by decide) rfl rfl ?_
        refine q_goto 21 d34_65 (by decide) ?_
        refine qW_srt rfl rfl ?_
        first
        | (refine ih (j + 1) _ (by omega) (by omega) (fun q hq1 => ?_) ?_ (hF.wi rfl)
           · rw [wi_n (Or.inr (by omega))]; exact hq q hq1
           · rw [wi_s, yc1, if_pos h36])
        | exact ih (j + 1) _ (by omega) (by omega) hq (by rw [hc, yc1, h36, if_neg (by decide)]) hF
      · refine q_aload_n d34_39 rfl ?_
        refine q_getr (c := 1) (f := 5) d34_40 ⟨rfl, rfl⟩ (SPr_fi hp hF).1 ((SPr_fi hp hF).2 5 (by decide)).1 ?_
        refine q_iload_n d34_43 rfl ?_
        refine q_aload_n d34_44 rfl ?_
        refine q_getr (c := 1) (f := 5) d34_45 ⟨rfl, rfl⟩ (SPr_fi hp hF).1 ((SPr_fi hp hF).2 5 (by decide)).1 ?_
        refine q_iload_n d34_48 rfl ?_
        refine n_iald d34_49 ((SPr_fi hp hF).2 5 (by decide)).2 (by omega) (by decide) hc ?_
        refine q_aload_n d34_50 rfl ?_
        refine q_getr (c := 1) (f := 5) d34_51 ⟨rfl, rfl⟩ (SPr_fi hp hF).1 ((SPr_fi hp hF).2 5 (by decide)).1 ?_
        refine q_iload_n d34_54 rfl ?_
        refine n_iald d34_55 ((SPr_fi hp hF).2 5 (by decide)).2 (by omega) (by decide) (hq _ (by omega)) ?_
        refine q_iconstN (z := 1) d34_56 ?_
        refine n_iadd d34_57 ?_
        refine q_max d34_58 rfl (Nat.le_of_ble_eq_true rfl) ?_
        rw [n_maxN (by omega) (by omega)]
        refine n_iast d34_61 ((SPr_fi hp hF).2 5 (by decide)).2 (by omega) (by decide) ?_
        refine n_iinc 1 d34_62 (by decide) rfl rfl ?_
        refine q_goto 21 d34_65 (by decide) ?_
        refine qW_srt rfl rfl ?_
        first
        | (refine ih (j + 1) _ (by omega) (by omega) (fun q hq1 => ?_) ?_ (hF.wi rfl)
           · rw [wi_n (Or.inr (by omega))]; exact hq q hq1
           · rw [wi_s, yc1, if_pos h36])
        | exact ih (j + 1) _ (by omega) (by omega) hq (by rw [hc, yc1, h36, if_neg (by decide)]) hF
theorem l34 {d : Nat} {Q : Option Value → zM → Prop} {a : Nat} {T : yT} {M0 : zM} (hp : SPr M0 a) (hr : RP M0 a T) (ho : OKT T) (k : ∀ M', Fi (fun b _ => b = a + 6) M0 M' → Q (some (.int (nI (ylo T (tn T))))) M') : ∀ (r i : Nat) (a3 : Value) (M1 : zM), i ≤ tn T → tn T < i + r → (∀ q, q < i → zi M1 (a + 6) q = nI (ycs T i q)) → Fi (fun b _ => b = a + 6) M0 M1 → qW (zEv (d + 1)) 34 Q 4 [(0, .ref a), (1, .int (nI (ylo T i))), (2, .int (nI i)), (3, a3)] [] M1 := by
  intro r
  induction r with
  | zero => intros; omega
  | succ r ih =>
    intro i a3 M1 h1 h2 hq hF
    have hn := ho.n
    refine q_iload_n d34_4 rfl ?_
    refine q_aload_n d34_5 rfl ?_
    refine q_getv (c := 1) (f := 6) d34_6 ⟨rfl, by decide⟩ (SPr_fi hp hF).1 (RP_fr hr hF.fr (fun b q h1 h2 e => by omega)).1 ?_
    refine nc_ge 85 d34_9 (by decide) (by omega) (by omega) (fun h9 => ?_) (fun h9 => ?_)
    · refine q_iload_n d34_85 rfl ?_
      refine q_iret d34_86 rfl ?_
      rw [show i = tn T by omega]; exact k _ hF
    · refine q_aload_n d34_12 rfl ?_
      refine q_getr (c := 1) (f := 5) d34_13 ⟨rfl, rfl⟩ (SPr_fi hp hF).1 ((SPr_fi hp hF).2 5 (by decide)).1 ?_
      refine q_iload_n d34_16 rfl ?_
      refine q_iconstN (z := 1) d34_17 ?_
      refine n_iast d34_18 ((SPr_fi hp hF).2 5 (by decide)).2 (by omega) (by decide) ?_
      refine q_iconstN (z := 0) d34_19 ?_
      refine q_istore_n d34_20 (by decide) rfl ?_
      refine qW_srt rfl rfl ?_
      exact l34i (lo := ylo T i) hp hr ho (by omega) (fun M2 hq2 hF2 => by
        have hn2 := ho.n
        have hb1 := yc1_le (T := T) (i := i) (ycs_le T i) i
        have hb3 := ylo_le T i
        have hc0 : zi M2 (a + 6) i = nI (yc1 T (ycs T i) i i) := (hq2 i (Nat.le_refl _)).trans (congrArg nI (yu_s _ _ _))
        refine q_iload_n d34_68 rfl ?_
        refine q_aload_n d34_69 rfl ?_
        refine q_getr (c := 1) (f := 5) d34_70 ⟨rfl, rfl⟩ (SPr_fi hp hF2).1 ((SPr_fi hp hF2).2 5 (by decide)).1 ?_
        refine q_iload_n d34_73 rfl ?_
        refine n_iald d34_74 ((SPr_fi hp hF2).2 5 (by decide)).2 (by omega) (by decide) hc0 ?_
        refine q_max d34_75 rfl (Nat.le_of_ble_eq_true rfl) ?_
        rw [n_maxN (by omega) (by omega)]
        refine q_istore_n d34_78 (by decide) rfl ?_
        refine n_iinc (x := i) 1 d34_79 (by decide) rfl rfl ?_
        refine q_goto 4 d34_82 (by decide) ?_
        refine qW_srt rfl rfl ?_
        exact ih (i + 1) _ _ (by omega) (by omega) (fun q hq1 => hq2 q (by omega)) hF2) (i + 1) 0 _ (by omega) (by omega) (fun q hq1 => (wi_n (Or.inr (by omega))).trans (hq q hq1)) (wi_s _ _ _ _) (hF.wi rfl)
theorem c34 {d : Nat} {M : zM} {Q : Option Value → zM → Prop} {a : Nat} {T : yT} (hp : SPr M a) (hr : RP M a T) (ho : OKT T) (k : ∀ M', Fi (fun b _ => b = a + 6) M M' → Q (some (.int (nI (ylo T (tn T))))) M') : qC (d + 2) 34 [.ref a] M Q := by
  have hn := ho.n
  have h1n := ho.1
  refine qC_of (by decide) (Nat.le_of_ble_eq_true rfl) ?_
  refine q_iconstN (z := 0) d34_0 ?_
  refine q_istore_n d34_1 (by decide) rfl ?_
  refine q_iconstN (z := 0) d34_2 ?_
  refine q_istore_n d34_3 (by decide) rfl ?_
  refine q_iload_n d34_4 rfl ?_
  refine q_aload_n d34_5 rfl ?_
  refine q_getv (c := 1) (f := 6) d34_6 ⟨rfl, by decide⟩ hp.1 hr.1 ?_
  refine nc_ge 85 d34_9 (by decide) (by omega) (by omega) (fun h9 => ?_) (fun h9 => ?_)
  · refine q_iload_n d34_85 rfl ?_
    refine q_iret d34_86 rfl ?_
    omega
  · refine q_aload_n d34_12 rfl ?_
    refine q_getr (c := 1) (f := 5) d34_13 ⟨rfl, rfl⟩ hp.1 (hp.2 5 (by decide)).1 ?_
    refine q_iload_n d34_16 rfl ?_
    refine q_iconstN (z := 1) d34_17 ?_
    refine n_iast d34_18 (hp.2 5 (by decide)).2 (by omega) (by decide) ?_
    refine q_iconstN (z := 0) d34_19 ?_
    refine q_istore_n d34_20 (by decide) rfl ?_
    refine qW_srt rfl rfl ?_
    exact l34i (lo := 0) hp hr ho (by omega) (fun M2 hq2 hF2 => by
      have hn2 := ho.n
      have hb1 := yc1_le (T := T) (i := 0) (ycs_le T 0) 0
      have hb3 := ylo_le T 0
      have hc0 : zi M2 (a + 6) 0 = nI (yc1 T (ycs T 0) 0 0) := (hq2 0 (Nat.le_refl _)).trans (congrArg nI (yu_s _ _ _))
      refine q_iload_n d34_68 rfl ?_
      refine q_aload_n d34_69 rfl ?_
      refine q_getr (c := 1) (f := 5) d34_70 ⟨rfl, rfl⟩ (SPr_fi hp hF2).1 ((SPr_fi hp hF2).2 5 (by decide)).1 ?_
      refine q_iload_n d34_73 rfl ?_
      refine n_iald d34_74 ((SPr_fi hp hF2).2 5 (by decide)).2 (by omega) (by decide) hc0 ?_
      refine q_max d34_75 rfl (Nat.le_of_ble_eq_true rfl) ?_
      rw [n_maxN (by omega) (by omega)]
      refine q_istore_n d34_78 (by decide) rfl ?_
      refine n_iinc (x := 0) 1 d34_79 (by decide) rfl rfl ?_
      refine q_goto 4 d34_82 (by decide) ?_
      refine qW_srt rfl rfl ?_
      exact l34 hp hr ho k (tn T + 1) 1 _ _ (by omega) (by omega) (fun q hq1 => hq2 q (by omega)) hF2) (0 + 1) 0 _ (by omega) (by omega) (fun q hq1 => absurd hq1 (by omega)) (wi_s _ _ _ _) ((Fi.refl _ _).wi rfl)
