/-! ===== contracts: ORDERS ===== -/
/-- ORDERS: sums of ways -/
def ysm (f : Nat → Int64) : Nat → Int64
  | 0 => 0
  | n + 1 => ysm f n + f n
theorem ysm_ext {f g : Nat → Int64} : ∀ {n : Nat}, (∀ i, i < n → f i = g i) → ysm f n = ysm g n
  | 0, _ => rfl
  | n + 1, h => by rw [ysm, ysm, ysm_ext (fun i hi => h i (by omega)), h n (by omega)]
theorem ysm_add {f g : Nat → Int64} {v : Int64} {j : Nat} : ∀ {n : Nat}, j < n → g j = f j + v → (∀ i, i < n → i ≠ j → g i = f i) → ysm g n = ysm f n + v
  | 0, h, _, _ => absurd h (Nat.not_lt_zero _)
  | n + 1, h, hj, ho => by
    rw [ysm, ysm]
    by_cases e : j = n
    · subst e
      rw [ysm_ext (fun i hi => ho i (by omega) (by omega)), hj, Int64.add_assoc]
    · rw [ysm_add (v := v) (by omega) hj (fun i hi he => ho i (by omega) he), ho n (by omega) (by omega), Int64.add_assoc, Int64.add_comm v, ← Int64.add_assoc]
theorem ysm_0 {f : Nat → Int64} : ∀ {n : Nat}, (∀ i, i < n → f i = 0) → ysm f n = 0
  | 0, _ => rfl
  | n + 1, h => by rw [ysm, ysm_0 (fun i hi => h i (by omega)), h n (by omega)]; rfl
def ytm (T : yT) (t i : Nat) : Bool := t.testBit i && zdf (ta T i) (zdf t (2 ^ i)) == 0
def yov (T : yT) (c : Nat → Int64) (t : Nat) : Int64 := if t = 0 then 1 else ysm (fun i => if ytm T t i then c (zdf t (2 ^ i)) else 0) (tn T)
def ygs (T : yT) : Nat → Nat → Int64
  | 0 => fun _ => 0
  | t + 1 => yu (ygs T t) t (yov T (ygs T t) t)
/-- in how many ways a set comes -/
def yg (T : yT) (t : Nat) : Int64 := yov T (ygs T t) t
theorem ygs_v {T : yT} : ∀ {S x : Nat}, x < S → ygs T S x = yg T x
  | 0, _, h => absurd h (Nat.not_lt_zero _)
  | S + 1, x, h => by
    show yu (ygs T S) S (yov T (ygs T S) S) x = _
    by_cases e : x = S
    · subst e; rw [yu_s]; rfl
    · rw [yu_n e]; exact ygs_v (by omega)
theorem bit_lt {t i : Nat} (h : t.testBit i = true) : zdf t (2 ^ i) < t := by
  have h1 : zdf t (2 ^ i) ≠ t := fun e => by
    have := bit_df t i i
    rw [e, h] at this; simp at this
  have h2 : zdf t (2 ^ i) ≤ t := by
    have : zdf t (2 ^ i) = t &&& zdf t (2 ^ i) := by
      apply Nat.eq_of_testBit_eq
      intro k
      rw [Nat.testBit_and, bit_df]; cases t.testBit k <;> rfl
    rw [this]; exact Nat.and_le_left
  omega
theorem ytm_b {T : yT} {t i : Nat} (h : ytm T t i = true) : t.testBit i = true := by unfold ytm at h; simp only [Bool.and_eq_true] at h; exact h.1
theorem yg_eq (T : yT) (t : Nat) : yg T t = if t = 0 then 1 else ysm (fun i => if ytm T t i then yg T (zdf t (2 ^ i)) else 0) (tn T) := by
  unfold yg yov
  split
  · rfl
  · refine ysm_ext (fun i hi => ?_)
    by_cases h : ytm T t i = true
    · rw [if_pos h, if_pos h]; exact ygs_v (bit_lt (ytm_b h))
    · rw [if_neg h, if_neg h]
/-- what is told when the sets below S are through, of S the steps below j -/
def ypw (T : yT) (S j t : Nat) : Int64 := if t = 0 then 1 else ysm (fun i => if ytm T t i && (decide (zdf t (2 ^ i) < S) || (zdf t (2 ^ i) == S && decide (i < j))) then yg T (zdf t (2 ^ i)) else 0) (tn T)
theorem ypw_v {T : yT} {S j t : Nat} (h : t ≤ S) : ypw T S j t = yg T t := by
  rw [yg_eq]
  unfold ypw
  split
  · rfl
  · refine ysm_ext (fun i hi => ?_)
    by_cases e : ytm T t i = true
    · have := bit_lt (ytm_b e)
      rw [if_pos e, if_pos (by rw [e, decide_eq_true (show zdf t (2 ^ i) < S by omega)]; rfl)]
    · rw [if_neg e, if_neg (by simp [e])]
theorem ypw_n {T : yT} {S t : Nat} : ypw T S (tn T) t = ypw T (S + 1) 0 t := by
  unfold ypw
  split
  · rfl
  · refine ysm_ext (fun i hi => ?_)
    have : (decide (zdf t (2 ^ i) < S) || (zdf t (2 ^ i) == S && decide (i < tn T))) = (decide (zdf t (2 ^ i) < S + 1) || (zdf t (2 ^ i) == S + 1 && decide (i < 0))) := by
      rw [decide_eq_true hi, Bool.and_true, decide_eq_false (Nat.not_lt_zero i), Bool.and_false, Bool.or_false]
      rcases Nat.lt_trichotomy (zdf t (2 ^ i)) S with q | q | q
      · rw [decide_eq_true q, decide_eq_true (by omega)]; rfl
      · rw [q]; simp
      · rw [decide_eq_false (by omega), decide_eq_false (by omega), beq_false_of_ne (by omega)]; rfl
    rw [this]
theorem ypw_0 {T : yT} {t : Nat} : ypw T 0 0 t = if t = 0 then 1 else 0 := by
  unfold ypw
  split
  · rfl
  · refine ysm_0 (fun i hi => ?_)
    rw [if_neg]
    rw [decide_eq_false (Nat.not_lt_zero _), decide_eq_false (Nat.not_lt_zero _), Bool.and_false, Bool.or_false, Bool.and_false]; decide
theorem or_df {S j : Nat} (h : S.testBit j = false) : zdf (S ||| 2 ^ j) (2 ^ j) = S := by
  apply Nat.eq_of_testBit_eq
  intro k
  rw [bit_df, bit_or]
  by_cases e : k = j
  · subst e; rw [h]; simp
  · simp [e]
theorem df_or {t j : Nat} (h : t.testBit j = true) : zdf t (2 ^ j) ||| 2 ^ j = t := by
  apply Nat.eq_of_testBit_eq
  intro k
  rw [bit_or, bit_df]
  by_cases e : k = j
  · subst e; rw [h]; simp
  · simp [e]
theorem ynx_b {T : yT} {S j : Nat} : (ynx T S).testBit j = (decide (j < tn T) && (!S.testBit j && zdf (ta T j) S == 0)) := ymk_bit _ _ _
theorem ypw_t {T : yT} {S j : Nat} (hj : j < tn T) (h : (ynx T S).testBit j = true) : ypw T S (j + 1) (S ||| 2 ^ j) = ypw T S j (S ||| 2 ^ j) + yg T S := by
  rw [ynx_b, decide_eq_true hj, Bool.true_and, Bool.and_eq_true, Bool.not_eq_true'] at h
  have hd := or_df h.1
  have hb : (S ||| 2 ^ j).testBit j = true := by rw [bit_or]; simp
  have h0 : S ||| 2 ^ j ≠ 0 := fun e => by rw [e, Nat.zero_testBit] at hb; cases hb
  have hm : ytm T (S ||| 2 ^ j) j = true := by unfold ytm; rw [hd, hb, h.2]; rfl
  unfold ypw
  rw [if_neg h0, if_neg h0]
  refine ysm_add hj ?_ (fun i hi he => ?_)
  · simp only [hd, hm]
    rw [if_pos (by simp), if_neg (by simp)]; exact (Int64.zero_add _).symm
  · have : decide (i < j + 1) = decide (i < j) := by simp only [decide_eq_decide]; omega
    simp only [this]
theorem ypw_f {T : yT} {S j t : Nat} (hj : j < tn T) (h : (ynx T S).testBit j = true → yg T S = 0 ∨ t ≠ S ||| 2 ^ j) : ypw T S (j + 1) t = ypw T S j t := by
  unfold ypw
  split
  · rfl
  · refine ysm_ext (fun i hi => ?_)
    by_cases e : i = j
    · subst e
      by_cases hm : ytm T t i = true
      · by_cases hx : zdf t (2 ^ i) = S
        · have hb := ytm_b hm
          have ht : t = S ||| 2 ^ i := by rw [← hx, df_or hb]
          have hn : (ynx T S).testBit i = true := by
            rw [ynx_b, decide_eq_true hi]
            unfold ytm at hm
            rw [hx, hb] at hm
            have : S.testBit i = false := by rw [← hx, bit_df]; simp
            rw [this]; exact hm
          rcases h hn with q | q
          · rw [hx, q]; split <;> split <;> rfl
          · exact absurd ht q
        · rw [show (zdf t (2 ^ i) == S) = false from beq_false_of_ne hx]; simp
      · rw [show ytm T t i = false by simpa using hm]; simp
    · have : decide (i < j + 1) = decide (i < j) := by simp only [decide_eq_decide]; omega
      rw [this]
/-- only the row of longs b is written -/
def Fl (b : Nat) (M M' : zM) : Prop := M'.1 = M.1 ∧ M'.2.1 = M.2.1 ∧ M'.2.2.2 = M.2.2.2 ∧ ∀ c, c ≠ b → ∀ j, zl M' c j = zl M c j
theorem Fl.refl (b : Nat) (M : zM) : Fl b M M := ⟨rfl, rfl, rfl, fun _ _ _ => rfl⟩
theorem Fl.wl {b j : Nat} {M M' : zM} {v : Int64} (h : Fl b M M') : Fl b M (zwl M' b j v) := ⟨h.1, h.2.1, h.2.2.1, fun c hc q => by rw [wl_eq, if_neg (fun e => hc e.1)]; exact h.2.2.2 c hc q⟩
theorem Fl.i {b : Nat} {M M' : zM} (h : Fl b M M') (a k : Nat) : zi M' a k = zi M a k := congrFun (congrFun h.1 a) k
theorem Fl.r {b : Nat} {M M' : zM} (h : Fl b M M') (a k : Nat) : zr M' a k = zr M a k := congrFun (congrFun h.2.1 a) k
theorem Fl.k {b : Nat} {M M' : zM} (h : Fl b M M') (a : Nat) : zk M' a = zk M a := congrFun (congrArg (fun q => q.1) h.2.2.1) a
theorem SPr_fl {b : Nat} {M M' : zM} {a : Nat} (h : SPr M a) (f : Fl b M M') : SPr M' a := ⟨(f.k _).trans h.1, fun g hg => ⟨(f.r _ _).trans (h.2 g hg).1, (f.k _).trans (h.2 g hg).2⟩⟩
theorem RP_fl {b : Nat} {M M' : zM} {a : Nat} {T : yT} (h : RP M a T) (f : Fl b M M') : RP M' a T := ⟨(f.i _ _).trans h.1, (f.i _ _).trans h.2.1, fun k hk => ⟨(f.i _ _).trans (h.2.2 k hk).1, (f.i _ _).trans (h.2.2 k hk).2.1, (f.i _ _).trans (h.2.2 k hk).2.2.1, (f.i _ _).trans (h.2.2 k hk).2.2.2.1, (f.i _ _).trans (h.2.2 k hk).2.2.2.2⟩⟩
theorem wl_s {M : zM} {a k : Nat} {v : Int64} : zl (zwl M a k v) a k = v := by rw [wl_eq, if_pos ⟨rfl, rfl⟩]
theorem wl_n {M : zM} {a k b j : Nat} {v : Int64} (h : b ≠ a ∨ j ≠ k) : zl (zwl M a k v) b j = zl M b j := by rw [wl_eq, if_neg (by omega)]
theorem d55_0 : decode (zB 55) 0 = .ok (.aload_n 0, 1) := by decide +kernel
theorem d55_1 : decode (zB 55) 1 = .ok (.invokevirtual 41, 3) := by decide +kernel
theorem d55_4 : decode (zB 55) 4 = .ok (.istore_n 2, 1) := by decide +kernel
theorem d55_5 : decode (zB 55) 5 = .ok (.aload_n 1, 1) := by decide +kernel
theorem d55_6 : decode (zB 55) 6 = .ok (.arraylength, 1) := by decide +kernel
theorem d55_7 : decode (zB 55) 7 = .ok (.iload_n 2, 1) := by decide +kernel
theorem d55_8 : decode (zB 55) 8 = .ok (.if_icmp .gt 5, 3) := by decide +kernel
theorem d55_11 : decode (zB 55) 11 = .ok (.lconst 0, 1) := by decide +kernel
theorem d55_12 : decode (zB 55) 12 = .ok (.lreturn, 1) := by decide +kernel
theorem d55_13 : decode (zB 55) 13 = .ok (.iconst 1, 1) := by decide +kernel
theorem d55_14 : decode (zB 55) 14 = .ok (.istore_n 3, 1) := by decide +kernel
theorem d55_15 : decode (zB 55) 15 = .ok (.iload_n 3, 1) := by decide +kernel
theorem d55_16 : decode (zB 55) 16 = .ok (.iload_n 2, 1) := by decide +kernel
theorem d55_17 : decode (zB 55) 17 = .ok (.if_icmp .gt 13, 3) := by decide +kernel
theorem d55_20 : decode (zB 55) 20 = .ok (.aload_n 1, 1) := by decide +kernel
theorem d55_21 : decode (zB 55) 21 = .ok (.iload_n 3, 1) := by decide +kernel
theorem d55_22 : decode (zB 55) 22 = .ok (.lconst 0, 1) := by decide +kernel
theorem d55_23 : decode (zB 55) 23 = .ok (.lastore, 1) := by decide +kernel
theorem d55_24 : decode (zB 55) 24 = .ok (.iinc 3 1, 3) := by decide +kernel
theorem d55_27 : decode (zB 55) 27 = .ok (.goto (-12), 3) := by decide +kernel
theorem d55_30 : decode (zB 55) 30 = .ok (.aload_n 1, 1) := by decide +kernel
theorem d55_31 : decode (zB 55) 31 = .ok (.iconst 0, 1) := by decide +kernel
theorem d55_32 : decode (zB 55) 32 = .ok (.lconst 1, 1) := by decide +kernel
theorem d55_33 : decode (zB 55) 33 = .ok (.lastore, 1) := by decide +kernel
theorem d55_34 : decode (zB 55) 34 = .ok (.iconst 0, 1) := by decide +kernel
theorem d55_35 : decode (zB 55) 35 = .ok (.istore_n 3, 1) := by decide +kernel
theorem d55_36 : decode (zB 55) 36 = .ok (.iload_n 3, 1) := by decide +kernel
theorem d55_37 : decode (zB 55) 37 = .ok (.iload_n 2, 1) := by decide +kernel
theorem d55_38 : decode (zB 55) 38 = .ok (.if_icmp .ge 70, 3) := by decide +kernel
theorem d55_41 : decode (zB 55) 41 = .ok (.aload_n 1, 1) := by decide +kernel
theorem d55_42 : decode (zB 55) 42 = .ok (.iload_n 3, 1) := by decide +kernel
theorem d55_43 : decode (zB 55) 43 = .ok (.laload, 1) := by decide +kernel
theorem d55_44 : decode (zB 55) 44 = .ok (.lconst 0, 1) := by decide +kernel
theorem d55_45 : decode (zB 55) 45 = .ok (.lcmp, 1) := by decide +kernel
theorem d55_46 : decode (zB 55) 46 = .ok (.ifCond .ne 7, 3) := by decide +kernel
theorem d55_49 : decode (zB 55) 49 = .ok (.iconst 0, 1) := by decide +kernel
theorem d55_50 : decode (zB 55) 50 = .ok (.goto 8, 3) := by decide +kernel
theorem d55_53 : decode (zB 55) 53 = .ok (.aload_n 0, 1) := by decide +kernel
theorem d55_54 : decode (zB 55) 54 = .ok (.iload_n 3, 1) := by decide +kernel
theorem d55_55 : decode (zB 55) 55 = .ok (.invokevirtual 66, 3) := by decide +kernel
theorem d55_58 : decode (zB 55) 58 = .ok (.istore 4, 2) := by decide +kernel
theorem d55_60 : decode (zB 55) 60 = .ok (.iconst 0, 1) := by decide +kernel
theorem d55_61 : decode (zB 55) 61 = .ok (.istore 5, 2) := by decide +kernel
theorem d55_63 : decode (zB 55) 63 = .ok (.iload 5, 2) := by decide +kernel
theorem d55_65 : decode (zB 55) 65 = .ok (.aload_n 0, 1) := by decide +kernel
theorem d55_66 : decode (zB 55) 66 = .ok (.getfield 34, 3) := by decide +kernel
theorem d55_69 : decode (zB 55) 69 = .ok (.if_icmp .ge 33, 3) := by decide +kernel
theorem d55_72 : decode (zB 55) 72 = .ok (.iload 4, 2) := by decide +kernel
theorem d55_74 : decode (zB 55) 74 = .ok (.iload 5, 2) := by decide +kernel
theorem d55_76 : decode (zB 55) 76 = .ok (.invokestatic 37, 3) := by decide +kernel
theorem d55_79 : decode (zB 55) 79 = .ok (.ifCond .eq 17, 3) := by decide +kernel
theorem d55_82 : decode (zB 55) 82 = .ok (.aload_n 1, 1) := by decide +kernel
theorem d55_83 : decode (zB 55) 83 = .ok (.iload_n 3, 1) := by decide +kernel
theorem d55_84 : decode (zB 55) 84 = .ok (.iconst 1, 1) := by decide +kernel
theorem d55_85 : decode (zB 55) 85 = .ok (.iload 5, 2) := by decide +kernel
theorem d55_87 : decode (zB 55) 87 = .ok (.ishl, 1) := by decide +kernel
theorem d55_88 : decode (zB 55) 88 = .ok (.ior, 1) := by decide +kernel
theorem d55_89 : decode (zB 55) 89 = .ok (.dup2, 1) := by decide +kernel
theorem d55_90 : decode (zB 55) 90 = .ok (.laload, 1) := by decide +kernel
theorem d55_91 : decode (zB 55) 91 = .ok (.aload_n 1, 1) := by decide +kernel
theorem d55_92 : decode (zB 55) 92 = .ok (.iload_n 3, 1) := by decide +kernel
theorem d55_93 : decode (zB 55) 93 = .ok (.laload, 1) := by decide +kernel
theorem d55_94 : decode (zB 55) 94 = .ok (.ladd, 1) := by decide +kernel
theorem d55_95 : decode (zB 55) 95 = .ok (.lastore, 1) := by decide +kernel
theorem d55_96 : decode (zB 55) 96 = .ok (.iinc 5 1, 3) := by decide +kernel
theorem d55_99 : decode (zB 55) 99 = .ok (.goto (-36), 3) := by decide +kernel
theorem d55_102 : decode (zB 55) 102 = .ok (.iinc 3 1, 3) := by decide +kernel
theorem d55_105 : decode (zB 55) 105 = .ok (.goto (-69), 3) := by decide +kernel
theorem d55_108 : decode (zB 55) 108 = .ok (.aload_n 1, 1) := by decide +kernel
theorem d55_109 : decode (zB 55) 109 = .ok (.iload_n 2, 1) := by decide +kernel
theorem d55_110 : decode (zB 55) 110 = .ok (.laload, 1) := by decide +kernel
theorem d55_111 : decode (zB 55) 111 = .ok (.lreturn, 1) := by decide +kernel
theorem l55i {d : Nat} {Q : Option Value → zM → Prop} {a b : Nat} {T : yT} {M0 : zM} {S x : Nat} (hp : SPr M0 a) (hr : RP M0 a T) (ho : OKT T) (hb : zk M0 b = (21, 4096)) (hS : S < 2 ^ tn T - 1) (hx : x = if yg T S = 0 then 0 else ynx T S) (k : ∀ M', (∀ t, t < 2 ^ tn T → zl M' b t = ypw T S (tn T) t) → Fl b M0 M' → qW (zEv (d + 2)) 55 Q 102 [(0, .ref a), (1, .ref b), (2, .int (nI (2 ^ tn T - 1))), (3, .int (nI S)), (4, .int (nI x)), (5, .int (nI (tn T)))] [] M') : ∀ (r i : Nat) (M1 : zM), i ≤ tn T → tn T < i + r → (∀ t, t < 2 ^ tn T → zl M1 b t = ypw T S i t) → Fl b M0 M1 → qW (zEv (d + 2)) 55 Q 63 [(0, .ref a), (1, .ref b), (2, .int (nI (2 ^ tn T - 1))), (3, .int (nI S)), (4, .int (nI x)), (5, .int (nI i))] [] M1 := by
  intro r
  induction r with
  | zero => intros; omega
  | succ r ih =>
    intro i M1 h1 h2 hw hF
    have hn := ho.n
    have hz : 2 ^ tn T ≤ 4096 := pow_12 hn
    have hz0 : 0 < 2 ^ tn T := Nat.two_pow_pos _
    have hnx : ynx T S < 4096 := ymk_lt12 _ hn
    have hx4 : x < 4096 := by rw [hx]; split <;> omega
    refine q_iload d55_63 rfl ?_
    refine q_aload_n d55_65 rfl ?_
    refine q_getv (c := 1) (f := 6) d55_66 ⟨rfl, by decide⟩ (SPr_fl hp hF).1 (RP_fl hr hF).1 ?_
    refine nc_ge 102 d55_69 (by decide) (by omega) (by omega) (fun h69 => ?_) (fun h69 => ?_)
    · refine qW_srt rfl rfl ?_
      rw [show i = tn T by omega] at hw ⊢
      exact k _ hw hF
    · refine q_iload d55_72 rfl ?_
      refine q_iload d55_74 rfl ?_
      refine q_s2 d55_76 (Or.inr rfl) rfl (Nat.le_of_ble_eq_true rfl) (c35 (by omega) (by omega) ?_)
      refine b0_eq 96 d55_79 (by decide) (fun h79 => ?_) (fun h79 => ?_)
      · refine n_iinc 1 d55_96 (by decide) rfl rfl ?_
        refine q_goto 63 d55_99 (by decide) ?_
        refine qW_srt rfl rfl ?_
        first
        | (have hg : ¬ yg T S = 0 := fun q => by rw [hx, if_pos q, Nat.zero_testBit] at h79; cases h79
           rw [hx, if_neg hg] at h79
           refine ih (i + 1) _ (by omega) (by omega) (fun t ht => ?_) hF.wl
           by_cases e : t = S ||| 2 ^ i
           · subst e; rw [wl_s, ypw_t (by omega) h79, ypw_v (t := S) (Nat.le_refl S)]
           · rw [wl_n (Or.inr e), hw t ht]; exact (ypw_f (by omega) (fun _ => Or.inr e)).symm)
        | (refine ih (i + 1) _ (by omega) (by omega) (fun t ht => ?_) hF
           rw [hw t ht]
           refine (ypw_f (by omega) (fun q => ?_)).symm
           by_cases hg : yg T S = 0
           · exact Or.inl hg
           · rw [hx, if_neg hg, q] at h79; cases h79)
      · have hor : S ||| 2 ^ i < 2 ^ tn T := or_lt (by omega) (pow_lt (by omega))
        refine q_aload_n d55_82 rfl ?_
        refine q_iload_n d55_83 rfl ?_
        refine q_iconstN (z := 1) d55_84 ?_
        refine q_iload d55_85 rfl ?_
        refine n_ishl1 d55_87 (by omega) ?_
        refine n_ior d55_88 ?_
        refine q_dup2 d55_89 rfl rfl ?_
        refine n_lald d55_90 ((hF.k _).trans hb) (by omega) (by decide) (hw _ hor) ?_
        refine q_aload_n d55_91 rfl ?_
        refine q_iload_n d55_92 rfl ?_
        refine n_lald d55_93 ((hF.k _).trans hb) (by omega) (by decide) (hw _ (by omega)) ?_
        refine q_ladd d55_94 ?_
        refine n_last d55_95 ((hF.k _).trans hb) (by omega) (by decide) ?_
        refine n_iinc 1 d55_96 (by decide) rfl rfl ?_
        refine q_goto 63 d55_99 (by decide) ?_
        refine qW_srt rfl rfl ?_
        first
        | (have hg : ¬ yg T S = 0 := fun q => by rw [hx, if_pos q, Nat.zero_testBit] at h79; cases h79
           rw [hx, if_neg hg] at h79
           refine ih (i + 1) _ (by omega) (by omega) (fun t ht => ?_) hF.wl
           by_cases e : t = S ||| 2 ^ i
           · subst e; rw [wl_s, ypw_t (by omega) h79, ypw_v (t := S) (Nat.le_refl S)]
           · rw [wl_n (Or.inr e), hw t ht]; exact (ypw_f (by omega) (fun _ => Or.inr e)).symm)
        | (refine ih (i + 1) _ (by omega) (by omega) (fun t ht => ?_) hF
           rw [hw t ht]
           refine (ypw_f (by omega) (fun q => ?_)).symm
           by_cases hg : yg T S = 0
           · exact Or.inl hg
           · rw [hx, if_neg hg, q] at h79; cases h79)
theorem l55 {d : Nat} {Q : Option Value → zM → Prop} {a b : Nat} {T : yT} {M0 : zM} (hp : SPr M0 a) (hr : RP M0 a T) (ho : OKT T) (hb : zk M0 b = (21, 4096)) (k : ∀ M', Fl b M0 M' → Q (some (.long (yg T (2 ^ tn T - 1)))) M') : ∀ (r i : Nat) (a4 a5 : Value) (M1 : zM), i ≤ (2 ^ tn T - 1) → (2 ^ tn T - 1) < i + r → (∀ t, t < 2 ^ tn T → zl M1 b t = ypw T i 0 t) → Fl b M0 M1 → qW (zEv (d + 2)) 55 Q 36 [(0, .ref a), (1, .ref b), (2, .int (nI (2 ^ tn T - 1))), (3, .int (nI i)), (4, a4), (5, a5)] [] M1 := by
  intro r
  induction r with
  | zero => intros; omega
  | succ r ih =>
    intro i a4 a5 M1 h1 h2 hw hF
    have hn := ho.n
    have hz : 2 ^ tn T ≤ 4096 := pow_12 hn
    have hz0 : 0 < 2 ^ tn T := Nat.two_pow_pos _
    refine q_iload_n d55_36 rfl ?_
    refine q_iload_n d55_37 rfl ?_
    refine nc_ge 108 d55_38 (by decide) (by omega) (by omega) (fun h38 => ?_) (fun h38 => ?_)
    · refine q_aload_n d55_108 rfl ?_
      refine q_iload_n d55_109 rfl ?_
      refine n_lald d55_110 ((hF.k _).trans hb) (by omega) (by decide) ((hw _ (by omega)).trans (ypw_v (by omega))) ?_
      refine q_lret d55_111 rfl ?_
      exact k _ hF
    · refine q_aload_n d55_41 rfl ?_
      refine q_iload_n d55_42 rfl ?_
      refine n_lald d55_43 ((hF.k _).trans hb) (by omega) (by decide) ((hw i (by omega)).trans (ypw_v (Nat.le_refl i))) ?_
      refine q_lconst (x := 0) d55_44 rfl ?_
      refine q_lcmp d55_45 ?_
      refine i0_ne 53 d55_46 (by decide) (fun h46 => ?_) (fun h46 => ?_)
      · refine q_aload_n d55_53 rfl ?_
        refine q_iload_n d55_54 rfl ?_
        refine q_v1 d55_55 rfl rfl (SPr_fl hp hF).1 (Nat.le_of_ble_eq_true rfl) (c44 (SPr_fl hp hF) (RP_fl hr hF) ho (by omega) ?_)
        refine q_istore d55_58 (by decide) rfl ?_
        refine q_iconstN (z := 0) d55_60 ?_
        refine q_istore d55_61 (by decide) rfl ?_
        refine qW_srt rfl rfl ?_
        exact l55i (S := i) hp hr ho hb (by omega) (by first | (rw [if_neg (fun q => h46 ((lg_cmp_eq _ _).mpr q))]) | (rw [if_pos ((lg_cmp_eq _ _).mp h46)])) (fun M2 hw2 hF2 => by
          refine n_iinc (x := i) 1 d55_102 (by decide) rfl rfl ?_
          refine q_goto 36 d55_105 (by decide) ?_
          refine qW_srt rfl rfl ?_
          exact ih (i + 1) _ _ _ (by omega) (by omega) (fun t ht => (hw2 t ht).trans ypw_n) hF2) (tn T + 1) 0 _ (by omega) (by omega) hw hF
      · refine q_iconstN (z := 0) d55_49 ?_
        refine q_goto 58 d55_50 (by decide) ?_
        refine q_istore d55_58 (by decide) rfl ?_
        refine q_iconstN (z := 0) d55_60 ?_
        refine q_istore d55_61 (by decide) rfl ?_
        refine qW_srt rfl rfl ?_
        exact l55i (S := i) hp hr ho hb (by omega) (by first | (rw [if_neg (fun q => h46 ((lg_cmp_eq _ _).mpr q))]) | (rw [if_pos ((lg_cmp_eq _ _).mp h46)])) (fun M2 hw2 hF2 => by
          refine n_iinc (x := i) 1 d55_102 (by decide) rfl rfl ?_
          refine q_goto 36 d55_105 (by decide) ?_
          refine qW_srt rfl rfl ?_
          exact ih (i + 1) _ _ _ (by omega) (by omega) (fun t ht => (hw2 t ht).trans ypw_n) hF2) (tn T + 1) 0 _ (by omega) (by omega) hw hF
theorem l55z {d : Nat} {Q : Option Value → zM → Prop} {a b : Nat} {T : yT} {M0 : zM} (hp : SPr M0 a) (hr : RP M0 a T) (ho : OKT T) (hb : zk M0 b = (21, 4096)) (k : ∀ M', (∀ t, t < 2 ^ tn T → zl M' b t = ypw T 0 0 t) → Fl b M0 M' → qW (zEv (d + 2)) 55 Q 36 [(0, .ref a), (1, .ref b), (2, .int (nI (2 ^ tn T - 1))), (3, .int (nI 0))] [] M') : ∀ (r i : Nat) (M1 : zM), i ≤ (2 ^ tn T) → (2 ^ tn T) < i + r → (∀ t, 1 ≤ t → t < i → zl M1 b t = 0) → Fl b M0 M1 → 1 ≤ i → qW (zEv (d + 2)) 55 Q 15 [(0, .ref a), (1, .ref b), (2, .int (nI (2 ^ tn T - 1))), (3, .int (nI i))] [] M1 := by
  intro r
  induction r with
  | zero => intros; omega
  | succ r ih =>
    intro i M1 h1 h2 hw hF hi1
    have hn := ho.n
    have hz : 2 ^ tn T ≤ 4096 := pow_12 hn
    have hz0 : 0 < 2 ^ tn T := Nat.two_pow_pos _
    refine q_iload_n d55_15 rfl ?_
    refine q_iload_n d55_16 rfl ?_
    refine nc_gt 30 d55_17 (by decide) (by omega) (by omega) (fun h17 => ?_) (fun h17 => ?_)
    · refine q_aload_n d55_30 rfl ?_
      refine q_iconstN (z := 0) d55_31 ?_
      refine q_lconst (x := 1) d55_32 rfl ?_
      refine n_last d55_33 ((hF.k _).trans hb) (by omega) (by decide) ?_
      refine q_iconstN (z := 0) d55_34 ?_
      refine q_istore_n d55_35 (by decide) rfl ?_
      refine qW_srt rfl rfl ?_
      refine k _ (fun t ht => ?_) hF.wl
      rw [ypw_0]
      by_cases e : t = 0
      · subst e; rw [if_pos rfl]; exact wl_s
      · rw [if_neg e, wl_n (Or.inr e)]; exact hw t (by omega) (by omega)
    · refine q_aload_n d55_20 rfl ?_
      refine q_iload_n d55_21 rfl ?_
      refine q_lconst (x := 0) d55_22 rfl ?_
      refine n_last d55_23 ((hF.k _).trans hb) (by omega) (by decide) ?_
      refine n_iinc 1 d55_24 (by decide) rfl rfl ?_
      refine q_goto 15 d55_27 (by decide) ?_
      refine qW_srt rfl rfl ?_
      exact ih (i + 1) _ (by omega) (by omega) (fun t h1 h3 => by
        by_cases e : t = i
        · subst e; exact wl_s
        · rw [wl_n (Or.inr e)]; exact hw t h1 (by omega)) hF.wl (by omega)
theorem c55 {d : Nat} {M : zM} {Q : Option Value → zM → Prop} {a b : Nat} {T : yT} (hp : SPr M a) (hr : RP M a T) (ho : OKT T) (hb : zk M b = (21, 4096)) (k : ∀ M', Fl b M M' → Q (some (.long (yg T (2 ^ tn T - 1)))) M') : qC (d + 3) 55 [.ref a, .ref b] M Q := by
  have hn := ho.n
  have hz : 2 ^ tn T ≤ 4096 := pow_12 hn
  have hz0 : 2 ≤ 2 ^ tn T := by have h1 := ho.1; exact Nat.le_trans (Nat.le_of_eq (Nat.pow_one 2).symm) (Nat.pow_le_pow_right (by omega) h1)
  refine qC_of (by decide) (Nat.le_of_ble_eq_true rfl) ?_
  refine q_aload_n d55_0 rfl ?_
  refine q_v0 d55_1 rfl rfl hp.1 (Nat.le_of_ble_eq_true rfl) (c37 hp hr hn ?_)
  refine q_istore_n d55_4 (by decide) rfl ?_
  refine q_aload_n d55_5 rfl ?_
  refine n_alen d55_6 (Or.inr hb) ?_
  refine q_iload_n d55_7 rfl ?_
  refine nc_gt 13 d55_8 (by decide) (by omega) (by omega) (fun h8 => ?_) (fun h8 => (False.elim (by omega)))
  refine q_iconstN (z := 1) d55_13 ?_
  refine q_istore_n d55_14 (by decide) rfl ?_
  refine qW_srt rfl rfl ?_
  exact l55z hp hr ho hb (fun M1 hw hF => by
      refine q_iload_n d55_36 rfl ?_
      refine q_iload_n d55_37 rfl ?_
      refine nc_ge 108 d55_38 (by decide) (by omega) (by omega) (fun h38 => ?_) (fun h38 => ?_)
      · refine q_aload_n d55_108 rfl ?_
        refine q_iload_n d55_109 rfl ?_
        refine n_lald d55_110 ((hF.k _).trans hb) (by omega) (by decide) ((hw _ (by omega)).trans (ypw_v (by omega))) ?_
        refine q_lret d55_111 rfl ?_
        exact k _ hF
      · refine q_aload_n d55_41 rfl ?_
        refine q_iload_n d55_42 rfl ?_
        refine n_lald d55_43 ((hF.k _).trans hb) (by omega) (by decide) ((hw 0 (by omega)).trans (ypw_v (Nat.le_refl 0))) ?_
        refine q_lconst (x := 0) d55_44 rfl ?_
        refine q_lcmp d55_45 ?_
        refine i0_ne 53 d55_46 (by decide) (fun h46 => ?_) (fun h46 => ?_)
        · refine q_aload_n d55_53 rfl ?_
          refine q_iload_n d55_54 rfl ?_
          refine q_v1 d55_55 rfl rfl (SPr_fl hp hF).1 (Nat.le_of_ble_eq_true rfl) (c44 (SPr_fl hp hF) (RP_fl hr hF) ho (by omega) ?_)
          refine q_istore d55_58 (by decide) rfl ?_
          refine q_iconstN (z := 0) d55_60 ?_
          refine q_istore d55_61 (by decide) rfl ?_
          refine qW_srt rfl rfl ?_
          exact l55i (S := 0) hp hr ho hb (by omega) (by first | (rw [if_neg (fun q => h46 ((lg_cmp_eq _ _).mpr q))]) | (rw [if_pos ((lg_cmp_eq _ _).mp h46)])) (fun M2 hw2 hF2 => by
            refine n_iinc (x := 0) 1 d55_102 (by decide) rfl rfl ?_
            refine q_goto 36 d55_105 (by decide) ?_
            refine qW_srt rfl rfl ?_
            exact l55 hp hr ho hb k (2 ^ tn T) 1 _ _ _ (by omega) (by omega) (fun t ht => (hw2 t ht).trans ypw_n) hF2) (tn T + 1) 0 _ (by omega) (by omega) hw hF
        · refine q_iconstN (z := 0) d55_49 ?_
          refine q_goto 58 d55_50 (by decide) ?_
          refine q_istore d55_58 (by decide) rfl ?_
          refine q_iconstN (z := 0) d55_60 ?_
          refine q_istore d55_61 (by decide) rfl ?_
          refine qW_srt rfl rfl ?_
          exact l55i (S := 0) hp hr ho hb (by omega) (by first | (rw [if_neg (fun q => h46 ((lg_cmp_eq _ _).mpr q))]) | (rw [if_pos ((lg_cmp_eq _ _).mp h46)])) (fun M2 hw2 hF2 => by
            refine n_iinc (x := 0) 1 d55_102 (by decide) rfl rfl ?_
            refine q_goto 36 d55_105 (by decide) ?_
            refine qW_srt rfl rfl ?_
            exact l55 hp hr ho hb k (2 ^ tn T) 1 _ _ _ (by omega) (by omega) (fun t ht => (hw2 t ht).trans ypw_n) hF2) (tn T + 1) 0 _ (by omega) (by omega) hw hF) (2 ^ tn T + 1) 1 M (by omega) (by omega) (fun t h1 h2 => absurd h2 (by omega)) (Fl.refl _ _) (by omega)
