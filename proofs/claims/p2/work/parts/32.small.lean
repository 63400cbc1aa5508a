/-! ===== contracts: rows, small questions ===== -/
theorem n_idec {R : zRT} {m : Nat} {Q : Option Value → zM → Prop} {pc : Nat} {l l' : List (Nat × Value)} {st : List Value} {M : zM} {j x : Nat} (hd : decode (zB m) pc = .ok (.iinc j (-1), 3)) (hj : j < zML m) (hx : zld l j = some (.int (nI x))) (h1 : 1 ≤ x) (hl : zst l j (.int (nI (x - 1))) = l') (k : qW R m Q (pc + 3) l' st M) : qW R m Q pc l st M :=
  q_iinc hd hj hx (by rw [← pk_sub h1]; rw [show (Int32.ofInt (-1)) = -nI 1 by decide, ← Int32.sub_eq_add_neg]) hl k
theorem n_max0 (n : Nat) (h : n < 2147483648) : (if nI 0 < nI n then nI n else nI 0) = nI n := by
  by_cases e : n = 0
  · subst e; rw [if_neg (nI_nlt (Nat.le_refl 0) (by omega))]
  · rw [if_pos (nI_lt (by omega) h)]
theorem n_maxN {a b : Nat} (ha : a < 2147483648) (hb : b < 2147483648) : (if nI a < nI b then nI b else nI a) = nI (max a b) := by
  by_cases h : a < b
  · rw [if_pos (nI_lt h hb), Nat.max_eq_right (by omega)]
  · rw [if_neg (nI_nlt (by omega) ha), Nat.max_eq_left (by omega)]
def ush (x y : Int32) : Int32 := (x.toUInt32 >>> (y.toUInt32 &&& Int32.toUInt32 31)).toInt32
theorem d121_0 : decode (zB 121) 0 = .ok (.aload_n 0, 1) := by decide +kernel
theorem d121_1 : decode (zB 121) 1 = .ok (.iload_n 1, 1) := by decide +kernel
theorem d121_2 : decode (zB 121) 2 = .ok (.putfield 9, 3) := by decide +kernel
theorem d121_5 : decode (zB 121) 5 = .ok (.aload_n 0, 1) := by decide +kernel
theorem d121_6 : decode (zB 121) 6 = .ok (.iconst 0, 1) := by decide +kernel
theorem d121_7 : decode (zB 121) 7 = .ok (.iload_n 2, 1) := by decide +kernel
theorem d121_8 : decode (zB 121) 8 = .ok (.bipush 40, 2) := by decide +kernel
theorem d121_10 : decode (zB 121) 10 = .ok (.invokestatic 19, 3) := by decide +kernel
theorem d121_13 : decode (zB 121) 13 = .ok (.invokestatic 25, 3) := by decide +kernel
theorem d121_16 : decode (zB 121) 16 = .ok (.putfield 28, 3) := by decide +kernel
theorem d121_19 : decode (zB 121) 19 = .ok (.aload_n 0, 1) := by decide +kernel
theorem d121_20 : decode (zB 121) 20 = .ok (.getfield 15, 3) := by decide +kernel
theorem d121_23 : decode (zB 121) 23 = .ok (.iconst 0, 1) := by decide +kernel
theorem d121_24 : decode (zB 121) 24 = .ok (.invokestatic 31, 3) := by decide +kernel
theorem d121_27 : decode (zB 121) 27 = .ok (.return_, 1) := by decide +kernel
theorem c121 {d : Nat} {M : zM} {Q : Option Value → zM → Prop} {a n : Nat} {so : Int32} (hs : SRo M a) (hn : n ≤ 40) (k : ∀ M', zi M' a 0 = so → zi M' a 1 = nI n → Fi (Fb a (a + 2)) M M' → Q none M') : qC (d + 2) 121 [.ref a, .int so, .int (nI n)] M Q := by
  refine qC_of (by decide) (Nat.le_of_ble_eq_true rfl) ?_
  refine q_aload_n d121_0 rfl ?_
  refine q_iload_n d121_1 rfl ?_
  refine q_puti (c := 4) (f := 0) d121_2 ⟨rfl, rfl, by decide⟩ hs.1 ?_
  refine q_aload_n d121_5 rfl ?_
  refine q_iconstN (z := 0) d121_6 ?_
  refine q_iload_n d121_7 rfl ?_
  refine q_bipush (x := nI 40) d121_8 rfl ?_
  refine q_min d121_10 rfl (Nat.le_of_ble_eq_true rfl) ?_
  rw [if_neg (nI_nlt (by omega) (by omega))]
  refine q_max d121_13 rfl (Nat.le_of_ble_eq_true rfl) ?_
  rw [n_max0 _ (by omega)]
  refine q_puti (c := 4) (f := 1) d121_16 ⟨rfl, rfl, by decide⟩ hs.1 ?_
  refine q_aload_n d121_19 rfl ?_
  refine q_getr (c := 4) (f := 2) d121_20 ⟨rfl, rfl⟩ hs.1 hs.2.1 ?_
  refine q_iconstN (z := 0) d121_23 ?_
  refine q_s2 d121_24 (Or.inl rfl) rfl (Nat.le_of_ble_eq_true rfl) (c6 hs.2.2 (by decide) (fun M1 hv f1 => ?_))
  refine q_ret d121_27 rfl ?_
  refine k _ ?_ ?_ ((((Fi.refl _ _).wi ⟨by omega, by omega⟩).wi ⟨by omega, by omega⟩).trans (f1.mono (fun b _ q => ⟨by omega, by omega⟩)))
  · rw [f1.1 _ _ (by omega)]; rw [wi_n (Or.inr (by decide)), wi_s]
  · rw [f1.1 _ _ (by omega)]; rw [wi_s]
theorem d122_0 : decode (zB 122) 0 = .ok (.iload_n 1, 1) := by decide +kernel
theorem d122_1 : decode (zB 122) 1 = .ok (.iconst 0, 1) := by decide +kernel
theorem d122_2 : decode (zB 122) 2 = .ok (.aload_n 0, 1) := by decide +kernel
theorem d122_3 : decode (zB 122) 3 = .ok (.getfield 28, 3) := by decide +kernel
theorem d122_6 : decode (zB 122) 6 = .ok (.iconst 1, 1) := by decide +kernel
theorem d122_7 : decode (zB 122) 7 = .ok (.isub, 1) := by decide +kernel
theorem d122_8 : decode (zB 122) 8 = .ok (.invokestatic 37, 3) := by decide +kernel
theorem d122_11 : decode (zB 122) 11 = .ok (.ifCond .eq 25, 3) := by decide +kernel
theorem d122_14 : decode (zB 122) 14 = .ok (.aload_n 0, 1) := by decide +kernel
theorem d122_15 : decode (zB 122) 15 = .ok (.getfield 15, 3) := by decide +kernel
theorem d122_18 : decode (zB 122) 18 = .ok (.iload_n 1, 1) := by decide +kernel
theorem d122_19 : decode (zB 122) 19 = .ok (.aload_n 0, 1) := by decide +kernel
theorem d122_20 : decode (zB 122) 20 = .ok (.getfield 9, 3) := by decide +kernel
theorem d122_23 : decode (zB 122) 23 = .ok (.ifCond .ne 11, 3) := by decide +kernel
theorem d122_26 : decode (zB 122) 26 = .ok (.iload_n 2, 1) := by decide +kernel
theorem d122_27 : decode (zB 122) 27 = .ok (.sipush 255, 3) := by decide +kernel
theorem d122_30 : decode (zB 122) 30 = .ok (.iand, 1) := by decide +kernel
theorem d122_31 : decode (zB 122) 31 = .ok (.goto 4, 3) := by decide +kernel
theorem d122_34 : decode (zB 122) 34 = .ok (.iload_n 2, 1) := by decide +kernel
theorem d122_35 : decode (zB 122) 35 = .ok (.iastore, 1) := by decide +kernel
theorem d122_36 : decode (zB 122) 36 = .ok (.return_, 1) := by decide +kernel
theorem c122 {d : Nat} {M : zM} {Q : Option Value → zM → Prop} {a i n : Nat} {v : Int32} (hs : SRo M a) (hz : zi M a 1 = nI n) (hi : i < n) (hn : n ≤ 40) (k : ∀ M', Fi (fun b _ => b = a + 1) M M' → Q none M') : qC (d + 2) 122 [.ref a, .int (nI i), .int v] M Q := by
  refine qC_of (by decide) (Nat.le_of_ble_eq_true rfl) ?_
  refine q_iload_n d122_0 rfl ?_
  refine q_iconstN (z := 0) d122_1 ?_
  refine q_aload_n d122_2 rfl ?_
  refine q_getv (c := 4) (f := 1) d122_3 ⟨rfl, by decide⟩ hs.1 hz ?_
  refine q_iconstN (z := 1) d122_6 ?_
  refine n_isub d122_7 (by omega) ?_
  refine q_s3 d122_8 (Or.inr rfl) rfl (Nat.le_of_ble_eq_true rfl) (c10t ⟨by omega, by omega⟩ (by omega) ?_)
  refine n0_eq 36 d122_11 (by decide) (by decide) (fun q => absurd q (by decide)) (fun _ => ?_)
  refine q_aload_n d122_14 rfl ?_
  refine q_getr (c := 4) (f := 2) d122_15 ⟨rfl, rfl⟩ hs.1 hs.2.1 ?_
  refine q_iload_n d122_18 rfl ?_
  refine q_aload_n d122_19 rfl ?_
  refine q_getv (c := 4) (f := 0) d122_20 ⟨rfl, by decide⟩ hs.1 rfl ?_
  refine i0_ne 34 d122_23 (by decide) (fun h23 => ?_) (fun h23 => ?_)
  · refine q_iload_n d122_34 rfl ?_
    refine n_iast d122_35 hs.2.2 (by omega) (by decide) ?_
    refine q_ret d122_36 rfl ?_
    exact k _ ((Fi.refl _ _).wi rfl)
  · refine q_iload_n d122_26 rfl ?_
    refine q_sipush (x := nI 255) d122_27 rfl ?_
    refine q_iand d122_30 ?_
    refine q_goto 35 d122_31 (by decide) ?_
    refine n_iast d122_35 hs.2.2 (by omega) (by decide) ?_
    refine q_ret d122_36 rfl ?_
    exact k _ ((Fi.refl _ _).wi rfl)
def yhp (i n : Int32) (z : Nat) : Prop := ∃ a b, i = nI a ∧ n = nI b ∧ a + b ≤ z
theorem d128_0 : decode (zB 128) 0 = .ok (.iload_n 2, 1) := by decide +kernel
theorem d128_1 : decode (zB 128) 1 = .ok (.ifCond .lt 29, 3) := by decide +kernel
theorem d128_4 : decode (zB 128) 4 = .ok (.iload_n 1, 1) := by decide +kernel
theorem d128_5 : decode (zB 128) 5 = .ok (.iconst 0, 1) := by decide +kernel
theorem d128_6 : decode (zB 128) 6 = .ok (.aload_n 0, 1) := by decide +kernel
theorem d128_7 : decode (zB 128) 7 = .ok (.getfield 28, 3) := by decide +kernel
theorem d128_10 : decode (zB 128) 10 = .ok (.invokestatic 37, 3) := by decide +kernel
theorem d128_13 : decode (zB 128) 13 = .ok (.ifCond .eq 17, 3) := by decide +kernel
theorem d128_16 : decode (zB 128) 16 = .ok (.iload_n 2, 1) := by decide +kernel
theorem d128_17 : decode (zB 128) 17 = .ok (.aload_n 0, 1) := by decide +kernel
theorem d128_18 : decode (zB 128) 18 = .ok (.getfield 28, 3) := by decide +kernel
theorem d128_21 : decode (zB 128) 21 = .ok (.iload_n 1, 1) := by decide +kernel
theorem d128_22 : decode (zB 128) 22 = .ok (.isub, 1) := by decide +kernel
theorem d128_23 : decode (zB 128) 23 = .ok (.if_icmp .gt 7, 3) := by decide +kernel
theorem d128_26 : decode (zB 128) 26 = .ok (.iconst 1, 1) := by decide +kernel
theorem d128_27 : decode (zB 128) 27 = .ok (.goto 4, 3) := by decide +kernel
theorem d128_30 : decode (zB 128) 30 = .ok (.iconst 0, 1) := by decide +kernel
theorem d128_31 : decode (zB 128) 31 = .ok (.ireturn, 1) := by decide +kernel
theorem c128t {d : Nat} {M : zM} {Q : Option Value → zM → Prop} {a i n z : Nat} (hs : SRo M a) (hz : zi M a 1 = nI z) (h40 : z ≤ 40) (h : i + n ≤ z) (k : Q (some (.int (nI 1))) M) : qC (d + 2) 128 [.ref a, .int (nI i), .int (nI n)] M Q := by
  refine qC_of (by decide) (Nat.le_of_ble_eq_true rfl) ?_
  refine q_iload_n d128_0 rfl ?_
  refine n0_lt 30 d128_1 (by decide) (by omega) (fun q => absurd q (Nat.not_lt_zero _)) (fun _ => ?_)
  refine q_iload_n d128_4 rfl ?_
  refine q_iconstN (z := 0) d128_5 ?_
  refine q_aload_n d128_6 rfl ?_
  refine q_getv (c := 4) (f := 1) d128_7 ⟨rfl, by decide⟩ hs.1 hz ?_
  refine q_s3 d128_10 (Or.inr rfl) rfl (Nat.le_of_ble_eq_true rfl) (c10t ⟨by omega, by omega⟩ (by omega) ?_)
  refine n0_eq 30 d128_13 (by decide) (by decide) (fun q => absurd q (by decide)) (fun _ => ?_)
  refine q_iload_n d128_16 rfl ?_
  refine q_aload_n d128_17 rfl ?_
  refine q_getv (c := 4) (f := 1) d128_18 ⟨rfl, by decide⟩ hs.1 hz ?_
  refine q_iload_n d128_21 rfl ?_
  refine n_isub d128_22 (by omega) ?_
  refine nc_gt 30 d128_23 (by decide) (by omega) (by omega) (fun h23 => (False.elim (by omega))) (fun h23 => ?_)
  refine q_iconstN (z := 1) d128_26 ?_
  refine q_goto 31 d128_27 (by decide) ?_
  refine q_zret d128_31 rfl (by decide) ?_
  exact k
theorem nI_two {n : Int32} {z : Nat} (h0 : ¬ n < 0) (h1 : ¬ nI z < n) (hz : z < 2147483648) : ∃ b, n = nI b ∧ b ≤ z := by
  obtain ⟨b, hb, rfl⟩ := nI_of h0
  exact ⟨b, rfl, Nat.le_of_not_lt (fun q => h1 (nI_lt q hb))⟩
theorem c128f {d : Nat} {M : zM} {Q : Option Value → zM → Prop} {a z : Nat} {i n : Int32} (hs : SRo M a) (hz : zi M a 1 = nI z) (h40 : z ≤ 40) (h : ¬ yhp i n z) (k : Q (some (.int (nI 0))) M) : qC (d + 2) 128 [.ref a, .int i, .int n] M Q := by
  refine qC_of (by decide) (Nat.le_of_ble_eq_true rfl) ?_
  rcases zix_c i (n := z + 1) (by omega) with ⟨j, hj, rfl, e⟩ | ⟨e, hn2⟩
  · skip
    refine q_iload_n d128_0 rfl ?_
    refine i0_lt 30 d128_1 (by decide) (fun h1 => ?_) (fun h1 => ?_)
    · refine q_iconstN (z := 0) d128_30 ?_
      refine q_zret d128_31 rfl (by decide) ?_
      exact k
    · refine q_iload_n d128_4 rfl ?_
      refine q_iconstN (z := 0) d128_5 ?_
      refine q_aload_n d128_6 rfl ?_
      refine q_getv (c := 4) (f := 1) d128_7 ⟨rfl, by decide⟩ hs.1 hz ?_
      refine q_s3 d128_10 (Or.inr rfl) rfl (Nat.le_of_ble_eq_true rfl) (c10t ⟨by omega, by omega⟩ (by omega) ?_)
      refine n0_eq 30 d128_13 (by decide) (by decide) (fun q => absurd q (by decide)) (fun _ => ?_)
      refine q_iload_n d128_16 rfl ?_
      refine q_aload_n d128_17 rfl ?_
      refine q_getv (c := 4) (f := 1) d128_18 ⟨rfl, by decide⟩ hs.1 hz ?_
      refine q_iload_n d128_21 rfl ?_
      refine n_isub d128_22 (by omega) ?_
      refine ic_gt 30 d128_23 (by decide) (fun h23 => ?_) (fun h23 => ?_)
      · refine q_iconstN (z := 0) d128_30 ?_
        refine q_zret d128_31 rfl (by decide) ?_
        exact k
      · refine q_iconstN (z := 1) d128_26 ?_
        refine q_goto 31 d128_27 (by decide) ?_
        refine q_zret d128_31 rfl (by decide) ?_
        exact absurd (nI_two h1 h23 (by omega)) (fun ⟨b, e1, e2⟩ => h ⟨j, b, rfl, e1, by omega⟩)
  · skip
    refine q_iload_n d128_0 rfl ?_
    refine i0_lt 30 d128_1 (by decide) (fun h1 => ?_) (fun h1 => ?_)
    · refine q_iconstN (z := 0) d128_30 ?_
      refine q_zret d128_31 rfl (by decide) ?_
      exact k
    · refine q_iload_n d128_4 rfl ?_
      refine q_iconstN (z := 0) d128_5 ?_
      refine q_aload_n d128_6 rfl ?_
      refine q_getv (c := 4) (f := 1) d128_7 ⟨rfl, by decide⟩ hs.1 hz ?_
      refine q_s3 d128_10 (Or.inr rfl) rfl (Nat.le_of_ble_eq_true rfl) (c10f (by omega) (by omega) (by decide) ?_)
      refine n0_eq 30 d128_13 (by decide) (by decide) (fun _ => ?_) (fun q => absurd q (by decide))
      refine q_iconstN (z := 0) d128_30 ?_
      refine q_zret d128_31 rfl (by decide) ?_
      exact k
theorem d119_0 : decode (zB 119) 0 = .ok (.iconst 0, 1) := by decide +kernel
theorem d119_1 : decode (zB 119) 1 = .ok (.istore_n 1, 1) := by decide +kernel
theorem d119_2 : decode (zB 119) 2 = .ok (.iload_n 1, 1) := by decide +kernel
theorem d119_3 : decode (zB 119) 3 = .ok (.bipush 20, 2) := by decide +kernel
theorem d119_5 : decode (zB 119) 5 = .ok (.if_icmp .ge 19, 3) := by decide +kernel
theorem d119_8 : decode (zB 119) 8 = .ok (.iload_n 0, 1) := by decide +kernel
theorem d119_9 : decode (zB 119) 9 = .ok (.iload_n 1, 1) := by decide +kernel
theorem d119_10 : decode (zB 119) 10 = .ok (.invokestatic 303, 3) := by decide +kernel
theorem d119_13 : decode (zB 119) 13 = .ok (.ifCond .eq 5, 3) := by decide +kernel
theorem d119_16 : decode (zB 119) 16 = .ok (.iload_n 1, 1) := by decide +kernel
theorem d119_17 : decode (zB 119) 17 = .ok (.ireturn, 1) := by decide +kernel
theorem d119_18 : decode (zB 119) 18 = .ok (.iinc 1 1, 3) := by decide +kernel
theorem d119_21 : decode (zB 119) 21 = .ok (.goto (-19), 3) := by decide +kernel
theorem d119_24 : decode (zB 119) 24 = .ok (.iconst (-1), 1) := by decide +kernel
theorem d119_25 : decode (zB 119) 25 = .ok (.ireturn, 1) := by decide +kernel
theorem l119 {d : Nat} {M : zM} {Q : Option Value → zM → Prop} {m : Nat} (hm : m < 2147483648) (k : ∀ v, Q (some (.int v)) M) : ∀ (r i : Nat), i ≤ 20 → 20 < i + r → qW (zEv (d + 1)) 119 Q 2 [(1, .int (nI i)), (0, .int (nI m))] [] M := by
  intro r
  induction r with
  | zero => intros; omega
  | succ r ih =>
    intro i  h1 h2 
    refine q_iload_n d119_2 rfl ?_
    refine q_bipush (x := nI 20) d119_3 rfl ?_
    refine nc_ge 24 d119_5 (by decide) (by omega) (by omega) (fun h5 => ?_) (fun h5 => ?_)
    · refine q_iconst (x := (-1)) d119_24 rfl ?_
      refine q_iret d119_25 rfl ?_
      exact k _
    · refine q_iload_n d119_8 rfl ?_
      refine q_iload_n d119_9 rfl ?_
      refine q_s2 d119_10 (Or.inl rfl) rfl (Nat.le_of_ble_eq_true rfl) (c35 (by omega) (by omega) ?_)
      refine b0_eq 18 d119_13 (by decide) (fun h13 => ?_) (fun h13 => ?_)
      · refine n_iinc 1 d119_18 (by decide) rfl rfl ?_
        refine q_goto 2 d119_21 (by decide) ?_
        exact ih (i + 1) (by omega) (by omega)
      · refine q_iload_n d119_16 rfl ?_
        refine q_iret d119_17 rfl ?_
        exact k _
theorem c119 {d : Nat} {M : zM} {Q : Option Value → zM → Prop} {m : Nat} (hm : m < 2147483648) (k : ∀ v, Q (some (.int v)) M) : qC (d + 2) 119 [.int (nI m)] M Q := by
  refine qC_of (by decide) (Nat.le_of_ble_eq_true rfl) ?_
  refine q_iconstN (z := 0) d119_0 ?_
  refine q_istore_n d119_1 (by decide) rfl ?_
  exact l119 hm k 21 0 (by omega) (by omega)
theorem gcd_of {a b d : Nat} (hb : 0 < b) (hd : 0 < d) (h1 : a % d = 0) (h2 : b % d = 0) (h : ∀ e, d < e → e ≤ b → ¬ (a % e = 0 ∧ b % e = 0)) : Nat.gcd a b = d := by
  have g0 : 0 < Nat.gcd a b := Nat.gcd_pos_of_pos_right _ hb
  have g1 : d ∣ Nat.gcd a b := Nat.dvd_gcd (Nat.dvd_of_mod_eq_zero h1) (Nat.dvd_of_mod_eq_zero h2)
  have g2 : d ≤ Nat.gcd a b := Nat.le_of_dvd g0 g1
  have g3 : Nat.gcd a b ≤ b := Nat.le_of_dvd hb (Nat.gcd_dvd_right a b)
  rcases Nat.lt_or_ge d (Nat.gcd a b) with q | q
  · exact absurd ⟨Nat.mod_eq_zero_of_dvd (Nat.gcd_dvd_left a b), Nat.mod_eq_zero_of_dvd (Nat.gcd_dvd_right a b)⟩ (h _ q g3)
  · omega
theorem d111_0 : decode (zB 111) 0 = .ok (.iload_n 1, 1) := by decide +kernel
theorem d111_1 : decode (zB 111) 1 = .ok (.istore_n 2, 1) := by decide +kernel
theorem d111_2 : decode (zB 111) 2 = .ok (.iload_n 2, 1) := by decide +kernel
theorem d111_3 : decode (zB 111) 3 = .ok (.iconst 1, 1) := by decide +kernel
theorem d111_4 : decode (zB 111) 4 = .ok (.if_icmp .le 23, 3) := by decide +kernel
theorem d111_7 : decode (zB 111) 7 = .ok (.iload_n 0, 1) := by decide +kernel
theorem d111_8 : decode (zB 111) 8 = .ok (.iload_n 2, 1) := by decide +kernel
theorem d111_9 : decode (zB 111) 9 = .ok (.irem, 1) := by decide +kernel
theorem d111_10 : decode (zB 111) 10 = .ok (.ifCond .ne 11, 3) := by decide +kernel
theorem d111_13 : decode (zB 111) 13 = .ok (.iload_n 1, 1) := by decide +kernel
theorem d111_14 : decode (zB 111) 14 = .ok (.iload_n 2, 1) := by decide +kernel
theorem d111_15 : decode (zB 111) 15 = .ok (.irem, 1) := by decide +kernel
theorem d111_16 : decode (zB 111) 16 = .ok (.ifCond .ne 5, 3) := by decide +kernel
theorem d111_19 : decode (zB 111) 19 = .ok (.iload_n 2, 1) := by decide +kernel
theorem d111_20 : decode (zB 111) 20 = .ok (.ireturn, 1) := by decide +kernel
theorem d111_21 : decode (zB 111) 21 = .ok (.iinc 2 (-1), 3) := by decide +kernel
theorem d111_24 : decode (zB 111) 24 = .ok (.goto (-22), 3) := by decide +kernel
theorem d111_27 : decode (zB 111) 27 = .ok (.iconst 1, 1) := by decide +kernel
theorem d111_28 : decode (zB 111) 28 = .ok (.ireturn, 1) := by decide +kernel
theorem l111 {d : Nat} {M : zM} {Q : Option Value → zM → Prop} {a b : Nat} (ha : a < 2147483648) (hb0 : 0 < b) (hb : b < 2147483648) (k : Q (some (.int (nI (Nat.gcd a b)))) M) : ∀ i : Nat, i ≤ b → (∀ e, i < e → e ≤ b → ¬ (a % e = 0 ∧ b % e = 0)) → qW (zEv d) 111 Q 2 [(2, .int (nI i)), (0, .int (nI a)), (1, .int (nI b))] [] M := by
  intro i
  induction i with
  | zero =>
    intro h1 h
    refine q_iload_n d111_2 rfl ?_
    refine q_iconstN (z := 1) d111_3 ?_
    refine nc_le 27 d111_4 (by decide) (by omega) (by omega) (fun h4 => ?_) (fun h4 => (False.elim (by omega)))
    refine q_iconstN (z := 1) d111_27 ?_
    refine q_iret d111_28 rfl ?_
    rw [gcd_of (d := 1) hb0 (by omega) (Nat.mod_one _) (Nat.mod_one _) (fun e h2 h3 => h e (by omega) h3)] at k; exact k
  | succ i ih =>
    intro h1 h
    have hm1 : a % (i + 1) < i + 1 := Nat.mod_lt _ (by omega)
    have hm2 : b % (i + 1) < i + 1 := Nat.mod_lt _ (by omega)
    refine q_iload_n d111_2 rfl ?_
    refine q_iconstN (z := 1) d111_3 ?_
    refine nc_le 27 d111_4 (by decide) (by omega) (by omega) (fun h4 => ?_) (fun h4 => ?_)
    · refine q_iconstN (z := 1) d111_27 ?_
      refine q_iret d111_28 rfl ?_
      rw [gcd_of (d := 1) hb0 (by omega) (Nat.mod_one _) (Nat.mod_one _) (fun e h2 h3 => h e (by omega) h3)] at k; exact k
    · refine q_iload_n d111_7 rfl ?_
      refine q_iload_n d111_8 rfl ?_
      refine n_irem d111_9 (by omega) (by omega) (by omega) ?_
      refine n0_ne 21 d111_10 (by decide) (by omega) (fun h10 => ?_) (fun h10 => ?_)
      · refine n_idec d111_21 (by decide) rfl (by omega) rfl ?_
        refine q_goto 2 d111_24 (by decide) ?_
        exact ih (by omega) (fun e h2 h3 q => by by_cases e1 : e = i + 1; (subst e1; first | exact h16 q.2 | exact h10 q.1); exact h e (by omega) h3 q)
      · refine q_iload_n d111_13 rfl ?_
        refine q_iload_n d111_14 rfl ?_
        refine n_irem d111_15 (by omega) (by omega) (by omega) ?_
        refine n0_ne 21 d111_16 (by decide) (by omega) (fun h16 => ?_) (fun h16 => ?_)
        · refine n_idec d111_21 (by decide) rfl (by omega) rfl ?_
          refine q_goto 2 d111_24 (by decide) ?_
          exact ih (by omega) (fun e h2 h3 q => by by_cases e1 : e = i + 1; (subst e1; first | exact h16 q.2 | exact h10 q.1); exact h e (by omega) h3 q)
        · refine q_iload_n d111_19 rfl ?_
          refine q_iret d111_20 rfl ?_
          rw [gcd_of (d := i + 1) hb0 (by omega) h10 h16 h] at k; exact k
theorem c111 {d : Nat} {M : zM} {Q : Option Value → zM → Prop} {a b : Nat} (ha : a < 2147483648) (hb0 : 0 < b) (hb : b < 2147483648) (k : Q (some (.int (nI (Nat.gcd a b)))) M) : qC (d + 1) 111 [.int (nI a), .int (nI b)] M Q := by
  refine qC_of (by decide) (Nat.le_of_ble_eq_true rfl) ?_
  refine q_iload_n d111_0 rfl ?_
  refine q_istore_n d111_1 (by decide) rfl ?_
  exact l111 ha hb0 hb k b (Nat.le_refl _) (fun e h1 h2 => absurd h1 (by omega))
def ybc (x : Int32) : Int32 :=
  let a := x - (ush x (nI 1) &&& 1431655765)
  let b := (a &&& 858993459) + (ush a (nI 2) &&& 858993459)
  let c := (b + ush b (nI 4)) &&& 252645135
  let e := c + ush c (nI 8)
  (e + ush e (nI 16)) &&& nI 63
theorem d105_0 : decode (zB 105) 0 = .ok (.iload_n 0, 1) := by decide +kernel
theorem d105_1 : decode (zB 105) 1 = .ok (.iload_n 0, 1) := by decide +kernel
theorem d105_2 : decode (zB 105) 2 = .ok (.iconst 1, 1) := by decide +kernel
theorem d105_3 : decode (zB 105) 3 = .ok (.iushr, 1) := by decide +kernel
theorem d105_4 : decode (zB 105) 4 = .ok (.ldc_w 265, 3) := by decide +kernel
theorem d105_7 : decode (zB 105) 7 = .ok (.iand, 1) := by decide +kernel
theorem d105_8 : decode (zB 105) 8 = .ok (.isub, 1) := by decide +kernel
theorem d105_9 : decode (zB 105) 9 = .ok (.istore_n 0, 1) := by decide +kernel
theorem d105_10 : decode (zB 105) 10 = .ok (.iload_n 0, 1) := by decide +kernel
theorem d105_11 : decode (zB 105) 11 = .ok (.ldc_w 266, 3) := by decide +kernel
theorem d105_14 : decode (zB 105) 14 = .ok (.iand, 1) := by decide +kernel
theorem d105_15 : decode (zB 105) 15 = .ok (.iload_n 0, 1) := by decide +kernel
theorem d105_16 : decode (zB 105) 16 = .ok (.iconst 2, 1) := by decide +kernel
theorem d105_17 : decode (zB 105) 17 = .ok (.iushr, 1) := by decide +kernel
theorem d105_18 : decode (zB 105) 18 = .ok (.ldc_w 266, 3) := by decide +kernel
theorem d105_21 : decode (zB 105) 21 = .ok (.iand, 1) := by decide +kernel
theorem d105_22 : decode (zB 105) 22 = .ok (.iadd, 1) := by decide +kernel
theorem d105_23 : decode (zB 105) 23 = .ok (.istore_n 0, 1) := by decide +kernel
theorem d105_24 : decode (zB 105) 24 = .ok (.iload_n 0, 1) := by decide +kernel
theorem d105_25 : decode (zB 105) 25 = .ok (.iload_n 0, 1) := by decide +kernel
theorem d105_26 : decode (zB 105) 26 = .ok (.iconst 4, 1) := by decide +kernel
theorem d105_27 : decode (zB 105) 27 = .ok (.iushr, 1) := by decide +kernel
theorem d105_28 : decode (zB 105) 28 = .ok (.iadd, 1) := by decide +kernel
theorem d105_29 : decode (zB 105) 29 = .ok (.ldc_w 267, 3) := by decide +kernel
theorem d105_32 : decode (zB 105) 32 = .ok (.iand, 1) := by decide +kernel
theorem d105_33 : decode (zB 105) 33 = .ok (.istore_n 0, 1) := by decide +kernel
theorem d105_34 : decode (zB 105) 34 = .ok (.iload_n 0, 1) := by decide +kernel
theorem d105_35 : decode (zB 105) 35 = .ok (.iload_n 0, 1) := by decide +kernel
theorem d105_36 : decode (zB 105) 36 = .ok (.bipush 8, 2) := by decide +kernel
theorem d105_38 : decode (zB 105) 38 = .ok (.iushr, 1) := by decide +kernel
theorem d105_39 : decode (zB 105) 39 = .ok (.iadd, 1) := by decide +kernel
theorem d105_40 : decode (zB 105) 40 = .ok (.istore_n 0, 1) := by decide +kernel
theorem d105_41 : decode (zB 105) 41 = .ok (.iload_n 0, 1) := by decide +kernel
theorem d105_42 : decode (zB 105) 42 = .ok (.iload_n 0, 1) := by decide +kernel
theorem d105_43 : decode (zB 105) 43 = .ok (.bipush 16, 2) := by decide +kernel
theorem d105_45 : decode (zB 105) 45 = .ok (.iushr, 1) := by decide +kernel
theorem d105_46 : decode (zB 105) 46 = .ok (.iadd, 1) := by decide +kernel
theorem d105_47 : decode (zB 105) 47 = .ok (.istore_n 0, 1) := by decide +kernel
theorem d105_48 : decode (zB 105) 48 = .ok (.iload_n 0, 1) := by decide +kernel
theorem d105_49 : decode (zB 105) 49 = .ok (.bipush 63, 2) := by decide +kernel
theorem d105_51 : decode (zB 105) 51 = .ok (.iand, 1) := by decide +kernel
theorem d105_52 : decode (zB 105) 52 = .ok (.ireturn, 1) := by decide +kernel
theorem c105 {d : Nat} {M : zM} {Q : Option Value → zM → Prop} {x : Int32} (k : Q (some (.int (ybc x))) M) : qC (d + 1) 105 [.int x] M Q := by
  refine qC_of (by decide) (Nat.le_of_ble_eq_true rfl) ?_
  refine q_iload_n d105_0 rfl ?_
  refine q_iload_n d105_1 rfl ?_
  refine q_iconstN (z := 1) d105_2 ?_
  refine q_iushr d105_3 ?_
  refine q_ldc_w d105_4 rfl ?_
  refine q_iand d105_7 ?_
  refine q_isub d105_8 ?_
  refine q_istore_n d105_9 (by decide) rfl ?_
  refine q_iload_n d105_10 rfl ?_
  refine q_ldc_w d105_11 rfl ?_
  refine q_iand d105_14 ?_
  refine q_iload_n d105_15 rfl ?_
  refine q_iconstN (z := 2) d105_16 ?_
  refine q_iushr d105_17 ?_
  refine q_ldc_w d105_18 rfl ?_
  refine q_iand d105_21 ?_
  refine q_iadd d105_22 ?_
  refine q_istore_n d105_23 (by decide) rfl ?_
  refine q_iload_n d105_24 rfl ?_
  refine q_iload_n d105_25 rfl ?_
  refine q_iconstN (z := 4) d105_26 ?_
  refine q_iushr d105_27 ?_
  refine q_iadd d105_28 ?_
  refine q_ldc_w d105_29 rfl ?_
  refine q_iand d105_32 ?_
  refine q_istore_n d105_33 (by decide) rfl ?_
  refine q_iload_n d105_34 rfl ?_
  refine q_iload_n d105_35 rfl ?_
  refine q_bipush (x := nI 8) d105_36 rfl ?_
  refine q_iushr d105_38 ?_
  refine q_iadd d105_39 ?_
  refine q_istore_n d105_40 (by decide) rfl ?_
  refine q_iload_n d105_41 rfl ?_
  refine q_iload_n d105_42 rfl ?_
  refine q_bipush (x := nI 16) d105_43 rfl ?_
  refine q_iushr d105_45 ?_
  refine q_iadd d105_46 ?_
  refine q_istore_n d105_47 (by decide) rfl ?_
  refine q_iload_n d105_48 rfl ?_
  refine q_bipush (x := nI 63) d105_49 rfl ?_
  refine q_iand d105_51 ?_
  refine q_iret d105_52 rfl ?_
  exact k
def ywv (m : Nat) : Bool := decide (m ≤ 7) || (decide (10 ≤ m) && decide (m % 10 < 3))
/-- what is asked of a world -/
def yvx (x : Int32) : Option Nat := match zix x 50 with
  | none => none
  | some m => if ywv m then some m else none
def yqm (m : Nat) : Bool := decide (m ≤ 1) || decide (100 ≤ m ∧ m ≤ 111) || decide (200 ≤ m)
def yqx (x : Int32) : Option Nat := match zix x 212 with
  | none => none
  | some m => if yqm m then some m else none
theorem d93_0 : decode (zB 93) 0 = .ok (.iload_n 0, 1) := by decide +kernel
theorem d93_1 : decode (zB 93) 1 = .ok (.iconst 0, 1) := by decide +kernel
theorem d93_2 : decode (zB 93) 2 = .ok (.bipush 7, 2) := by decide +kernel
theorem d93_4 : decode (zB 93) 4 = .ok (.invokestatic 55, 3) := by decide +kernel
theorem d93_7 : decode (zB 93) 7 = .ok (.ifCond .ne 22, 3) := by decide +kernel
theorem d93_10 : decode (zB 93) 10 = .ok (.iload_n 0, 1) := by decide +kernel
theorem d93_11 : decode (zB 93) 11 = .ok (.bipush 10, 2) := by decide +kernel
theorem d93_13 : decode (zB 93) 13 = .ok (.bipush 49, 2) := by decide +kernel
theorem d93_15 : decode (zB 93) 15 = .ok (.invokestatic 55, 3) := by decide +kernel
theorem d93_18 : decode (zB 93) 18 = .ok (.ifCond .eq 15, 3) := by decide +kernel
theorem d93_21 : decode (zB 93) 21 = .ok (.iload_n 0, 1) := by decide +kernel
theorem d93_22 : decode (zB 93) 22 = .ok (.bipush 10, 2) := by decide +kernel
theorem d93_24 : decode (zB 93) 24 = .ok (.irem, 1) := by decide +kernel
theorem d93_25 : decode (zB 93) 25 = .ok (.iconst 3, 1) := by decide +kernel
theorem d93_26 : decode (zB 93) 26 = .ok (.if_icmp .ge 7, 3) := by decide +kernel
theorem d93_29 : decode (zB 93) 29 = .ok (.iconst 1, 1) := by decide +kernel
theorem d93_30 : decode (zB 93) 30 = .ok (.goto 4, 3) := by decide +kernel
theorem d93_33 : decode (zB 93) 33 = .ok (.iconst 0, 1) := by decide +kernel
theorem d93_34 : decode (zB 93) 34 = .ok (.ireturn, 1) := by decide +kernel
theorem c93 {d : Nat} {M : zM} {Q : Option Value → zM → Prop} {x : Int32} (k : Q (some (.int (bI (yvx x).isSome))) M) : qC (d + 2) 93 [.int x] M Q := by
  refine qC_of (by decide) (Nat.le_of_ble_eq_true rfl) ?_
  unfold yvx at k
  rcases zix_c x (n := 50) (by omega) with ⟨j, hj, rfl, e⟩ | ⟨e, hn⟩
  · rw [e] at k
    simp only [] at k
    by_cases h7 : j ≤ 7
    · skip
      refine q_iload_n d93_0 rfl ?_
      refine q_iconstN (z := 0) d93_1 ?_
      refine q_bipush (x := nI 7) d93_2 rfl ?_
      refine q_s3 d93_4 (Or.inl rfl) rfl (Nat.le_of_ble_eq_true rfl) (c10t ⟨by omega, by omega⟩ (by decide) ?_)
      refine n0_ne 29 d93_7 (by decide) (by decide) (fun _ => ?_) (fun q => absurd q (by decide))
      refine q_iconstN (z := 1) d93_29 ?_
      refine q_goto 34 d93_30 (by decide) ?_
      refine q_zret d93_34 rfl (by decide) ?_
      rw [if_pos (by simp [ywv, h7])] at k; exact k
    · by_cases h10 : 10 ≤ j
      · skip
        refine q_iload_n d93_0 rfl ?_
        refine q_iconstN (z := 0) d93_1 ?_
        refine q_bipush (x := nI 7) d93_2 rfl ?_
        refine q_s3 d93_4 (Or.inl rfl) rfl (Nat.le_of_ble_eq_true rfl) (c10n (by omega) (by decide) (by omega) (by decide) ?_)
        refine n0_ne 29 d93_7 (by decide) (by decide) (fun q => absurd q (by decide)) (fun _ => ?_)
        refine q_iload_n d93_10 rfl ?_
        refine q_bipush (x := nI 10) d93_11 rfl ?_
        refine q_bipush (x := nI 49) d93_13 rfl ?_
        refine q_s3 d93_15 (Or.inl rfl) rfl (Nat.le_of_ble_eq_true rfl) (c10t ⟨by omega, by omega⟩ (by decide) ?_)
        refine n0_eq 33 d93_18 (by decide) (by decide) (fun q => absurd q (by decide)) (fun _ => ?_)
        refine q_iload_n d93_21 rfl ?_
        refine q_bipush (x := nI 10) d93_22 rfl ?_
        refine n_irem d93_24 (by omega) (by omega) (by omega) ?_
        refine q_iconstN (z := 3) d93_25 ?_
        refine nc_ge 33 d93_26 (by decide) (by omega) (by omega) (fun h26 => ?_) (fun h26 => ?_)
        · refine q_iconstN (z := 0) d93_33 ?_
          refine q_zret d93_34 rfl (by decide) ?_
          rw [if_neg (by simp [ywv, h7, h10]; omega)] at k; exact k
        · refine q_iconstN (z := 1) d93_29 ?_
          refine q_goto 34 d93_30 (by decide) ?_
          refine q_zret d93_34 rfl (by decide) ?_
          rw [if_pos (by simp [ywv, h7, h10, h26])] at k; exact k
      · skip
        refine q_iload_n d93_0 rfl ?_
        refine q_iconstN (z := 0) d93_1 ?_
        refine q_bipush (x := nI 7) d93_2 rfl ?_
        refine q_s3 d93_4 (Or.inl rfl) rfl (Nat.le_of_ble_eq_true rfl) (c10n (by omega) (by decide) (by omega) (by decide) ?_)
        refine n0_ne 29 d93_7 (by decide) (by decide) (fun q => absurd q (by decide)) (fun _ => ?_)
        refine q_iload_n d93_10 rfl ?_
        refine q_bipush (x := nI 10) d93_11 rfl ?_
        refine q_bipush (x := nI 49) d93_13 rfl ?_
        refine q_s3 d93_15 (Or.inl rfl) rfl (Nat.le_of_ble_eq_true rfl) (c10n (by omega) (by decide) (by omega) (by decide) ?_)
        refine n0_eq 33 d93_18 (by decide) (by decide) (fun _ => ?_) (fun q => absurd q (by decide))
        refine q_iconstN (z := 0) d93_33 ?_
        refine q_zret d93_34 rfl (by decide) ?_
        rw [if_neg (by simp [ywv, h7, h10])] at k; exact k
  · rw [e] at k
    simp only [] at k
    refine q_iload_n d93_0 rfl ?_
    refine q_iconstN (z := 0) d93_1 ?_
    refine q_bipush (x := nI 7) d93_2 rfl ?_
    refine q_s3 d93_4 (Or.inl rfl) rfl (Nat.le_of_ble_eq_true rfl) (c10f (by decide) (by omega) (by decide) ?_)
    refine n0_ne 29 d93_7 (by decide) (by decide) (fun q => absurd q (by decide)) (fun _ => ?_)
    refine q_iload_n d93_10 rfl ?_
    refine q_bipush (x := nI 10) d93_11 rfl ?_
    refine q_bipush (x := nI 49) d93_13 rfl ?_
    refine q_s3 d93_15 (Or.inl rfl) rfl (Nat.le_of_ble_eq_true rfl) (c10f (by decide) (by omega) (by decide) ?_)
    refine n0_eq 33 d93_18 (by decide) (by decide) (fun _ => ?_) (fun q => absurd q (by decide))
    refine q_iconstN (z := 0) d93_33 ?_
    refine q_zret d93_34 rfl (by decide) ?_
    exact k
theorem d114_0 : decode (zB 114) 0 = .ok (.iload_n 0, 1) := by decide +kernel
theorem d114_1 : decode (zB 114) 1 = .ok (.iconst 0, 1) := by decide +kernel
theorem d114_2 : decode (zB 114) 2 = .ok (.iconst 1, 1) := by decide +kernel
theorem d114_3 : decode (zB 114) 3 = .ok (.invokestatic 55, 3) := by decide +kernel
theorem d114_6 : decode (zB 114) 6 = .ok (.ifCond .ne 27, 3) := by decide +kernel
theorem d114_9 : decode (zB 114) 9 = .ok (.iload_n 0, 1) := by decide +kernel
theorem d114_10 : decode (zB 114) 10 = .ok (.bipush 100, 2) := by decide +kernel
theorem d114_12 : decode (zB 114) 12 = .ok (.bipush 111, 2) := by decide +kernel
theorem d114_14 : decode (zB 114) 14 = .ok (.invokestatic 55, 3) := by decide +kernel
theorem d114_17 : decode (zB 114) 17 = .ok (.ifCond .ne 16, 3) := by decide +kernel
theorem d114_20 : decode (zB 114) 20 = .ok (.iload_n 0, 1) := by decide +kernel
theorem d114_21 : decode (zB 114) 21 = .ok (.sipush 200, 3) := by decide +kernel
theorem d114_24 : decode (zB 114) 24 = .ok (.sipush 211, 3) := by decide +kernel
theorem d114_27 : decode (zB 114) 27 = .ok (.invokestatic 55, 3) := by decide +kernel
theorem d114_30 : decode (zB 114) 30 = .ok (.ifCond .eq 7, 3) := by decide +kernel
theorem d114_33 : decode (zB 114) 33 = .ok (.iconst 1, 1) := by decide +kernel
theorem d114_34 : decode (zB 114) 34 = .ok (.goto 4, 3) := by decide +kernel
theorem d114_37 : decode (zB 114) 37 = .ok (.iconst 0, 1) := by decide +kernel
theorem d114_38 : decode (zB 114) 38 = .ok (.ireturn, 1) := by decide +kernel
theorem c114 {d : Nat} {M : zM} {Q : Option Value → zM → Prop} {x : Int32} (k : Q (some (.int (bI (yqx x).isSome))) M) : qC (d + 2) 114 [.int x] M Q := by
  refine qC_of (by decide) (Nat.le_of_ble_eq_true rfl) ?_
  unfold yqx at k
  rcases zix_c x (n := 212) (by omega) with ⟨j, hj, rfl, e⟩ | ⟨e, hn⟩
  · rw [e] at k
    simp only [] at k
    by_cases h7 : j ≤ 1
    · skip
      refine q_iload_n d114_0 rfl ?_
      refine q_iconstN (z := 0) d114_1 ?_
      refine q_iconstN (z := 1) d114_2 ?_
      refine q_s3 d114_3 (Or.inl rfl) rfl (Nat.le_of_ble_eq_true rfl) (c10t ⟨by omega, by omega⟩ (by decide) ?_)
      refine n0_ne 33 d114_6 (by decide) (by decide) (fun _ => ?_) (fun q => absurd q (by decide))
      refine q_iconstN (z := 1) d114_33 ?_
      refine q_goto 38 d114_34 (by decide) ?_
      refine q_zret d114_38 rfl (by decide) ?_
      rw [if_pos (by simp [yqm, h7])] at k; exact k
    · by_cases h10 : 100 ≤ j ∧ j ≤ 111
      · skip
        refine q_iload_n d114_0 rfl ?_
        refine q_iconstN (z := 0) d114_1 ?_
        refine q_iconstN (z := 1) d114_2 ?_
        refine q_s3 d114_3 (Or.inl rfl) rfl (Nat.le_of_ble_eq_true rfl) (c10n (by omega) (by decide) (by omega) (by decide) ?_)
        refine n0_ne 33 d114_6 (by decide) (by decide) (fun q => absurd q (by decide)) (fun _ => ?_)
        refine q_iload_n d114_9 rfl ?_
        refine q_bipush (x := nI 100) d114_10 rfl ?_
        refine q_bipush (x := nI 111) d114_12 rfl ?_
        refine q_s3 d114_14 (Or.inl rfl) rfl (Nat.le_of_ble_eq_true rfl) (c10t ⟨by omega, by omega⟩ (by decide) ?_)
        refine n0_ne 33 d114_17 (by decide) (by decide) (fun _ => ?_) (fun q => absurd q (by decide))
        refine q_iconstN (z := 1) d114_33 ?_
        refine q_goto 38 d114_34 (by decide) ?_
        refine q_zret d114_38 rfl (by decide) ?_
        rw [if_pos (by simp [yqm, h7, h10])] at k; exact k
      · by_cases h20 : 200 ≤ j
        · skip
          refine q_iload_n d114_0 rfl ?_
          refine q_iconstN (z := 0) d114_1 ?_
          refine q_iconstN (z := 1) d114_2 ?_
          refine q_s3 d114_3 (Or.inl rfl) rfl (Nat.le_of_ble_eq_true rfl) (c10n (by omega) (by decide) (by omega) (by decide) ?_)
          refine n0_ne 33 d114_6 (by decide) (by decide) (fun q => absurd q (by decide)) (fun _ => ?_)
          refine q_iload_n d114_9 rfl ?_
          refine q_bipush (x := nI 100) d114_10 rfl ?_
          refine q_bipush (x := nI 111) d114_12 rfl ?_
          refine q_s3 d114_14 (Or.inl rfl) rfl (Nat.le_of_ble_eq_true rfl) (c10n (by omega) (by decide) (by omega) (by decide) ?_)
          refine n0_ne 33 d114_17 (by decide) (by decide) (fun q => absurd q (by decide)) (fun _ => ?_)
          refine q_iload_n d114_20 rfl ?_
          refine q_sipush (x := nI 200) d114_21 rfl ?_
          refine q_sipush (x := nI 211) d114_24 rfl ?_
          refine q_s3 d114_27 (Or.inl rfl) rfl (Nat.le_of_ble_eq_true rfl) (c10t ⟨by omega, by omega⟩ (by decide) ?_)
          refine n0_eq 37 d114_30 (by decide) (by decide) (fun q => absurd q (by decide)) (fun _ => ?_)
          refine q_iconstN (z := 1) d114_33 ?_
          refine q_goto 38 d114_34 (by decide) ?_
          refine q_zret d114_38 rfl (by decide) ?_
          rw [if_pos (by simp [yqm, h7, h20])] at k; exact k
        · skip
          refine q_iload_n d114_0 rfl ?_
          refine q_iconstN (z := 0) d114_1 ?_
          refine q_iconstN (z := 1) d114_2 ?_
          refine q_s3 d114_3 (Or.inl rfl) rfl (Nat.le_of_ble_eq_true rfl) (c10n (by omega) (by decide) (by omega) (by decide) ?_)
          refine n0_ne 33 d114_6 (by decide) (by decide) (fun q => absurd q (by decide)) (fun _ => ?_)
          refine q_iload_n d114_9 rfl ?_
          refine q_bipush (x := nI 100) d114_10 rfl ?_
          refine q_bipush (x := nI 111) d114_12 rfl ?_
          refine q_s3 d114_14 (Or.inl rfl) rfl (Nat.le_of_ble_eq_true rfl) (c10n (by omega) (by decide) (by omega) (by decide) ?_)
          refine n0_ne 33 d114_17 (by decide) (by decide) (fun q => absurd q (by decide)) (fun _ => ?_)
          refine q_iload_n d114_20 rfl ?_
          refine q_sipush (x := nI 200) d114_21 rfl ?_
          refine q_sipush (x := nI 211) d114_24 rfl ?_
          refine q_s3 d114_27 (Or.inl rfl) rfl (Nat.le_of_ble_eq_true rfl) (c10n (by omega) (by decide) (by omega) (by decide) ?_)
          refine n0_eq 37 d114_30 (by decide) (by decide) (fun _ => ?_) (fun q => absurd q (by decide))
          refine q_iconstN (z := 0) d114_37 ?_
          refine q_zret d114_38 rfl (by decide) ?_
          rw [if_neg (by simp [yqm, h7, h20]; omega)] at k; exact k
  · rw [e] at k
    simp only [] at k
    refine q_iload_n d114_0 rfl ?_
    refine q_iconstN (z := 0) d114_1 ?_
    refine q_iconstN (z := 1) d114_2 ?_
    refine q_s3 d114_3 (Or.inl rfl) rfl (Nat.le_of_ble_eq_true rfl) (c10f (by decide) (by omega) (by decide) ?_)
    refine n0_ne 33 d114_6 (by decide) (by decide) (fun q => absurd q (by decide)) (fun _ => ?_)
    refine q_iload_n d114_9 rfl ?_
    refine q_bipush (x := nI 100) d114_10 rfl ?_
    refine q_bipush (x := nI 111) d114_12 rfl ?_
    refine q_s3 d114_14 (Or.inl rfl) rfl (Nat.le_of_ble_eq_true rfl) (c10f (by decide) (by omega) (by decide) ?_)
    refine n0_ne 33 d114_17 (by decide) (by decide) (fun q => absurd q (by decide)) (fun _ => ?_)
    refine q_iload_n d114_20 rfl ?_
    refine q_sipush (x := nI 200) d114_21 rfl ?_
    refine q_sipush (x := nI 211) d114_24 rfl ?_
    refine q_s3 d114_27 (Or.inl rfl) rfl (Nat.le_of_ble_eq_true rfl) (c10f (by decide) (by omega) (by decide) ?_)
    refine n0_eq 37 d114_30 (by decide) (by decide) (fun _ => ?_) (fun q => absurd q (by decide))
    refine q_iconstN (z := 0) d114_37 ?_
    refine q_zret d114_38 rfl (by decide) ?_
    exact k
