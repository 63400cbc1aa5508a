/-! ===== contracts: texts ===== -/
theorem zix_of {x : Int32} {n : Nat} (h0 : ¬ x < 0) (h1 : ¬ nI n ≤ x) (hn : n < 2147483648) : 0 ≤ x.toInt ∧ x.toInt < n := by
  rw [Int32.lt_iff_toInt_lt] at h0
  rw [Int32.le_iff_toInt_le, nI_toInt hn] at h1
  have : (0 : Int32).toInt = 0 := rfl
  omega
theorem zdf_lt {a b n : Nat} (h : a < 2 ^ n) : zdf a b < 2 ^ n := by
  apply Nat.lt_pow_two_of_testBit
  intro i hi
  rw [zdf_bit, Nat.testBit_lt_two_pow (Nat.lt_of_lt_of_le h (Nat.pow_le_pow_right (by omega) hi))]; rfl
theorem or_lt {a b n : Nat} (ha : a < 2 ^ n) (hb : b < 2 ^ n) : a ||| b < 2 ^ n := Nat.or_lt_two_pow ha hb
theorem ymk_t {f : Nat → Bool} {i : Nat} (h : f i = true) : ymk f (i + 1) = ymk f i ||| 2 ^ i := by rw [ymk, if_pos h]
theorem ymk_f {f : Nat → Bool} {i : Nat} (h : f i = false) : ymk f (i + 1) = ymk f i := by rw [ymk, h]; exact Nat.or_zero _
theorem ymk_lt12 (f : Nat → Bool) {i : Nat} (h : i ≤ 12) : ymk f i < 4096 := Nat.lt_of_lt_of_le (ymk_lt f i) (Nat.pow_le_pow_right (by omega) h)
theorem pow_12 {i : Nat} (h : i ≤ 12) : 2 ^ i ≤ 4096 := Nat.pow_le_pow_right (by omega) h
theorem OKT.n {T : yT} (h : OKT T) : tn T ≤ 12 := h.2.1
theorem OKT.a {T : yT} (h : OKT T) {k : Nat} (hk : k < tn T) : ta T k < 4096 := Nat.lt_of_lt_of_le (h.2.2.2 k hk).2.1 (pow_12 (by have := h.2.1; omega))
theorem OKT.k {T : yT} (h : OKT T) {k : Nat} (hk : k < tn T) : tk T k < 6 := (h.2.2.2 k hk).1
theorem zdf_12 {a b : Nat} (h : a < 4096) : zdf a b < 4096 := zdf_lt (n := 12) h
theorem d47_0 : decode (zB 47) 0 = .ok (.iload_n 1, 1) := by decide +kernel
theorem d47_1 : decode (zB 47) 1 = .ok (.ifCond .lt 15, 3) := by decide +kernel
theorem d47_4 : decode (zB 47) 4 = .ok (.iload_n 1, 1) := by decide +kernel
theorem d47_5 : decode (zB 47) 5 = .ok (.aload_n 0, 1) := by decide +kernel
theorem d47_6 : decode (zB 47) 6 = .ok (.getfield 34, 3) := by decide +kernel
theorem d47_9 : decode (zB 47) 9 = .ok (.if_icmp .ge 7, 3) := by decide +kernel
theorem d47_12 : decode (zB 47) 12 = .ok (.iconst 1, 1) := by decide +kernel
theorem d47_13 : decode (zB 47) 13 = .ok (.goto 4, 3) := by decide +kernel
theorem d47_16 : decode (zB 47) 16 = .ok (.iconst 0, 1) := by decide +kernel
theorem d47_17 : decode (zB 47) 17 = .ok (.ireturn, 1) := by decide +kernel
theorem c47 {d : Nat} {M : zM} {Q : Option Value → zM → Prop} {a : Nat} {T : yT} {x : Int32} (hp : SPr M a) (hr : RP M a T) (hn : tn T ≤ 12) (k : Q (some (.int (bI (zix x (tn T)).isSome))) M) : qC (d + 1) 47 [.ref a, .int x] M Q := by
  refine qC_of (by decide) (Nat.le_of_ble_eq_true rfl) ?_
  rcases zix_c x (n := tn T) (by omega) with ⟨j, hj, rfl, e⟩ | ⟨e, hn2⟩
  · rw [e] at k
    refine q_iload_n d47_0 rfl ?_
    refine n0_lt 16 d47_1 (by decide) (by omega) (fun q => absurd q (Nat.not_lt_zero _)) (fun _ => ?_)
    refine q_iload_n d47_4 rfl ?_
    refine q_aload_n d47_5 rfl ?_
    refine q_getv (c := 1) (f := 6) d47_6 ⟨rfl, by decide⟩ hp.1 hr.1 ?_
    refine nc_ge 16 d47_9 (by decide) (by omega) (by omega) (fun h9 => (False.elim (by omega))) (fun h9 => ?_)
    refine q_iconstN (z := 1) d47_12 ?_
    refine q_goto 17 d47_13 (by decide) ?_
    refine q_zret d47_17 rfl (by decide) ?_
    exact k
  · rw [e] at k
    refine q_iload_n d47_0 rfl ?_
    refine i0_lt 16 d47_1 (by decide) (fun h1 => ?_) (fun h1 => ?_)
    · refine q_iconstN (z := 0) d47_16 ?_
      refine q_zret d47_17 rfl (by decide) ?_
      exact k
    · refine q_iload_n d47_4 rfl ?_
      refine q_aload_n d47_5 rfl ?_
      refine q_getv (c := 1) (f := 6) d47_6 ⟨rfl, by decide⟩ hp.1 hr.1 ?_
      refine ic_ge 16 d47_9 (by decide) (fun h9 => ?_) (fun h9 => ?_)
      · refine q_iconstN (z := 0) d47_16 ?_
        refine q_zret d47_17 rfl (by decide) ?_
        exact k
      · refine q_iconstN (z := 1) d47_12 ?_
        refine q_goto 17 d47_13 (by decide) ?_
        refine q_zret d47_17 rfl (by decide) ?_
        exact absurd (zix_of h1 h9 (by omega)) hn2
theorem c47t {d : Nat} {M : zM} {Q : Option Value → zM → Prop} {a : Nat} {T : yT} {x : Nat} (hp : SPr M a) (hr : RP M a T) (hn : tn T ≤ 12) (hx : x < tn T) (k : Q (some (.int (nI 1))) M) : qC (d + 1) 47 [.ref a, .int (nI x)] M Q := c47 hp hr hn (by rw [zix_in hx (by omega)]; exact k)
theorem d37_0 : decode (zB 37) 0 = .ok (.iconst 1, 1) := by decide +kernel
theorem d37_1 : decode (zB 37) 1 = .ok (.aload_n 0, 1) := by decide +kernel
theorem d37_2 : decode (zB 37) 2 = .ok (.getfield 34, 3) := by decide +kernel
theorem d37_5 : decode (zB 37) 5 = .ok (.ishl, 1) := by decide +kernel
theorem d37_6 : decode (zB 37) 6 = .ok (.iconst 1, 1) := by decide +kernel
theorem d37_7 : decode (zB 37) 7 = .ok (.isub, 1) := by decide +kernel
theorem d37_8 : decode (zB 37) 8 = .ok (.ireturn, 1) := by decide +kernel
theorem c37 {d : Nat} {M : zM} {Q : Option Value → zM → Prop} {a : Nat} {T : yT} (hp : SPr M a) (hr : RP M a T) (hn : tn T ≤ 12) (k : Q (some (.int (nI (2 ^ tn T - 1)))) M) : qC (d + 1) 37 [.ref a] M Q := by
  refine qC_of (by decide) (Nat.le_of_ble_eq_true rfl) ?_
  refine q_iconstN (z := 1) d37_0 ?_
  refine q_aload_n d37_1 rfl ?_
  refine q_getv (c := 1) (f := 6) d37_2 ⟨rfl, by decide⟩ hp.1 hr.1 ?_
  refine n_ishl1 d37_5 (by omega) ?_
  refine q_iconstN (z := 1) d37_6 ?_
  refine n_isub d37_7 Nat.one_le_two_pow ?_
  refine q_iret d37_8 rfl ?_
  exact k
theorem d77_0 : decode (zB 77) 0 = .ok (.aload_n 0, 1) := by decide +kernel
theorem d77_1 : decode (zB 77) 1 = .ok (.getfield 30, 3) := by decide +kernel
theorem d77_4 : decode (zB 77) 4 = .ok (.iconst (-1), 1) := by decide +kernel
theorem d77_5 : decode (zB 77) 5 = .ok (.if_icmp .eq 18, 3) := by decide +kernel
theorem d77_8 : decode (zB 77) 8 = .ok (.aload_n 0, 1) := by decide +kernel
theorem d77_9 : decode (zB 77) 9 = .ok (.getfield 30, 3) := by decide +kernel
theorem d77_12 : decode (zB 77) 12 = .ok (.iload_n 1, 1) := by decide +kernel
theorem d77_13 : decode (zB 77) 13 = .ok (.iconst (-1), 1) := by decide +kernel
theorem d77_14 : decode (zB 77) 14 = .ok (.ixor, 1) := by decide +kernel
theorem d77_15 : decode (zB 77) 15 = .ok (.iand, 1) := by decide +kernel
theorem d77_16 : decode (zB 77) 16 = .ok (.ifCond .ne 7, 3) := by decide +kernel
theorem d77_19 : decode (zB 77) 19 = .ok (.iconst 1, 1) := by decide +kernel
theorem d77_20 : decode (zB 77) 20 = .ok (.goto 4, 3) := by decide +kernel
theorem d77_23 : decode (zB 77) 23 = .ok (.iconst 0, 1) := by decide +kernel
theorem d77_24 : decode (zB 77) 24 = .ok (.ireturn, 1) := by decide +kernel
theorem c77 {d : Nat} {M : zM} {Q : Option Value → zM → Prop} {a : Nat} {T : yT} {dm : Nat} (hp : SPr M a) (hr : RP M a T) (k : Q (some (.int (bI (ypa T dm)))) M) : qC (d + 1) 77 [.ref a, .int (nI dm)] M Q := by
  refine qC_of (by decide) (Nat.le_of_ble_eq_true rfl) ?_
  refine q_aload_n d77_0 rfl ?_
  refine q_getv (c := 1) (f := 7) d77_1 ⟨rfl, by decide⟩ hp.1 hr.2.1 ?_
  refine q_iconst (x := (-1)) d77_4 rfl ?_
  refine ic_eq 23 d77_5 (by decide) (fun h5 => ?_) (fun h5 => ?_)
  · refine q_iconstN (z := 0) d77_23 ?_
    refine q_zret d77_24 rfl (by decide) ?_
    first | exact bK0 k (decide_eq_false (fun q => q.1 h5)) | exact bK0 k (decide_eq_false (fun q => h16 q.2))
  · refine q_aload_n d77_8 rfl ?_
    refine q_getv (c := 1) (f := 7) d77_9 ⟨rfl, by decide⟩ hp.1 hr.2.1 ?_
    refine q_iload_n d77_12 rfl ?_
    refine q_iconst (x := (-1)) d77_13 rfl ?_
    refine q_ixor d77_14 ?_
    refine q_iand d77_15 ?_
    refine i0_ne 23 d77_16 (by decide) (fun h16 => ?_) (fun h16 => ?_)
    · refine q_iconstN (z := 0) d77_23 ?_
      refine q_zret d77_24 rfl (by decide) ?_
      first | exact bK0 k (decide_eq_false (fun q => q.1 h5)) | exact bK0 k (decide_eq_false (fun q => h16 q.2))
    · refine q_iconstN (z := 1) d77_19 ?_
      refine q_goto 24 d77_20 (by decide) ?_
      refine q_zret d77_24 rfl (by decide) ?_
      exact bK1 k (decide_eq_true ⟨h5, h16⟩)
theorem d44_0 : decode (zB 44) 0 = .ok (.iconst 0, 1) := by decide +kernel
theorem d44_1 : decode (zB 44) 1 = .ok (.istore_n 2, 1) := by decide +kernel
theorem d44_2 : decode (zB 44) 2 = .ok (.iconst 0, 1) := by decide +kernel
theorem d44_3 : decode (zB 44) 3 = .ok (.istore_n 3, 1) := by decide +kernel
theorem d44_4 : decode (zB 44) 4 = .ok (.iload_n 3, 1) := by decide +kernel
theorem d44_5 : decode (zB 44) 5 = .ok (.aload_n 0, 1) := by decide +kernel
theorem d44_6 : decode (zB 44) 6 = .ok (.getfield 34, 3) := by decide +kernel
theorem d44_9 : decode (zB 44) 9 = .ok (.if_icmp .ge 36, 3) := by decide +kernel
theorem d44_12 : decode (zB 44) 12 = .ok (.iload_n 1, 1) := by decide +kernel
theorem d44_13 : decode (zB 44) 13 = .ok (.iload_n 3, 1) := by decide +kernel
theorem d44_14 : decode (zB 44) 14 = .ok (.invokestatic 37, 3) := by decide +kernel
theorem d44_17 : decode (zB 44) 17 = .ok (.ifCond .ne 22, 3) := by decide +kernel
theorem d44_20 : decode (zB 44) 20 = .ok (.aload_n 0, 1) := by decide +kernel
theorem d44_21 : decode (zB 44) 21 = .ok (.getfield 24, 3) := by decide +kernel
theorem d44_24 : decode (zB 44) 24 = .ok (.iload_n 3, 1) := by decide +kernel
theorem d44_25 : decode (zB 44) 25 = .ok (.iaload, 1) := by decide +kernel
theorem d44_26 : decode (zB 44) 26 = .ok (.iload_n 1, 1) := by decide +kernel
theorem d44_27 : decode (zB 44) 27 = .ok (.iconst (-1), 1) := by decide +kernel
theorem d44_28 : decode (zB 44) 28 = .ok (.ixor, 1) := by decide +kernel
theorem d44_29 : decode (zB 44) 29 = .ok (.iand, 1) := by decide +kernel
theorem d44_30 : decode (zB 44) 30 = .ok (.ifCond .ne 9, 3) := by decide +kernel
theorem d44_33 : decode (zB 44) 33 = .ok (.iload_n 2, 1) := by decide +kernel
theorem d44_34 : decode (zB 44) 34 = .ok (.iconst 1, 1) := by decide +kernel
theorem d44_35 : decode (zB 44) 35 = .ok (.iload_n 3, 1) := by decide +kernel
theorem d44_36 : decode (zB 44) 36 = .ok (.ishl, 1) := by decide +kernel
theorem d44_37 : decode (zB 44) 37 = .ok (.ior, 1) := by decide +kernel
theorem d44_38 : decode (zB 44) 38 = .ok (.istore_n 2, 1) := by decide +kernel
theorem d44_39 : decode (zB 44) 39 = .ok (.iinc 3 1, 3) := by decide +kernel
theorem d44_42 : decode (zB 44) 42 = .ok (.goto (-38), 3) := by decide +kernel
theorem d44_45 : decode (zB 44) 45 = .ok (.iload_n 2, 1) := by decide +kernel
theorem d44_46 : decode (zB 44) 46 = .ok (.ireturn, 1) := by decide +kernel
theorem l44 {d : Nat} {M : zM} {Q : Option Value → zM → Prop} {a : Nat} {T : yT} {set : Nat} (hp : SPr M a) (hr : RP M a T) (ho : OKT T) (hs : set < 4096) (k : Q (some (.int (nI (ynx T set)))) M) : ∀ (r i : Nat), i ≤ tn T → tn T < i + r → qW (zEv (d + 1)) 44 Q 4 [(3, .int (nI i)), (2, .int (nI (ymk (fun i => !set.testBit i && zdf (ta T i) set == 0) i))), (0, .ref a), (1, .int (nI set))] [] M := by
  intro r
  induction r with
  | zero => intros; omega
  | succ r ih =>
    intro i  h1 h2 
    have hn := ho.n
    refine q_iload_n d44_4 rfl ?_
    refine q_aload_n d44_5 rfl ?_
    refine q_getv (c := 1) (f := 6) d44_6 ⟨rfl, by decide⟩ hp.1 hr.1 ?_
    refine nc_ge 45 d44_9 (by decide) (by omega) (by omega) (fun h9 => ?_) (fun h9 => ?_)
    · refine q_iload_n d44_45 rfl ?_
      refine q_iret d44_46 rfl ?_
      rw [show i = tn T by omega]; exact k
    · refine q_iload_n d44_12 rfl ?_
      refine q_iload_n d44_13 rfl ?_
      refine q_s2 d44_14 (Or.inr rfl) rfl (Nat.le_of_ble_eq_true rfl) (c35 (by omega) (by omega) ?_)
      refine b0_ne 39 d44_17 (by decide) (fun h17 => ?_) (fun h17 => ?_)
      · refine n_iinc 1 d44_39 (by decide) rfl rfl ?_
        refine q_goto 4 d44_42 (by decide) ?_
        first | (rw [← ymk_t (f := (fun i => !set.testBit i && zdf (ta T i) set == 0)) (by simp [h17, h30])]; exact ih (i + 1) (by omega) (by omega)) | (rw [← ymk_f (f := (fun i => !set.testBit i && zdf (ta T i) set == 0)) (i := i) (by simp_all)]; exact ih (i + 1) (by omega) (by omega))
      · have hz : zdf (ta T i) set < 4096 := zdf_12 (ho.a (by omega))
        refine q_aload_n d44_20 rfl ?_
        refine q_getr (c := 1) (f := 4) d44_21 ⟨rfl, rfl⟩ hp.1 (hp.2 4 (by decide)).1 ?_
        refine q_iload_n d44_24 rfl ?_
        refine n_iald d44_25 (hp.2 4 (by decide)).2 (by omega) (by decide) (hr.2.2 _ (by omega)).2.2.2.2 ?_
        refine q_iload_n d44_26 rfl ?_
        refine q_iconst (x := (-1)) d44_27 rfl ?_
        refine q_ixor d44_28 ?_
        refine n_iandn d44_29 ?_
        refine n0_ne 39 d44_30 (by decide) (by omega) (fun h30 => ?_) (fun h30 => ?_)
        · refine n_iinc 1 d44_39 (by decide) rfl rfl ?_
          refine q_goto 4 d44_42 (by decide) ?_
          first | (rw [← ymk_t (f := (fun i => !set.testBit i && zdf (ta T i) set == 0)) (by simp [h17, h30])]; exact ih (i + 1) (by omega) (by omega)) | (rw [← ymk_f (f := (fun i => !set.testBit i && zdf (ta T i) set == 0)) (i := i) (by simp_all)]; exact ih (i + 1) (by omega) (by omega))
        · refine q_iload_n d44_33 rfl ?_
          refine q_iconstN (z := 1) d44_34 ?_
          refine q_iload_n d44_35 rfl ?_
          refine n_ishl1 d44_36 (by omega) ?_
          refine n_ior d44_37 ?_
          refine q_istore_n d44_38 (by decide) rfl ?_
          refine n_iinc 1 d44_39 (by decide) rfl rfl ?_
          refine q_goto 4 d44_42 (by decide) ?_
          first | (rw [← ymk_t (f := (fun i => !set.testBit i && zdf (ta T i) set == 0)) (by simp [h17, h30])]; exact ih (i + 1) (by omega) (by omega)) | (rw [← ymk_f (f := (fun i => !set.testBit i && zdf (ta T i) set == 0)) (i := i) (by simp_all)]; exact ih (i + 1) (by omega) (by omega))
theorem c44 {d : Nat} {M : zM} {Q : Option Value → zM → Prop} {a : Nat} {T : yT} {set : Nat} (hp : SPr M a) (hr : RP M a T) (ho : OKT T) (hs : set < 4096) (k : Q (some (.int (nI (ynx T set)))) M) : qC (d + 2) 44 [.ref a, .int (nI set)] M Q := by
  refine qC_of (by decide) (Nat.le_of_ble_eq_true rfl) ?_
  refine q_iconstN (z := 0) d44_0 ?_
  refine q_istore_n d44_1 (by decide) rfl ?_
  refine q_iconstN (z := 0) d44_2 ?_
  refine q_istore_n d44_3 (by decide) rfl ?_
  exact l44 hp hr ho hs k (tn T + 1) 0 (by omega) (by omega)
/-- steps beside one of a text -/
def ybd (T : yT) (i : Nat) : Nat := ymk (fun k => !(k == i) && !(ta T i).testBit k && !(ta T k).testBit i) (tn T)
theorem zdf_all {m n : Nat} (f : Nat → Bool) (h : ∀ k, k < n → m.testBit k = !f k) : zdf (2 ^ n - 1) m = ymk f n := by
  apply ymk_is
  intro i
  rw [zdf_bit, Nat.testBit_two_pow_sub_one]
  by_cases hi : i < n
  · rw [h i hi]; simp
  · rw [decide_eq_false hi]; rfl
theorem or_bit_t {m i k : Nat} : (m ||| 2 ^ i).testBit k = (m.testBit k || decide (k = i)) := by
  rw [Nat.testBit_or, Nat.testBit_two_pow, show decide (i = k) = decide (k = i) by simp only [decide_eq_decide]; omega]
theorem d39_0 : decode (zB 39) 0 = .ok (.iconst 1, 1) := by decide +kernel
theorem d39_1 : decode (zB 39) 1 = .ok (.iload_n 1, 1) := by decide +kernel
theorem d39_2 : decode (zB 39) 2 = .ok (.ishl, 1) := by decide +kernel
theorem d39_3 : decode (zB 39) 3 = .ok (.istore_n 2, 1) := by decide +kernel
theorem d39_4 : decode (zB 39) 4 = .ok (.iconst 0, 1) := by decide +kernel
theorem d39_5 : decode (zB 39) 5 = .ok (.istore_n 3, 1) := by decide +kernel
theorem d39_6 : decode (zB 39) 6 = .ok (.iload_n 3, 1) := by decide +kernel
theorem d39_7 : decode (zB 39) 7 = .ok (.aload_n 0, 1) := by decide +kernel
theorem d39_8 : decode (zB 39) 8 = .ok (.getfield 34, 3) := by decide +kernel
theorem d39_11 : decode (zB 39) 11 = .ok (.if_icmp .ge 41, 3) := by decide +kernel
theorem d39_14 : decode (zB 39) 14 = .ok (.aload_n 0, 1) := by decide +kernel
theorem d39_15 : decode (zB 39) 15 = .ok (.getfield 24, 3) := by decide +kernel
theorem d39_18 : decode (zB 39) 18 = .ok (.iload_n 1, 1) := by decide +kernel
theorem d39_19 : decode (zB 39) 19 = .ok (.iaload, 1) := by decide +kernel
theorem d39_20 : decode (zB 39) 20 = .ok (.iload_n 3, 1) := by decide +kernel
theorem d39_21 : decode (zB 39) 21 = .ok (.invokestatic 37, 3) := by decide +kernel
theorem d39_24 : decode (zB 39) 24 = .ok (.ifCond .ne 16, 3) := by decide +kernel
theorem d39_27 : decode (zB 39) 27 = .ok (.aload_n 0, 1) := by decide +kernel
theorem d39_28 : decode (zB 39) 28 = .ok (.getfield 24, 3) := by decide +kernel
theorem d39_31 : decode (zB 39) 31 = .ok (.iload_n 3, 1) := by decide +kernel
theorem d39_32 : decode (zB 39) 32 = .ok (.iaload, 1) := by decide +kernel
theorem d39_33 : decode (zB 39) 33 = .ok (.iload_n 1, 1) := by decide +kernel
theorem d39_34 : decode (zB 39) 34 = .ok (.invokestatic 37, 3) := by decide +kernel
theorem d39_37 : decode (zB 39) 37 = .ok (.ifCond .eq 9, 3) := by decide +kernel
theorem d39_40 : decode (zB 39) 40 = .ok (.iload_n 2, 1) := by decide +kernel
theorem d39_41 : decode (zB 39) 41 = .ok (.iconst 1, 1) := by decide +kernel
theorem d39_42 : decode (zB 39) 42 = .ok (.iload_n 3, 1) := by decide +kernel
theorem d39_43 : decode (zB 39) 43 = .ok (.ishl, 1) := by decide +kernel
theorem d39_44 : decode (zB 39) 44 = .ok (.ior, 1) := by decide +kernel
theorem d39_45 : decode (zB 39) 45 = .ok (.istore_n 2, 1) := by decide +kernel
theorem d39_46 : decode (zB 39) 46 = .ok (.iinc 3 1, 3) := by decide +kernel
theorem d39_49 : decode (zB 39) 49 = .ok (.goto (-43), 3) := by decide +kernel
theorem d39_52 : decode (zB 39) 52 = .ok (.aload_n 0, 1) := by decide +kernel
theorem d39_53 : decode (zB 39) 53 = .ok (.invokevirtual 41, 3) := by decide +kernel
theorem d39_56 : decode (zB 39) 56 = .ok (.iload_n 2, 1) := by decide +kernel
theorem d39_57 : decode (zB 39) 57 = .ok (.iconst (-1), 1) := by decide +kernel
theorem d39_58 : decode (zB 39) 58 = .ok (.ixor, 1) := by decide +kernel
theorem d39_59 : decode (zB 39) 59 = .ok (.iand, 1) := by decide +kernel
theorem d39_60 : decode (zB 39) 60 = .ok (.ireturn, 1) := by decide +kernel
theorem l39 {d : Nat} {M : zM} {Q : Option Value → zM → Prop} {a : Nat} {T : yT} {s : Nat} (hp : SPr M a) (hr : RP M a T) (ho : OKT T) (hs : s < tn T) (k : Q (some (.int (nI (ybd T s)))) M) : ∀ (r i : Nat) rel, i ≤ tn T → tn T < i + r → rel < 4096 → (∀ k, rel.testBit k = (decide (k = s) || (decide (k < i) && ((ta T s).testBit k || (ta T k).testBit s)))) → qW (zEv (d + 1)) 39 Q 6 [(3, .int (nI i)), (2, .int (nI rel)), (0, .ref a), (1, .int (nI s))] [] M := by
  intro r
  induction r with
  | zero => intros; omega
  | succ r ih =>
    intro i rel h1 h2 hl hb
    have hn := ho.n
    refine q_iload_n d39_6 rfl ?_
    refine q_aload_n d39_7 rfl ?_
    refine q_getv (c := 1) (f := 6) d39_8 ⟨rfl, by decide⟩ hp.1 hr.1 ?_
    refine nc_ge 52 d39_11 (by decide) (by omega) (by omega) (fun h11 => ?_) (fun h11 => ?_)
    · refine q_aload_n d39_52 rfl ?_
      refine q_v0 d39_53 rfl rfl hp.1 (Nat.le_of_ble_eq_true rfl) (c37 hp hr hn ?_)
      refine q_iload_n d39_56 rfl ?_
      refine q_iconst (x := (-1)) d39_57 rfl ?_
      refine q_ixor d39_58 ?_
      refine n_iandn d39_59 ?_
      refine q_iret d39_60 rfl ?_
      have e : i = tn T := by omega
      subst e
      rw [zdf_all (fun k => !(k == s) && !(ta T s).testBit k && !(ta T k).testBit s) (fun k hk => by rw [hb k]; simp [hk, Bool.or_assoc]; rfl)]
      exact k
    · have ha1 := ho.a hs
      have ha2 := ho.a (k := i) (by omega)
      refine q_aload_n d39_14 rfl ?_
      refine q_getr (c := 1) (f := 4) d39_15 ⟨rfl, rfl⟩ hp.1 (hp.2 4 (by decide)).1 ?_
      refine q_iload_n d39_18 rfl ?_
      refine n_iald d39_19 (hp.2 4 (by decide)).2 (by omega) (by decide) (hr.2.2 _ (by omega)).2.2.2.2 ?_
      refine q_iload_n d39_20 rfl ?_
      refine q_s2 d39_21 (Or.inr rfl) rfl (Nat.le_of_ble_eq_true rfl) (c35 (by omega) (by omega) ?_)
      refine b0_ne 40 d39_24 (by decide) (fun h24 => ?_) (fun h24 => ?_)
      · refine q_iload_n d39_40 rfl ?_
        refine q_iconstN (z := 1) d39_41 ?_
        refine q_iload_n d39_42 rfl ?_
        refine n_ishl1 d39_43 (by omega) ?_
        refine n_ior d39_44 ?_
        refine q_istore_n d39_45 (by decide) rfl ?_
        refine n_iinc 1 d39_46 (by decide) rfl rfl ?_
        refine q_goto 6 d39_49 (by decide) ?_
        first
        | (refine ih (i + 1) _ (by omega) (by omega) (or_lt (n := 12) hl (pow_lt (by omega))) (fun k => ?_); rw [or_bit_t, hb k]; by_cases e : k = i; (subst e; simp_all); (rw [decide_eq_false e, Bool.or_false, show decide (k < i + 1) = decide (k < i) by simp only [decide_eq_decide]; omega]))
        | (refine ih (i + 1) _ (by omega) (by omega) hl (fun k => ?_); rw [hb k]; by_cases e : k = i; (subst e; simp_all); (rw [show decide (k < i + 1) = decide (k < i) by simp only [decide_eq_decide]; omega]))
      · refine q_aload_n d39_27 rfl ?_
        refine q_getr (c := 1) (f := 4) d39_28 ⟨rfl, rfl⟩ hp.1 (hp.2 4 (by decide)).1 ?_
        refine q_iload_n d39_31 rfl ?_
        refine n_iald d39_32 (hp.2 4 (by decide)).2 (by omega) (by decide) (hr.2.2 _ (by omega)).2.2.2.2 ?_
        refine q_iload_n d39_33 rfl ?_
        refine q_s2 d39_34 (Or.inr rfl) rfl (Nat.le_of_ble_eq_true rfl) (c35 (by omega) (by omega) ?_)
        refine b0_eq 46 d39_37 (by decide) (fun h37 => ?_) (fun h37 => ?_)
        · refine n_iinc 1 d39_46 (by decide) rfl rfl ?_
          refine q_goto 6 d39_49 (by decide) ?_
          first
          | (refine ih (i + 1) _ (by omega) (by omega) (or_lt (n := 12) hl (pow_lt (by omega))) (fun k => ?_); rw [or_bit_t, hb k]; by_cases e : k = i; (subst e; simp_all); (rw [decide_eq_false e, Bool.or_false, show decide (k < i + 1) = decide (k < i) by simp only [decide_eq_decide]; omega]))
          | (refine ih (i + 1) _ (by omega) (by omega) hl (fun k => ?_); rw [hb k]; by_cases e : k = i; (subst e; simp_all); (rw [show decide (k < i + 1) = decide (k < i) by simp only [decide_eq_decide]; omega]))
        · refine q_iload_n d39_40 rfl ?_
          refine q_iconstN (z := 1) d39_41 ?_
          refine q_iload_n d39_42 rfl ?_
          refine n_ishl1 d39_43 (by omega) ?_
          refine n_ior d39_44 ?_
          refine q_istore_n d39_45 (by decide) rfl ?_
          refine n_iinc 1 d39_46 (by decide) rfl rfl ?_
          refine q_goto 6 d39_49 (by decide) ?_
          first
          | (refine ih (i + 1) _ (by omega) (by omega) (or_lt (n := 12) hl (pow_lt (by omega))) (fun k => ?_); rw [or_bit_t, hb k]; by_cases e : k = i; (subst e; simp_all); (rw [decide_eq_false e, Bool.or_false, show decide (k < i + 1) = decide (k < i) by simp only [decide_eq_decide]; omega]))
          | (refine ih (i + 1) _ (by omega) (by omega) hl (fun k => ?_); rw [hb k]; by_cases e : k = i; (subst e; simp_all); (rw [show decide (k < i + 1) = decide (k < i) by simp only [decide_eq_decide]; omega]))
theorem c39 {d : Nat} {M : zM} {Q : Option Value → zM → Prop} {a : Nat} {T : yT} {s : Nat} (hp : SPr M a) (hr : RP M a T) (ho : OKT T) (hs : s < tn T) (k : Q (some (.int (nI (ybd T s)))) M) : qC (d + 2) 39 [.ref a, .int (nI s)] M Q := by
  have hn := ho.n
  refine qC_of (by decide) (Nat.le_of_ble_eq_true rfl) ?_
  refine q_iconstN (z := 1) d39_0 ?_
  refine q_iload_n d39_1 rfl ?_
  refine n_ishl1 d39_2 (by omega) ?_
  refine q_istore_n d39_3 (by decide) rfl ?_
  refine q_iconstN (z := 0) d39_4 ?_
  refine q_istore_n d39_5 (by decide) rfl ?_
  exact l39 hp hr ho hs k (tn T + 1) 0 _ (by omega) (by omega) (Nat.lt_of_lt_of_le (pow_lt (by omega : s < 12)) (by decide)) (fun j => by rw [Nat.testBit_two_pow]; simp [eq_comm])
def yac (x : Int32) : Nat := match zix x 6 with
  | none => 0
  | some k => 2 ^ k
def yao (T : yT) (i : Nat) : Nat := yac (tf T i) ||| yac (ts T i)
theorem yac_lt (x : Int32) : yac x < 64 := by
  unfold yac
  split
  · omega
  · rename_i k h
    exact Nat.lt_of_lt_of_le (pow_lt (zix_some h).1) (by decide)
theorem d41_0 : decode (zB 41) 0 = .ok (.aload_n 0, 1) := by decide +kernel
theorem d41_1 : decode (zB 41) 1 = .ok (.getfield 15, 3) := by decide +kernel
theorem d41_4 : decode (zB 41) 4 = .ok (.iload_n 1, 1) := by decide +kernel
theorem d41_5 : decode (zB 41) 5 = .ok (.iaload, 1) := by decide +kernel
theorem d41_6 : decode (zB 41) 6 = .ok (.invokestatic 59, 3) := by decide +kernel
theorem d41_9 : decode (zB 41) 9 = .ok (.ifCond .eq 14, 3) := by decide +kernel
theorem d41_12 : decode (zB 41) 12 = .ok (.iconst 1, 1) := by decide +kernel
theorem d41_13 : decode (zB 41) 13 = .ok (.aload_n 0, 1) := by decide +kernel
theorem d41_14 : decode (zB 41) 14 = .ok (.getfield 15, 3) := by decide +kernel
theorem d41_17 : decode (zB 41) 17 = .ok (.iload_n 1, 1) := by decide +kernel
theorem d41_18 : decode (zB 41) 18 = .ok (.iaload, 1) := by decide +kernel
theorem d41_19 : decode (zB 41) 19 = .ok (.ishl, 1) := by decide +kernel
theorem d41_20 : decode (zB 41) 20 = .ok (.goto 4, 3) := by decide +kernel
theorem d41_23 : decode (zB 41) 23 = .ok (.iconst 0, 1) := by decide +kernel
theorem d41_24 : decode (zB 41) 24 = .ok (.istore_n 2, 1) := by decide +kernel
theorem d41_25 : decode (zB 41) 25 = .ok (.aload_n 0, 1) := by decide +kernel
theorem d41_26 : decode (zB 41) 26 = .ok (.getfield 18, 3) := by decide +kernel
theorem d41_29 : decode (zB 41) 29 = .ok (.iload_n 1, 1) := by decide +kernel
theorem d41_30 : decode (zB 41) 30 = .ok (.iaload, 1) := by decide +kernel
theorem d41_31 : decode (zB 41) 31 = .ok (.invokestatic 59, 3) := by decide +kernel
theorem d41_34 : decode (zB 41) 34 = .ok (.ifCond .eq 14, 3) := by decide +kernel
theorem d41_37 : decode (zB 41) 37 = .ok (.iconst 1, 1) := by decide +kernel
theorem d41_38 : decode (zB 41) 38 = .ok (.aload_n 0, 1) := by decide +kernel
theorem d41_39 : decode (zB 41) 39 = .ok (.getfield 18, 3) := by decide +kernel
theorem d41_42 : decode (zB 41) 42 = .ok (.iload_n 1, 1) := by decide +kernel
theorem d41_43 : decode (zB 41) 43 = .ok (.iaload, 1) := by decide +kernel
theorem d41_44 : decode (zB 41) 44 = .ok (.ishl, 1) := by decide +kernel
theorem d41_45 : decode (zB 41) 45 = .ok (.goto 4, 3) := by decide +kernel
theorem d41_48 : decode (zB 41) 48 = .ok (.iconst 0, 1) := by decide +kernel
theorem d41_49 : decode (zB 41) 49 = .ok (.istore_n 3, 1) := by decide +kernel
theorem d41_50 : decode (zB 41) 50 = .ok (.iload_n 2, 1) := by decide +kernel
theorem d41_51 : decode (zB 41) 51 = .ok (.iload_n 3, 1) := by decide +kernel
theorem d41_52 : decode (zB 41) 52 = .ok (.ior, 1) := by decide +kernel
theorem d41_53 : decode (zB 41) 53 = .ok (.ireturn, 1) := by decide +kernel
theorem c41 {d : Nat} {M : zM} {Q : Option Value → zM → Prop} {a : Nat} {T : yT} {s : Nat} (hp : SPr M a) (hr : RP M a T) (hs : s < tn T) (hn : tn T ≤ 12) (k : Q (some (.int (nI (yao T s)))) M) : qC (d + 3) 41 [.ref a, .int (nI s)] M Q := by
  refine qC_of (by decide) (Nat.le_of_ble_eq_true rfl) ?_
  rcases zix_c (tf T s) (n := 6) (by omega) with ⟨j1, h1, e1, z1⟩ | ⟨z1, h1⟩ <;> rcases zix_c (ts T s) (n := 6) (by omega) with ⟨j2, h2, e2, z2⟩ | ⟨z2, h2⟩
  · refine q_aload_n d41_0 rfl ?_
    refine q_getr (c := 1) (f := 1) d41_1 ⟨rfl, rfl⟩ hp.1 (hp.2 1 (by decide)).1 ?_
    refine q_iload_n d41_4 rfl ?_
    refine n_iald d41_5 (hp.2 1 (by decide)).2 (by omega) (by decide) ((hr.2.2 _ hs).2.1.trans e1) ?_
    refine q_s1 d41_6 (Or.inr rfl) rfl (Nat.le_of_ble_eq_true rfl) (c26t h1 ?_)
    refine n0_eq 23 d41_9 (by decide) (by decide) (fun q => absurd q (by decide)) (fun _ => ?_)
    refine q_iconstN (z := 1) d41_12 ?_
    refine q_aload_n d41_13 rfl ?_
    refine q_getr (c := 1) (f := 1) d41_14 ⟨rfl, rfl⟩ hp.1 (hp.2 1 (by decide)).1 ?_
    refine q_iload_n d41_17 rfl ?_
    refine n_iald d41_18 (hp.2 1 (by decide)).2 (by omega) (by decide) ((hr.2.2 _ hs).2.1.trans e1) ?_
    refine n_ishl1 d41_19 (by omega) ?_
    refine q_goto 24 d41_20 (by decide) ?_
    refine q_istore_n d41_24 (by decide) rfl ?_
    refine q_aload_n d41_25 rfl ?_
    refine q_getr (c := 1) (f := 2) d41_26 ⟨rfl, rfl⟩ hp.1 (hp.2 2 (by decide)).1 ?_
    refine q_iload_n d41_29 rfl ?_
    refine n_iald d41_30 (hp.2 2 (by decide)).2 (by omega) (by decide) ((hr.2.2 _ hs).2.2.1.trans e2) ?_
    refine q_s1 d41_31 (Or.inr rfl) rfl (Nat.le_of_ble_eq_true rfl) (c26t h2 ?_)
    refine n0_eq 48 d41_34 (by decide) (by decide) (fun q => absurd q (by decide)) (fun _ => ?_)
    refine q_iconstN (z := 1) d41_37 ?_
    refine q_aload_n d41_38 rfl ?_
    refine q_getr (c := 1) (f := 2) d41_39 ⟨rfl, rfl⟩ hp.1 (hp.2 2 (by decide)).1 ?_
    refine q_iload_n d41_42 rfl ?_
    refine n_iald d41_43 (hp.2 2 (by decide)).2 (by omega) (by decide) ((hr.2.2 _ hs).2.2.1.trans e2) ?_
    refine n_ishl1 d41_44 (by omega) ?_
    refine q_goto 49 d41_45 (by decide) ?_
    refine q_istore_n d41_49 (by decide) rfl ?_
    refine q_iload_n d41_50 rfl ?_
    refine q_iload_n d41_51 rfl ?_
    refine n_ior d41_52 ?_
    refine q_iret d41_53 rfl ?_
    refine nK k (congrArg nI ?_); unfold yao yac; rw [z1, z2]
  · refine q_aload_n d41_0 rfl ?_
    refine q_getr (c := 1) (f := 1) d41_1 ⟨rfl, rfl⟩ hp.1 (hp.2 1 (by decide)).1 ?_
    refine q_iload_n d41_4 rfl ?_
    refine n_iald d41_5 (hp.2 1 (by decide)).2 (by omega) (by decide) ((hr.2.2 _ hs).2.1.trans e1) ?_
    refine q_s1 d41_6 (Or.inr rfl) rfl (Nat.le_of_ble_eq_true rfl) (c26t h1 ?_)
    refine n0_eq 23 d41_9 (by decide) (by decide) (fun q => absurd q (by decide)) (fun _ => ?_)
    refine q_iconstN (z := 1) d41_12 ?_
    refine q_aload_n d41_13 rfl ?_
    refine q_getr (c := 1) (f := 1) d41_14 ⟨rfl, rfl⟩ hp.1 (hp.2 1 (by decide)).1 ?_
    refine q_iload_n d41_17 rfl ?_
    refine n_iald d41_18 (hp.2 1 (by decide)).2 (by omega) (by decide) ((hr.2.2 _ hs).2.1.trans e1) ?_
    refine n_ishl1 d41_19 (by omega) ?_
    refine q_goto 24 d41_20 (by decide) ?_
    refine q_istore_n d41_24 (by decide) rfl ?_
    refine q_aload_n d41_25 rfl ?_
    refine q_getr (c := 1) (f := 2) d41_26 ⟨rfl, rfl⟩ hp.1 (hp.2 2 (by decide)).1 ?_
    refine q_iload_n d41_29 rfl ?_
    refine n_iald d41_30 (hp.2 2 (by decide)).2 (by omega) (by decide) (hr.2.2 _ (by omega)).2.2.1 ?_
    refine q_s1 d41_31 (Or.inr rfl) rfl (Nat.le_of_ble_eq_true rfl) (c26f z2 ?_)
    refine n0_eq 48 d41_34 (by decide) (by decide) (fun _ => ?_) (fun q => absurd q (by decide))
    refine q_iconstN (z := 0) d41_48 ?_
    refine q_istore_n d41_49 (by decide) rfl ?_
    refine q_iload_n d41_50 rfl ?_
    refine q_iload_n d41_51 rfl ?_
    refine n_ior d41_52 ?_
    refine q_iret d41_53 rfl ?_
    refine nK k (congrArg nI ?_); unfold yao yac; rw [z1, z2]
  · refine q_aload_n d41_0 rfl ?_
    refine q_getr (c := 1) (f := 1) d41_1 ⟨rfl, rfl⟩ hp.1 (hp.2 1 (by decide)).1 ?_
    refine q_iload_n d41_4 rfl ?_
    refine n_iald d41_5 (hp.2 1 (by decide)).2 (by omega) (by decide) (hr.2.2 _ (by omega)).2.1 ?_
    refine q_s1 d41_6 (Or.inr rfl) rfl (Nat.le_of_ble_eq_true rfl) (c26f z1 ?_)
    refine n0_eq 23 d41_9 (by decide) (by decide) (fun _ => ?_) (fun q => absurd q (by decide))
    refine q_iconstN (z := 0) d41_23 ?_
    refine q_istore_n d41_24 (by decide) rfl ?_
    refine q_aload_n d41_25 rfl ?_
    refine q_getr (c := 1) (f := 2) d41_26 ⟨rfl, rfl⟩ hp.1 (hp.2 2 (by decide)).1 ?_
    refine q_iload_n d41_29 rfl ?_
    refine n_iald d41_30 (hp.2 2 (by decide)).2 (by omega) (by decide) ((hr.2.2 _ hs).2.2.1.trans e2) ?_
    refine q_s1 d41_31 (Or.inr rfl) rfl (Nat.le_of_ble_eq_true rfl) (c26t h2 ?_)
    refine n0_eq 48 d41_34 (by decide) (by decide) (fun q => absurd q (by decide)) (fun _ => ?_)
    refine q_iconstN (z := 1) d41_37 ?_
    refine q_aload_n d41_38 rfl ?_
    refine q_getr (c := 1) (f := 2) d41_39 ⟨rfl, rfl⟩ hp.1 (hp.2 2 (by decide)).1 ?_
    refine q_iload_n d41_42 rfl ?_
    refine n_iald d41_43 (hp.2 2 (by decide)).2 (by omega) (by decide) ((hr.2.2 _ hs).2.2.1.trans e2) ?_
    refine n_ishl1 d41_44 (by omega) ?_
    refine q_goto 49 d41_45 (by decide) ?_
    refine q_istore_n d41_49 (by decide) rfl ?_
    refine q_iload_n d41_50 rfl ?_
    refine q_iload_n d41_51 rfl ?_
    refine n_ior d41_52 ?_
    refine q_iret d41_53 rfl ?_
    refine nK k (congrArg nI ?_); unfold yao yac; rw [z1, z2]
  · refine q_aload_n d41_0 rfl ?_
    refine q_getr (c := 1) (f := 1) d41_1 ⟨rfl, rfl⟩ hp.1 (hp.2 1 (by decide)).1 ?_
    refine q_iload_n d41_4 rfl ?_
    refine n_iald d41_5 (hp.2 1 (by decide)).2 (by omega) (by decide) (hr.2.2 _ (by omega)).2.1 ?_
    refine q_s1 d41_6 (Or.inr rfl) rfl (Nat.le_of_ble_eq_true rfl) (c26f z1 ?_)
    refine n0_eq 23 d41_9 (by decide) (by decide) (fun _ => ?_) (fun q => absurd q (by decide))
    refine q_iconstN (z := 0) d41_23 ?_
    refine q_istore_n d41_24 (by decide) rfl ?_
    refine q_aload_n d41_25 rfl ?_
    refine q_getr (c := 1) (f := 2) d41_26 ⟨rfl, rfl⟩ hp.1 (hp.2 2 (by decide)).1 ?_
    refine q_iload_n d41_29 rfl ?_
    refine n_iald d41_30 (hp.2 2 (by decide)).2 (by omega) (by decide) (hr.2.2 _ (by omega)).2.2.1 ?_
    refine q_s1 d41_31 (Or.inr rfl) rfl (Nat.le_of_ble_eq_true rfl) (c26f z2 ?_)
    refine n0_eq 48 d41_34 (by decide) (by decide) (fun _ => ?_) (fun q => absurd q (by decide))
    refine q_iconstN (z := 0) d41_48 ?_
    refine q_istore_n d41_49 (by decide) rfl ?_
    refine q_iload_n d41_50 rfl ?_
    refine q_iload_n d41_51 rfl ?_
    refine n_ior d41_52 ?_
    refine q_iret d41_53 rfl ?_
    refine nK k (congrArg nI ?_); unfold yao yac; rw [z1, z2]
theorem d15_0 : decode (zB 15) 0 = .ok (.aload_n 0, 1) := by decide +kernel
theorem d15_1 : decode (zB 15) 1 = .ok (.iconst 0, 1) := by decide +kernel
theorem d15_2 : decode (zB 15) 2 = .ok (.putfield 34, 3) := by decide +kernel
theorem d15_5 : decode (zB 15) 5 = .ok (.aload_n 0, 1) := by decide +kernel
theorem d15_6 : decode (zB 15) 6 = .ok (.iconst (-1), 1) := by decide +kernel
theorem d15_7 : decode (zB 15) 7 = .ok (.putfield 30, 3) := by decide +kernel
theorem d15_10 : decode (zB 15) 10 = .ok (.return_, 1) := by decide +kernel
theorem c15 {d : Nat} {M : zM} {Q : Option Value → zM → Prop} {a : Nat} (hp : SPr M a) (k : Q none (zwi (zwi M a 6 (nI 0)) a 7 (-1))) : qC (d + 1) 15 [.ref a] M Q := by
  refine qC_of (by decide) (Nat.le_of_ble_eq_true rfl) ?_
  refine q_aload_n d15_0 rfl ?_
  refine q_iconstN (z := 0) d15_1 ?_
  refine q_puti (c := 1) (f := 6) d15_2 ⟨rfl, rfl, by decide⟩ hp.1 ?_
  refine q_aload_n d15_5 rfl ?_
  refine q_iconst (x := (-1)) d15_6 rfl ?_
  refine q_puti (c := 1) (f := 7) d15_7 ⟨rfl, rfl, by decide⟩ hp.1 ?_
  refine q_ret d15_10 rfl ?_
  exact k
