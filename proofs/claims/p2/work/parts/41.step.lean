/-! ===== contracts: a step is read ===== -/
theorem d29_0 : decode (zB 29) 0 = .ok (.aload_n 0, 1) := by decide +kernel
theorem d29_1 : decode (zB 29) 1 = .ok (.getfield 34, 3) := by decide +kernel
theorem d29_4 : decode (zB 29) 4 = .ok (.bipush 12, 2) := by decide +kernel
theorem d29_6 : decode (zB 29) 6 = .ok (.if_icmp .lt 5, 3) := by decide +kernel
theorem d29_9 : decode (zB 29) 9 = .ok (.iconst 0, 1) := by decide +kernel
theorem d29_10 : decode (zB 29) 10 = .ok (.ireturn, 1) := by decide +kernel
theorem d29_11 : decode (zB 29) 11 = .ok (.aload_n 0, 1) := by decide +kernel
theorem d29_12 : decode (zB 29) 12 = .ok (.getfield 9, 3) := by decide +kernel
theorem d29_15 : decode (zB 29) 15 = .ok (.aload_n 0, 1) := by decide +kernel
theorem d29_16 : decode (zB 29) 16 = .ok (.getfield 34, 3) := by decide +kernel
theorem d29_19 : decode (zB 29) 19 = .ok (.iload_n 1, 1) := by decide +kernel
theorem d29_20 : decode (zB 29) 20 = .ok (.iastore, 1) := by decide +kernel
theorem d29_21 : decode (zB 29) 21 = .ok (.aload_n 0, 1) := by decide +kernel
theorem d29_22 : decode (zB 29) 22 = .ok (.getfield 15, 3) := by decide +kernel
theorem d29_25 : decode (zB 29) 25 = .ok (.aload_n 0, 1) := by decide +kernel
theorem d29_26 : decode (zB 29) 26 = .ok (.getfield 34, 3) := by decide +kernel
theorem d29_29 : decode (zB 29) 29 = .ok (.iload_n 2, 1) := by decide +kernel
theorem d29_30 : decode (zB 29) 30 = .ok (.iastore, 1) := by decide +kernel
theorem d29_31 : decode (zB 29) 31 = .ok (.aload_n 0, 1) := by decide +kernel
theorem d29_32 : decode (zB 29) 32 = .ok (.getfield 18, 3) := by decide +kernel
theorem d29_35 : decode (zB 29) 35 = .ok (.aload_n 0, 1) := by decide +kernel
theorem d29_36 : decode (zB 29) 36 = .ok (.getfield 34, 3) := by decide +kernel
theorem d29_39 : decode (zB 29) 39 = .ok (.iload_n 3, 1) := by decide +kernel
theorem d29_40 : decode (zB 29) 40 = .ok (.iastore, 1) := by decide +kernel
theorem d29_41 : decode (zB 29) 41 = .ok (.aload_n 0, 1) := by decide +kernel
theorem d29_42 : decode (zB 29) 42 = .ok (.getfield 21, 3) := by decide +kernel
theorem d29_45 : decode (zB 29) 45 = .ok (.aload_n 0, 1) := by decide +kernel
theorem d29_46 : decode (zB 29) 46 = .ok (.getfield 34, 3) := by decide +kernel
theorem d29_49 : decode (zB 29) 49 = .ok (.iload 4, 2) := by decide +kernel
theorem d29_51 : decode (zB 29) 51 = .ok (.iastore, 1) := by decide +kernel
theorem d29_52 : decode (zB 29) 52 = .ok (.aload_n 0, 1) := by decide +kernel
theorem d29_53 : decode (zB 29) 53 = .ok (.getfield 24, 3) := by decide +kernel
theorem d29_56 : decode (zB 29) 56 = .ok (.aload_n 0, 1) := by decide +kernel
theorem d29_57 : decode (zB 29) 57 = .ok (.getfield 34, 3) := by decide +kernel
theorem d29_60 : decode (zB 29) 60 = .ok (.iload 5, 2) := by decide +kernel
theorem d29_62 : decode (zB 29) 62 = .ok (.iastore, 1) := by decide +kernel
theorem d29_63 : decode (zB 29) 63 = .ok (.aload_n 0, 1) := by decide +kernel
theorem d29_64 : decode (zB 29) 64 = .ok (.dup, 1) := by decide +kernel
theorem d29_65 : decode (zB 29) 65 = .ok (.getfield 34, 3) := by decide +kernel
theorem d29_68 : decode (zB 29) 68 = .ok (.iconst 1, 1) := by decide +kernel
theorem d29_69 : decode (zB 29) 69 = .ok (.iadd, 1) := by decide +kernel
theorem d29_70 : decode (zB 29) 70 = .ok (.putfield 34, 3) := by decide +kernel
theorem d29_73 : decode (zB 29) 73 = .ok (.iconst 1, 1) := by decide +kernel
theorem d29_74 : decode (zB 29) 74 = .ok (.aload_n 0, 1) := by decide +kernel
theorem d29_75 : decode (zB 29) 75 = .ok (.getfield 34, 3) := by decide +kernel
theorem d29_78 : decode (zB 29) 78 = .ok (.iconst 1, 1) := by decide +kernel
theorem d29_79 : decode (zB 29) 79 = .ok (.isub, 1) := by decide +kernel
theorem d29_80 : decode (zB 29) 80 = .ok (.ishl, 1) := by decide +kernel
theorem d29_81 : decode (zB 29) 81 = .ok (.ireturn, 1) := by decide +kernel
theorem c29 {d : Nat} {M : zM} {Q : Option Value → zM → Prop} {a kd ah : Nat} {T : yT} {x y z : Int32} (hp : SPr M a) (hr : RP M a T) (h12 : tn T < 12) (k : ∀ M', RP M' a (pAp T kd x y z ah) → Fi (Fb a (a + 7)) M M' → Q (some (.int (nI (2 ^ tn T)))) M') : qC (d + 1) 29 [.ref a, .int (nI kd), .int x, .int y, .int z, .int (nI ah)] M Q := by
  refine qC_of (by decide) (Nat.le_of_ble_eq_true rfl) ?_
  refine q_aload_n d29_0 rfl ?_
  refine q_getv (c := 1) (f := 6) d29_1 ⟨rfl, by decide⟩ hp.1 hr.1 ?_
  refine q_bipush (x := nI 12) d29_4 rfl ?_
  refine nc_lt 11 d29_6 (by decide) (by omega) (by omega) (fun h6 => ?_) (fun h6 => (False.elim (by omega)))
  refine q_aload_n d29_11 rfl ?_
  refine q_getr (c := 1) (f := 0) d29_12 ⟨rfl, rfl⟩ hp.1 (hp.2 0 (by decide)).1 ?_
  refine q_aload_n d29_15 rfl ?_
  refine q_getv (c := 1) (f := 6) d29_16 ⟨rfl, by decide⟩ hp.1 hr.1 ?_
  refine q_iload_n d29_19 rfl ?_
  refine n_iast d29_20 (hp.2 0 (by decide)).2 (by omega) (by decide) ?_
  refine q_aload_n d29_21 rfl ?_
  refine q_getr (c := 1) (f := 1) d29_22 ⟨rfl, rfl⟩ hp.1 (hp.2 1 (by decide)).1 ?_
  refine q_aload_n d29_25 rfl ?_
  refine q_getv (c := 1) (f := 6) d29_26 ⟨rfl, by decide⟩ hp.1 (Eq.trans (by (repeat (first | rw [wi_n (Or.inl (by omega))] | rw [wi_n (Or.inr (by omega))] | rw [wi_s] | rw [wr_i] | rw [cp_n (by omega)]))) hr.1) ?_
  refine q_iload_n d29_29 rfl ?_
  refine n_iast d29_30 (hp.2 1 (by decide)).2 (by omega) (by decide) ?_
  refine q_aload_n d29_31 rfl ?_
  refine q_getr (c := 1) (f := 2) d29_32 ⟨rfl, rfl⟩ hp.1 (hp.2 2 (by decide)).1 ?_
  refine q_aload_n d29_35 rfl ?_
  refine q_getv (c := 1) (f := 6) d29_36 ⟨rfl, by decide⟩ hp.1 (Eq.trans (by (repeat (first | rw [wi_n (Or.inl (by omega))] | rw [wi_n (Or.inr (by omega))] | rw [wi_s] | rw [wr_i] | rw [cp_n (by omega)]))) hr.1) ?_
  refine q_iload_n d29_39 rfl ?_
  refine n_iast d29_40 (hp.2 2 (by decide)).2 (by omega) (by decide) ?_
  refine q_aload_n d29_41 rfl ?_
  refine q_getr (c := 1) (f := 3) d29_42 ⟨rfl, rfl⟩ hp.1 (hp.2 3 (by decide)).1 ?_
  refine q_aload_n d29_45 rfl ?_
  refine q_getv (c := 1) (f := 6) d29_46 ⟨rfl, by decide⟩ hp.1 (Eq.trans (by (repeat (first | rw [wi_n (Or.inl (by omega))] | rw [wi_n (Or.inr (by omega))] | rw [wi_s] | rw [wr_i] | rw [cp_n (by omega)]))) hr.1) ?_
  refine q_iload d29_49 rfl ?_
  refine n_iast d29_51 (hp.2 3 (by decide)).2 (by omega) (by decide) ?_
  refine q_aload_n d29_52 rfl ?_
  refine q_getr (c := 1) (f := 4) d29_53 ⟨rfl, rfl⟩ hp.1 (hp.2 4 (by decide)).1 ?_
  refine q_aload_n d29_56 rfl ?_
  refine q_getv (c := 1) (f := 6) d29_57 ⟨rfl, by decide⟩ hp.1 (Eq.trans (by (repeat (first | rw [wi_n (Or.inl (by omega))] | rw [wi_n (Or.inr (by omega))] | rw [wi_s] | rw [wr_i] | rw [cp_n (by omega)]))) hr.1) ?_
  refine q_iload d29_60 rfl ?_
  refine n_iast d29_62 (hp.2 4 (by decide)).2 (by omega) (by decide) ?_
  refine q_aload_n d29_63 rfl ?_
  refine q_dup d29_64 rfl ?_
  refine q_getv (c := 1) (f := 6) d29_65 ⟨rfl, by decide⟩ hp.1 (Eq.trans (by (repeat (first | rw [wi_n (Or.inl (by omega))] | rw [wi_n (Or.inr (by omega))] | rw [wi_s] | rw [wr_i] | rw [cp_n (by omega)]))) hr.1) ?_
  refine q_iconstN (z := 1) d29_68 ?_
  refine n_iadd d29_69 ?_
  refine q_puti (c := 1) (f := 6) d29_70 ⟨rfl, rfl, by decide⟩ hp.1 ?_
  refine q_iconstN (z := 1) d29_73 ?_
  refine q_aload_n d29_74 rfl ?_
  refine q_getv (c := 1) (f := 6) d29_75 ⟨rfl, by decide⟩ hp.1 (wi_s _ _ _ _) ?_
  refine q_iconstN (z := 1) d29_78 ?_
  refine n_isub d29_79 (by omega) ?_
  refine n_ishl1 d29_80 (by omega) ?_
  refine q_iret d29_81 rfl ?_
  refine nK (k _ ⟨?_, ?_, fun q hq => ?_⟩ ((((((((Fi.refl (Fb a (a + 7)) _).wi ⟨by omega, by omega⟩).wi ⟨by omega, by omega⟩).wi ⟨by omega, by omega⟩).wi ⟨by omega, by omega⟩).wi ⟨by omega, by omega⟩).wi ⟨by omega, by omega⟩))) (by rw [Nat.add_sub_cancel])
  · show _ = nI (tn T + 1); (repeat (first | rw [wi_n (Or.inl (by omega))] | rw [wi_n (Or.inr (by omega))] | rw [wi_s] | rw [wr_i] | rw [cp_n (by omega)] | rw [cp_0 (by omega)]))
  · (repeat (first | rw [wi_n (Or.inl (by omega))] | rw [wi_n (Or.inr (by omega))] | rw [wi_s] | rw [wr_i] | rw [cp_n (by omega)] | rw [cp_0 (by omega)])); exact hr.2.1
  · have hq : q < tn T + 1 := hq
    show _ = nI (yu (tk T) (tn T) kd q) ∧ _ = yu (tf T) (tn T) x q ∧ _ = yu (ts T) (tn T) y q ∧ _ = yu (tu T) (tn T) z q ∧ _ = nI (yu (ta T) (tn T) ah q)
    by_cases e : q = tn T
    · subst e
      simp only [yu_s]
      refine ⟨?_, ?_, ?_, ?_, ?_⟩
      · (repeat (first | rw [wi_n (Or.inl (by omega))] | rw [wi_n (Or.inr (by omega))] | rw [wi_s] | rw [wr_i] | rw [cp_n (by omega)] | rw [cp_0 (by omega)]))
      · (repeat (first | rw [wi_n (Or.inl (by omega))] | rw [wi_n (Or.inr (by omega))] | rw [wi_s] | rw [wr_i] | rw [cp_n (by omega)] | rw [cp_0 (by omega)]))
      · (repeat (first | rw [wi_n (Or.inl (by omega))] | rw [wi_n (Or.inr (by omega))] | rw [wi_s] | rw [wr_i] | rw [cp_n (by omega)] | rw [cp_0 (by omega)]))
      · (repeat (first | rw [wi_n (Or.inl (by omega))] | rw [wi_n (Or.inr (by omega))] | rw [wi_s] | rw [wr_i] | rw [cp_n (by omega)] | rw [cp_0 (by omega)]))
      · (repeat (first | rw [wi_n (Or.inl (by omega))] | rw [wi_n (Or.inr (by omega))] | rw [wi_s] | rw [wr_i] | rw [cp_n (by omega)] | rw [cp_0 (by omega)]))
    · simp only [yu_n e]
      obtain ⟨a1, a2, a3, a4, a5⟩ := hr.2.2 q (by omega)
      refine ⟨?_, ?_, ?_, ?_, ?_⟩
      · (repeat (first | rw [wi_n (Or.inl (by omega))] | rw [wi_n (Or.inr (by omega))] | rw [wi_s] | rw [wr_i] | rw [cp_n (by omega)] | rw [cp_0 (by omega)])); exact a1
      · (repeat (first | rw [wi_n (Or.inl (by omega))] | rw [wi_n (Or.inr (by omega))] | rw [wi_s] | rw [wr_i] | rw [cp_n (by omega)] | rw [cp_0 (by omega)])); exact a2
      · (repeat (first | rw [wi_n (Or.inl (by omega))] | rw [wi_n (Or.inr (by omega))] | rw [wi_s] | rw [wr_i] | rw [cp_n (by omega)] | rw [cp_0 (by omega)])); exact a3
      · (repeat (first | rw [wi_n (Or.inl (by omega))] | rw [wi_n (Or.inr (by omega))] | rw [wi_s] | rw [wr_i] | rw [cp_n (by omega)] | rw [cp_0 (by omega)])); exact a4
      · (repeat (first | rw [wi_n (Or.inl (by omega))] | rw [wi_n (Or.inr (by omega))] | rw [wi_s] | rw [wr_i] | rw [cp_n (by omega)] | rw [cp_0 (by omega)])); exact a5
theorem SC.st {M : zM} (h : SC M) : SSt M := h.2.2.2.2.2.2.2.2.2.2.2.2
theorem c21t {d c n kd : Nat} {M : zM} {Q : Option Value → zM → Prop} {b : Nat → Nat} {K : yQ} (hG : GR M c n b K) (hv : yQv n b K) (h : ykw b K.1.2.1 K.1.2.2 = kd) (h6 : kd < 6) (k : Q (some (.int (nI kd))) M) : qC (d + 9) 21 [.ref 17] M Q := c21 hG hv (by rw [h]; unfold ykv; rw [if_pos h6]; exact k)
theorem c21n {d c n : Nat} {M : zM} {Q : Option Value → zM → Prop} {b : Nat → Nat} {K : yQ} (hG : GR M c n b K) (hv : yQv n b K) (h : ykw b K.1.2.1 K.1.2.2 = 6) (k : Q (some (.int (-1))) M) : qC (d + 9) 21 [.ref 17] M Q := c21 hG hv (by rw [h]; exact k)
theorem pAc_k {n a : Nat} {b : Nat → Nat} {k k1 : yK} (h : pAc n b k = .ok (a, k1)) : k1 = pAd n b k := by
  unfold pAc at h
  split at h
  · cases h; rfl
  · cases h
theorem pAc_f {n f : Nat} {b : Nat → Nat} {k : yK} (h : pAc n b k = .error f) : f = k.2.1 := by
  unfold pAc at h
  split at h
  · cases h
  · cases h; rfl
theorem pNu_k {n a : Nat} {b : Nat → Nat} {k k1 : yK} (h : pNu n b k = .ok (a, k1)) : k.1 = 2 ∧ a = ynd b k.2.1 (k.2.2 - k.2.1) ∧ k1 = pAd n b k := by
  unfold pNu at h
  split at h
  · rename_i q; cases h; exact ⟨q, rfl, rfl⟩
  · cases h
theorem pNu_f {n f : Nat} {b : Nat → Nat} {k : yK} (h : pNu n b k = .error f) : ¬ k.1 = 2 ∧ f = k.2.1 := by
  unfold pNu at h
  split at h
  · cases h
  · rename_i q; cases h; exact ⟨q, rfl⟩
theorem c25t {d c n a : Nat} {M : zM} {Q : Option Value → zM → Prop} {b : Nat → Nat} {K : yQ} {k1 : yK} (hG : GR M c n b K) (hv : yQv n b K) (e : pAc n b K.1 = .ok (a, k1)) (k : ∀ M', GR M' c n b (k1, K.2) → Fi (FG c) M M' → Q (some (.int (nI a))) M') : qC (d + 3) 25 [.ref 17] M Q :=
  c25 hG hv (fun a' k' M' e' g f => by rw [e] at e'; cases e'; exact k M' g f) (fun M' e' _ _ => by rw [e] at e'; cases e')
theorem c25e {d c n f : Nat} {M : zM} {Q : Option Value → zM → Prop} {b : Nat → Nat} {K : yQ} (hG : GR M c n b K) (hv : yQv n b K) (e : pAc n b K.1 = .error f) (k : ∀ M', BR M' c n b f → Fi (FG c) M M' → Q (some (.int (-1))) M') : qC (d + 3) 25 [.ref 17] M Q :=
  c25 hG hv (fun a' k' M' e' g f => by rw [e] at e'; cases e') (fun M' e' g f => by rw [pAc_f e] at k; exact k M' g f)
theorem c28t {d c n a : Nat} {M : zM} {Q : Option Value → zM → Prop} {b : Nat → Nat} {K : yQ} {k1 : yK} (hG : GR M c n b K) (hv : yQv n b K) (e : pNu n b K.1 = .ok (a, k1)) (k : ∀ M', GR M' c n b (k1, K.2) → Fi (FG c) M M' → Q (some (.int (nI a))) M') : qC (d + 3) 28 [.ref 17] M Q := by
  obtain ⟨e1, e2, e3⟩ := pNu_k e
  subst e2; subst e3
  exact c28 hG hv e1 k
theorem c28e {d c n f : Nat} {M : zM} {Q : Option Value → zM → Prop} {b : Nat → Nat} {K : yQ} (hG : GR M c n b K) (hv : yQv n b K) (e : pNu n b K.1 = .error f) (k : ∀ M', BR M' c n b f → Fi (FG c) M M' → Q (some (.int (-1))) M') : qC (d + 3) 28 [.ref 17] M Q := by
  obtain ⟨e1, e2⟩ := pNu_f e
  subst e2
  exact c28n hG hv e1 k
theorem GR.b {M : zM} {c n : Nat} {b : Nat → Nat} {K : yQ} (h : GR M c n b K) : ∀ i, i < n → b i < 256 := fun i hi => (h.2.2.1.2.2 i hi).2
theorem d20_0 : decode (zB 20) 0 = .ok (.aload_n 0, 1) := by decide +kernel
theorem d20_1 : decode (zB 20) 1 = .ok (.invokevirtual 76, 3) := by decide +kernel
theorem d20_4 : decode (zB 20) 4 = .ok (.istore_n 2, 1) := by decide +kernel
theorem d20_5 : decode (zB 20) 5 = .ok (.iload_n 2, 1) := by decide +kernel
theorem d20_6 : decode (zB 20) 6 = .ok (.iconst (-1), 1) := by decide +kernel
theorem d20_7 : decode (zB 20) 7 = .ok (.if_icmp .eq 15, 3) := by decide +kernel
theorem d20_10 : decode (zB 20) 10 = .ok (.aload_n 0, 1) := by decide +kernel
theorem d20_11 : decode (zB 20) 11 = .ok (.getfield 19, 3) := by decide +kernel
theorem d20_14 : decode (zB 20) 14 = .ok (.getfield 47, 3) := by decide +kernel
theorem d20_17 : decode (zB 20) 17 = .ok (.bipush 12, 2) := by decide +kernel
theorem d20_19 : decode (zB 20) 19 = .ok (.if_icmp .lt 9, 3) := by decide +kernel
theorem d20_22 : decode (zB 20) 22 = .ok (.aload_n 0, 1) := by decide +kernel
theorem d20_23 : decode (zB 20) 23 = .ok (.invokevirtual 44, 3) := by decide +kernel
theorem d20_26 : decode (zB 20) 26 = .ok (.iconst 0, 1) := by decide +kernel
theorem d20_27 : decode (zB 20) 27 = .ok (.ireturn, 1) := by decide +kernel
theorem d20_28 : decode (zB 20) 28 = .ok (.aload_n 0, 1) := by decide +kernel
theorem d20_29 : decode (zB 20) 29 = .ok (.invokevirtual 34, 3) := by decide +kernel
theorem d20_32 : decode (zB 20) 32 = .ok (.getstatic 80, 3) := by decide +kernel
theorem d20_35 : decode (zB 20) 35 = .ok (.iload_n 2, 1) := by decide +kernel
theorem d20_36 : decode (zB 20) 36 = .ok (.iaload, 1) := by decide +kernel
theorem d20_37 : decode (zB 20) 37 = .ok (.ifCond .le 10, 3) := by decide +kernel
theorem d20_40 : decode (zB 20) 40 = .ok (.aload_n 0, 1) := by decide +kernel
theorem d20_41 : decode (zB 20) 41 = .ok (.invokevirtual 83, 3) := by decide +kernel
theorem d20_44 : decode (zB 20) 44 = .ok (.goto 4, 3) := by decide +kernel
theorem d20_47 : decode (zB 20) 47 = .ok (.iconst (-1), 1) := by decide +kernel
theorem d20_48 : decode (zB 20) 48 = .ok (.istore_n 3, 1) := by decide +kernel
theorem d20_49 : decode (zB 20) 49 = .ok (.getstatic 80, 3) := by decide +kernel
theorem d20_52 : decode (zB 20) 52 = .ok (.iload_n 2, 1) := by decide +kernel
theorem d20_53 : decode (zB 20) 53 = .ok (.iaload, 1) := by decide +kernel
theorem d20_54 : decode (zB 20) 54 = .ok (.iconst 1, 1) := by decide +kernel
theorem d20_55 : decode (zB 20) 55 = .ok (.if_icmp .le 10, 3) := by decide +kernel
theorem d20_58 : decode (zB 20) 58 = .ok (.aload_n 0, 1) := by decide +kernel
theorem d20_59 : decode (zB 20) 59 = .ok (.invokevirtual 83, 3) := by decide +kernel
theorem d20_62 : decode (zB 20) 62 = .ok (.goto 4, 3) := by decide +kernel
theorem d20_65 : decode (zB 20) 65 = .ok (.iconst (-1), 1) := by decide +kernel
theorem d20_66 : decode (zB 20) 66 = .ok (.istore 4, 2) := by decide +kernel
theorem d20_68 : decode (zB 20) 68 = .ok (.iload_n 2, 1) := by decide +kernel
theorem d20_69 : decode (zB 20) 69 = .ok (.invokestatic 86, 3) := by decide +kernel
theorem d20_72 : decode (zB 20) 72 = .ok (.ifCond .eq 10, 3) := by decide +kernel
theorem d20_75 : decode (zB 20) 75 = .ok (.aload_n 0, 1) := by decide +kernel
theorem d20_76 : decode (zB 20) 76 = .ok (.invokevirtual 90, 3) := by decide +kernel
theorem d20_79 : decode (zB 20) 79 = .ok (.goto 4, 3) := by decide +kernel
theorem d20_82 : decode (zB 20) 82 = .ok (.iconst (-1), 1) := by decide +kernel
theorem d20_83 : decode (zB 20) 83 = .ok (.istore 5, 2) := by decide +kernel
theorem d20_85 : decode (zB 20) 85 = .ok (.aload_n 0, 1) := by decide +kernel
theorem d20_86 : decode (zB 20) 86 = .ok (.getfield 31, 3) := by decide +kernel
theorem d20_89 : decode (zB 20) 89 = .ok (.iconst (-1), 1) := by decide +kernel
theorem d20_90 : decode (zB 20) 90 = .ok (.if_icmp .ne 20, 3) := by decide +kernel
theorem d20_93 : decode (zB 20) 93 = .ok (.aload_n 0, 1) := by decide +kernel
theorem d20_94 : decode (zB 20) 94 = .ok (.getfield 19, 3) := by decide +kernel
theorem d20_97 : decode (zB 20) 97 = .ok (.iload_n 2, 1) := by decide +kernel
theorem d20_98 : decode (zB 20) 98 = .ok (.iload_n 3, 1) := by decide +kernel
theorem d20_99 : decode (zB 20) 99 = .ok (.iload 4, 2) := by decide +kernel
theorem d20_101 : decode (zB 20) 101 = .ok (.iload 5, 2) := by decide +kernel
theorem d20_103 : decode (zB 20) 103 = .ok (.iload_n 1, 1) := by decide +kernel
theorem d20_104 : decode (zB 20) 104 = .ok (.invokevirtual 93, 3) := by decide +kernel
theorem d20_107 : decode (zB 20) 107 = .ok (.goto 4, 3) := by decide +kernel
theorem d20_110 : decode (zB 20) 110 = .ok (.iconst 0, 1) := by decide +kernel
theorem d20_111 : decode (zB 20) 111 = .ok (.ireturn, 1) := by decide +kernel
theorem c20 {d : Nat} {M : zM} {Q : Option Value → zM → Prop} {c n : Nat} {b : Nat → Nat} {K : yQ} {ah : Nat} (hG : GR M c n b K) (hv : yQv n b K) (k : ∀ o K1 M', pSt n b ah K = .ok (o, K1) → GR M' c n b K1 → Fi (FG c) M M' → Q (some (.int (nI o))) M') (kb : ∀ f v M', pSt n b ah K = .error f → BR M' c n b f → Fi (FG c) M M' → Q (some (.int v)) M') : qC (d + 10) 20 [.ref 17, .int (nI ah)] M Q := by
  refine qC_of (by decide) (Nat.le_of_ble_eq_true rfl) ?_
  have h120 := hG.2.2.1.1
  have hk1 := hv.1.1.1
  have hk2 := hv.1.1.2.1
  have hk3 := hv.1.1.2.2.1
  have htn := hv.2.1
  have h6 : ykw b K.1.2.1 K.1.2.2 ≤ 6 := ykr_le 6 0
  obtain ⟨kd, hkd⟩ : ∃ kd, ykw b K.1.2.1 K.1.2.2 = kd := ⟨_, rfl⟩
  rw [hkd] at h6
  rcases (show kd = 0 ∨ kd = 1 ∨ kd = 2 ∨ kd = 3 ∨ kd = 4 ∨ kd = 5 ∨ kd = 6 by omega) with rfl | rfl | rfl | rfl | rfl | rfl | rfl
  · skip
    cases eA : pAc n b (pAd n b K.1) with
    | error fA =>
      refine q_aload_n d20_0 rfl ?_
      refine q_v0 d20_1 rfl rfl hG.1.2.1.1 (Nat.le_of_ble_eq_true rfl) (c21t hG hv hkd (by decide) ?_)
      refine q_istore_n d20_4 (by decide) rfl ?_
      refine q_iload_n d20_5 rfl ?_
      refine q_iconst (x := (-1)) d20_6 rfl ?_
      refine ic_eq 22 d20_7 (by decide) (fun h7 => (False.elim (nI_m1 (by omega) h7))) (fun h7 => ?_)
      refine q_aload_n d20_10 rfl ?_
      refine q_getr (c := 3) (f := 6) d20_11 ⟨rfl, rfl⟩ hG.1.2.1.1 hG.2.2.2.2.2.1 ?_
      refine q_getv (c := 1) (f := 6) d20_14 ⟨rfl, by decide⟩ (hG.1.pr hG.2.1).1 hG.2.2.2.2.2.2.1 ?_
      refine q_bipush (x := nI 12) d20_17 rfl ?_
      refine nc_lt 28 d20_19 (by decide) (by omega) (by omega) (fun h19 => ?_) (fun h19 => ?_)
      · refine q_aload_n d20_28 rfl ?_
        refine q_v0 d20_29 rfl rfl hG.1.2.1.1 (Nat.le_of_ble_eq_true rfl) (c16 hG.1.2.1 hG.2.2.1 hG.2.2.2.1.2.2 (by omega) (fun M1 hk f1 => ?_))
        have hG1 := hG.ad hk f1
        have hv1 : yQv n b (pAd n b K.1, K.2) := ⟨(pAd_v hv.1 hG.b).1, hv.2⟩
        have hSt := hG1.1.st
        have g1 : Fi (FG c) M M1 := f1.mono FK_G
        refine q_getst d20_32 rfl ?_
        refine q_iload_n d20_35 rfl ?_
        refine n_ialds d20_36 ⟨by decide, hSt.2.1⟩ (by omega) (by decide) ((hSt.2.2.2 0).trans (by decide : zAo 0 = nI 1)) ?_
        refine n0_le 47 d20_37 (by decide) (by decide) (fun q => absurd q (by decide)) (fun _ => ?_)
        refine q_aload_n d20_40 rfl ?_
        refine q_v0 d20_41 rfl rfl hG1.1.2.1.1 (Nat.le_of_ble_eq_true rfl) (c25e hG1 hv1 eA (fun M2 hB f2 => ?_))
        have hSt := hB.1.st
        have hf : fA ≤ 120 := by rw [pAc_f eA]; exact Nat.le_trans hv1.f h120
        have g2 := g1.trans f2
        refine q_goto 48 d20_44 (by decide) ?_
        refine q_istore_n d20_48 (by decide) rfl ?_
        refine q_getst d20_49 rfl ?_
        refine q_iload_n d20_52 rfl ?_
        refine n_ialds d20_53 ⟨by decide, hSt.2.1⟩ (by omega) (by decide) ((hSt.2.2.2 0).trans (by decide : zAo 0 = nI 1)) ?_
        refine q_iconstN (z := 1) d20_54 ?_
        refine nc_le 65 d20_55 (by decide) (by decide) (by decide) (fun _ => ?_) (fun q => absurd q (by decide))
        refine q_iconst (x := (-1)) d20_65 rfl ?_
        refine q_istore d20_66 (by decide) rfl ?_
        refine q_iload_n d20_68 rfl ?_
        refine q_s1 d20_69 (Or.inr rfl) rfl (Nat.le_of_ble_eq_true rfl) (c27 (by decide) ?_)
        refine n0_eq 82 d20_72 (by decide) (by decide) (fun q => absurd q (by decide)) (fun _ => ?_)
        refine q_aload_n d20_75 rfl ?_
        refine q_v0 d20_76 rfl rfl hB.1.2.1.1 (Nat.le_of_ble_eq_true rfl) (c28f hB hf ?_)
        refine q_goto 83 d20_79 (by decide) ?_
        refine q_istore d20_83 (by decide) rfl ?_
        refine q_aload_n d20_85 rfl ?_
        refine q_getv (c := 3) (f := 5) d20_86 ⟨rfl, by decide⟩ hB.1.2.1.1 hB.2.2.2.1 ?_
        refine q_iconst (x := (-1)) d20_89 rfl ?_
        refine ic_ne 110 d20_90 (by decide) (fun h90 => ?_) (fun h90 => (False.elim (nI_m1 (by omega) h90)))
        refine q_iconstN (z := 0) d20_110 ?_
        refine q_iret d20_111 rfl ?_
        exact kb _ _ _ (by unfold pSt; simp only [hkd]; rw [if_neg (by omega)]; unfold pA1 pA2 pA3; simp [eA]) hB g2
      · refine q_aload_n d20_22 rfl ?_
        refine q_v0 d20_23 rfl rfl hG.1.2.1.1 (Nat.le_of_ble_eq_true rfl) (c24 hG hv (fun M1 hB f1 => ?_))
        refine q_iconstN (z := 0) d20_26 ?_
        refine q_iret d20_27 rfl ?_
        exact kb _ _ _ (by unfold pSt; simp only [hkd]; rw [if_pos (by omega)]) hB f1
    | ok rA =>
      obtain ⟨aA, kA⟩ := rA
      cases eN : pNu n b kA with
      | error fN =>
        refine q_aload_n d20_0 rfl ?_
        refine q_v0 d20_1 rfl rfl hG.1.2.1.1 (Nat.le_of_ble_eq_true rfl) (c21t hG hv hkd (by decide) ?_)
        refine q_istore_n d20_4 (by decide) rfl ?_
        refine q_iload_n d20_5 rfl ?_
        refine q_iconst (x := (-1)) d20_6 rfl ?_
        refine ic_eq 22 d20_7 (by decide) (fun h7 => (False.elim (nI_m1 (by omega) h7))) (fun h7 => ?_)
        refine q_aload_n d20_10 rfl ?_
        refine q_getr (c := 3) (f := 6) d20_11 ⟨rfl, rfl⟩ hG.1.2.1.1 hG.2.2.2.2.2.1 ?_
        refine q_getv (c := 1) (f := 6) d20_14 ⟨rfl, by decide⟩ (hG.1.pr hG.2.1).1 hG.2.2.2.2.2.2.1 ?_
        refine q_bipush (x := nI 12) d20_17 rfl ?_
        refine nc_lt 28 d20_19 (by decide) (by omega) (by omega) (fun h19 => ?_) (fun h19 => ?_)
        · refine q_aload_n d20_28 rfl ?_
          refine q_v0 d20_29 rfl rfl hG.1.2.1.1 (Nat.le_of_ble_eq_true rfl) (c16 hG.1.2.1 hG.2.2.1 hG.2.2.2.1.2.2 (by omega) (fun M1 hk f1 => ?_))
          have hG1 := hG.ad hk f1
          have hv1 : yQv n b (pAd n b K.1, K.2) := ⟨(pAd_v hv.1 hG.b).1, hv.2⟩
          have hSt := hG1.1.st
          have g1 : Fi (FG c) M M1 := f1.mono FK_G
          refine q_getst d20_32 rfl ?_
          refine q_iload_n d20_35 rfl ?_
          refine n_ialds d20_36 ⟨by decide, hSt.2.1⟩ (by omega) (by decide) ((hSt.2.2.2 0).trans (by decide : zAo 0 = nI 1)) ?_
          refine n0_le 47 d20_37 (by decide) (by decide) (fun q => absurd q (by decide)) (fun _ => ?_)
          refine q_aload_n d20_40 rfl ?_
          refine q_v0 d20_41 rfl rfl hG1.1.2.1.1 (Nat.le_of_ble_eq_true rfl) (c25t hG1 hv1 eA (fun M2 hG2 f2 => ?_))
          have hv2 : yQv n b (kA, K.2) := ⟨by rw [pAc_k eA]; exact (pAd_v hv1.1 hG.b).1, hv.2⟩
          have hSt := hG2.1.st
          have g2 := g1.trans f2
          refine q_goto 48 d20_44 (by decide) ?_
          refine q_istore_n d20_48 (by decide) rfl ?_
          refine q_getst d20_49 rfl ?_
          refine q_iload_n d20_52 rfl ?_
          refine n_ialds d20_53 ⟨by decide, hSt.2.1⟩ (by omega) (by decide) ((hSt.2.2.2 0).trans (by decide : zAo 0 = nI 1)) ?_
          refine q_iconstN (z := 1) d20_54 ?_
          refine nc_le 65 d20_55 (by decide) (by decide) (by decide) (fun _ => ?_) (fun q => absurd q (by decide))
          refine q_iconst (x := (-1)) d20_65 rfl ?_
          refine q_istore d20_66 (by decide) rfl ?_
          refine q_iload_n d20_68 rfl ?_
          refine q_s1 d20_69 (Or.inr rfl) rfl (Nat.le_of_ble_eq_true rfl) (c27 (by decide) ?_)
          refine n0_eq 82 d20_72 (by decide) (by decide) (fun q => absurd q (by decide)) (fun _ => ?_)
          refine q_aload_n d20_75 rfl ?_
          refine q_v0 d20_76 rfl rfl hG2.1.2.1.1 (Nat.le_of_ble_eq_true rfl) (c28e hG2 hv2 eN (fun M3 hB f3 => ?_))
          have hSt := hB.1.st
          have hf : fN ≤ 120 := by rw [(pNu_f eN).2]; exact Nat.le_trans hv2.f h120
          have g3 := g2.trans f3
          refine q_goto 83 d20_79 (by decide) ?_
          refine q_istore d20_83 (by decide) rfl ?_
          refine q_aload_n d20_85 rfl ?_
          refine q_getv (c := 3) (f := 5) d20_86 ⟨rfl, by decide⟩ hB.1.2.1.1 hB.2.2.2.1 ?_
          refine q_iconst (x := (-1)) d20_89 rfl ?_
          refine ic_ne 110 d20_90 (by decide) (fun h90 => ?_) (fun h90 => (False.elim (nI_m1 (by omega) h90)))
          refine q_iconstN (z := 0) d20_110 ?_
          refine q_iret d20_111 rfl ?_
          exact kb _ _ _ (by unfold pSt; simp only [hkd]; rw [if_neg (by omega)]; unfold pA1 pA2 pA3; simp [eA, eN]) hB g3
        · refine q_aload_n d20_22 rfl ?_
          refine q_v0 d20_23 rfl rfl hG.1.2.1.1 (Nat.le_of_ble_eq_true rfl) (c24 hG hv (fun M1 hB f1 => ?_))
          refine q_iconstN (z := 0) d20_26 ?_
          refine q_iret d20_27 rfl ?_
          exact kb _ _ _ (by unfold pSt; simp only [hkd]; rw [if_pos (by omega)]) hB f1
      | ok rN =>
        obtain ⟨aN, kN⟩ := rN
        refine q_aload_n d20_0 rfl ?_
        refine q_v0 d20_1 rfl rfl hG.1.2.1.1 (Nat.le_of_ble_eq_true rfl) (c21t hG hv hkd (by decide) ?_)
        refine q_istore_n d20_4 (by decide) rfl ?_
        refine q_iload_n d20_5 rfl ?_
        refine q_iconst (x := (-1)) d20_6 rfl ?_
        refine ic_eq 22 d20_7 (by decide) (fun h7 => (False.elim (nI_m1 (by omega) h7))) (fun h7 => ?_)
        refine q_aload_n d20_10 rfl ?_
        refine q_getr (c := 3) (f := 6) d20_11 ⟨rfl, rfl⟩ hG.1.2.1.1 hG.2.2.2.2.2.1 ?_
        refine q_getv (c := 1) (f := 6) d20_14 ⟨rfl, by decide⟩ (hG.1.pr hG.2.1).1 hG.2.2.2.2.2.2.1 ?_
        refine q_bipush (x := nI 12) d20_17 rfl ?_
        refine nc_lt 28 d20_19 (by decide) (by omega) (by omega) (fun h19 => ?_) (fun h19 => ?_)
        · refine q_aload_n d20_28 rfl ?_
          refine q_v0 d20_29 rfl rfl hG.1.2.1.1 (Nat.le_of_ble_eq_true rfl) (c16 hG.1.2.1 hG.2.2.1 hG.2.2.2.1.2.2 (by omega) (fun M1 hk f1 => ?_))
          have hG1 := hG.ad hk f1
          have hv1 : yQv n b (pAd n b K.1, K.2) := ⟨(pAd_v hv.1 hG.b).1, hv.2⟩
          have hSt := hG1.1.st
          have g1 : Fi (FG c) M M1 := f1.mono FK_G
          refine q_getst d20_32 rfl ?_
          refine q_iload_n d20_35 rfl ?_
          refine n_ialds d20_36 ⟨by decide, hSt.2.1⟩ (by omega) (by decide) ((hSt.2.2.2 0).trans (by decide : zAo 0 = nI 1)) ?_
          refine n0_le 47 d20_37 (by decide) (by decide) (fun q => absurd q (by decide)) (fun _ => ?_)
          refine q_aload_n d20_40 rfl ?_
          refine q_v0 d20_41 rfl rfl hG1.1.2.1.1 (Nat.le_of_ble_eq_true rfl) (c25t hG1 hv1 eA (fun M2 hG2 f2 => ?_))
          have hv2 : yQv n b (kA, K.2) := ⟨by rw [pAc_k eA]; exact (pAd_v hv1.1 hG.b).1, hv.2⟩
          have hSt := hG2.1.st
          have g2 := g1.trans f2
          refine q_goto 48 d20_44 (by decide) ?_
          refine q_istore_n d20_48 (by decide) rfl ?_
          refine q_getst d20_49 rfl ?_
          refine q_iload_n d20_52 rfl ?_
          refine n_ialds d20_53 ⟨by decide, hSt.2.1⟩ (by omega) (by decide) ((hSt.2.2.2 0).trans (by decide : zAo 0 = nI 1)) ?_
          refine q_iconstN (z := 1) d20_54 ?_
          refine nc_le 65 d20_55 (by decide) (by decide) (by decide) (fun _ => ?_) (fun q => absurd q (by decide))
          refine q_iconst (x := (-1)) d20_65 rfl ?_
          refine q_istore d20_66 (by decide) rfl ?_
          refine q_iload_n d20_68 rfl ?_
          refine q_s1 d20_69 (Or.inr rfl) rfl (Nat.le_of_ble_eq_true rfl) (c27 (by decide) ?_)
          refine n0_eq 82 d20_72 (by decide) (by decide) (fun q => absurd q (by decide)) (fun _ => ?_)
          refine q_aload_n d20_75 rfl ?_
          refine q_v0 d20_76 rfl rfl hG2.1.2.1.1 (Nat.le_of_ble_eq_true rfl) (c28t hG2 hv2 eN (fun M3 hG3 f3 => ?_))
          have hv3 : yQv n b (kN, K.2) := ⟨by rw [(pNu_k eN).2.2]; exact (pAd_v hv2.1 hG.b).1, hv.2⟩
          have hSt := hG3.1.st
          have g3 := g2.trans f3
          refine q_goto 83 d20_79 (by decide) ?_
          refine q_istore d20_83 (by decide) rfl ?_
          refine q_aload_n d20_85 rfl ?_
          refine q_getv (c := 3) (f := 5) d20_86 ⟨rfl, by decide⟩ hG3.1.2.1.1 hG3.2.2.2.2.1 ?_
          refine q_iconst (x := (-1)) d20_89 rfl ?_
          refine ic_ne 110 d20_90 (by decide) (fun h90 => (False.elim (h90 rfl))) (fun h90 => ?_)
          refine q_aload_n d20_93 rfl ?_
          refine q_getr (c := 3) (f := 6) d20_94 ⟨rfl, rfl⟩ hG3.1.2.1.1 hG3.2.2.2.2.2.1 ?_
          refine q_iload_n d20_97 rfl ?_
          refine q_iload_n d20_98 rfl ?_
          refine q_iload d20_99 rfl ?_
          refine q_iload d20_101 rfl ?_
          refine q_iload_n d20_103 rfl ?_
          refine q_v5 d20_104 rfl rfl (hG3.1.pr hG3.2.1).1 (Nat.le_of_ble_eq_true rfl) (c29 (hG3.1.pr hG3.2.1) hG3.2.2.2.2.2.2 h19 (fun M9 hr9 f9 => ?_))
          refine q_goto 111 d20_107 (by decide) ?_
          refine q_iret d20_111 rfl ?_
          have f9' : Fi (FG c) M3 M9 := f9.mono (fun _ _ q => Or.inr ⟨q.1, by have := q.2; omega⟩)
          have hG9 : GR M9 c n b (kN, pAp K.2 0 (nI aA) (-1) (nI aN) ah) := ⟨f9.sc hG3.1 (fun a k ha q => by have := q.1; omega), hG3.2.1, RTp_fi hG3.2.2.1 f9.fr ⟨fun q => by have := q.1; omega, fun q e => by have := e.1; omega⟩, RK_fi hG3.2.2.2.1 f9.fr ⟨fun q => by have := q.1; omega, fun q => by have := q.1; omega, fun q => by have := q.1; omega⟩, (f9.1 _ _ (fun q => by have := q.1; omega)).trans hG3.2.2.2.2.1, (f9.r _ _).trans hG3.2.2.2.2.2.1, hr9⟩
          exact k _ _ _ (by unfold pSt; simp only [hkd]; rw [if_neg (by omega)]; unfold pA1 pA2 pA3; simp [eA, eN]) hG9 (g3.trans f9')
        · refine q_aload_n d20_22 rfl ?_
          refine q_v0 d20_23 rfl rfl hG.1.2.1.1 (Nat.le_of_ble_eq_true rfl) (c24 hG hv (fun M1 hB f1 => ?_))
          refine q_iconstN (z := 0) d20_26 ?_
          refine q_iret d20_27 rfl ?_
          exact kb _ _ _ (by unfold pSt; simp only [hkd]; rw [if_pos (by omega)]) hB f1
  · skip
    cases eA : pAc n b (pAd n b K.1) with
    | error fA =>
      refine q_aload_n d20_0 rfl ?_
      refine q_v0 d20_1 rfl rfl hG.1.2.1.1 (Nat.le_of_ble_eq_true rfl) (c21t hG hv hkd (by decide) ?_)
      refine q_istore_n d20_4 (by decide) rfl ?_
      refine q_iload_n d20_5 rfl ?_
      refine q_iconst (x := (-1)) d20_6 rfl ?_
      refine ic_eq 22 d20_7 (by decide) (fun h7 => (False.elim (nI_m1 (by omega) h7))) (fun h7 => ?_)
      refine q_aload_n d20_10 rfl ?_
      refine q_getr (c := 3) (f := 6) d20_11 ⟨rfl, rfl⟩ hG.1.2.1.1 hG.2.2.2.2.2.1 ?_
      refine q_getv (c := 1) (f := 6) d20_14 ⟨rfl, by decide⟩ (hG.1.pr hG.2.1).1 hG.2.2.2.2.2.2.1 ?_
      refine q_bipush (x := nI 12) d20_17 rfl ?_
      refine nc_lt 28 d20_19 (by decide) (by omega) (by omega) (fun h19 => ?_) (fun h19 => ?_)
      · refine q_aload_n d20_28 rfl ?_
        refine q_v0 d20_29 rfl rfl hG.1.2.1.1 (Nat.le_of_ble_eq_true rfl) (c16 hG.1.2.1 hG.2.2.1 hG.2.2.2.1.2.2 (by omega) (fun M1 hk f1 => ?_))
        have hG1 := hG.ad hk f1
        have hv1 : yQv n b (pAd n b K.1, K.2) := ⟨(pAd_v hv.1 hG.b).1, hv.2⟩
        have hSt := hG1.1.st
        have g1 : Fi (FG c) M M1 := f1.mono FK_G
        refine q_getst d20_32 rfl ?_
        refine q_iload_n d20_35 rfl ?_
        refine n_ialds d20_36 ⟨by decide, hSt.2.1⟩ (by omega) (by decide) ((hSt.2.2.2 1).trans (by decide : zAo 1 = nI 1)) ?_
        refine n0_le 47 d20_37 (by decide) (by decide) (fun q => absurd q (by decide)) (fun _ => ?_)
        refine q_aload_n d20_40 rfl ?_
        refine q_v0 d20_41 rfl rfl hG1.1.2.1.1 (Nat.le_of_ble_eq_true rfl) (c25e hG1 hv1 eA (fun M2 hB f2 => ?_))
        have hSt := hB.1.st
        have hf : fA ≤ 120 := by rw [pAc_f eA]; exact Nat.le_trans hv1.f h120
        have g2 := g1.trans f2
        refine q_goto 48 d20_44 (by decide) ?_
        refine q_istore_n d20_48 (by decide) rfl ?_
        refine q_getst d20_49 rfl ?_
        refine q_iload_n d20_52 rfl ?_
        refine n_ialds d20_53 ⟨by decide, hSt.2.1⟩ (by omega) (by decide) ((hSt.2.2.2 1).trans (by decide : zAo 1 = nI 1)) ?_
        refine q_iconstN (z := 1) d20_54 ?_
        refine nc_le 65 d20_55 (by decide) (by decide) (by decide) (fun _ => ?_) (fun q => absurd q (by decide))
        refine q_iconst (x := (-1)) d20_65 rfl ?_
        refine q_istore d20_66 (by decide) rfl ?_
        refine q_iload_n d20_68 rfl ?_
        refine q_s1 d20_69 (Or.inr rfl) rfl (Nat.le_of_ble_eq_true rfl) (c27 (by decide) ?_)
        refine n0_eq 82 d20_72 (by decide) (by decide) (fun q => absurd q (by decide)) (fun _ => ?_)
        refine q_aload_n d20_75 rfl ?_
        refine q_v0 d20_76 rfl rfl hB.1.2.1.1 (Nat.le_of_ble_eq_true rfl) (c28f hB hf ?_)
        refine q_goto 83 d20_79 (by decide) ?_
        refine q_istore d20_83 (by decide) rfl ?_
        refine q_aload_n d20_85 rfl ?_
        refine q_getv (c := 3) (f := 5) d20_86 ⟨rfl, by decide⟩ hB.1.2.1.1 hB.2.2.2.1 ?_
        refine q_iconst (x := (-1)) d20_89 rfl ?_
        refine ic_ne 110 d20_90 (by decide) (fun h90 => ?_) (fun h90 => (False.elim (nI_m1 (by omega) h90)))
        refine q_iconstN (z := 0) d20_110 ?_
        refine q_iret d20_111 rfl ?_
        exact kb _ _ _ (by unfold pSt; simp only [hkd]; rw [if_neg (by omega)]; unfold pA1 pA2 pA3; simp [eA]) hB g2
      · refine q_aload_n d20_22 rfl ?_
        refine q_v0 d20_23 rfl rfl hG.1.2.1.1 (Nat.le_of_ble_eq_true rfl) (c24 hG hv (fun M1 hB f1 => ?_))
        refine q_iconstN (z := 0) d20_26 ?_
        refine q_iret d20_27 rfl ?_
        exact kb _ _ _ (by unfold pSt; simp only [hkd]; rw [if_pos (by omega)]) hB f1
    | ok rA =>
      obtain ⟨aA, kA⟩ := rA
      cases eN : pNu n b kA with
      | error fN =>
        refine q_aload_n d20_0 rfl ?_
        refine q_v0 d20_1 rfl rfl hG.1.2.1.1 (Nat.le_of_ble_eq_true rfl) (c21t hG hv hkd (by decide) ?_)
        refine q_istore_n d20_4 (by decide) rfl ?_
        refine q_iload_n d20_5 rfl ?_
        refine q_iconst (x := (-1)) d20_6 rfl ?_
        refine ic_eq 22 d20_7 (by decide) (fun h7 => (False.elim (nI_m1 (by omega) h7))) (fun h7 => ?_)
        refine q_aload_n d20_10 rfl ?_
        refine q_getr (c := 3) (f := 6) d20_11 ⟨rfl, rfl⟩ hG.1.2.1.1 hG.2.2.2.2.2.1 ?_
        refine q_getv (c := 1) (f := 6) d20_14 ⟨rfl, by decide⟩ (hG.1.pr hG.2.1).1 hG.2.2.2.2.2.2.1 ?_
        refine q_bipush (x := nI 12) d20_17 rfl ?_
        refine nc_lt 28 d20_19 (by decide) (by omega) (by omega) (fun h19 => ?_) (fun h19 => ?_)
        · refine q_aload_n d20_28 rfl ?_
          refine q_v0 d20_29 rfl rfl hG.1.2.1.1 (Nat.le_of_ble_eq_true rfl) (c16 hG.1.2.1 hG.2.2.1 hG.2.2.2.1.2.2 (by omega) (fun M1 hk f1 => ?_))
          have hG1 := hG.ad hk f1
          have hv1 : yQv n b (pAd n b K.1, K.2) := ⟨(pAd_v hv.1 hG.b).1, hv.2⟩
          have hSt := hG1.1.st
          have g1 : Fi (FG c) M M1 := f1.mono FK_G
          refine q_getst d20_32 rfl ?_
          refine q_iload_n d20_35 rfl ?_
          refine n_ialds d20_36 ⟨by decide, hSt.2.1⟩ (by omega) (by decide) ((hSt.2.2.2 1).trans (by decide : zAo 1 = nI 1)) ?_
          refine n0_le 47 d20_37 (by decide) (by decide) (fun q => absurd q (by decide)) (fun _ => ?_)
          refine q_aload_n d20_40 rfl ?_
          refine q_v0 d20_41 rfl rfl hG1.1.2.1.1 (Nat.le_of_ble_eq_true rfl) (c25t hG1 hv1 eA (fun M2 hG2 f2 => ?_))
          have hv2 : yQv n b (kA, K.2) := ⟨by rw [pAc_k eA]; exact (pAd_v hv1.1 hG.b).1, hv.2⟩
          have hSt := hG2.1.st
          have g2 := g1.trans f2
          refine q_goto 48 d20_44 (by decide) ?_
          refine q_istore_n d20_48 (by decide) rfl ?_
          refine q_getst d20_49 rfl ?_
          refine q_iload_n d20_52 rfl ?_
          refine n_ialds d20_53 ⟨by decide, hSt.2.1⟩ (by omega) (by decide) ((hSt.2.2.2 1).trans (by decide : zAo 1 = nI 1)) ?_
          refine q_iconstN (z := 1) d20_54 ?_
          refine nc_le 65 d20_55 (by decide) (by decide) (by decide) (fun _ => ?_) (fun q => absurd q (by decide))
          refine q_iconst (x := (-1)) d20_65 rfl ?_
          refine q_istore d20_66 (by decide) rfl ?_
          refine q_iload_n d20_68 rfl ?_
          refine q_s1 d20_69 (Or.inr rfl) rfl (Nat.le_of_ble_eq_true rfl) (c27 (by decide) ?_)
          refine n0_eq 82 d20_72 (by decide) (by decide) (fun q => absurd q (by decide)) (fun _ => ?_)
          refine q_aload_n d20_75 rfl ?_
          refine q_v0 d20_76 rfl rfl hG2.1.2.1.1 (Nat.le_of_ble_eq_true rfl) (c28e hG2 hv2 eN (fun M3 hB f3 => ?_))
          have hSt := hB.1.st
          have hf : fN ≤ 120 := by rw [(pNu_f eN).2]; exact Nat.le_trans hv2.f h120
          have g3 := g2.trans f3
          refine q_goto 83 d20_79 (by decide) ?_
          refine q_istore d20_83 (by decide) rfl ?_
          refine q_aload_n d20_85 rfl ?_
          refine q_getv (c := 3) (f := 5) d20_86 ⟨rfl, by decide⟩ hB.1.2.1.1 hB.2.2.2.1 ?_
          refine q_iconst (x := (-1)) d20_89 rfl ?_
          refine ic_ne 110 d20_90 (by decide) (fun h90 => ?_) (fun h90 => (False.elim (nI_m1 (by omega) h90)))
          refine q_iconstN (z := 0) d20_110 ?_
          refine q_iret d20_111 rfl ?_
          exact kb _ _ _ (by unfold pSt; simp only [hkd]; rw [if_neg (by omega)]; unfold pA1 pA2 pA3; simp [eA, eN]) hB g3
        · refine q_aload_n d20_22 rfl ?_
          refine q_v0 d20_23 rfl rfl hG.1.2.1.1 (Nat.le_of_ble_eq_true rfl) (c24 hG hv (fun M1 hB f1 => ?_))
          refine q_iconstN (z := 0) d20_26 ?_
          refine q_iret d20_27 rfl ?_
          exact kb _ _ _ (by unfold pSt; simp only [hkd]; rw [if_pos (by omega)]) hB f1
      | ok rN =>
        obtain ⟨aN, kN⟩ := rN
        refine q_aload_n d20_0 rfl ?_
        refine q_v0 d20_1 rfl rfl hG.1.2.1.1 (Nat.le_of_ble_eq_true rfl) (c21t hG hv hkd (by decide) ?_)
        refine q_istore_n d20_4 (by decide) rfl ?_
        refine q_iload_n d20_5 rfl ?_
        refine q_iconst (x := (-1)) d20_6 rfl ?_
        refine ic_eq 22 d20_7 (by decide) (fun h7 => (False.elim (nI_m1 (by omega) h7))) (fun h7 => ?_)
        refine q_aload_n d20_10 rfl ?_
        refine q_getr (c := 3) (f := 6) d20_11 ⟨rfl, rfl⟩ hG.1.2.1.1 hG.2.2.2.2.2.1 ?_
        refine q_getv (c := 1) (f := 6) d20_14 ⟨rfl, by decide⟩ (hG.1.pr hG.2.1).1 hG.2.2.2.2.2.2.1 ?_
        refine q_bipush (x := nI 12) d20_17 rfl ?_
        refine nc_lt 28 d20_19 (by decide) (by omega) (by omega) (fun h19 => ?_) (fun h19 => ?_)
        · refine q_aload_n d20_28 rfl ?_
          refine q_v0 d20_29 rfl rfl hG.1.2.1.1 (Nat.le_of_ble_eq_true rfl) (c16 hG.1.2.1 hG.2.2.1 hG.2.2.2.1.2.2 (by omega) (fun M1 hk f1 => ?_))
          have hG1 := hG.ad hk f1
          have hv1 : yQv n b (pAd n b K.1, K.2) := ⟨(pAd_v hv.1 hG.b).1, hv.2⟩
          have hSt := hG1.1.st
          have g1 : Fi (FG c) M M1 := f1.mono FK_G
          refine q_getst d20_32 rfl ?_
          refine q_iload_n d20_35 rfl ?_
          refine n_ialds d20_36 ⟨by decide, hSt.2.1⟩ (by omega) (by decide) ((hSt.2.2.2 1).trans (by decide : zAo 1 = nI 1)) ?_
          refine n0_le 47 d20_37 (by decide) (by decide) (fun q => absurd q (by decide)) (fun _ => ?_)
          refine q_aload_n d20_40 rfl ?_
          refine q_v0 d20_41 rfl rfl hG1.1.2.1.1 (Nat.le_of_ble_eq_true rfl) (c25t hG1 hv1 eA (fun M2 hG2 f2 => ?_))
          have hv2 : yQv n b (kA, K.2) := ⟨by rw [pAc_k eA]; exact (pAd_v hv1.1 hG.b).1, hv.2⟩
          have hSt := hG2.1.st
          have g2 := g1.trans f2
          refine q_goto 48 d20_44 (by decide) ?_
          refine q_istore_n d20_48 (by decide) rfl ?_
          refine q_getst d20_49 rfl ?_
          refine q_iload_n d20_52 rfl ?_
          refine n_ialds d20_53 ⟨by decide, hSt.2.1⟩ (by omega) (by decide) ((hSt.2.2.2 1).trans (by decide : zAo 1 = nI 1)) ?_
          refine q_iconstN (z := 1) d20_54 ?_
          refine nc_le 65 d20_55 (by decide) (by decide) (by decide) (fun _ => ?_) (fun q => absurd q (by decide))
          refine q_iconst (x := (-1)) d20_65 rfl ?_
          refine q_istore d20_66 (by decide) rfl ?_
          refine q_iload_n d20_68 rfl ?_
          refine q_s1 d20_69 (Or.inr rfl) rfl (Nat.le_of_ble_eq_true rfl) (c27 (by decide) ?_)
          refine n0_eq 82 d20_72 (by decide) (by decide) (fun q => absurd q (by decide)) (fun _ => ?_)
          refine q_aload_n d20_75 rfl ?_
          refine q_v0 d20_76 rfl rfl hG2.1.2.1.1 (Nat.le_of_ble_eq_true rfl) (c28t hG2 hv2 eN (fun M3 hG3 f3 => ?_))
          have hv3 : yQv n b (kN, K.2) := ⟨by rw [(pNu_k eN).2.2]; exact (pAd_v hv2.1 hG.b).1, hv.2⟩
          have hSt := hG3.1.st
          have g3 := g2.trans f3
          refine q_goto 83 d20_79 (by decide) ?_
          refine q_istore d20_83 (by decide) rfl ?_
          refine q_aload_n d20_85 rfl ?_
          refine q_getv (c := 3) (f := 5) d20_86 ⟨rfl, by decide⟩ hG3.1.2.1.1 hG3.2.2.2.2.1 ?_
          refine q_iconst (x := (-1)) d20_89 rfl ?_
          refine ic_ne 110 d20_90 (by decide) (fun h90 => (False.elim (h90 rfl))) (fun h90 => ?_)
          refine q_aload_n d20_93 rfl ?_
          refine q_getr (c := 3) (f := 6) d20_94 ⟨rfl, rfl⟩ hG3.1.2.1.1 hG3.2.2.2.2.2.1 ?_
          refine q_iload_n d20_97 rfl ?_
          refine q_iload_n d20_98 rfl ?_
          refine q_iload d20_99 rfl ?_
          refine q_iload d20_101 rfl ?_
          refine q_iload_n d20_103 rfl ?_
          refine q_v5 d20_104 rfl rfl (hG3.1.pr hG3.2.1).1 (Nat.le_of_ble_eq_true rfl) (c29 (hG3.1.pr hG3.2.1) hG3.2.2.2.2.2.2 h19 (fun M9 hr9 f9 => ?_))
          refine q_goto 111 d20_107 (by decide) ?_
          refine q_iret d20_111 rfl ?_
          have f9' : Fi (FG c) M3 M9 := f9.mono (fun _ _ q => Or.inr ⟨q.1, by have := q.2; omega⟩)
          have hG9 : GR M9 c n b (kN, pAp K.2 1 (nI aA) (-1) (nI aN) ah) := ⟨f9.sc hG3.1 (fun a k ha q => by have := q.1; omega), hG3.2.1, RTp_fi hG3.2.2.1 f9.fr ⟨fun q => by have := q.1; omega, fun q e => by have := e.1; omega⟩, RK_fi hG3.2.2.2.1 f9.fr ⟨fun q => by have := q.1; omega, fun q => by have := q.1; omega, fun q => by have := q.1; omega⟩, (f9.1 _ _ (fun q => by have := q.1; omega)).trans hG3.2.2.2.2.1, (f9.r _ _).trans hG3.2.2.2.2.2.1, hr9⟩
          exact k _ _ _ (by unfold pSt; simp only [hkd]; rw [if_neg (by omega)]; unfold pA1 pA2 pA3; simp [eA, eN]) hG9 (g3.trans f9')
        · refine q_aload_n d20_22 rfl ?_
          refine q_v0 d20_23 rfl rfl hG.1.2.1.1 (Nat.le_of_ble_eq_true rfl) (c24 hG hv (fun M1 hB f1 => ?_))
          refine q_iconstN (z := 0) d20_26 ?_
          refine q_iret d20_27 rfl ?_
          exact kb _ _ _ (by unfold pSt; simp only [hkd]; rw [if_pos (by omega)]) hB f1
  · skip
    cases eA : pAc n b (pAd n b K.1) with
    | error fA =>
      refine q_aload_n d20_0 rfl ?_
      refine q_v0 d20_1 rfl rfl hG.1.2.1.1 (Nat.le_of_ble_eq_true rfl) (c21t hG hv hkd (by decide) ?_)
      refine q_istore_n d20_4 (by decide) rfl ?_
      refine q_iload_n d20_5 rfl ?_
      refine q_iconst (x := (-1)) d20_6 rfl ?_
      refine ic_eq 22 d20_7 (by decide) (fun h7 => (False.elim (nI_m1 (by omega) h7))) (fun h7 => ?_)
      refine q_aload_n d20_10 rfl ?_
      refine q_getr (c := 3) (f := 6) d20_11 ⟨rfl, rfl⟩ hG.1.2.1.1 hG.2.2.2.2.2.1 ?_
      refine q_getv (c := 1) (f := 6) d20_14 ⟨rfl, by decide⟩ (hG.1.pr hG.2.1).1 hG.2.2.2.2.2.2.1 ?_
      refine q_bipush (x := nI 12) d20_17 rfl ?_
      refine nc_lt 28 d20_19 (by decide) (by omega) (by omega) (fun h19 => ?_) (fun h19 => ?_)
      · refine q_aload_n d20_28 rfl ?_
        refine q_v0 d20_29 rfl rfl hG.1.2.1.1 (Nat.le_of_ble_eq_true rfl) (c16 hG.1.2.1 hG.2.2.1 hG.2.2.2.1.2.2 (by omega) (fun M1 hk f1 => ?_))
        have hG1 := hG.ad hk f1
        have hv1 : yQv n b (pAd n b K.1, K.2) := ⟨(pAd_v hv.1 hG.b).1, hv.2⟩
        have hSt := hG1.1.st
        have g1 : Fi (FG c) M M1 := f1.mono FK_G
        refine q_getst d20_32 rfl ?_
        refine q_iload_n d20_35 rfl ?_
        refine n_ialds d20_36 ⟨by decide, hSt.2.1⟩ (by omega) (by decide) ((hSt.2.2.2 2).trans (by decide : zAo 2 = nI 2)) ?_
        refine n0_le 47 d20_37 (by decide) (by decide) (fun q => absurd q (by decide)) (fun _ => ?_)
        refine q_aload_n d20_40 rfl ?_
        refine q_v0 d20_41 rfl rfl hG1.1.2.1.1 (Nat.le_of_ble_eq_true rfl) (c25e hG1 hv1 eA (fun M2 hB f2 => ?_))
        have hSt := hB.1.st
        have hf : fA ≤ 120 := by rw [pAc_f eA]; exact Nat.le_trans hv1.f h120
        have g2 := g1.trans f2
        refine q_goto 48 d20_44 (by decide) ?_
        refine q_istore_n d20_48 (by decide) rfl ?_
        refine q_getst d20_49 rfl ?_
        refine q_iload_n d20_52 rfl ?_
        refine n_ialds d20_53 ⟨by decide, hSt.2.1⟩ (by omega) (by decide) ((hSt.2.2.2 2).trans (by decide : zAo 2 = nI 2)) ?_
        refine q_iconstN (z := 1) d20_54 ?_
        refine nc_le 65 d20_55 (by decide) (by decide) (by decide) (fun q => absurd q (by decide)) (fun _ => ?_)
        refine q_aload_n d20_58 rfl ?_
        refine q_v0 d20_59 rfl rfl hB.1.2.1.1 (Nat.le_of_ble_eq_true rfl) (c25f hB hf ?_)
        refine q_goto 66 d20_62 (by decide) ?_
        refine q_istore d20_66 (by decide) rfl ?_
        refine q_iload_n d20_68 rfl ?_
        refine q_s1 d20_69 (Or.inr rfl) rfl (Nat.le_of_ble_eq_true rfl) (c27 (by decide) ?_)
        refine n0_eq 82 d20_72 (by decide) (by decide) (fun q => absurd q (by decide)) (fun _ => ?_)
        refine q_aload_n d20_75 rfl ?_
        refine q_v0 d20_76 rfl rfl hB.1.2.1.1 (Nat.le_of_ble_eq_true rfl) (c28f hB hf ?_)
        refine q_goto 83 d20_79 (by decide) ?_
        refine q_istore d20_83 (by decide) rfl ?_
        refine q_aload_n d20_85 rfl ?_
        refine q_getv (c := 3) (f := 5) d20_86 ⟨rfl, by decide⟩ hB.1.2.1.1 hB.2.2.2.1 ?_
        refine q_iconst (x := (-1)) d20_89 rfl ?_
        refine ic_ne 110 d20_90 (by decide) (fun h90 => ?_) (fun h90 => (False.elim (nI_m1 (by omega) h90)))
        refine q_iconstN (z := 0) d20_110 ?_
        refine q_iret d20_111 rfl ?_
        exact kb _ _ _ (by unfold pSt; simp only [hkd]; rw [if_neg (by omega)]; unfold pA1 pA2 pA3; simp [eA]) hB g2
      · refine q_aload_n d20_22 rfl ?_
        refine q_v0 d20_23 rfl rfl hG.1.2.1.1 (Nat.le_of_ble_eq_true rfl) (c24 hG hv (fun M1 hB f1 => ?_))
        refine q_iconstN (z := 0) d20_26 ?_
        refine q_iret d20_27 rfl ?_
        exact kb _ _ _ (by unfold pSt; simp only [hkd]; rw [if_pos (by omega)]) hB f1
    | ok rA =>
      obtain ⟨aA, kA⟩ := rA
      cases eB : pAc n b kA with
      | error fB =>
        refine q_aload_n d20_0 rfl ?_
        refine q_v0 d20_1 rfl rfl hG.1.2.1.1 (Nat.le_of_ble_eq_true rfl) (c21t hG hv hkd (by decide) ?_)
        refine q_istore_n d20_4 (by decide) rfl ?_
        refine q_iload_n d20_5 rfl ?_
        refine q_iconst (x := (-1)) d20_6 rfl ?_
        refine ic_eq 22 d20_7 (by decide) (fun h7 => (False.elim (nI_m1 (by omega) h7))) (fun h7 => ?_)
        refine q_aload_n d20_10 rfl ?_
        refine q_getr (c := 3) (f := 6) d20_11 ⟨rfl, rfl⟩ hG.1.2.1.1 hG.2.2.2.2.2.1 ?_
        refine q_getv (c := 1) (f := 6) d20_14 ⟨rfl, by decide⟩ (hG.1.pr hG.2.1).1 hG.2.2.2.2.2.2.1 ?_
        refine q_bipush (x := nI 12) d20_17 rfl ?_
        refine nc_lt 28 d20_19 (by decide) (by omega) (by omega) (fun h19 => ?_) (fun h19 => ?_)
        · refine q_aload_n d20_28 rfl ?_
          refine q_v0 d20_29 rfl rfl hG.1.2.1.1 (Nat.le_of_ble_eq_true rfl) (c16 hG.1.2.1 hG.2.2.1 hG.2.2.2.1.2.2 (by omega) (fun M1 hk f1 => ?_))
          have hG1 := hG.ad hk f1
          have hv1 : yQv n b (pAd n b K.1, K.2) := ⟨(pAd_v hv.1 hG.b).1, hv.2⟩
          have hSt := hG1.1.st
          have g1 : Fi (FG c) M M1 := f1.mono FK_G
          refine q_getst d20_32 rfl ?_
          refine q_iload_n d20_35 rfl ?_
          refine n_ialds d20_36 ⟨by decide, hSt.2.1⟩ (by omega) (by decide) ((hSt.2.2.2 2).trans (by decide : zAo 2 = nI 2)) ?_
          refine n0_le 47 d20_37 (by decide) (by decide) (fun q => absurd q (by decide)) (fun _ => ?_)
          refine q_aload_n d20_40 rfl ?_
          refine q_v0 d20_41 rfl rfl hG1.1.2.1.1 (Nat.le_of_ble_eq_true rfl) (c25t hG1 hv1 eA (fun M2 hG2 f2 => ?_))
          have hv2 : yQv n b (kA, K.2) := ⟨by rw [pAc_k eA]; exact (pAd_v hv1.1 hG.b).1, hv.2⟩
          have hSt := hG2.1.st
          have g2 := g1.trans f2
          refine q_goto 48 d20_44 (by decide) ?_
          refine q_istore_n d20_48 (by decide) rfl ?_
          refine q_getst d20_49 rfl ?_
          refine q_iload_n d20_52 rfl ?_
          refine n_ialds d20_53 ⟨by decide, hSt.2.1⟩ (by omega) (by decide) ((hSt.2.2.2 2).trans (by decide : zAo 2 = nI 2)) ?_
          refine q_iconstN (z := 1) d20_54 ?_
          refine nc_le 65 d20_55 (by decide) (by decide) (by decide) (fun q => absurd q (by decide)) (fun _ => ?_)
          refine q_aload_n d20_58 rfl ?_
          refine q_v0 d20_59 rfl rfl hG2.1.2.1.1 (Nat.le_of_ble_eq_true rfl) (c25e hG2 hv2 eB (fun M3 hB f3 => ?_))
          have hSt := hB.1.st
          have hf : fB ≤ 120 := by rw [pAc_f eB]; exact Nat.le_trans hv2.f h120
          have g3 := g2.trans f3
          refine q_goto 66 d20_62 (by decide) ?_
          refine q_istore d20_66 (by decide) rfl ?_
          refine q_iload_n d20_68 rfl ?_
          refine q_s1 d20_69 (Or.inr rfl) rfl (Nat.le_of_ble_eq_true rfl) (c27 (by decide) ?_)
          refine n0_eq 82 d20_72 (by decide) (by decide) (fun q => absurd q (by decide)) (fun _ => ?_)
          refine q_aload_n d20_75 rfl ?_
          refine q_v0 d20_76 rfl rfl hB.1.2.1.1 (Nat.le_of_ble_eq_true rfl) (c28f hB hf ?_)
          refine q_goto 83 d20_79 (by decide) ?_
          refine q_istore d20_83 (by decide) rfl ?_
          refine q_aload_n d20_85 rfl ?_
          refine q_getv (c := 3) (f := 5) d20_86 ⟨rfl, by decide⟩ hB.1.2.1.1 hB.2.2.2.1 ?_
          refine q_iconst (x := (-1)) d20_89 rfl ?_
          refine ic_ne 110 d20_90 (by decide) (fun h90 => ?_) (fun h90 => (False.elim (nI_m1 (by omega) h90)))
          refine q_iconstN (z := 0) d20_110 ?_
          refine q_iret d20_111 rfl ?_
          exact kb _ _ _ (by unfold pSt; simp only [hkd]; rw [if_neg (by omega)]; unfold pA1 pA2 pA3; simp [eA, eB]) hB g3
        · refine q_aload_n d20_22 rfl ?_
          refine q_v0 d20_23 rfl rfl hG.1.2.1.1 (Nat.le_of_ble_eq_true rfl) (c24 hG hv (fun M1 hB f1 => ?_))
          refine q_iconstN (z := 0) d20_26 ?_
          refine q_iret d20_27 rfl ?_
          exact kb _ _ _ (by unfold pSt; simp only [hkd]; rw [if_pos (by omega)]) hB f1
      | ok rB =>
        obtain ⟨aB, kB⟩ := rB
        cases eN : pNu n b kB with
        | error fN =>
          refine q_aload_n d20_0 rfl ?_
          refine q_v0 d20_1 rfl rfl hG.1.2.1.1 (Nat.le_of_ble_eq_true rfl) (c21t hG hv hkd (by decide) ?_)
          refine q_istore_n d20_4 (by decide) rfl ?_
          refine q_iload_n d20_5 rfl ?_
          refine q_iconst (x := (-1)) d20_6 rfl ?_
          refine ic_eq 22 d20_7 (by decide) (fun h7 => (False.elim (nI_m1 (by omega) h7))) (fun h7 => ?_)
          refine q_aload_n d20_10 rfl ?_
          refine q_getr (c := 3) (f := 6) d20_11 ⟨rfl, rfl⟩ hG.1.2.1.1 hG.2.2.2.2.2.1 ?_
          refine q_getv (c := 1) (f := 6) d20_14 ⟨rfl, by decide⟩ (hG.1.pr hG.2.1).1 hG.2.2.2.2.2.2.1 ?_
          refine q_bipush (x := nI 12) d20_17 rfl ?_
          refine nc_lt 28 d20_19 (by decide) (by omega) (by omega) (fun h19 => ?_) (fun h19 => ?_)
          · refine q_aload_n d20_28 rfl ?_
            refine q_v0 d20_29 rfl rfl hG.1.2.1.1 (Nat.le_of_ble_eq_true rfl) (c16 hG.1.2.1 hG.2.2.1 hG.2.2.2.1.2.2 (by omega) (fun M1 hk f1 => ?_))
            have hG1 := hG.ad hk f1
            have hv1 : yQv n b (pAd n b K.1, K.2) := ⟨(pAd_v hv.1 hG.b).1, hv.2⟩
            have hSt := hG1.1.st
            have g1 : Fi (FG c) M M1 := f1.mono FK_G
            refine q_getst d20_32 rfl ?_
            refine q_iload_n d20_35 rfl ?_
            refine n_ialds d20_36 ⟨by decide, hSt.2.1⟩ (by omega) (by decide) ((hSt.2.2.2 2).trans (by decide : zAo 2 = nI 2)) ?_
            refine n0_le 47 d20_37 (by decide) (by decide) (fun q => absurd q (by decide)) (fun _ => ?_)
            refine q_aload_n d20_40 rfl ?_
            refine q_v0 d20_41 rfl rfl hG1.1.2.1.1 (Nat.le_of_ble_eq_true rfl) (c25t hG1 hv1 eA (fun M2 hG2 f2 => ?_))
            have hv2 : yQv n b (kA, K.2) := ⟨by rw [pAc_k eA]; exact (pAd_v hv1.1 hG.b).1, hv.2⟩
            have hSt := hG2.1.st
            have g2 := g1.trans f2
            refine q_goto 48 d20_44 (by decide) ?_
            refine q_istore_n d20_48 (by decide) rfl ?_
            refine q_getst d20_49 rfl ?_
            refine q_iload_n d20_52 rfl ?_
            refine n_ialds d20_53 ⟨by decide, hSt.2.1⟩ (by omega) (by decide) ((hSt.2.2.2 2).trans (by decide : zAo 2 = nI 2)) ?_
            refine q_iconstN (z := 1) d20_54 ?_
            refine nc_le 65 d20_55 (by decide) (by decide) (by decide) (fun q => absurd q (by decide)) (fun _ => ?_)
            refine q_aload_n d20_58 rfl ?_
            refine q_v0 d20_59 rfl rfl hG2.1.2.1.1 (Nat.le_of_ble_eq_true rfl) (c25t hG2 hv2 eB (fun M3 hG3 f3 => ?_))
            have hv3 : yQv n b (kB, K.2) := ⟨by rw [pAc_k eB]; exact (pAd_v hv2.1 hG.b).1, hv.2⟩
            have hSt := hG3.1.st
            have g3 := g2.trans f3
            refine q_goto 66 d20_62 (by decide) ?_
            refine q_istore d20_66 (by decide) rfl ?_
            refine q_iload_n d20_68 rfl ?_
            refine q_s1 d20_69 (Or.inr rfl) rfl (Nat.le_of_ble_eq_true rfl) (c27 (by decide) ?_)
            refine n0_eq 82 d20_72 (by decide) (by decide) (fun q => absurd q (by decide)) (fun _ => ?_)
            refine q_aload_n d20_75 rfl ?_
            refine q_v0 d20_76 rfl rfl hG3.1.2.1.1 (Nat.le_of_ble_eq_true rfl) (c28e hG3 hv3 eN (fun M4 hB f4 => ?_))
            have hSt := hB.1.st
            have hf : fN ≤ 120 := by rw [(pNu_f eN).2]; exact Nat.le_trans hv3.f h120
            have g4 := g3.trans f4
            refine q_goto 83 d20_79 (by decide) ?_
            refine q_istore d20_83 (by decide) rfl ?_
            refine q_aload_n d20_85 rfl ?_
            refine q_getv (c := 3) (f := 5) d20_86 ⟨rfl, by decide⟩ hB.1.2.1.1 hB.2.2.2.1 ?_
            refine q_iconst (x := (-1)) d20_89 rfl ?_
            refine ic_ne 110 d20_90 (by decide) (fun h90 => ?_) (fun h90 => (False.elim (nI_m1 (by omega) h90)))
            refine q_iconstN (z := 0) d20_110 ?_
            refine q_iret d20_111 rfl ?_
            exact kb _ _ _ (by unfold pSt; simp only [hkd]; rw [if_neg (by omega)]; unfold pA1 pA2 pA3; simp [eA, eB, eN]) hB g4
          · refine q_aload_n d20_22 rfl ?_
            refine q_v0 d20_23 rfl rfl hG.1.2.1.1 (Nat.le_of_ble_eq_true rfl) (c24 hG hv (fun M1 hB f1 => ?_))
            refine q_iconstN (z := 0) d20_26 ?_
            refine q_iret d20_27 rfl ?_
            exact kb _ _ _ (by unfold pSt; simp only [hkd]; rw [if_pos (by omega)]) hB f1
        | ok rN =>
          obtain ⟨aN, kN⟩ := rN
          refine q_aload_n d20_0 rfl ?_
          refine q_v0 d20_1 rfl rfl hG.1.2.1.1 (Nat.le_of_ble_eq_true rfl) (c21t hG hv hkd (by decide) ?_)
          refine q_istore_n d20_4 (by decide) rfl ?_
          refine q_iload_n d20_5 rfl ?_
          refine q_iconst (x := (-1)) d20_6 rfl ?_
          refine ic_eq 22 d20_7 (by decide) (fun h7 => (False.elim (nI_m1 (by omega) h7))) (fun h7 => ?_)
          refine q_aload_n d20_10 rfl ?_
          refine q_getr (c := 3) (f := 6) d20_11 ⟨rfl, rfl⟩ hG.1.2.1.1 hG.2.2.2.2.2.1 ?_
          refine q_getv (c := 1) (f := 6) d20_14 ⟨rfl, by decide⟩ (hG.1.pr hG.2.1).1 hG.2.2.2.2.2.2.1 ?_
          refine q_bipush (x := nI 12) d20_17 rfl ?_
          refine nc_lt 28 d20_19 (by decide) (by omega) (by omega) (fun h19 => ?_) (fun h19 => ?_)
          · refine q_aload_n d20_28 rfl ?_
            refine q_v0 d20_29 rfl rfl hG.1.2.1.1 (Nat.le_of_ble_eq_true rfl) (c16 hG.1.2.1 hG.2.2.1 hG.2.2.2.1.2.2 (by omega) (fun M1 hk f1 => ?_))
            have hG1 := hG.ad hk f1
            have hv1 : yQv n b (pAd n b K.1, K.2) := ⟨(pAd_v hv.1 hG.b).1, hv.2⟩
            have hSt := hG1.1.st
            have g1 : Fi (FG c) M M1 := f1.mono FK_G
            refine q_getst d20_32 rfl ?_
            refine q_iload_n d20_35 rfl ?_
            refine n_ialds d20_36 ⟨by decide, hSt.2.1⟩ (by omega) (by decide) ((hSt.2.2.2 2).trans (by decide : zAo 2 = nI 2)) ?_
            refine n0_le 47 d20_37 (by decide) (by decide) (fun q => absurd q (by decide)) (fun _ => ?_)
            refine q_aload_n d20_40 rfl ?_
            refine q_v0 d20_41 rfl rfl hG1.1.2.1.1 (Nat.le_of_ble_eq_true rfl) (c25t hG1 hv1 eA (fun M2 hG2 f2 => ?_))
            have hv2 : yQv n b (kA, K.2) := ⟨by rw [pAc_k eA]; exact (pAd_v hv1.1 hG.b).1, hv.2⟩
            have hSt := hG2.1.st
            have g2 := g1.trans f2
            refine q_goto 48 d20_44 (by decide) ?_
            refine q_istore_n d20_48 (by decide) rfl ?_
            refine q_getst d20_49 rfl ?_
            refine q_iload_n d20_52 rfl ?_
            refine n_ialds d20_53 ⟨by decide, hSt.2.1⟩ (by omega) (by decide) ((hSt.2.2.2 2).trans (by decide : zAo 2 = nI 2)) ?_
            refine q_iconstN (z := 1) d20_54 ?_
            refine nc_le 65 d20_55 (by decide) (by decide) (by decide) (fun q => absurd q (by decide)) (fun _ => ?_)
            refine q_aload_n d20_58 rfl ?_
            refine q_v0 d20_59 rfl rfl hG2.1.2.1.1 (Nat.le_of_ble_eq_true rfl) (c25t hG2 hv2 eB (fun M3 hG3 f3 => ?_))
            have hv3 : yQv n b (kB, K.2) := ⟨by rw [pAc_k eB]; exact (pAd_v hv2.1 hG.b).1, hv.2⟩
            have hSt := hG3.1.st
            have g3 := g2.trans f3
            refine q_goto 66 d20_62 (by decide) ?_
            refine q_istore d20_66 (by decide) rfl ?_
            refine q_iload_n d20_68 rfl ?_
            refine q_s1 d20_69 (Or.inr rfl) rfl (Nat.le_of_ble_eq_true rfl) (c27 (by decide) ?_)
            refine n0_eq 82 d20_72 (by decide) (by decide) (fun q => absurd q (by decide)) (fun _ => ?_)
            refine q_aload_n d20_75 rfl ?_
            refine q_v0 d20_76 rfl rfl hG3.1.2.1.1 (Nat.le_of_ble_eq_true rfl) (c28t hG3 hv3 eN (fun M4 hG4 f4 => ?_))
            have hv4 : yQv n b (kN, K.2) := ⟨by rw [(pNu_k eN).2.2]; exact (pAd_v hv3.1 hG.b).1, hv.2⟩
            have hSt := hG4.1.st
            have g4 := g3.trans f4
            refine q_goto 83 d20_79 (by decide) ?_
            refine q_istore d20_83 (by decide) rfl ?_
            refine q_aload_n d20_85 rfl ?_
            refine q_getv (c := 3) (f := 5) d20_86 ⟨rfl, by decide⟩ hG4.1.2.1.1 hG4.2.2.2.2.1 ?_
            refine q_iconst (x := (-1)) d20_89 rfl ?_
            refine ic_ne 110 d20_90 (by decide) (fun h90 => (False.elim (h90 rfl))) (fun h90 => ?_)
            refine q_aload_n d20_93 rfl ?_
            refine q_getr (c := 3) (f := 6) d20_94 ⟨rfl, rfl⟩ hG4.1.2.1.1 hG4.2.2.2.2.2.1 ?_
            refine q_iload_n d20_97 rfl ?_
            refine q_iload_n d20_98 rfl ?_
            refine q_iload d20_99 rfl ?_
            refine q_iload d20_101 rfl ?_
            refine q_iload_n d20_103 rfl ?_
            refine q_v5 d20_104 rfl rfl (hG4.1.pr hG4.2.1).1 (Nat.le_of_ble_eq_true rfl) (c29 (hG4.1.pr hG4.2.1) hG4.2.2.2.2.2.2 h19 (fun M9 hr9 f9 => ?_))
            refine q_goto 111 d20_107 (by decide) ?_
            refine q_iret d20_111 rfl ?_
            have f9' : Fi (FG c) M4 M9 := f9.mono (fun _ _ q => Or.inr ⟨q.1, by have := q.2; omega⟩)
            have hG9 : GR M9 c n b (kN, pAp K.2 2 (nI aA) (nI aB) (nI aN) ah) := ⟨f9.sc hG4.1 (fun a k ha q => by have := q.1; omega), hG4.2.1, RTp_fi hG4.2.2.1 f9.fr ⟨fun q => by have := q.1; omega, fun q e => by have := e.1; omega⟩, RK_fi hG4.2.2.2.1 f9.fr ⟨fun q => by have := q.1; omega, fun q => by have := q.1; omega, fun q => by have := q.1; omega⟩, (f9.1 _ _ (fun q => by have := q.1; omega)).trans hG4.2.2.2.2.1, (f9.r _ _).trans hG4.2.2.2.2.2.1, hr9⟩
            exact k _ _ _ (by unfold pSt; simp only [hkd]; rw [if_neg (by omega)]; unfold pA1 pA2 pA3; simp [eA, eB, eN]) hG9 (g4.trans f9')
          · refine q_aload_n d20_22 rfl ?_
            refine q_v0 d20_23 rfl rfl hG.1.2.1.1 (Nat.le_of_ble_eq_true rfl) (c24 hG hv (fun M1 hB f1 => ?_))
            refine q_iconstN (z := 0) d20_26 ?_
            refine q_iret d20_27 rfl ?_
            exact kb _ _ _ (by unfold pSt; simp only [hkd]; rw [if_pos (by omega)]) hB f1
  · skip
    cases eA : pAc n b (pAd n b K.1) with
    | error fA =>
      refine q_aload_n d20_0 rfl ?_
      refine q_v0 d20_1 rfl rfl hG.1.2.1.1 (Nat.le_of_ble_eq_true rfl) (c21t hG hv hkd (by decide) ?_)
      refine q_istore_n d20_4 (by decide) rfl ?_
      refine q_iload_n d20_5 rfl ?_
      refine q_iconst (x := (-1)) d20_6 rfl ?_
      refine ic_eq 22 d20_7 (by decide) (fun h7 => (False.elim (nI_m1 (by omega) h7))) (fun h7 => ?_)
      refine q_aload_n d20_10 rfl ?_
      refine q_getr (c := 3) (f := 6) d20_11 ⟨rfl, rfl⟩ hG.1.2.1.1 hG.2.2.2.2.2.1 ?_
      refine q_getv (c := 1) (f := 6) d20_14 ⟨rfl, by decide⟩ (hG.1.pr hG.2.1).1 hG.2.2.2.2.2.2.1 ?_
      refine q_bipush (x := nI 12) d20_17 rfl ?_
      refine nc_lt 28 d20_19 (by decide) (by omega) (by omega) (fun h19 => ?_) (fun h19 => ?_)
      · refine q_aload_n d20_28 rfl ?_
        refine q_v0 d20_29 rfl rfl hG.1.2.1.1 (Nat.le_of_ble_eq_true rfl) (c16 hG.1.2.1 hG.2.2.1 hG.2.2.2.1.2.2 (by omega) (fun M1 hk f1 => ?_))
        have hG1 := hG.ad hk f1
        have hv1 : yQv n b (pAd n b K.1, K.2) := ⟨(pAd_v hv.1 hG.b).1, hv.2⟩
        have hSt := hG1.1.st
        have g1 : Fi (FG c) M M1 := f1.mono FK_G
        refine q_getst d20_32 rfl ?_
        refine q_iload_n d20_35 rfl ?_
        refine n_ialds d20_36 ⟨by decide, hSt.2.1⟩ (by omega) (by decide) ((hSt.2.2.2 3).trans (by decide : zAo 3 = nI 1)) ?_
        refine n0_le 47 d20_37 (by decide) (by decide) (fun q => absurd q (by decide)) (fun _ => ?_)
        refine q_aload_n d20_40 rfl ?_
        refine q_v0 d20_41 rfl rfl hG1.1.2.1.1 (Nat.le_of_ble_eq_true rfl) (c25e hG1 hv1 eA (fun M2 hB f2 => ?_))
        have hSt := hB.1.st
        have hf : fA ≤ 120 := by rw [pAc_f eA]; exact Nat.le_trans hv1.f h120
        have g2 := g1.trans f2
        refine q_goto 48 d20_44 (by decide) ?_
        refine q_istore_n d20_48 (by decide) rfl ?_
        refine q_getst d20_49 rfl ?_
        refine q_iload_n d20_52 rfl ?_
        refine n_ialds d20_53 ⟨by decide, hSt.2.1⟩ (by omega) (by decide) ((hSt.2.2.2 3).trans (by decide : zAo 3 = nI 1)) ?_
        refine q_iconstN (z := 1) d20_54 ?_
        refine nc_le 65 d20_55 (by decide) (by decide) (by decide) (fun _ => ?_) (fun q => absurd q (by decide))
        refine q_iconst (x := (-1)) d20_65 rfl ?_
        refine q_istore d20_66 (by decide) rfl ?_
        refine q_iload_n d20_68 rfl ?_
        refine q_s1 d20_69 (Or.inr rfl) rfl (Nat.le_of_ble_eq_true rfl) (c27 (by decide) ?_)
        refine n0_eq 82 d20_72 (by decide) (by decide) (fun q => absurd q (by decide)) (fun _ => ?_)
        refine q_aload_n d20_75 rfl ?_
        refine q_v0 d20_76 rfl rfl hB.1.2.1.1 (Nat.le_of_ble_eq_true rfl) (c28f hB hf ?_)
        refine q_goto 83 d20_79 (by decide) ?_
        refine q_istore d20_83 (by decide) rfl ?_
        refine q_aload_n d20_85 rfl ?_
        refine q_getv (c := 3) (f := 5) d20_86 ⟨rfl, by decide⟩ hB.1.2.1.1 hB.2.2.2.1 ?_
        refine q_iconst (x := (-1)) d20_89 rfl ?_
        refine ic_ne 110 d20_90 (by decide) (fun h90 => ?_) (fun h90 => (False.elim (nI_m1 (by omega) h90)))
        refine q_iconstN (z := 0) d20_110 ?_
        refine q_iret d20_111 rfl ?_
        exact kb _ _ _ (by unfold pSt; simp only [hkd]; rw [if_neg (by omega)]; unfold pA1 pA2 pA3; simp [eA]) hB g2
      · refine q_aload_n d20_22 rfl ?_
        refine q_v0 d20_23 rfl rfl hG.1.2.1.1 (Nat.le_of_ble_eq_true rfl) (c24 hG hv (fun M1 hB f1 => ?_))
        refine q_iconstN (z := 0) d20_26 ?_
        refine q_iret d20_27 rfl ?_
        exact kb _ _ _ (by unfold pSt; simp only [hkd]; rw [if_pos (by omega)]) hB f1
    | ok rA =>
      obtain ⟨aA, kA⟩ := rA
      cases eN : pNu n b kA with
      | error fN =>
        refine q_aload_n d20_0 rfl ?_
        refine q_v0 d20_1 rfl rfl hG.1.2.1.1 (Nat.le_of_ble_eq_true rfl) (c21t hG hv hkd (by decide) ?_)
        refine q_istore_n d20_4 (by decide) rfl ?_
        refine q_iload_n d20_5 rfl ?_
        refine q_iconst (x := (-1)) d20_6 rfl ?_
        refine ic_eq 22 d20_7 (by decide) (fun h7 => (False.elim (nI_m1 (by omega) h7))) (fun h7 => ?_)
        refine q_aload_n d20_10 rfl ?_
        refine q_getr (c := 3) (f := 6) d20_11 ⟨rfl, rfl⟩ hG.1.2.1.1 hG.2.2.2.2.2.1 ?_
        refine q_getv (c := 1) (f := 6) d20_14 ⟨rfl, by decide⟩ (hG.1.pr hG.2.1).1 hG.2.2.2.2.2.2.1 ?_
        refine q_bipush (x := nI 12) d20_17 rfl ?_
        refine nc_lt 28 d20_19 (by decide) (by omega) (by omega) (fun h19 => ?_) (fun h19 => ?_)
        · refine q_aload_n d20_28 rfl ?_
          refine q_v0 d20_29 rfl rfl hG.1.2.1.1 (Nat.le_of_ble_eq_true rfl) (c16 hG.1.2.1 hG.2.2.1 hG.2.2.2.1.2.2 (by omega) (fun M1 hk f1 => ?_))
          have hG1 := hG.ad hk f1
          have hv1 : yQv n b (pAd n b K.1, K.2) := ⟨(pAd_v hv.1 hG.b).1, hv.2⟩
          have hSt := hG1.1.st
          have g1 : Fi (FG c) M M1 := f1.mono FK_G
          refine q_getst d20_32 rfl ?_
          refine q_iload_n d20_35 rfl ?_
          refine n_ialds d20_36 ⟨by decide, hSt.2.1⟩ (by omega) (by decide) ((hSt.2.2.2 3).trans (by decide : zAo 3 = nI 1)) ?_
          refine n0_le 47 d20_37 (by decide) (by decide) (fun q => absurd q (by decide)) (fun _ => ?_)
          refine q_aload_n d20_40 rfl ?_
          refine q_v0 d20_41 rfl rfl hG1.1.2.1.1 (Nat.le_of_ble_eq_true rfl) (c25t hG1 hv1 eA (fun M2 hG2 f2 => ?_))
          have hv2 : yQv n b (kA, K.2) := ⟨by rw [pAc_k eA]; exact (pAd_v hv1.1 hG.b).1, hv.2⟩
          have hSt := hG2.1.st
          have g2 := g1.trans f2
          refine q_goto 48 d20_44 (by decide) ?_
          refine q_istore_n d20_48 (by decide) rfl ?_
          refine q_getst d20_49 rfl ?_
          refine q_iload_n d20_52 rfl ?_
          refine n_ialds d20_53 ⟨by decide, hSt.2.1⟩ (by omega) (by decide) ((hSt.2.2.2 3).trans (by decide : zAo 3 = nI 1)) ?_
          refine q_iconstN (z := 1) d20_54 ?_
          refine nc_le 65 d20_55 (by decide) (by decide) (by decide) (fun _ => ?_) (fun q => absurd q (by decide))
          refine q_iconst (x := (-1)) d20_65 rfl ?_
          refine q_istore d20_66 (by decide) rfl ?_
          refine q_iload_n d20_68 rfl ?_
          refine q_s1 d20_69 (Or.inr rfl) rfl (Nat.le_of_ble_eq_true rfl) (c27 (by decide) ?_)
          refine n0_eq 82 d20_72 (by decide) (by decide) (fun q => absurd q (by decide)) (fun _ => ?_)
          refine q_aload_n d20_75 rfl ?_
          refine q_v0 d20_76 rfl rfl hG2.1.2.1.1 (Nat.le_of_ble_eq_true rfl) (c28e hG2 hv2 eN (fun M3 hB f3 => ?_))
          have hSt := hB.1.st
          have hf : fN ≤ 120 := by rw [(pNu_f eN).2]; exact Nat.le_trans hv2.f h120
          have g3 := g2.trans f3
          refine q_goto 83 d20_79 (by decide) ?_
          refine q_istore d20_83 (by decide) rfl ?_
          refine q_aload_n d20_85 rfl ?_
          refine q_getv (c := 3) (f := 5) d20_86 ⟨rfl, by decide⟩ hB.1.2.1.1 hB.2.2.2.1 ?_
          refine q_iconst (x := (-1)) d20_89 rfl ?_
          refine ic_ne 110 d20_90 (by decide) (fun h90 => ?_) (fun h90 => (False.elim (nI_m1 (by omega) h90)))
          refine q_iconstN (z := 0) d20_110 ?_
          refine q_iret d20_111 rfl ?_
          exact kb _ _ _ (by unfold pSt; simp only [hkd]; rw [if_neg (by omega)]; unfold pA1 pA2 pA3; simp [eA, eN]) hB g3
        · refine q_aload_n d20_22 rfl ?_
          refine q_v0 d20_23 rfl rfl hG.1.2.1.1 (Nat.le_of_ble_eq_true rfl) (c24 hG hv (fun M1 hB f1 => ?_))
          refine q_iconstN (z := 0) d20_26 ?_
          refine q_iret d20_27 rfl ?_
          exact kb _ _ _ (by unfold pSt; simp only [hkd]; rw [if_pos (by omega)]) hB f1
      | ok rN =>
        obtain ⟨aN, kN⟩ := rN
        refine q_aload_n d20_0 rfl ?_
        refine q_v0 d20_1 rfl rfl hG.1.2.1.1 (Nat.le_of_ble_eq_true rfl) (c21t hG hv hkd (by decide) ?_)
        refine q_istore_n d20_4 (by decide) rfl ?_
        refine q_iload_n d20_5 rfl ?_
        refine q_iconst (x := (-1)) d20_6 rfl ?_
        refine ic_eq 22 d20_7 (by decide) (fun h7 => (False.elim (nI_m1 (by omega) h7))) (fun h7 => ?_)
        refine q_aload_n d20_10 rfl ?_
        refine q_getr (c := 3) (f := 6) d20_11 ⟨rfl, rfl⟩ hG.1.2.1.1 hG.2.2.2.2.2.1 ?_
        refine q_getv (c := 1) (f := 6) d20_14 ⟨rfl, by decide⟩ (hG.1.pr hG.2.1).1 hG.2.2.2.2.2.2.1 ?_
        refine q_bipush (x := nI 12) d20_17 rfl ?_
        refine nc_lt 28 d20_19 (by decide) (by omega) (by omega) (fun h19 => ?_) (fun h19 => ?_)
        · refine q_aload_n d20_28 rfl ?_
          refine q_v0 d20_29 rfl rfl hG.1.2.1.1 (Nat.le_of_ble_eq_true rfl) (c16 hG.1.2.1 hG.2.2.1 hG.2.2.2.1.2.2 (by omega) (fun M1 hk f1 => ?_))
          have hG1 := hG.ad hk f1
          have hv1 : yQv n b (pAd n b K.1, K.2) := ⟨(pAd_v hv.1 hG.b).1, hv.2⟩
          have hSt := hG1.1.st
          have g1 : Fi (FG c) M M1 := f1.mono FK_G
          refine q_getst d20_32 rfl ?_
          refine q_iload_n d20_35 rfl ?_
          refine n_ialds d20_36 ⟨by decide, hSt.2.1⟩ (by omega) (by decide) ((hSt.2.2.2 3).trans (by decide : zAo 3 = nI 1)) ?_
          refine n0_le 47 d20_37 (by decide) (by decide) (fun q => absurd q (by decide)) (fun _ => ?_)
          refine q_aload_n d20_40 rfl ?_
          refine q_v0 d20_41 rfl rfl hG1.1.2.1.1 (Nat.le_of_ble_eq_true rfl) (c25t hG1 hv1 eA (fun M2 hG2 f2 => ?_))
          have hv2 : yQv n b (kA, K.2) := ⟨by rw [pAc_k eA]; exact (pAd_v hv1.1 hG.b).1, hv.2⟩
          have hSt := hG2.1.st
          have g2 := g1.trans f2
          refine q_goto 48 d20_44 (by decide) ?_
          refine q_istore_n d20_48 (by decide) rfl ?_
          refine q_getst d20_49 rfl ?_
          refine q_iload_n d20_52 rfl ?_
          refine n_ialds d20_53 ⟨by decide, hSt.2.1⟩ (by omega) (by decide) ((hSt.2.2.2 3).trans (by decide : zAo 3 = nI 1)) ?_
          refine q_iconstN (z := 1) d20_54 ?_
          refine nc_le 65 d20_55 (by decide) (by decide) (by decide) (fun _ => ?_) (fun q => absurd q (by decide))
          refine q_iconst (x := (-1)) d20_65 rfl ?_
          refine q_istore d20_66 (by decide) rfl ?_
          refine q_iload_n d20_68 rfl ?_
          refine q_s1 d20_69 (Or.inr rfl) rfl (Nat.le_of_ble_eq_true rfl) (c27 (by decide) ?_)
          refine n0_eq 82 d20_72 (by decide) (by decide) (fun q => absurd q (by decide)) (fun _ => ?_)
          refine q_aload_n d20_75 rfl ?_
          refine q_v0 d20_76 rfl rfl hG2.1.2.1.1 (Nat.le_of_ble_eq_true rfl) (c28t hG2 hv2 eN (fun M3 hG3 f3 => ?_))
          have hv3 : yQv n b (kN, K.2) := ⟨by rw [(pNu_k eN).2.2]; exact (pAd_v hv2.1 hG.b).1, hv.2⟩
          have hSt := hG3.1.st
          have g3 := g2.trans f3
          refine q_goto 83 d20_79 (by decide) ?_
          refine q_istore d20_83 (by decide) rfl ?_
          refine q_aload_n d20_85 rfl ?_
          refine q_getv (c := 3) (f := 5) d20_86 ⟨rfl, by decide⟩ hG3.1.2.1.1 hG3.2.2.2.2.1 ?_
          refine q_iconst (x := (-1)) d20_89 rfl ?_
          refine ic_ne 110 d20_90 (by decide) (fun h90 => (False.elim (h90 rfl))) (fun h90 => ?_)
          refine q_aload_n d20_93 rfl ?_
          refine q_getr (c := 3) (f := 6) d20_94 ⟨rfl, rfl⟩ hG3.1.2.1.1 hG3.2.2.2.2.2.1 ?_
          refine q_iload_n d20_97 rfl ?_
          refine q_iload_n d20_98 rfl ?_
          refine q_iload d20_99 rfl ?_
          refine q_iload d20_101 rfl ?_
          refine q_iload_n d20_103 rfl ?_
          refine q_v5 d20_104 rfl rfl (hG3.1.pr hG3.2.1).1 (Nat.le_of_ble_eq_true rfl) (c29 (hG3.1.pr hG3.2.1) hG3.2.2.2.2.2.2 h19 (fun M9 hr9 f9 => ?_))
          refine q_goto 111 d20_107 (by decide) ?_
          refine q_iret d20_111 rfl ?_
          have f9' : Fi (FG c) M3 M9 := f9.mono (fun _ _ q => Or.inr ⟨q.1, by have := q.2; omega⟩)
          have hG9 : GR M9 c n b (kN, pAp K.2 3 (nI aA) (-1) (nI aN) ah) := ⟨f9.sc hG3.1 (fun a k ha q => by have := q.1; omega), hG3.2.1, RTp_fi hG3.2.2.1 f9.fr ⟨fun q => by have := q.1; omega, fun q e => by have := e.1; omega⟩, RK_fi hG3.2.2.2.1 f9.fr ⟨fun q => by have := q.1; omega, fun q => by have := q.1; omega, fun q => by have := q.1; omega⟩, (f9.1 _ _ (fun q => by have := q.1; omega)).trans hG3.2.2.2.2.1, (f9.r _ _).trans hG3.2.2.2.2.2.1, hr9⟩
          exact k _ _ _ (by unfold pSt; simp only [hkd]; rw [if_neg (by omega)]; unfold pA1 pA2 pA3; simp [eA, eN]) hG9 (g3.trans f9')
        · refine q_aload_n d20_22 rfl ?_
          refine q_v0 d20_23 rfl rfl hG.1.2.1.1 (Nat.le_of_ble_eq_true rfl) (c24 hG hv (fun M1 hB f1 => ?_))
          refine q_iconstN (z := 0) d20_26 ?_
          refine q_iret d20_27 rfl ?_
          exact kb _ _ _ (by unfold pSt; simp only [hkd]; rw [if_pos (by omega)]) hB f1
  · skip
    cases eA : pAc n b (pAd n b K.1) with
    | error fA =>
      refine q_aload_n d20_0 rfl ?_
      refine q_v0 d20_1 rfl rfl hG.1.2.1.1 (Nat.le_of_ble_eq_true rfl) (c21t hG hv hkd (by decide) ?_)
      refine q_istore_n d20_4 (by decide) rfl ?_
      refine q_iload_n d20_5 rfl ?_
      refine q_iconst (x := (-1)) d20_6 rfl ?_
      refine ic_eq 22 d20_7 (by decide) (fun h7 => (False.elim (nI_m1 (by omega) h7))) (fun h7 => ?_)
      refine q_aload_n d20_10 rfl ?_
      refine q_getr (c := 3) (f := 6) d20_11 ⟨rfl, rfl⟩ hG.1.2.1.1 hG.2.2.2.2.2.1 ?_
      refine q_getv (c := 1) (f := 6) d20_14 ⟨rfl, by decide⟩ (hG.1.pr hG.2.1).1 hG.2.2.2.2.2.2.1 ?_
      refine q_bipush (x := nI 12) d20_17 rfl ?_
      refine nc_lt 28 d20_19 (by decide) (by omega) (by omega) (fun h19 => ?_) (fun h19 => ?_)
      · refine q_aload_n d20_28 rfl ?_
        refine q_v0 d20_29 rfl rfl hG.1.2.1.1 (Nat.le_of_ble_eq_true rfl) (c16 hG.1.2.1 hG.2.2.1 hG.2.2.2.1.2.2 (by omega) (fun M1 hk f1 => ?_))
        have hG1 := hG.ad hk f1
        have hv1 : yQv n b (pAd n b K.1, K.2) := ⟨(pAd_v hv.1 hG.b).1, hv.2⟩
        have hSt := hG1.1.st
        have g1 : Fi (FG c) M M1 := f1.mono FK_G
        refine q_getst d20_32 rfl ?_
        refine q_iload_n d20_35 rfl ?_
        refine n_ialds d20_36 ⟨by decide, hSt.2.1⟩ (by omega) (by decide) ((hSt.2.2.2 4).trans (by decide : zAo 4 = nI 2)) ?_
        refine n0_le 47 d20_37 (by decide) (by decide) (fun q => absurd q (by decide)) (fun _ => ?_)
        refine q_aload_n d20_40 rfl ?_
        refine q_v0 d20_41 rfl rfl hG1.1.2.1.1 (Nat.le_of_ble_eq_true rfl) (c25e hG1 hv1 eA (fun M2 hB f2 => ?_))
        have hSt := hB.1.st
        have hf : fA ≤ 120 := by rw [pAc_f eA]; exact Nat.le_trans hv1.f h120
        have g2 := g1.trans f2
        refine q_goto 48 d20_44 (by decide) ?_
        refine q_istore_n d20_48 (by decide) rfl ?_
        refine q_getst d20_49 rfl ?_
        refine q_iload_n d20_52 rfl ?_
        refine n_ialds d20_53 ⟨by decide, hSt.2.1⟩ (by omega) (by decide) ((hSt.2.2.2 4).trans (by decide : zAo 4 = nI 2)) ?_
        refine q_iconstN (z := 1) d20_54 ?_
        refine nc_le 65 d20_55 (by decide) (by decide) (by decide) (fun q => absurd q (by decide)) (fun _ => ?_)
        refine q_aload_n d20_58 rfl ?_
        refine q_v0 d20_59 rfl rfl hB.1.2.1.1 (Nat.le_of_ble_eq_true rfl) (c25f hB hf ?_)
        refine q_goto 66 d20_62 (by decide) ?_
        refine q_istore d20_66 (by decide) rfl ?_
        refine q_iload_n d20_68 rfl ?_
        refine q_s1 d20_69 (Or.inr rfl) rfl (Nat.le_of_ble_eq_true rfl) (c27 (by decide) ?_)
        refine n0_eq 82 d20_72 (by decide) (by decide) (fun _ => ?_) (fun q => absurd q (by decide))
        refine q_iconst (x := (-1)) d20_82 rfl ?_
        refine q_istore d20_83 (by decide) rfl ?_
        refine q_aload_n d20_85 rfl ?_
        refine q_getv (c := 3) (f := 5) d20_86 ⟨rfl, by decide⟩ hB.1.2.1.1 hB.2.2.2.1 ?_
        refine q_iconst (x := (-1)) d20_89 rfl ?_
        refine ic_ne 110 d20_90 (by decide) (fun h90 => ?_) (fun h90 => (False.elim (nI_m1 (by omega) h90)))
        refine q_iconstN (z := 0) d20_110 ?_
        refine q_iret d20_111 rfl ?_
        exact kb _ _ _ (by unfold pSt; simp only [hkd]; rw [if_neg (by omega)]; unfold pA1 pA2 pA3; simp [eA]) hB g2
      · refine q_aload_n d20_22 rfl ?_
        refine q_v0 d20_23 rfl rfl hG.1.2.1.1 (Nat.le_of_ble_eq_true rfl) (c24 hG hv (fun M1 hB f1 => ?_))
        refine q_iconstN (z := 0) d20_26 ?_
        refine q_iret d20_27 rfl ?_
        exact kb _ _ _ (by unfold pSt; simp only [hkd]; rw [if_pos (by omega)]) hB f1
    | ok rA =>
      obtain ⟨aA, kA⟩ := rA
      cases eB : pAc n b kA with
      | error fB =>
        refine q_aload_n d20_0 rfl ?_
        refine q_v0 d20_1 rfl rfl hG.1.2.1.1 (Nat.le_of_ble_eq_true rfl) (c21t hG hv hkd (by decide) ?_)
        refine q_istore_n d20_4 (by decide) rfl ?_
        refine q_iload_n d20_5 rfl ?_
        refine q_iconst (x := (-1)) d20_6 rfl ?_
        refine ic_eq 22 d20_7 (by decide) (fun h7 => (False.elim (nI_m1 (by omega) h7))) (fun h7 => ?_)
        refine q_aload_n d20_10 rfl ?_
        refine q_getr (c := 3) (f := 6) d20_11 ⟨rfl, rfl⟩ hG.1.2.1.1 hG.2.2.2.2.2.1 ?_
        refine q_getv (c := 1) (f := 6) d20_14 ⟨rfl, by decide⟩ (hG.1.pr hG.2.1).1 hG.2.2.2.2.2.2.1 ?_
        refine q_bipush (x := nI 12) d20_17 rfl ?_
        refine nc_lt 28 d20_19 (by decide) (by omega) (by omega) (fun h19 => ?_) (fun h19 => ?_)
        · refine q_aload_n d20_28 rfl ?_
          refine q_v0 d20_29 rfl rfl hG.1.2.1.1 (Nat.le_of_ble_eq_true rfl) (c16 hG.1.2.1 hG.2.2.1 hG.2.2.2.1.2.2 (by omega) (fun M1 hk f1 => ?_))
          have hG1 := hG.ad hk f1
          have hv1 : yQv n b (pAd n b K.1, K.2) := ⟨(pAd_v hv.1 hG.b).1, hv.2⟩
          have hSt := hG1.1.st
          have g1 : Fi (FG c) M M1 := f1.mono FK_G
          refine q_getst d20_32 rfl ?_
          refine q_iload_n d20_35 rfl ?_
          refine n_ialds d20_36 ⟨by decide, hSt.2.1⟩ (by omega) (by decide) ((hSt.2.2.2 4).trans (by decide : zAo 4 = nI 2)) ?_
          refine n0_le 47 d20_37 (by decide) (by decide) (fun q => absurd q (by decide)) (fun _ => ?_)
          refine q_aload_n d20_40 rfl ?_
          refine q_v0 d20_41 rfl rfl hG1.1.2.1.1 (Nat.le_of_ble_eq_true rfl) (c25t hG1 hv1 eA (fun M2 hG2 f2 => ?_))
          have hv2 : yQv n b (kA, K.2) := ⟨by rw [pAc_k eA]; exact (pAd_v hv1.1 hG.b).1, hv.2⟩
          have hSt := hG2.1.st
          have g2 := g1.trans f2
          refine q_goto 48 d20_44 (by decide) ?_
          refine q_istore_n d20_48 (by decide) rfl ?_
          refine q_getst d20_49 rfl ?_
          refine q_iload_n d20_52 rfl ?_
          refine n_ialds d20_53 ⟨by decide, hSt.2.1⟩ (by omega) (by decide) ((hSt.2.2.2 4).trans (by decide : zAo 4 = nI 2)) ?_
          refine q_iconstN (z := 1) d20_54 ?_
          refine nc_le 65 d20_55 (by decide) (by decide) (by decide) (fun q => absurd q (by decide)) (fun _ => ?_)
          refine q_aload_n d20_58 rfl ?_
          refine q_v0 d20_59 rfl rfl hG2.1.2.1.1 (Nat.le_of_ble_eq_true rfl) (c25e hG2 hv2 eB (fun M3 hB f3 => ?_))
          have hSt := hB.1.st
          have hf : fB ≤ 120 := by rw [pAc_f eB]; exact Nat.le_trans hv2.f h120
          have g3 := g2.trans f3
          refine q_goto 66 d20_62 (by decide) ?_
          refine q_istore d20_66 (by decide) rfl ?_
          refine q_iload_n d20_68 rfl ?_
          refine q_s1 d20_69 (Or.inr rfl) rfl (Nat.le_of_ble_eq_true rfl) (c27 (by decide) ?_)
          refine n0_eq 82 d20_72 (by decide) (by decide) (fun _ => ?_) (fun q => absurd q (by decide))
          refine q_iconst (x := (-1)) d20_82 rfl ?_
          refine q_istore d20_83 (by decide) rfl ?_
          refine q_aload_n d20_85 rfl ?_
          refine q_getv (c := 3) (f := 5) d20_86 ⟨rfl, by decide⟩ hB.1.2.1.1 hB.2.2.2.1 ?_
          refine q_iconst (x := (-1)) d20_89 rfl ?_
          refine ic_ne 110 d20_90 (by decide) (fun h90 => ?_) (fun h90 => (False.elim (nI_m1 (by omega) h90)))
          refine q_iconstN (z := 0) d20_110 ?_
          refine q_iret d20_111 rfl ?_
          exact kb _ _ _ (by unfold pSt; simp only [hkd]; rw [if_neg (by omega)]; unfold pA1 pA2 pA3; simp [eA, eB]) hB g3
        · refine q_aload_n d20_22 rfl ?_
          refine q_v0 d20_23 rfl rfl hG.1.2.1.1 (Nat.le_of_ble_eq_true rfl) (c24 hG hv (fun M1 hB f1 => ?_))
          refine q_iconstN (z := 0) d20_26 ?_
          refine q_iret d20_27 rfl ?_
          exact kb _ _ _ (by unfold pSt; simp only [hkd]; rw [if_pos (by omega)]) hB f1
      | ok rB =>
        obtain ⟨aB, kB⟩ := rB
        refine q_aload_n d20_0 rfl ?_
        refine q_v0 d20_1 rfl rfl hG.1.2.1.1 (Nat.le_of_ble_eq_true rfl) (c21t hG hv hkd (by decide) ?_)
        refine q_istore_n d20_4 (by decide) rfl ?_
        refine q_iload_n d20_5 rfl ?_
        refine q_iconst (x := (-1)) d20_6 rfl ?_
        refine ic_eq 22 d20_7 (by decide) (fun h7 => (False.elim (nI_m1 (by omega) h7))) (fun h7 => ?_)
        refine q_aload_n d20_10 rfl ?_
        refine q_getr (c := 3) (f := 6) d20_11 ⟨rfl, rfl⟩ hG.1.2.1.1 hG.2.2.2.2.2.1 ?_
        refine q_getv (c := 1) (f := 6) d20_14 ⟨rfl, by decide⟩ (hG.1.pr hG.2.1).1 hG.2.2.2.2.2.2.1 ?_
        refine q_bipush (x := nI 12) d20_17 rfl ?_
        refine nc_lt 28 d20_19 (by decide) (by omega) (by omega) (fun h19 => ?_) (fun h19 => ?_)
        · refine q_aload_n d20_28 rfl ?_
          refine q_v0 d20_29 rfl rfl hG.1.2.1.1 (Nat.le_of_ble_eq_true rfl) (c16 hG.1.2.1 hG.2.2.1 hG.2.2.2.1.2.2 (by omega) (fun M1 hk f1 => ?_))
          have hG1 := hG.ad hk f1
          have hv1 : yQv n b (pAd n b K.1, K.2) := ⟨(pAd_v hv.1 hG.b).1, hv.2⟩
          have hSt := hG1.1.st
          have g1 : Fi (FG c) M M1 := f1.mono FK_G
          refine q_getst d20_32 rfl ?_
          refine q_iload_n d20_35 rfl ?_
          refine n_ialds d20_36 ⟨by decide, hSt.2.1⟩ (by omega) (by decide) ((hSt.2.2.2 4).trans (by decide : zAo 4 = nI 2)) ?_
          refine n0_le 47 d20_37 (by decide) (by decide) (fun q => absurd q (by decide)) (fun _ => ?_)
          refine q_aload_n d20_40 rfl ?_
          refine q_v0 d20_41 rfl rfl hG1.1.2.1.1 (Nat.le_of_ble_eq_true rfl) (c25t hG1 hv1 eA (fun M2 hG2 f2 => ?_))
          have hv2 : yQv n b (kA, K.2) := ⟨by rw [pAc_k eA]; exact (pAd_v hv1.1 hG.b).1, hv.2⟩
          have hSt := hG2.1.st
          have g2 := g1.trans f2
          refine q_goto 48 d20_44 (by decide) ?_
          refine q_istore_n d20_48 (by decide) rfl ?_
          refine q_getst d20_49 rfl ?_
          refine q_iload_n d20_52 rfl ?_
          refine n_ialds d20_53 ⟨by decide, hSt.2.1⟩ (by omega) (by decide) ((hSt.2.2.2 4).trans (by decide : zAo 4 = nI 2)) ?_
          refine q_iconstN (z := 1) d20_54 ?_
          refine nc_le 65 d20_55 (by decide) (by decide) (by decide) (fun q => absurd q (by decide)) (fun _ => ?_)
          refine q_aload_n d20_58 rfl ?_
          refine q_v0 d20_59 rfl rfl hG2.1.2.1.1 (Nat.le_of_ble_eq_true rfl) (c25t hG2 hv2 eB (fun M3 hG3 f3 => ?_))
          have hv3 : yQv n b (kB, K.2) := ⟨by rw [pAc_k eB]; exact (pAd_v hv2.1 hG.b).1, hv.2⟩
          have hSt := hG3.1.st
          have g3 := g2.trans f3
          refine q_goto 66 d20_62 (by decide) ?_
          refine q_istore d20_66 (by decide) rfl ?_
          refine q_iload_n d20_68 rfl ?_
          refine q_s1 d20_69 (Or.inr rfl) rfl (Nat.le_of_ble_eq_true rfl) (c27 (by decide) ?_)
          refine n0_eq 82 d20_72 (by decide) (by decide) (fun _ => ?_) (fun q => absurd q (by decide))
          refine q_iconst (x := (-1)) d20_82 rfl ?_
          refine q_istore d20_83 (by decide) rfl ?_
          refine q_aload_n d20_85 rfl ?_
          refine q_getv (c := 3) (f := 5) d20_86 ⟨rfl, by decide⟩ hG3.1.2.1.1 hG3.2.2.2.2.1 ?_
          refine q_iconst (x := (-1)) d20_89 rfl ?_
          refine ic_ne 110 d20_90 (by decide) (fun h90 => (False.elim (h90 rfl))) (fun h90 => ?_)
          refine q_aload_n d20_93 rfl ?_
          refine q_getr (c := 3) (f := 6) d20_94 ⟨rfl, rfl⟩ hG3.1.2.1.1 hG3.2.2.2.2.2.1 ?_
          refine q_iload_n d20_97 rfl ?_
          refine q_iload_n d20_98 rfl ?_
          refine q_iload d20_99 rfl ?_
          refine q_iload d20_101 rfl ?_
          refine q_iload_n d20_103 rfl ?_
          refine q_v5 d20_104 rfl rfl (hG3.1.pr hG3.2.1).1 (Nat.le_of_ble_eq_true rfl) (c29 (hG3.1.pr hG3.2.1) hG3.2.2.2.2.2.2 h19 (fun M9 hr9 f9 => ?_))
          refine q_goto 111 d20_107 (by decide) ?_
          refine q_iret d20_111 rfl ?_
          have f9' : Fi (FG c) M3 M9 := f9.mono (fun _ _ q => Or.inr ⟨q.1, by have := q.2; omega⟩)
          have hG9 : GR M9 c n b (kB, pAp K.2 4 (nI aA) (nI aB) (-1) ah) := ⟨f9.sc hG3.1 (fun a k ha q => by have := q.1; omega), hG3.2.1, RTp_fi hG3.2.2.1 f9.fr ⟨fun q => by have := q.1; omega, fun q e => by have := e.1; omega⟩, RK_fi hG3.2.2.2.1 f9.fr ⟨fun q => by have := q.1; omega, fun q => by have := q.1; omega, fun q => by have := q.1; omega⟩, (f9.1 _ _ (fun q => by have := q.1; omega)).trans hG3.2.2.2.2.1, (f9.r _ _).trans hG3.2.2.2.2.2.1, hr9⟩
          exact k _ _ _ (by unfold pSt; simp only [hkd]; rw [if_neg (by omega)]; unfold pA1 pA2 pA3; simp [eA, eB]) hG9 (g3.trans f9')
        · refine q_aload_n d20_22 rfl ?_
          refine q_v0 d20_23 rfl rfl hG.1.2.1.1 (Nat.le_of_ble_eq_true rfl) (c24 hG hv (fun M1 hB f1 => ?_))
          refine q_iconstN (z := 0) d20_26 ?_
          refine q_iret d20_27 rfl ?_
          exact kb _ _ _ (by unfold pSt; simp only [hkd]; rw [if_pos (by omega)]) hB f1
  · skip
    refine q_aload_n d20_0 rfl ?_
    refine q_v0 d20_1 rfl rfl hG.1.2.1.1 (Nat.le_of_ble_eq_true rfl) (c21t hG hv hkd (by decide) ?_)
    refine q_istore_n d20_4 (by decide) rfl ?_
    refine q_iload_n d20_5 rfl ?_
    refine q_iconst (x := (-1)) d20_6 rfl ?_
    refine ic_eq 22 d20_7 (by decide) (fun h7 => (False.elim (nI_m1 (by omega) h7))) (fun h7 => ?_)
    refine q_aload_n d20_10 rfl ?_
    refine q_getr (c := 3) (f := 6) d20_11 ⟨rfl, rfl⟩ hG.1.2.1.1 hG.2.2.2.2.2.1 ?_
    refine q_getv (c := 1) (f := 6) d20_14 ⟨rfl, by decide⟩ (hG.1.pr hG.2.1).1 hG.2.2.2.2.2.2.1 ?_
    refine q_bipush (x := nI 12) d20_17 rfl ?_
    refine nc_lt 28 d20_19 (by decide) (by omega) (by omega) (fun h19 => ?_) (fun h19 => ?_)
    · refine q_aload_n d20_28 rfl ?_
      refine q_v0 d20_29 rfl rfl hG.1.2.1.1 (Nat.le_of_ble_eq_true rfl) (c16 hG.1.2.1 hG.2.2.1 hG.2.2.2.1.2.2 (by omega) (fun M1 hk f1 => ?_))
      have hG1 := hG.ad hk f1
      have hv1 : yQv n b (pAd n b K.1, K.2) := ⟨(pAd_v hv.1 hG.b).1, hv.2⟩
      have hSt := hG1.1.st
      have g1 : Fi (FG c) M M1 := f1.mono FK_G
      refine q_getst d20_32 rfl ?_
      refine q_iload_n d20_35 rfl ?_
      refine n_ialds d20_36 ⟨by decide, hSt.2.1⟩ (by omega) (by decide) ((hSt.2.2.2 5).trans (by decide : zAo 5 = nI 0)) ?_
      refine n0_le 47 d20_37 (by decide) (by decide) (fun _ => ?_) (fun q => absurd q (by decide))
      refine q_iconst (x := (-1)) d20_47 rfl ?_
      refine q_istore_n d20_48 (by decide) rfl ?_
      refine q_getst d20_49 rfl ?_
      refine q_iload_n d20_52 rfl ?_
      refine n_ialds d20_53 ⟨by decide, hSt.2.1⟩ (by omega) (by decide) ((hSt.2.2.2 5).trans (by decide : zAo 5 = nI 0)) ?_
      refine q_iconstN (z := 1) d20_54 ?_
      refine nc_le 65 d20_55 (by decide) (by decide) (by decide) (fun _ => ?_) (fun q => absurd q (by decide))
      refine q_iconst (x := (-1)) d20_65 rfl ?_
      refine q_istore d20_66 (by decide) rfl ?_
      refine q_iload_n d20_68 rfl ?_
      refine q_s1 d20_69 (Or.inr rfl) rfl (Nat.le_of_ble_eq_true rfl) (c27 (by decide) ?_)
      refine n0_eq 82 d20_72 (by decide) (by decide) (fun _ => ?_) (fun q => absurd q (by decide))
      refine q_iconst (x := (-1)) d20_82 rfl ?_
      refine q_istore d20_83 (by decide) rfl ?_
      refine q_aload_n d20_85 rfl ?_
      refine q_getv (c := 3) (f := 5) d20_86 ⟨rfl, by decide⟩ hG1.1.2.1.1 hG1.2.2.2.2.1 ?_
      refine q_iconst (x := (-1)) d20_89 rfl ?_
      refine ic_ne 110 d20_90 (by decide) (fun h90 => (False.elim (h90 rfl))) (fun h90 => ?_)
      refine q_aload_n d20_93 rfl ?_
      refine q_getr (c := 3) (f := 6) d20_94 ⟨rfl, rfl⟩ hG1.1.2.1.1 hG1.2.2.2.2.2.1 ?_
      refine q_iload_n d20_97 rfl ?_
      refine q_iload_n d20_98 rfl ?_
      refine q_iload d20_99 rfl ?_
      refine q_iload d20_101 rfl ?_
      refine q_iload_n d20_103 rfl ?_
      refine q_v5 d20_104 rfl rfl (hG1.1.pr hG1.2.1).1 (Nat.le_of_ble_eq_true rfl) (c29 (hG1.1.pr hG1.2.1) hG1.2.2.2.2.2.2 h19 (fun M9 hr9 f9 => ?_))
      refine q_goto 111 d20_107 (by decide) ?_
      refine q_iret d20_111 rfl ?_
      have f9' : Fi (FG c) M1 M9 := f9.mono (fun _ _ q => Or.inr ⟨q.1, by have := q.2; omega⟩)
      have hG9 : GR M9 c n b ((pAd n b K.1), pAp K.2 5 (-1) (-1) (-1) ah) := ⟨f9.sc hG1.1 (fun a k ha q => by have := q.1; omega), hG1.2.1, RTp_fi hG1.2.2.1 f9.fr ⟨fun q => by have := q.1; omega, fun q e => by have := e.1; omega⟩, RK_fi hG1.2.2.2.1 f9.fr ⟨fun q => by have := q.1; omega, fun q => by have := q.1; omega, fun q => by have := q.1; omega⟩, (f9.1 _ _ (fun q => by have := q.1; omega)).trans hG1.2.2.2.2.1, (f9.r _ _).trans hG1.2.2.2.2.2.1, hr9⟩
      exact k _ _ _ (by unfold pSt; simp only [hkd]; rw [if_neg (by omega)]; unfold pA1 pA2 pA3; simp []) hG9 (g1.trans f9')
    · refine q_aload_n d20_22 rfl ?_
      refine q_v0 d20_23 rfl rfl hG.1.2.1.1 (Nat.le_of_ble_eq_true rfl) (c24 hG hv (fun M1 hB f1 => ?_))
      refine q_iconstN (z := 0) d20_26 ?_
      refine q_iret d20_27 rfl ?_
      exact kb _ _ _ (by unfold pSt; simp only [hkd]; rw [if_pos (by omega)]) hB f1
  · skip
    refine q_aload_n d20_0 rfl ?_
    refine q_v0 d20_1 rfl rfl hG.1.2.1.1 (Nat.le_of_ble_eq_true rfl) (c21n hG hv hkd ?_)
    refine q_istore_n d20_4 (by decide) rfl ?_
    refine q_iload_n d20_5 rfl ?_
    refine q_iconst (x := (-1)) d20_6 rfl ?_
    refine ic_eq 22 d20_7 (by decide) (fun h7 => ?_) (fun h7 => (False.elim (h7 rfl)))
    refine q_aload_n d20_22 rfl ?_
    refine q_v0 d20_23 rfl rfl hG.1.2.1.1 (Nat.le_of_ble_eq_true rfl) (c24 hG hv (fun M1 hB f1 => ?_))
    refine q_iconstN (z := 0) d20_26 ?_
    refine q_iret d20_27 rfl ?_
    exact kb _ _ _ (by unfold pSt; simp only []; exact if_pos (Or.inl hkd)) hB f1
