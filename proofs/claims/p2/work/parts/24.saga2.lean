/-! ===== contracts: sagas, the rest ===== -/
theorem wr_i {M : zM} {a k b j : Nat} {v : Option Nat} : zi (zwr M a k v) b j = zi M b j := rfl
theorem wi_r {M : zM} {a k b j : Nat} {v : Int32} : zr (zwi M a k v) b j = zr M b j := rfl
theorem cp_r {M : zM} {a0 s a d n b j : Nat} : zr (zcp M a0 s a d n) b j = zr M b j := rfl
theorem wr_n {M : zM} {a k b j : Nat} {v : Option Nat} (h : b ≠ a ∨ j ≠ k) : zr (zwr M a k v) b j = zr M b j := by rw [wr_eq, if_neg (by omega)]
theorem wr_s {M : zM} {a k : Nat} {v : Option Nat} : zr (zwr M a k v) a k = v := by rw [wr_eq, if_pos ⟨rfl, rfl⟩]
theorem cp_n {M : zM} {a0 s a d n b j : Nat} (h : b ≠ a ∨ j < d ∨ d + n ≤ j) : zi (zcp M a0 s a d n) b j = zi M b j := by rw [cp_eq, if_neg (by omega)]
theorem cp_0 {M : zM} {a0 a n j : Nat} (h : j < n) : zi (zcp M a0 0 a 0 n) a j = zi M a0 j := by rw [cp_eq, if_pos ⟨rfl, by omega, by omega⟩, show 0 + (j - 0) = j by omega]
theorem cp_r2 {M : zM} {a0 s a d n : Nat} (h : SC M) (ha : 3 ≤ a) : SC (zcp M a0 s a d n) := SC_cp h ha
theorem Fr.wi' {S : Nat → Nat → Prop} {M M' : zM} {a k : Nat} {v : Int32} (h : Fr S M M') (hs : S a k) : Fr S M (zwi M' a k v) := h.wi hs
theorem zSa.z {a : Nat} (h : zSa a) : zpr a 2 := by unfold zSa at h; unfold zpr; omega
theorem zSa.l {a : Nat} (h : zSa a) : 70 ≤ a ∧ a < 119 := by unfold zSa at h; omega
theorem d76_0 : decode (zB 76) 0 = .ok (.iload_n 1, 1) := by decide +kernel
theorem d76_1 : decode (zB 76) 1 = .ok (.ifCond .lt 9, 3) := by decide +kernel
theorem d76_4 : decode (zB 76) 4 = .ok (.iload_n 1, 1) := by decide +kernel
theorem d76_5 : decode (zB 76) 5 = .ok (.bipush 12, 2) := by decide +kernel
theorem d76_7 : decode (zB 76) 7 = .ok (.if_icmp .lt 4, 3) := by decide +kernel
theorem d76_10 : decode (zB 76) 10 = .ok (.return_, 1) := by decide +kernel
theorem d76_11 : decode (zB 76) 11 = .ok (.aload_n 0, 1) := by decide +kernel
theorem d76_12 : decode (zB 76) 12 = .ok (.getfield 34, 3) := by decide +kernel
theorem d76_15 : decode (zB 76) 15 = .ok (.iload_n 1, 1) := by decide +kernel
theorem d76_16 : decode (zB 76) 16 = .ok (.dup2, 1) := by decide +kernel
theorem d76_17 : decode (zB 76) 17 = .ok (.iaload, 1) := by decide +kernel
theorem d76_18 : decode (zB 76) 18 = .ok (.iconst 1, 1) := by decide +kernel
theorem d76_19 : decode (zB 76) 19 = .ok (.iadd, 1) := by decide +kernel
theorem d76_20 : decode (zB 76) 20 = .ok (.iastore, 1) := by decide +kernel
theorem d76_21 : decode (zB 76) 21 = .ok (.aload_n 0, 1) := by decide +kernel
theorem d76_22 : decode (zB 76) 22 = .ok (.getfield 37, 3) := by decide +kernel
theorem d76_25 : decode (zB 76) 25 = .ok (.iload_n 1, 1) := by decide +kernel
theorem d76_26 : decode (zB 76) 26 = .ok (.iload_n 2, 1) := by decide +kernel
theorem d76_27 : decode (zB 76) 27 = .ok (.iastore, 1) := by decide +kernel
theorem d76_28 : decode (zB 76) 28 = .ok (.aload_n 0, 1) := by decide +kernel
theorem d76_29 : decode (zB 76) 29 = .ok (.getfield 40, 3) := by decide +kernel
theorem d76_32 : decode (zB 76) 32 = .ok (.ifnull 17, 3) := by decide +kernel
theorem d76_35 : decode (zB 76) 35 = .ok (.aload_n 0, 1) := by decide +kernel
theorem d76_36 : decode (zB 76) 36 = .ok (.getfield 40, 3) := by decide +kernel
theorem d76_39 : decode (zB 76) 39 = .ok (.aload_n 0, 1) := by decide +kernel
theorem d76_40 : decode (zB 76) 40 = .ok (.getfield 44, 3) := by decide +kernel
theorem d76_43 : decode (zB 76) 43 = .ok (.invokevirtual 92, 3) := by decide +kernel
theorem d76_46 : decode (zB 76) 46 = .ok (.ifCond .ne 8, 3) := by decide +kernel
theorem d76_49 : decode (zB 76) 49 = .ok (.aload_n 0, 1) := by decide +kernel
theorem d76_50 : decode (zB 76) 50 = .ok (.iconst 2, 1) := by decide +kernel
theorem d76_51 : decode (zB 76) 51 = .ok (.putfield 9, 3) := by decide +kernel
theorem d76_54 : decode (zB 76) 54 = .ok (.return_, 1) := by decide +kernel
theorem c76 {d : Nat} {M : zM} {Q : Option Value → zM → Prop} {a : Nat} {T : Nat → yT} {nm : Nat → Int32} {S : yS} {i : Nat} {r : Int32} (hs : SSg M a) (hR : RS M a T nm S) (hi : i < 12) (hg : ¬ gt S = 0) (hp : SPr M (20 + 7 * gx S)) (hr : RP M (20 + 7 * gx S) (T (gx S))) (hag : 20 + 7 * gx S + 6 ≤ a) (k : ∀ M', RS M' a T nm (yfS S i r (ypa (T (gx S)) (gm S 1))) → Fi (FS a) M M' → Q none M') : qC (d + 2) 76 [.ref a, .int (nI i), .int r] M Q := by
  obtain ⟨⟨q0, q1, q2⟩, ⟨q3, q4, q5⟩, ⟨q7, q8⟩, q9, qa, qb⟩ := hR
  refine qC_of (by decide) (Nat.le_of_ble_eq_true rfl) ?_
  refine q_iload_n d76_0 rfl ?_
  refine n0_lt 10 d76_1 (by decide) (by omega) (fun q => absurd q (Nat.not_lt_zero _)) (fun _ => ?_)
  refine q_iload_n d76_4 rfl ?_
  refine q_bipush (x := nI 12) d76_5 rfl ?_
  refine nc_lt 11 d76_7 (by decide) (by omega) (by omega) (fun h7 => ?_) (fun h7 => (False.elim (by omega)))
  refine q_aload_n d76_11 rfl ?_
  refine q_getr (c := 5) (f := 12) d76_12 ⟨rfl, rfl⟩ hs.1 (hs.2.2.1 4 (by decide)) ?_
  refine q_iload_n d76_15 rfl ?_
  refine q_dup2 d76_16 rfl rfl ?_
  refine n_iald d76_17 (hs.2.2.2 5 (by decide)) (by omega) (by decide) (qb _ (by omega)).2.2.1 ?_
  refine q_iconst (x := (1)) d76_18 rfl ?_
  refine q_iadd d76_19 ?_
  refine n_iast d76_20 (hs.2.2.2 5 (by decide)) (by omega) (by decide) ?_
  refine q_aload_n d76_21 rfl ?_
  refine q_getr (c := 5) (f := 13) d76_22 ⟨rfl, rfl⟩ hs.1 (hs.2.2.1 5 (by decide)) ?_
  refine q_iload_n d76_25 rfl ?_
  refine q_iload_n d76_26 rfl ?_
  refine n_iast d76_27 (hs.2.2.2 6 (by decide)) (by omega) (by decide) ?_
  refine q_aload_n d76_28 rfl ?_
  refine q_getr (c := 5) (f := 2) d76_29 ⟨rfl, rfl⟩ hs.1 (q2.trans (if_neg hg)) ?_
  refine q_ifnull (r := some _) 49 d76_32 (by decide) (fun q => absurd q (Option.some_ne_none _)) (fun _ => ?_)
  refine q_aload_n d76_35 rfl ?_
  refine q_getr (c := 5) (f := 2) d76_36 ⟨rfl, rfl⟩ hs.1 (q2.trans (if_neg hg)) ?_
  refine q_aload_n d76_39 rfl ?_
  refine q_getv (c := 5) (f := 3) d76_40 ⟨rfl, by decide⟩ hs.1 (Eq.trans (by (repeat (first | rw [wi_n (Or.inl (by omega))] | rw [wi_n (Or.inr (by omega))] | rw [wi_s] | rw [wr_i] | rw [cp_n (by omega)]))) q3) ?_
  refine q_v1 d76_43 rfl rfl hp.1 (Nat.le_of_ble_eq_true rfl) (c77 hp (RP_fr hr ((((Fi.refl (FS a) M).wi (FS_x (by omega) (by omega))).wi (FS_x (by omega) (by omega))).fr) (fun b j h1 h2 q => by have := q.1; omega)) ?_)
  refine b0_ne 54 d76_46 (by decide) (fun h46 => ?_) (fun h46 => ?_)
  · refine q_ret d76_54 rfl ?_
    first
    | (
      refine k _ ?_ (((Fi.refl _ _).wi (FS_x (by omega) (by omega))).wi (FS_x (by omega) (by omega)))
      unfold yfS
      rw [h46]
      refine ⟨⟨?_, ?_, ?_⟩, ⟨?_, ?_, ?_⟩, ⟨?_, fun j hj => ?_⟩, fun j hj => ?_, fun j hj he => ?_, fun j hj => ⟨?_, ?_, ?_, ?_⟩⟩
      · (repeat (first | rw [wi_n (Or.inl (by omega))] | rw [wi_n (Or.inr (by omega))] | rw [wi_s] | rw [wr_i] | rw [cp_n (by omega)] | rw [cp_0 (by omega)])); exact q0
      · (repeat (first | rw [wi_n (Or.inl (by omega))] | rw [wi_n (Or.inr (by omega))] | rw [wi_s] | rw [wr_i] | rw [cp_n (by omega)] | rw [cp_0 (by omega)])); exact q1
      · (repeat (first | rw [wi_r])); exact q2
      · (repeat (first | rw [wi_n (Or.inl (by omega))] | rw [wi_n (Or.inr (by omega))] | rw [wi_s] | rw [wr_i] | rw [cp_n (by omega)] | rw [cp_0 (by omega)])); exact q3
      · (repeat (first | rw [wi_n (Or.inl (by omega))] | rw [wi_n (Or.inr (by omega))] | rw [wi_s] | rw [wr_i] | rw [cp_n (by omega)] | rw [cp_0 (by omega)])); exact q4
      · (repeat (first | rw [wi_n (Or.inl (by omega))] | rw [wi_n (Or.inr (by omega))] | rw [wi_s] | rw [wr_i] | rw [cp_n (by omega)] | rw [cp_0 (by omega)])); exact q5
      · (repeat (first | rw [wi_n (Or.inl (by omega))] | rw [wi_n (Or.inr (by omega))] | rw [wi_s] | rw [wr_i] | rw [cp_n (by omega)] | rw [cp_0 (by omega)])); exact q7
      · (repeat (first | rw [wi_n (Or.inl (by omega))] | rw [wi_n (Or.inr (by omega))] | rw [wi_s] | rw [wr_i] | rw [cp_n (by omega)] | rw [cp_0 (by omega)])); exact q8 j hj
      · (repeat (first | rw [wi_n (Or.inl (by omega))] | rw [wi_n (Or.inr (by omega))] | rw [wi_s] | rw [wr_i] | rw [cp_n (by omega)] | rw [cp_0 (by omega)])); exact q9 j (by exact hj)
      · (repeat (first | rw [wi_n (Or.inl (by omega))] | rw [wi_n (Or.inr (by omega))] | rw [wi_s] | rw [wr_i] | rw [cp_n (by omega)] | rw [cp_0 (by omega)])); exact qa j hj he
      · (repeat (first | rw [wi_n (Or.inl (by omega))] | rw [wi_n (Or.inr (by omega))] | rw [wi_s] | rw [wr_i] | rw [cp_n (by omega)] | rw [cp_0 (by omega)])); exact (qb j hj).1
      · (repeat (first | rw [wi_n (Or.inl (by omega))] | rw [wi_n (Or.inr (by omega))] | rw [wi_s] | rw [wr_i] | rw [cp_n (by omega)] | rw [cp_0 (by omega)])); exact (qb j hj).2.1
      · show _ = yu (gf S) i (gf S i + 1) j
        by_cases e : j = i
        · subst e; rw [yu_s]; (repeat (first | rw [wi_n (Or.inl (by omega))] | rw [wi_n (Or.inr (by omega))] | rw [wi_s] | rw [wr_i] | rw [cp_n (by omega)] | rw [cp_0 (by omega)])); try rfl
        · rw [yu_n e]; (repeat (first | rw [wi_n (Or.inl (by omega))] | rw [wi_n (Or.inr (by omega))] | rw [wi_s] | rw [wr_i] | rw [cp_n (by omega)] | rw [cp_0 (by omega)])); exact (qb j hj).2.2.1
      · show _ = yu (gw S) i r j
        by_cases e : j = i
        · subst e; rw [yu_s]; (repeat (first | rw [wi_n (Or.inl (by omega))] | rw [wi_n (Or.inr (by omega))] | rw [wi_s] | rw [wr_i] | rw [cp_n (by omega)] | rw [cp_0 (by omega)])); try rfl
        · rw [yu_n e]; (repeat (first | rw [wi_n (Or.inl (by omega))] | rw [wi_n (Or.inr (by omega))] | rw [wi_s] | rw [wr_i] | rw [cp_n (by omega)] | rw [cp_0 (by omega)])); exact (qb j hj).2.2.2)
    | (
      refine k _ ?_ ((((Fi.refl _ _).wi (FS_x (by omega) (by omega))).wi (FS_x (by omega) (by omega))).wi FS_0)
      unfold yfS
      rw [h46]
      refine ⟨⟨?_, ?_, ?_⟩, ⟨?_, ?_, ?_⟩, ⟨?_, fun j hj => ?_⟩, fun j hj => ?_, fun j hj he => ?_, fun j hj => ⟨?_, ?_, ?_, ?_⟩⟩
      · exact (show _ = nI 2 by (repeat (first | rw [wi_n (Or.inl (by omega))] | rw [wi_n (Or.inr (by omega))] | rw [wi_s] | rw [wr_i] | rw [cp_n (by omega)] | rw [cp_0 (by omega)])))
      · (repeat (first | rw [wi_n (Or.inl (by omega))] | rw [wi_n (Or.inr (by omega))] | rw [wi_s] | rw [wr_i] | rw [cp_n (by omega)] | rw [cp_0 (by omega)])); exact (q1.trans (by show txt S = txt (2, S.2); unfold txt; rw [if_neg hg, if_neg (by exact (by decide : ¬ (2 : Nat) = 0))]; rfl))
      · (repeat (first | rw [wi_r])); exact (q2.trans (by show prg S = prg (2, S.2); unfold prg; rw [if_neg hg, if_neg (by exact (by decide : ¬ (2 : Nat) = 0))]; rfl))
      · (repeat (first | rw [wi_n (Or.inl (by omega))] | rw [wi_n (Or.inr (by omega))] | rw [wi_s] | rw [wr_i] | rw [cp_n (by omega)] | rw [cp_0 (by omega)])); exact q3
      · (repeat (first | rw [wi_n (Or.inl (by omega))] | rw [wi_n (Or.inr (by omega))] | rw [wi_s] | rw [wr_i] | rw [cp_n (by omega)] | rw [cp_0 (by omega)])); exact q4
      · (repeat (first | rw [wi_n (Or.inl (by omega))] | rw [wi_n (Or.inr (by omega))] | rw [wi_s] | rw [wr_i] | rw [cp_n (by omega)] | rw [cp_0 (by omega)])); exact q5
      · (repeat (first | rw [wi_n (Or.inl (by omega))] | rw [wi_n (Or.inr (by omega))] | rw [wi_s] | rw [wr_i] | rw [cp_n (by omega)] | rw [cp_0 (by omega)])); exact q7
      · (repeat (first | rw [wi_n (Or.inl (by omega))] | rw [wi_n (Or.inr (by omega))] | rw [wi_s] | rw [wr_i] | rw [cp_n (by omega)] | rw [cp_0 (by omega)])); exact q8 j hj
      · (repeat (first | rw [wi_n (Or.inl (by omega))] | rw [wi_n (Or.inr (by omega))] | rw [wi_s] | rw [wr_i] | rw [cp_n (by omega)] | rw [cp_0 (by omega)])); exact q9 j (by unfold gz; rw [if_neg hg]; unfold gz at hj; rw [if_neg (by exact (by decide : ¬ (2 : Nat) = 0))] at hj; exact hj)
      · (repeat (first | rw [wi_n (Or.inl (by omega))] | rw [wi_n (Or.inr (by omega))] | rw [wi_s] | rw [wr_i] | rw [cp_n (by omega)] | rw [cp_0 (by omega)])); exact qa j hj he
      · (repeat (first | rw [wi_n (Or.inl (by omega))] | rw [wi_n (Or.inr (by omega))] | rw [wi_s] | rw [wr_i] | rw [cp_n (by omega)] | rw [cp_0 (by omega)])); exact (qb j hj).1
      · (repeat (first | rw [wi_n (Or.inl (by omega))] | rw [wi_n (Or.inr (by omega))] | rw [wi_s] | rw [wr_i] | rw [cp_n (by omega)] | rw [cp_0 (by omega)])); exact (qb j hj).2.1
      · show _ = yu (gf S) i (gf S i + 1) j
        by_cases e : j = i
        · subst e; rw [yu_s]; (repeat (first | rw [wi_n (Or.inl (by omega))] | rw [wi_n (Or.inr (by omega))] | rw [wi_s] | rw [wr_i] | rw [cp_n (by omega)] | rw [cp_0 (by omega)])); try rfl
        · rw [yu_n e]; (repeat (first | rw [wi_n (Or.inl (by omega))] | rw [wi_n (Or.inr (by omega))] | rw [wi_s] | rw [wr_i] | rw [cp_n (by omega)] | rw [cp_0 (by omega)])); exact (qb j hj).2.2.1
      · show _ = yu (gw S) i r j
        by_cases e : j = i
        · subst e; rw [yu_s]; (repeat (first | rw [wi_n (Or.inl (by omega))] | rw [wi_n (Or.inr (by omega))] | rw [wi_s] | rw [wr_i] | rw [cp_n (by omega)] | rw [cp_0 (by omega)])); try rfl
        · rw [yu_n e]; (repeat (first | rw [wi_n (Or.inl (by omega))] | rw [wi_n (Or.inr (by omega))] | rw [wi_s] | rw [wr_i] | rw [cp_n (by omega)] | rw [cp_0 (by omega)])); exact (qb j hj).2.2.2)
  · refine q_aload_n d76_49 rfl ?_
    refine q_iconstN (z := 2) d76_50 ?_
    refine q_puti (c := 5) (f := 0) d76_51 ⟨rfl, rfl, by decide⟩ hs.1 ?_
    refine q_ret d76_54 rfl ?_
    first
    | (
      refine k _ ?_ (((Fi.refl _ _).wi (FS_x (by omega) (by omega))).wi (FS_x (by omega) (by omega)))
      unfold yfS
      rw [h46]
      refine ⟨⟨?_, ?_, ?_⟩, ⟨?_, ?_, ?_⟩, ⟨?_, fun j hj => ?_⟩, fun j hj => ?_, fun j hj he => ?_, fun j hj => ⟨?_, ?_, ?_, ?_⟩⟩
      · (repeat (first | rw [wi_n (Or.inl (by omega))] | rw [wi_n (Or.inr (by omega))] | rw [wi_s] | rw [wr_i] | rw [cp_n (by omega)] | rw [cp_0 (by omega)])); exact q0
      · (repeat (first | rw [wi_n (Or.inl (by omega))] | rw [wi_n (Or.inr (by omega))] | rw [wi_s] | rw [wr_i] | rw [cp_n (by omega)] | rw [cp_0 (by omega)])); exact q1
      · (repeat (first | rw [wi_r])); exact q2
      · (repeat (first | rw [wi_n (Or.inl (by omega))] | rw [wi_n (Or.inr (by omega))] | rw [wi_s] | rw [wr_i] | rw [cp_n (by omega)] | rw [cp_0 (by omega)])); exact q3
      · (repeat (first | rw [wi_n (Or.inl (by omega))] | rw [wi_n (Or.inr (by omega))] | rw [wi_s] | rw [wr_i] | rw [cp_n (by omega)] | rw [cp_0 (by omega)])); exact q4
      · (repeat (first | rw [wi_n (Or.inl (by omega))] | rw [wi_n (Or.inr (by omega))] | rw [wi_s] | rw [wr_i] | rw [cp_n (by omega)] | rw [cp_0 (by omega)])); exact q5
      · (repeat (first | rw [wi_n (Or.inl (by omega))] | rw [wi_n (Or.inr (by omega))] | rw [wi_s] | rw [wr_i] | rw [cp_n (by omega)] | rw [cp_0 (by omega)])); exact q7
      · (repeat (first | rw [wi_n (Or.inl (by omega))] | rw [wi_n (Or.inr (by omega))] | rw [wi_s] | rw [wr_i] | rw [cp_n (by omega)] | rw [cp_0 (by omega)])); exact q8 j hj
      · (repeat (first | rw [wi_n (Or.inl (by omega))] | rw [wi_n (Or.inr (by omega))] | rw [wi_s] | rw [wr_i] | rw [cp_n (by omega)] | rw [cp_0 (by omega)])); exact q9 j (by exact hj)
      · (repeat (first | rw [wi_n (Or.inl (by omega))] | rw [wi_n (Or.inr (by omega))] | rw [wi_s] | rw [wr_i] | rw [cp_n (by omega)] | rw [cp_0 (by omega)])); exact qa j hj he
      · (repeat (first | rw [wi_n (Or.inl (by omega))] | rw [wi_n (Or.inr (by omega))] | rw [wi_s] | rw [wr_i] | rw [cp_n (by omega)] | rw [cp_0 (by omega)])); exact (qb j hj).1
      · (repeat (first | rw [wi_n (Or.inl (by omega))] | rw [wi_n (Or.inr (by omega))] | rw [wi_s] | rw [wr_i] | rw [cp_n (by omega)] | rw [cp_0 (by omega)])); exact (qb j hj).2.1
      · show _ = yu (gf S) i (gf S i + 1) j
        by_cases e : j = i
        · subst e; rw [yu_s]; (repeat (first | rw [wi_n (Or.inl (by omega))] | rw [wi_n (Or.inr (by omega))] | rw [wi_s] | rw [wr_i] | rw [cp_n (by omega)] | rw [cp_0 (by omega)])); try rfl
        · rw [yu_n e]; (repeat (first | rw [wi_n (Or.inl (by omega))] | rw [wi_n (Or.inr (by omega))] | rw [wi_s] | rw [wr_i] | rw [cp_n (by omega)] | rw [cp_0 (by omega)])); exact (qb j hj).2.2.1
      · show _ = yu (gw S) i r j
        by_cases e : j = i
        · subst e; rw [yu_s]; (repeat (first | rw [wi_n (Or.inl (by omega))] | rw [wi_n (Or.inr (by omega))] | rw [wi_s] | rw [wr_i] | rw [cp_n (by omega)] | rw [cp_0 (by omega)])); try rfl
        · rw [yu_n e]; (repeat (first | rw [wi_n (Or.inl (by omega))] | rw [wi_n (Or.inr (by omega))] | rw [wi_s] | rw [wr_i] | rw [cp_n (by omega)] | rw [cp_0 (by omega)])); exact (qb j hj).2.2.2)
    | (
      refine k _ ?_ ((((Fi.refl _ _).wi (FS_x (by omega) (by omega))).wi (FS_x (by omega) (by omega))).wi FS_0)
      unfold yfS
      rw [h46]
      refine ⟨⟨?_, ?_, ?_⟩, ⟨?_, ?_, ?_⟩, ⟨?_, fun j hj => ?_⟩, fun j hj => ?_, fun j hj he => ?_, fun j hj => ⟨?_, ?_, ?_, ?_⟩⟩
      · exact (show _ = nI 2 by (repeat (first | rw [wi_n (Or.inl (by omega))] | rw [wi_n (Or.inr (by omega))] | rw [wi_s] | rw [wr_i] | rw [cp_n (by omega)] | rw [cp_0 (by omega)])))
      · (repeat (first | rw [wi_n (Or.inl (by omega))] | rw [wi_n (Or.inr (by omega))] | rw [wi_s] | rw [wr_i] | rw [cp_n (by omega)] | rw [cp_0 (by omega)])); exact (q1.trans (by show txt S = txt (2, S.2); unfold txt; rw [if_neg hg, if_neg (by exact (by decide : ¬ (2 : Nat) = 0))]; rfl))
      · (repeat (first | rw [wi_r])); exact (q2.trans (by show prg S = prg (2, S.2); unfold prg; rw [if_neg hg, if_neg (by exact (by decide : ¬ (2 : Nat) = 0))]; rfl))
      · (repeat (first | rw [wi_n (Or.inl (by omega))] | rw [wi_n (Or.inr (by omega))] | rw [wi_s] | rw [wr_i] | rw [cp_n (by omega)] | rw [cp_0 (by omega)])); exact q3
      · (repeat (first | rw [wi_n (Or.inl (by omega))] | rw [wi_n (Or.inr (by omega))] | rw [wi_s] | rw [wr_i] | rw [cp_n (by omega)] | rw [cp_0 (by omega)])); exact q4
      · (repeat (first | rw [wi_n (Or.inl (by omega))] | rw [wi_n (Or.inr (by omega))] | rw [wi_s] | rw [wr_i] | rw [cp_n (by omega)] | rw [cp_0 (by omega)])); exact q5
      · (repeat (first | rw [wi_n (Or.inl (by omega))] | rw [wi_n (Or.inr (by omega))] | rw [wi_s] | rw [wr_i] | rw [cp_n (by omega)] | rw [cp_0 (by omega)])); exact q7
      · (repeat (first | rw [wi_n (Or.inl (by omega))] | rw [wi_n (Or.inr (by omega))] | rw [wi_s] | rw [wr_i] | rw [cp_n (by omega)] | rw [cp_0 (by omega)])); exact q8 j hj
      · (repeat (first | rw [wi_n (Or.inl (by omega))] | rw [wi_n (Or.inr (by omega))] | rw [wi_s] | rw [wr_i] | rw [cp_n (by omega)] | rw [cp_0 (by omega)])); exact q9 j (by unfold gz; rw [if_neg hg]; unfold gz at hj; rw [if_neg (by exact (by decide : ¬ (2 : Nat) = 0))] at hj; exact hj)
      · (repeat (first | rw [wi_n (Or.inl (by omega))] | rw [wi_n (Or.inr (by omega))] | rw [wi_s] | rw [wr_i] | rw [cp_n (by omega)] | rw [cp_0 (by omega)])); exact qa j hj he
      · (repeat (first | rw [wi_n (Or.inl (by omega))] | rw [wi_n (Or.inr (by omega))] | rw [wi_s] | rw [wr_i] | rw [cp_n (by omega)] | rw [cp_0 (by omega)])); exact (qb j hj).1
      · (repeat (first | rw [wi_n (Or.inl (by omega))] | rw [wi_n (Or.inr (by omega))] | rw [wi_s] | rw [wr_i] | rw [cp_n (by omega)] | rw [cp_0 (by omega)])); exact (qb j hj).2.1
      · show _ = yu (gf S) i (gf S i + 1) j
        by_cases e : j = i
        · subst e; rw [yu_s]; (repeat (first | rw [wi_n (Or.inl (by omega))] | rw [wi_n (Or.inr (by omega))] | rw [wi_s] | rw [wr_i] | rw [cp_n (by omega)] | rw [cp_0 (by omega)])); try rfl
        · rw [yu_n e]; (repeat (first | rw [wi_n (Or.inl (by omega))] | rw [wi_n (Or.inr (by omega))] | rw [wi_s] | rw [wr_i] | rw [cp_n (by omega)] | rw [cp_0 (by omega)])); exact (qb j hj).2.2.1
      · show _ = yu (gw S) i r j
        by_cases e : j = i
        · subst e; rw [yu_s]; (repeat (first | rw [wi_n (Or.inl (by omega))] | rw [wi_n (Or.inr (by omega))] | rw [wi_s] | rw [wr_i] | rw [cp_n (by omega)] | rw [cp_0 (by omega)])); try rfl
        · rw [yu_n e]; (repeat (first | rw [wi_n (Or.inl (by omega))] | rw [wi_n (Or.inr (by omega))] | rw [wi_s] | rw [wr_i] | rw [cp_n (by omega)] | rw [cp_0 (by omega)])); exact (qb j hj).2.2.2)
theorem d64_0 : decode (zB 64) 0 = .ok (.aload_n 0, 1) := by decide +kernel
theorem d64_1 : decode (zB 64) 1 = .ok (.getfield 28, 3) := by decide +kernel
theorem d64_4 : decode (zB 64) 4 = .ok (.iconst 0, 1) := by decide +kernel
theorem d64_5 : decode (zB 64) 5 = .ok (.invokestatic 56, 3) := by decide +kernel
theorem d64_8 : decode (zB 64) 8 = .ok (.aload_n 0, 1) := by decide +kernel
theorem d64_9 : decode (zB 64) 9 = .ok (.getfield 31, 3) := by decide +kernel
theorem d64_12 : decode (zB 64) 12 = .ok (.iconst 0, 1) := by decide +kernel
theorem d64_13 : decode (zB 64) 13 = .ok (.invokestatic 56, 3) := by decide +kernel
theorem d64_16 : decode (zB 64) 16 = .ok (.return_, 1) := by decide +kernel
theorem c64 {d : Nat} {M : zM} {Q : Option Value → zM → Prop} {a : Nat} (hs : SSg M a) (k : ∀ M', (∀ j, j < 12 → zi M' (a + 4) j = nI 0 ∧ zi M' (a + 5) j = nI 0) → Fi (fun b _ => b = a + 4 ∨ b = a + 5) M M' → Q none M') : qC (d + 2) 64 [.ref a] M Q := by
  refine qC_of (by decide) (Nat.le_of_ble_eq_true rfl) ?_
  refine q_aload_n d64_0 rfl ?_
  refine q_getr (c := 5) (f := 10) d64_1 ⟨rfl, rfl⟩ hs.1 (hs.2.2.1 2 (by decide)) ?_
  refine q_iconstN (z := 0) d64_4 ?_
  refine q_s2 d64_5 (Or.inl rfl) rfl (Nat.le_of_ble_eq_true rfl) (c6 (hs.2.2.2 3 (by decide)) (by decide) (fun M1 v1 f1 => ?_))
  have hs1 := SSg_fi hs f1
  refine q_aload_n d64_8 rfl ?_
  refine q_getr (c := 5) (f := 11) d64_9 ⟨rfl, rfl⟩ hs1.1 (hs1.2.2.1 3 (by decide)) ?_
  refine q_iconstN (z := 0) d64_12 ?_
  refine q_s2 d64_13 (Or.inl rfl) rfl (Nat.le_of_ble_eq_true rfl) (c6 (hs1.2.2.2 4 (by decide)) (by decide) (fun M2 v2 f2 => ?_))
  refine q_ret d64_16 rfl ?_
  exact k _ (fun j hj => ⟨(f2.1 _ _ (by omega)).trans (v1 j hj), v2 j hj⟩) ((f1.mono (fun b _ q => by omega)).trans (f2.mono (fun b _ q => by omega)))
theorem d63_0 : decode (zB 63) 0 = .ok (.aload_n 0, 1) := by decide +kernel
theorem d63_1 : decode (zB 63) 1 = .ok (.iconst 0, 1) := by decide +kernel
theorem d63_2 : decode (zB 63) 2 = .ok (.putfield 9, 3) := by decide +kernel
theorem d63_5 : decode (zB 63) 5 = .ok (.aload_n 0, 1) := by decide +kernel
theorem d63_6 : decode (zB 63) 6 = .ok (.iconst (-1), 1) := by decide +kernel
theorem d63_7 : decode (zB 63) 7 = .ok (.putfield 15, 3) := by decide +kernel
theorem d63_10 : decode (zB 63) 10 = .ok (.aload_n 0, 1) := by decide +kernel
theorem d63_11 : decode (zB 63) 11 = .ok (.aconst_null, 1) := by decide +kernel
theorem d63_12 : decode (zB 63) 12 = .ok (.putfield 40, 3) := by decide +kernel
theorem d63_15 : decode (zB 63) 15 = .ok (.aload_n 0, 1) := by decide +kernel
theorem d63_16 : decode (zB 63) 16 = .ok (.iconst 0, 1) := by decide +kernel
theorem d63_17 : decode (zB 63) 17 = .ok (.putfield 44, 3) := by decide +kernel
theorem d63_20 : decode (zB 63) 20 = .ok (.aload_n 0, 1) := by decide +kernel
theorem d63_21 : decode (zB 63) 21 = .ok (.iconst 0, 1) := by decide +kernel
theorem d63_22 : decode (zB 63) 22 = .ok (.putfield 47, 3) := by decide +kernel
theorem d63_25 : decode (zB 63) 25 = .ok (.aload_n 0, 1) := by decide +kernel
theorem d63_26 : decode (zB 63) 26 = .ok (.iconst 0, 1) := by decide +kernel
theorem d63_27 : decode (zB 63) 27 = .ok (.putfield 50, 3) := by decide +kernel
theorem d63_30 : decode (zB 63) 30 = .ok (.aload_n 0, 1) := by decide +kernel
theorem d63_31 : decode (zB 63) 31 = .ok (.iconst 0, 1) := by decide +kernel
theorem d63_32 : decode (zB 63) 32 = .ok (.putfield 53, 3) := by decide +kernel
theorem d63_35 : decode (zB 63) 35 = .ok (.aload_n 0, 1) := by decide +kernel
theorem d63_36 : decode (zB 63) 36 = .ok (.getfield 34, 3) := by decide +kernel
theorem d63_39 : decode (zB 63) 39 = .ok (.iconst 0, 1) := by decide +kernel
theorem d63_40 : decode (zB 63) 40 = .ok (.invokestatic 56, 3) := by decide +kernel
theorem d63_43 : decode (zB 63) 43 = .ok (.aload_n 0, 1) := by decide +kernel
theorem d63_44 : decode (zB 63) 44 = .ok (.getfield 37, 3) := by decide +kernel
theorem d63_47 : decode (zB 63) 47 = .ok (.iconst 0, 1) := by decide +kernel
theorem d63_48 : decode (zB 63) 48 = .ok (.invokestatic 56, 3) := by decide +kernel
theorem d63_51 : decode (zB 63) 51 = .ok (.aload_n 0, 1) := by decide +kernel
theorem d63_52 : decode (zB 63) 52 = .ok (.invokevirtual 62, 3) := by decide +kernel
theorem d63_55 : decode (zB 63) 55 = .ok (.return_, 1) := by decide +kernel
theorem c63 {d : Nat} {M : zM} {Q : Option Value → zM → Prop} {a : Nat} {T : Nat → yT} {nm : Nat → Int32} (hS : SC M) (ha : zSa a) (k : ∀ M', RS M' a T nm yS0 → Fr (FS a) M M' → SC M' → Q none M') : qC (d + 3) 63 [.ref a] M Q := by
  have hs := hS.sg ha
  have hal := ha.l
  refine qC_of (by decide) (Nat.le_of_ble_eq_true rfl) ?_
  refine q_aload_n d63_0 rfl ?_
  refine q_iconstN (z := 0) d63_1 ?_
  refine q_puti (c := 5) (f := 0) d63_2 ⟨rfl, rfl, by decide⟩ hs.1 ?_
  refine q_aload_n d63_5 rfl ?_
  refine q_iconst (x := (-1)) d63_6 rfl ?_
  refine q_puti (c := 5) (f := 1) d63_7 ⟨rfl, rfl, by decide⟩ hs.1 ?_
  refine q_aload_n d63_10 rfl ?_
  refine q_null d63_11 ?_
  refine q_putr (r := none) (c := 5) (f := 2) d63_12 ⟨rfl, rfl, by decide⟩ hs.1 ?_
  refine q_aload_n d63_15 rfl ?_
  refine q_iconstN (z := 0) d63_16 ?_
  refine q_puti (c := 5) (f := 3) d63_17 ⟨rfl, rfl, by decide⟩ hs.1 ?_
  refine q_aload_n d63_20 rfl ?_
  refine q_iconstN (z := 0) d63_21 ?_
  refine q_puti (c := 5) (f := 4) d63_22 ⟨rfl, rfl, by decide⟩ hs.1 ?_
  refine q_aload_n d63_25 rfl ?_
  refine q_iconstN (z := 0) d63_26 ?_
  refine q_puti (c := 5) (f := 5) d63_27 ⟨rfl, rfl, by decide⟩ hs.1 ?_
  refine q_aload_n d63_30 rfl ?_
  refine q_iconstN (z := 0) d63_31 ?_
  refine q_puti (c := 5) (f := 7) d63_32 ⟨rfl, rfl, by decide⟩ hs.1 ?_
  obtain ⟨M1, hM1⟩ : ∃ M1, M1 = zwi (zwi (zwi (zwi (zwr (zwi (zwi M a 0 (nI 0)) a 1 (-1)) a 2 none) a 3 (nI 0)) a 4 (nI 0)) a 5 (nI 0)) a 7 (nI 0) := ⟨_, rfl⟩
  rw [← hM1]
  have hs1 : SSg M1 a := by subst hM1; exact SSg_wr (M := zwi (zwi M a 0 (nI 0)) a 1 (-1)) hs
  have e0 : zi M1 a 0 = nI 0 := by subst hM1; (repeat (first | rw [wi_n (Or.inl (by omega))] | rw [wi_n (Or.inr (by omega))] | rw [wi_s] | rw [wr_i] | rw [cp_n (by omega)] | rw [cp_0 (by omega)]))
  have e1 : zi M1 a 1 = -1 := by subst hM1; (repeat (first | rw [wi_n (Or.inl (by omega))] | rw [wi_n (Or.inr (by omega))] | rw [wi_s] | rw [wr_i] | rw [cp_n (by omega)] | rw [cp_0 (by omega)]))
  have e2 : zr M1 a 2 = none := by subst hM1; exact wr_s
  have e3 : zi M1 a 3 = nI 0 := by subst hM1; (repeat (first | rw [wi_n (Or.inl (by omega))] | rw [wi_n (Or.inr (by omega))] | rw [wi_s] | rw [wr_i] | rw [cp_n (by omega)] | rw [cp_0 (by omega)]))
  have e4 : zi M1 a 4 = nI 0 := by subst hM1; (repeat (first | rw [wi_n (Or.inl (by omega))] | rw [wi_n (Or.inr (by omega))] | rw [wi_s] | rw [wr_i] | rw [cp_n (by omega)] | rw [cp_0 (by omega)]))
  have e5 : zi M1 a 5 = nI 0 := by subst hM1; (repeat (first | rw [wi_n (Or.inl (by omega))] | rw [wi_n (Or.inr (by omega))] | rw [wi_s] | rw [wr_i] | rw [cp_n (by omega)] | rw [cp_0 (by omega)]))
  have e7 : zi M1 a 7 = nI 0 := by subst hM1; (repeat (first | rw [wi_n (Or.inl (by omega))] | rw [wi_n (Or.inr (by omega))] | rw [wi_s] | rw [wr_i] | rw [cp_n (by omega)] | rw [cp_0 (by omega)]))
  have fr1 : Fr (FS a) M M1 := by subst hM1; exact (((((((Fr.refl _ _).wi FS_0).wi FS_0).wr FS_0).wi FS_0).wi FS_0).wi FS_0).wi FS_0
  have sc1 : SC M1 := by subst hM1; exact SC_wi (SC_wi (SC_wi (SC_wi (SC_wr (SC_wi (SC_wi hS (by omega)) (by omega)) ha.z) (by omega)) (by omega)) (by omega)) (by omega)
  refine q_aload_n d63_35 rfl ?_
  refine q_getr (c := 5) (f := 12) d63_36 ⟨rfl, rfl⟩ hs1.1 (hs1.2.2.1 4 (by decide)) ?_
  refine q_iconstN (z := 0) d63_39 ?_
  refine q_s2 d63_40 (Or.inl rfl) rfl (Nat.le_of_ble_eq_true rfl) (c6 (hs1.2.2.2 5 (by decide)) (by decide) (fun M2 v2 f2 => ?_))
  have hs2 := SSg_fi hs1 f2
  refine q_aload_n d63_43 rfl ?_
  refine q_getr (c := 5) (f := 13) d63_44 ⟨rfl, rfl⟩ hs2.1 (hs2.2.2.1 5 (by decide)) ?_
  refine q_iconstN (z := 0) d63_47 ?_
  refine q_s2 d63_48 (Or.inl rfl) rfl (Nat.le_of_ble_eq_true rfl) (c6 (hs2.2.2.2 6 (by decide)) (by decide) (fun M3 v3 f3 => ?_))
  have hs3 := SSg_fi hs2 f3
  refine q_aload_n d63_51 rfl ?_
  refine q_v0 d63_52 rfl rfl hs3.1 (Nat.le_of_ble_eq_true rfl) (c64 hs3 (fun M4 v4 f4 => ?_))
  refine q_ret d63_55 rfl ?_
  have g : ∀ b j, b ≠ a + 4 → b ≠ a + 5 → b ≠ a + 6 → b ≠ a + 7 → zi M4 b j = zi M1 b j := fun b j n1 n2 n3 n4 => ((f4.1 b j (by omega)).trans (f3.1 b j (by omega))).trans (f2.1 b j (by omega))
  refine k _ ⟨⟨(g _ _ (by omega) (by omega) (by omega) (by omega)).trans e0, (g _ _ (by omega) (by omega) (by omega) (by omega)).trans e1, (((f4.r _ _).trans (f3.r _ _)).trans (f2.r _ _)).trans e2⟩, ⟨(g _ _ (by omega) (by omega) (by omega) (by omega)).trans e3, (g _ _ (by omega) (by omega) (by omega) (by omega)).trans e4, (g _ _ (by omega) (by omega) (by omega) (by omega)).trans e5⟩, ⟨(g _ _ (by omega) (by omega) (by omega) (by omega)).trans e7, fun j hj => absurd hj (Nat.not_lt_zero _)⟩, fun j hj => absurd hj (Nat.not_lt_zero _), fun j hj he => absurd he (show ¬ (0 : Nat) = 1 by decide), fun j hj => ⟨(v4 j hj).1, (v4 j hj).2, ?_, ?_⟩⟩ ?_ ?_
  · rw [f4.1 _ _ (by omega), f3.1 _ _ (by omega)]; exact v2 j hj
  · rw [f4.1 _ _ (by omega)]; exact v3 j hj
  · exact fr1.trans (((f2.mono (fun b _ q => ⟨by omega, by omega⟩)).trans (f3.mono (fun b _ q => ⟨by omega, by omega⟩))).trans (f4.mono (fun b _ q => ⟨by omega, by omega⟩))).fr
  · exact f4.sc (f3.sc (f2.sc sc1 (fun b j hb q => by omega)) (fun b j hb q => by omega)) (fun b j hb q => by omega)
theorem d62_0 : decode (zB 62) 0 = .ok (.aload_n 1, 1) := by decide +kernel
theorem d62_1 : decode (zB 62) 1 = .ok (.ifnonnull 4, 3) := by decide +kernel
theorem d62_4 : decode (zB 62) 4 = .ok (.return_, 1) := by decide +kernel
theorem d62_5 : decode (zB 62) 5 = .ok (.aload_n 0, 1) := by decide +kernel
theorem d62_6 : decode (zB 62) 6 = .ok (.invokevirtual 65, 3) := by decide +kernel
theorem d62_9 : decode (zB 62) 9 = .ok (.aload_n 0, 1) := by decide +kernel
theorem d62_10 : decode (zB 62) 10 = .ok (.iconst 1, 1) := by decide +kernel
theorem d62_11 : decode (zB 62) 11 = .ok (.putfield 9, 3) := by decide +kernel
theorem d62_14 : decode (zB 62) 14 = .ok (.aload_n 0, 1) := by decide +kernel
theorem d62_15 : decode (zB 62) 15 = .ok (.iload_n 2, 1) := by decide +kernel
theorem d62_16 : decode (zB 62) 16 = .ok (.putfield 15, 3) := by decide +kernel
theorem d62_19 : decode (zB 62) 19 = .ok (.aload_n 0, 1) := by decide +kernel
theorem d62_20 : decode (zB 62) 20 = .ok (.aload_n 1, 1) := by decide +kernel
theorem d62_21 : decode (zB 62) 21 = .ok (.putfield 40, 3) := by decide +kernel
theorem d62_24 : decode (zB 62) 24 = .ok (.aload_n 1, 1) := by decide +kernel
theorem d62_25 : decode (zB 62) 25 = .ok (.getfield 68, 3) := by decide +kernel
theorem d62_28 : decode (zB 62) 28 = .ok (.iconst 0, 1) := by decide +kernel
theorem d62_29 : decode (zB 62) 29 = .ok (.aload_n 0, 1) := by decide +kernel
theorem d62_30 : decode (zB 62) 30 = .ok (.getfield 22, 3) := by decide +kernel
theorem d62_33 : decode (zB 62) 33 = .ok (.iconst 0, 1) := by decide +kernel
theorem d62_34 : decode (zB 62) 34 = .ok (.bipush 12, 2) := by decide +kernel
theorem d62_36 : decode (zB 62) 36 = .ok (.invokestatic 71, 3) := by decide +kernel
theorem d62_39 : decode (zB 62) 39 = .ok (.return_, 1) := by decide +kernel
theorem c62 {d : Nat} {M : zM} {Q : Option Value → zM → Prop} {a t : Nat} {T : Nat → yT} {nm : Nat → Int32} (hS : SC M) (ha : zSa a) (ht : t < 6) (hr : RP M (20 + 7 * t) (T t)) (hn : tn (T t) ≤ 12) (hm : ∀ j, j < tn (T t) → nm j = tu (T t) j) (k : ∀ M', RS M' a T nm (ySt t) → Fr (FS a) M M' → SC M' → Q none M') : qC (d + 4) 62 [.ref a, .ref (20 + 7 * t), .int (nI t)] M Q := by
  have hs := hS.sg ha
  have hal := ha.l
  have hp := hS.pr ht
  refine qC_of (by decide) (Nat.le_of_ble_eq_true rfl) ?_
  refine q_aload_n d62_0 rfl ?_
  refine q_ifnonnull (r := some _) 5 d62_1 (by decide) (fun _ => ?_) (fun q => absurd q (Option.some_ne_none _))
  refine q_aload_n d62_5 rfl ?_
  refine q_v0 d62_6 rfl rfl hs.1 (Nat.le_of_ble_eq_true rfl) (c63 (T := T) (nm := nm) hS ha (fun M1 hR f1 hS1 => ?_))
  have hs1 := hS1.sg ha
  have hp1 := hS1.pr ht
  have hr1 := RP_fr hr f1 (fun b j h1 h2 q => by have := q.1; omega)
  obtain ⟨⟨q0, q1, q2⟩, ⟨q3, q4, q5⟩, ⟨q7, q8⟩, q9, qa, qb⟩ := hR
  refine q_aload_n d62_9 rfl ?_
  refine q_iconstN (z := 1) d62_10 ?_
  refine q_puti (c := 5) (f := 0) d62_11 ⟨rfl, rfl, by decide⟩ hs1.1 ?_
  refine q_aload_n d62_14 rfl ?_
  refine q_iload_n d62_15 rfl ?_
  refine q_puti (c := 5) (f := 1) d62_16 ⟨rfl, rfl, by decide⟩ hs1.1 ?_
  refine q_aload_n d62_19 rfl ?_
  refine q_aload_n d62_20 rfl ?_
  refine q_putr (r := some ((20 + 7 * t))) (c := 5) (f := 2) d62_21 ⟨rfl, rfl, by decide⟩ hs1.1 ?_
  refine q_aload_n d62_24 rfl ?_
  refine q_getr (c := 1) (f := 3) d62_25 ⟨rfl, rfl⟩ hp1.1 (Eq.trans (by (repeat (first | rw [wi_r] | rw [cp_r] | rw [wr_n (by omega)]))) (hp1.2 3 (by decide)).1) ?_
  refine q_iconstN (z := 0) d62_28 ?_
  refine q_aload_n d62_29 rfl ?_
  refine q_getr (c := 5) (f := 8) d62_30 ⟨rfl, rfl⟩ hs1.1 (Eq.trans (by (repeat (first | rw [wi_r] | rw [cp_r] | rw [wr_n (by omega)]))) (hs1.2.2.1 0 (by decide))) ?_
  refine q_iconstN (z := 0) d62_33 ?_
  refine q_bipush (x := nI 12) d62_34 rfl ?_
  refine n_copy d62_36 rfl (hp1.2 3 (by decide)).2 (hs1.2.2.2 1 (by decide)) (by decide) (by decide) (by omega) (by omega) (Nat.le_of_ble_eq_true rfl) ?_
  refine q_ret d62_39 rfl ?_
  refine k _ ⟨⟨?_, ?_, ?_⟩, ⟨?_, ?_, ?_⟩, ⟨?_, fun j hj => absurd hj (Nat.not_lt_zero _)⟩, fun j hj => ?_, fun j hj he => absurd he (show ¬ (0 : Nat) = 1 by decide), fun j hj => ⟨?_, ?_, ?_, ?_⟩⟩ (f1.trans ((((Fr.refl _ _).wi FS_0).wi FS_0).wr FS_0 |>.cp (fun j _ _ => FS_x (by omega) (by omega)))) (SC_cp (SC_wr (SC_wi (SC_wi hS1 (by omega)) (by omega)) ha.z) (by omega))
  · (repeat (first | rw [wi_n (Or.inl (by omega))] | rw [wi_n (Or.inr (by omega))] | rw [wi_s] | rw [wr_i] | rw [cp_n (by omega)] | rw [cp_0 (by omega)])); try rfl
  · (repeat (first | rw [wi_n (Or.inl (by omega))] | rw [wi_n (Or.inr (by omega))] | rw [wi_s] | rw [wr_i] | rw [cp_n (by omega)] | rw [cp_0 (by omega)])); try rfl
  · (repeat (first | rw [cp_r])); exact wr_s
  · (repeat (first | rw [wi_n (Or.inl (by omega))] | rw [wi_n (Or.inr (by omega))] | rw [wi_s] | rw [wr_i] | rw [cp_n (by omega)] | rw [cp_0 (by omega)])); exact q3
  · (repeat (first | rw [wi_n (Or.inl (by omega))] | rw [wi_n (Or.inr (by omega))] | rw [wi_s] | rw [wr_i] | rw [cp_n (by omega)] | rw [cp_0 (by omega)])); exact q4
  · (repeat (first | rw [wi_n (Or.inl (by omega))] | rw [wi_n (Or.inr (by omega))] | rw [wi_s] | rw [wr_i] | rw [cp_n (by omega)] | rw [cp_0 (by omega)])); exact q5
  · (repeat (first | rw [wi_n (Or.inl (by omega))] | rw [wi_n (Or.inr (by omega))] | rw [wi_s] | rw [wr_i] | rw [cp_n (by omega)] | rw [cp_0 (by omega)])); exact q7
  · have hj : j < tn (T t) := hj
    rw [hm j hj]; (repeat (first | rw [wi_n (Or.inl (by omega))] | rw [wi_n (Or.inr (by omega))] | rw [wi_s] | rw [wr_i] | rw [cp_n (by omega)] | rw [cp_0 (by omega)])); exact (hr1.2.2 j hj).2.2.2.1
  · (repeat (first | rw [wi_n (Or.inl (by omega))] | rw [wi_n (Or.inr (by omega))] | rw [wi_s] | rw [wr_i] | rw [cp_n (by omega)] | rw [cp_0 (by omega)])); exact (qb j hj).1
  · (repeat (first | rw [wi_n (Or.inl (by omega))] | rw [wi_n (Or.inr (by omega))] | rw [wi_s] | rw [wr_i] | rw [cp_n (by omega)] | rw [cp_0 (by omega)])); exact (qb j hj).2.1
  · (repeat (first | rw [wi_n (Or.inl (by omega))] | rw [wi_n (Or.inr (by omega))] | rw [wi_s] | rw [wr_i] | rw [cp_n (by omega)] | rw [cp_0 (by omega)])); exact (qb j hj).2.2.1
  · (repeat (first | rw [wi_n (Or.inl (by omega))] | rw [wi_n (Or.inr (by omega))] | rw [wi_s] | rw [wr_i] | rw [cp_n (by omega)] | rw [cp_0 (by omega)])); exact (qb j hj).2.2.2
theorem d102_0 : decode (zB 102) 0 = .ok (.aload_n 0, 1) := by decide +kernel
theorem d102_1 : decode (zB 102) 1 = .ok (.aload_n 1, 1) := by decide +kernel
theorem d102_2 : decode (zB 102) 2 = .ok (.getfield 9, 3) := by decide +kernel
theorem d102_5 : decode (zB 102) 5 = .ok (.putfield 9, 3) := by decide +kernel
theorem d102_8 : decode (zB 102) 8 = .ok (.aload_n 0, 1) := by decide +kernel
theorem d102_9 : decode (zB 102) 9 = .ok (.aload_n 1, 1) := by decide +kernel
theorem d102_10 : decode (zB 102) 10 = .ok (.getfield 15, 3) := by decide +kernel
theorem d102_13 : decode (zB 102) 13 = .ok (.putfield 15, 3) := by decide +kernel
theorem d102_16 : decode (zB 102) 16 = .ok (.aload_n 0, 1) := by decide +kernel
theorem d102_17 : decode (zB 102) 17 = .ok (.aload_n 1, 1) := by decide +kernel
theorem d102_18 : decode (zB 102) 18 = .ok (.getfield 40, 3) := by decide +kernel
theorem d102_21 : decode (zB 102) 21 = .ok (.putfield 40, 3) := by decide +kernel
theorem d102_24 : decode (zB 102) 24 = .ok (.aload_n 0, 1) := by decide +kernel
theorem d102_25 : decode (zB 102) 25 = .ok (.aload_n 1, 1) := by decide +kernel
theorem d102_26 : decode (zB 102) 26 = .ok (.getfield 44, 3) := by decide +kernel
theorem d102_29 : decode (zB 102) 29 = .ok (.putfield 44, 3) := by decide +kernel
theorem d102_32 : decode (zB 102) 32 = .ok (.aload_n 0, 1) := by decide +kernel
theorem d102_33 : decode (zB 102) 33 = .ok (.aload_n 1, 1) := by decide +kernel
theorem d102_34 : decode (zB 102) 34 = .ok (.getfield 47, 3) := by decide +kernel
theorem d102_37 : decode (zB 102) 37 = .ok (.putfield 47, 3) := by decide +kernel
theorem d102_40 : decode (zB 102) 40 = .ok (.aload_n 0, 1) := by decide +kernel
theorem d102_41 : decode (zB 102) 41 = .ok (.aload_n 1, 1) := by decide +kernel
theorem d102_42 : decode (zB 102) 42 = .ok (.getfield 50, 3) := by decide +kernel
theorem d102_45 : decode (zB 102) 45 = .ok (.putfield 50, 3) := by decide +kernel
theorem d102_48 : decode (zB 102) 48 = .ok (.aload_n 0, 1) := by decide +kernel
theorem d102_49 : decode (zB 102) 49 = .ok (.aload_n 1, 1) := by decide +kernel
theorem d102_50 : decode (zB 102) 50 = .ok (.getfield 53, 3) := by decide +kernel
theorem d102_53 : decode (zB 102) 53 = .ok (.putfield 53, 3) := by decide +kernel
theorem d102_56 : decode (zB 102) 56 = .ok (.aload_n 1, 1) := by decide +kernel
theorem d102_57 : decode (zB 102) 57 = .ok (.getfield 18, 3) := by decide +kernel
theorem d102_60 : decode (zB 102) 60 = .ok (.iconst 0, 1) := by decide +kernel
theorem d102_61 : decode (zB 102) 61 = .ok (.aload_n 0, 1) := by decide +kernel
theorem d102_62 : decode (zB 102) 62 = .ok (.getfield 18, 3) := by decide +kernel
theorem d102_65 : decode (zB 102) 65 = .ok (.iconst 0, 1) := by decide +kernel
theorem d102_66 : decode (zB 102) 66 = .ok (.bipush 12, 2) := by decide +kernel
theorem d102_68 : decode (zB 102) 68 = .ok (.invokestatic 71, 3) := by decide +kernel
theorem d102_71 : decode (zB 102) 71 = .ok (.aload_n 1, 1) := by decide +kernel
theorem d102_72 : decode (zB 102) 72 = .ok (.getfield 22, 3) := by decide +kernel
theorem d102_75 : decode (zB 102) 75 = .ok (.iconst 0, 1) := by decide +kernel
theorem d102_76 : decode (zB 102) 76 = .ok (.aload_n 0, 1) := by decide +kernel
theorem d102_77 : decode (zB 102) 77 = .ok (.getfield 22, 3) := by decide +kernel
theorem d102_80 : decode (zB 102) 80 = .ok (.iconst 0, 1) := by decide +kernel
theorem d102_81 : decode (zB 102) 81 = .ok (.bipush 12, 2) := by decide +kernel
theorem d102_83 : decode (zB 102) 83 = .ok (.invokestatic 71, 3) := by decide +kernel
theorem d102_86 : decode (zB 102) 86 = .ok (.aload_n 1, 1) := by decide +kernel
theorem d102_87 : decode (zB 102) 87 = .ok (.getfield 25, 3) := by decide +kernel
theorem d102_90 : decode (zB 102) 90 = .ok (.iconst 0, 1) := by decide +kernel
theorem d102_91 : decode (zB 102) 91 = .ok (.aload_n 0, 1) := by decide +kernel
theorem d102_92 : decode (zB 102) 92 = .ok (.getfield 25, 3) := by decide +kernel
theorem d102_95 : decode (zB 102) 95 = .ok (.iconst 0, 1) := by decide +kernel
theorem d102_96 : decode (zB 102) 96 = .ok (.bipush 12, 2) := by decide +kernel
theorem d102_98 : decode (zB 102) 98 = .ok (.invokestatic 71, 3) := by decide +kernel
theorem d102_101 : decode (zB 102) 101 = .ok (.aload_n 1, 1) := by decide +kernel
theorem d102_102 : decode (zB 102) 102 = .ok (.getfield 28, 3) := by decide +kernel
theorem d102_105 : decode (zB 102) 105 = .ok (.iconst 0, 1) := by decide +kernel
theorem d102_106 : decode (zB 102) 106 = .ok (.aload_n 0, 1) := by decide +kernel
theorem d102_107 : decode (zB 102) 107 = .ok (.getfield 28, 3) := by decide +kernel
theorem d102_110 : decode (zB 102) 110 = .ok (.iconst 0, 1) := by decide +kernel
theorem d102_111 : decode (zB 102) 111 = .ok (.bipush 12, 2) := by decide +kernel
theorem d102_113 : decode (zB 102) 113 = .ok (.invokestatic 71, 3) := by decide +kernel
theorem d102_116 : decode (zB 102) 116 = .ok (.aload_n 1, 1) := by decide +kernel
theorem d102_117 : decode (zB 102) 117 = .ok (.getfield 31, 3) := by decide +kernel
theorem d102_120 : decode (zB 102) 120 = .ok (.iconst 0, 1) := by decide +kernel
theorem d102_121 : decode (zB 102) 121 = .ok (.aload_n 0, 1) := by decide +kernel
theorem d102_122 : decode (zB 102) 122 = .ok (.getfield 31, 3) := by decide +kernel
theorem d102_125 : decode (zB 102) 125 = .ok (.iconst 0, 1) := by decide +kernel
theorem d102_126 : decode (zB 102) 126 = .ok (.bipush 12, 2) := by decide +kernel
theorem d102_128 : decode (zB 102) 128 = .ok (.invokestatic 71, 3) := by decide +kernel
theorem d102_131 : decode (zB 102) 131 = .ok (.aload_n 1, 1) := by decide +kernel
theorem d102_132 : decode (zB 102) 132 = .ok (.getfield 34, 3) := by decide +kernel
theorem d102_135 : decode (zB 102) 135 = .ok (.iconst 0, 1) := by decide +kernel
theorem d102_136 : decode (zB 102) 136 = .ok (.aload_n 0, 1) := by decide +kernel
theorem d102_137 : decode (zB 102) 137 = .ok (.getfield 34, 3) := by decide +kernel
theorem d102_140 : decode (zB 102) 140 = .ok (.iconst 0, 1) := by decide +kernel
theorem d102_141 : decode (zB 102) 141 = .ok (.bipush 12, 2) := by decide +kernel
theorem d102_143 : decode (zB 102) 143 = .ok (.invokestatic 71, 3) := by decide +kernel
theorem d102_146 : decode (zB 102) 146 = .ok (.aload_n 1, 1) := by decide +kernel
theorem d102_147 : decode (zB 102) 147 = .ok (.getfield 37, 3) := by decide +kernel
theorem d102_150 : decode (zB 102) 150 = .ok (.iconst 0, 1) := by decide +kernel
theorem d102_151 : decode (zB 102) 151 = .ok (.aload_n 0, 1) := by decide +kernel
theorem d102_152 : decode (zB 102) 152 = .ok (.getfield 37, 3) := by decide +kernel
theorem d102_155 : decode (zB 102) 155 = .ok (.iconst 0, 1) := by decide +kernel
theorem d102_156 : decode (zB 102) 156 = .ok (.bipush 12, 2) := by decide +kernel
theorem d102_158 : decode (zB 102) 158 = .ok (.invokestatic 71, 3) := by decide +kernel
theorem d102_161 : decode (zB 102) 161 = .ok (.return_, 1) := by decide +kernel
theorem c102 {d : Nat} {M : zM} {Q : Option Value → zM → Prop} {a b : Nat} {T : Nat → yT} {nm : Nat → Int32} {S : yS} (hS : SC M) (ha : zSa a) (hb2 : zSa b) (hab : a + 8 ≤ b ∨ b + 8 ≤ a) (hR : RS M b T nm S) (hl : (go S).length ≤ 12) (hz : gz T S ≤ 12) (k : ∀ M', RS M' a T nm S → Fr (FS a) M M' → SC M' → Q none M') : qC (d + 1) 102 [.ref a, .ref b] M Q := by
  have hs := hS.sg ha
  have hb := hS.sg hb2
  have hal := ha.l
  obtain ⟨⟨q0, q1, q2⟩, ⟨q3, q4, q5⟩, ⟨q7, q8⟩, q9, qa, qb⟩ := hR
  refine qC_of (by decide) (Nat.le_of_ble_eq_true rfl) ?_
  refine q_aload_n d102_0 rfl ?_
  refine q_aload_n d102_1 rfl ?_
  refine q_getv (c := 5) (f := 0) d102_2 ⟨rfl, by decide⟩ hb.1 q0 ?_
  refine q_puti (c := 5) (f := 0) d102_5 ⟨rfl, rfl, by decide⟩ hs.1 ?_
  refine q_aload_n d102_8 rfl ?_
  refine q_aload_n d102_9 rfl ?_
  refine q_getv (c := 5) (f := 1) d102_10 ⟨rfl, by decide⟩ hb.1 (Eq.trans (by (repeat (first | rw [wi_n (Or.inl (by omega))] | rw [wi_n (Or.inr (by omega))] | rw [wi_s] | rw [wr_i] | rw [cp_n (by omega)]))) q1) ?_
  refine q_puti (c := 5) (f := 1) d102_13 ⟨rfl, rfl, by decide⟩ hs.1 ?_
  refine q_aload_n d102_16 rfl ?_
  refine q_aload_n d102_17 rfl ?_
  refine q_getr (c := 5) (f := 2) d102_18 ⟨rfl, rfl⟩ hb.1 q2 ?_
  refine q_putr (c := 5) (f := 2) d102_21 ⟨rfl, rfl, by decide⟩ hs.1 ?_
  refine q_aload_n d102_24 rfl ?_
  refine q_aload_n d102_25 rfl ?_
  refine q_getv (c := 5) (f := 3) d102_26 ⟨rfl, by decide⟩ hb.1 (Eq.trans (by (repeat (first | rw [wi_n (Or.inl (by omega))] | rw [wi_n (Or.inr (by omega))] | rw [wi_s] | rw [wr_i] | rw [cp_n (by omega)]))) q3) ?_
  refine q_puti (c := 5) (f := 3) d102_29 ⟨rfl, rfl, by decide⟩ hs.1 ?_
  refine q_aload_n d102_32 rfl ?_
  refine q_aload_n d102_33 rfl ?_
  refine q_getv (c := 5) (f := 4) d102_34 ⟨rfl, by decide⟩ hb.1 (Eq.trans (by (repeat (first | rw [wi_n (Or.inl (by omega))] | rw [wi_n (Or.inr (by omega))] | rw [wi_s] | rw [wr_i] | rw [cp_n (by omega)]))) q4) ?_
  refine q_puti (c := 5) (f := 4) d102_37 ⟨rfl, rfl, by decide⟩ hs.1 ?_
  refine q_aload_n d102_40 rfl ?_
  refine q_aload_n d102_41 rfl ?_
  refine q_getv (c := 5) (f := 5) d102_42 ⟨rfl, by decide⟩ hb.1 (Eq.trans (by (repeat (first | rw [wi_n (Or.inl (by omega))] | rw [wi_n (Or.inr (by omega))] | rw [wi_s] | rw [wr_i] | rw [cp_n (by omega)]))) q5) ?_
  refine q_puti (c := 5) (f := 5) d102_45 ⟨rfl, rfl, by decide⟩ hs.1 ?_
  refine q_aload_n d102_48 rfl ?_
  refine q_aload_n d102_49 rfl ?_
  refine q_getv (c := 5) (f := 7) d102_50 ⟨rfl, by decide⟩ hb.1 (Eq.trans (by (repeat (first | rw [wi_n (Or.inl (by omega))] | rw [wi_n (Or.inr (by omega))] | rw [wi_s] | rw [wr_i] | rw [cp_n (by omega)]))) q7) ?_
  refine q_puti (c := 5) (f := 7) d102_53 ⟨rfl, rfl, by decide⟩ hs.1 ?_
  refine q_aload_n d102_56 rfl ?_
  refine q_getr (c := 5) (f := 6) d102_57 ⟨rfl, rfl⟩ hb.1 (Eq.trans (by (repeat (first | rw [wi_r] | rw [cp_r] | rw [wr_n (by omega)]))) hb.2.1) ?_
  refine q_iconstN (z := 0) d102_60 ?_
  refine q_aload_n d102_61 rfl ?_
  refine q_getr (c := 5) (f := 6) d102_62 ⟨rfl, rfl⟩ hs.1 (Eq.trans (by (repeat (first | rw [wi_r] | rw [cp_r] | rw [wr_n (by omega)]))) hs.2.1) ?_
  refine q_iconstN (z := 0) d102_65 ?_
  refine q_bipush (x := nI 12) d102_66 rfl ?_
  refine n_copy d102_68 rfl (hb.2.2.2 0 (by decide)) (hs.2.2.2 0 (by decide)) (by decide) (by decide) (by omega) (by omega) (Nat.le_of_ble_eq_true rfl) ?_
  refine q_aload_n d102_71 rfl ?_
  refine q_getr (c := 5) (f := 8) d102_72 ⟨rfl, rfl⟩ hb.1 (Eq.trans (by (repeat (first | rw [wi_r] | rw [cp_r] | rw [wr_n (by omega)]))) (hb.2.2.1 0 (by decide))) ?_
  refine q_iconstN (z := 0) d102_75 ?_
  refine q_aload_n d102_76 rfl ?_
  refine q_getr (c := 5) (f := 8) d102_77 ⟨rfl, rfl⟩ hs.1 (Eq.trans (by (repeat (first | rw [wi_r] | rw [cp_r] | rw [wr_n (by omega)]))) (hs.2.2.1 0 (by decide))) ?_
  refine q_iconstN (z := 0) d102_80 ?_
  refine q_bipush (x := nI 12) d102_81 rfl ?_
  refine n_copy d102_83 rfl (hb.2.2.2 1 (by decide)) (hs.2.2.2 1 (by decide)) (by decide) (by decide) (by omega) (by omega) (Nat.le_of_ble_eq_true rfl) ?_
  refine q_aload_n d102_86 rfl ?_
  refine q_getr (c := 5) (f := 9) d102_87 ⟨rfl, rfl⟩ hb.1 (Eq.trans (by (repeat (first | rw [wi_r] | rw [cp_r] | rw [wr_n (by omega)]))) (hb.2.2.1 1 (by decide))) ?_
  refine q_iconstN (z := 0) d102_90 ?_
  refine q_aload_n d102_91 rfl ?_
  refine q_getr (c := 5) (f := 9) d102_92 ⟨rfl, rfl⟩ hs.1 (Eq.trans (by (repeat (first | rw [wi_r] | rw [cp_r] | rw [wr_n (by omega)]))) (hs.2.2.1 1 (by decide))) ?_
  refine q_iconstN (z := 0) d102_95 ?_
  refine q_bipush (x := nI 12) d102_96 rfl ?_
  refine n_copy d102_98 rfl (hb.2.2.2 2 (by decide)) (hs.2.2.2 2 (by decide)) (by decide) (by decide) (by omega) (by omega) (Nat.le_of_ble_eq_true rfl) ?_
  refine q_aload_n d102_101 rfl ?_
  refine q_getr (c := 5) (f := 10) d102_102 ⟨rfl, rfl⟩ hb.1 (Eq.trans (by (repeat (first | rw [wi_r] | rw [cp_r] | rw [wr_n (by omega)]))) (hb.2.2.1 2 (by decide))) ?_
  refine q_iconstN (z := 0) d102_105 ?_
  refine q_aload_n d102_106 rfl ?_
  refine q_getr (c := 5) (f := 10) d102_107 ⟨rfl, rfl⟩ hs.1 (Eq.trans (by (repeat (first | rw [wi_r] | rw [cp_r] | rw [wr_n (by omega)]))) (hs.2.2.1 2 (by decide))) ?_
  refine q_iconstN (z := 0) d102_110 ?_
  refine q_bipush (x := nI 12) d102_111 rfl ?_
  refine n_copy d102_113 rfl (hb.2.2.2 3 (by decide)) (hs.2.2.2 3 (by decide)) (by decide) (by decide) (by omega) (by omega) (Nat.le_of_ble_eq_true rfl) ?_
  refine q_aload_n d102_116 rfl ?_
  refine q_getr (c := 5) (f := 11) d102_117 ⟨rfl, rfl⟩ hb.1 (Eq.trans (by (repeat (first | rw [wi_r] | rw [cp_r] | rw [wr_n (by omega)]))) (hb.2.2.1 3 (by decide))) ?_
  refine q_iconstN (z := 0) d102_120 ?_
  refine q_aload_n d102_121 rfl ?_
  refine q_getr (c := 5) (f := 11) d102_122 ⟨rfl, rfl⟩ hs.1 (Eq.trans (by (repeat (first | rw [wi_r] | rw [cp_r] | rw [wr_n (by omega)]))) (hs.2.2.1 3 (by decide))) ?_
  refine q_iconstN (z := 0) d102_125 ?_
  refine q_bipush (x := nI 12) d102_126 rfl ?_
  refine n_copy d102_128 rfl (hb.2.2.2 4 (by decide)) (hs.2.2.2 4 (by decide)) (by decide) (by decide) (by omega) (by omega) (Nat.le_of_ble_eq_true rfl) ?_
  refine q_aload_n d102_131 rfl ?_
  refine q_getr (c := 5) (f := 12) d102_132 ⟨rfl, rfl⟩ hb.1 (Eq.trans (by (repeat (first | rw [wi_r] | rw [cp_r] | rw [wr_n (by omega)]))) (hb.2.2.1 4 (by decide))) ?_
  refine q_iconstN (z := 0) d102_135 ?_
  refine q_aload_n d102_136 rfl ?_
  refine q_getr (c := 5) (f := 12) d102_137 ⟨rfl, rfl⟩ hs.1 (Eq.trans (by (repeat (first | rw [wi_r] | rw [cp_r] | rw [wr_n (by omega)]))) (hs.2.2.1 4 (by decide))) ?_
  refine q_iconstN (z := 0) d102_140 ?_
  refine q_bipush (x := nI 12) d102_141 rfl ?_
  refine n_copy d102_143 rfl (hb.2.2.2 5 (by decide)) (hs.2.2.2 5 (by decide)) (by decide) (by decide) (by omega) (by omega) (Nat.le_of_ble_eq_true rfl) ?_
  refine q_aload_n d102_146 rfl ?_
  refine q_getr (c := 5) (f := 13) d102_147 ⟨rfl, rfl⟩ hb.1 (Eq.trans (by (repeat (first | rw [wi_r] | rw [cp_r] | rw [wr_n (by omega)]))) (hb.2.2.1 5 (by decide))) ?_
  refine q_iconstN (z := 0) d102_150 ?_
  refine q_aload_n d102_151 rfl ?_
  refine q_getr (c := 5) (f := 13) d102_152 ⟨rfl, rfl⟩ hs.1 (Eq.trans (by (repeat (first | rw [wi_r] | rw [cp_r] | rw [wr_n (by omega)]))) (hs.2.2.1 5 (by decide))) ?_
  refine q_iconstN (z := 0) d102_155 ?_
  refine q_bipush (x := nI 12) d102_156 rfl ?_
  refine n_copy d102_158 rfl (hb.2.2.2 6 (by decide)) (hs.2.2.2 6 (by decide)) (by decide) (by decide) (by omega) (by omega) (Nat.le_of_ble_eq_true rfl) ?_
  refine q_ret d102_161 rfl ?_
  refine k _ ⟨⟨?_, ?_, ?_⟩, ⟨?_, ?_, ?_⟩, ⟨?_, fun j hj => ?_⟩, fun j hj => ?_, fun j hj he => ?_, fun j hj => ⟨?_, ?_, ?_, ?_⟩⟩ (((((((((((((((Fr.refl _ _).wi FS_0).wi FS_0).wr FS_0).wi FS_0).wi FS_0).wi FS_0).wi FS_0).cp (fun j _ _ => FS_x (by omega) (by omega))).cp (fun j _ _ => FS_x (by omega) (by omega))).cp (fun j _ _ => FS_x (by omega) (by omega))).cp (fun j _ _ => FS_x (by omega) (by omega))).cp (fun j _ _ => FS_x (by omega) (by omega))).cp (fun j _ _ => FS_x (by omega) (by omega))).cp (fun j _ _ => FS_x (by omega) (by omega))) (SC_cp (SC_cp (SC_cp (SC_cp (SC_cp (SC_cp (SC_cp (SC_wi (SC_wi (SC_wi (SC_wi (SC_wr (SC_wi (SC_wi (hS) (by omega)) (by omega)) ha.z) (by omega)) (by omega)) (by omega)) (by omega)) (by omega)) (by omega)) (by omega)) (by omega)) (by omega)) (by omega)) (by omega))
  · (repeat (first | rw [wi_n (Or.inl (by omega))] | rw [wi_n (Or.inr (by omega))] | rw [wi_s] | rw [wr_i] | rw [cp_n (by omega)] | rw [cp_0 (by omega)]))
  · (repeat (first | rw [wi_n (Or.inl (by omega))] | rw [wi_n (Or.inr (by omega))] | rw [wi_s] | rw [wr_i] | rw [cp_n (by omega)] | rw [cp_0 (by omega)]))
  · (repeat (first | rw [cp_r] | rw [wi_r])); exact wr_s
  · (repeat (first | rw [wi_n (Or.inl (by omega))] | rw [wi_n (Or.inr (by omega))] | rw [wi_s] | rw [wr_i] | rw [cp_n (by omega)] | rw [cp_0 (by omega)]))
  · (repeat (first | rw [wi_n (Or.inl (by omega))] | rw [wi_n (Or.inr (by omega))] | rw [wi_s] | rw [wr_i] | rw [cp_n (by omega)] | rw [cp_0 (by omega)]))
  · (repeat (first | rw [wi_n (Or.inl (by omega))] | rw [wi_n (Or.inr (by omega))] | rw [wi_s] | rw [wr_i] | rw [cp_n (by omega)] | rw [cp_0 (by omega)]))
  · (repeat (first | rw [wi_n (Or.inl (by omega))] | rw [wi_n (Or.inr (by omega))] | rw [wi_s] | rw [wr_i] | rw [cp_n (by omega)] | rw [cp_0 (by omega)]))
  · (repeat (first | rw [wi_n (Or.inl (by omega))] | rw [wi_n (Or.inr (by omega))] | rw [wi_s] | rw [wr_i] | rw [cp_n (by omega)] | rw [cp_0 (by omega)])); exact q8 j hj
  · (repeat (first | rw [wi_n (Or.inl (by omega))] | rw [wi_n (Or.inr (by omega))] | rw [wi_s] | rw [wr_i] | rw [cp_n (by omega)] | rw [cp_0 (by omega)])); exact q9 j hj
  · (repeat (first | rw [wi_n (Or.inl (by omega))] | rw [wi_n (Or.inr (by omega))] | rw [wi_s] | rw [wr_i] | rw [cp_n (by omega)] | rw [cp_0 (by omega)])); exact qa j hj he
  · (repeat (first | rw [wi_n (Or.inl (by omega))] | rw [wi_n (Or.inr (by omega))] | rw [wi_s] | rw [wr_i] | rw [cp_n (by omega)] | rw [cp_0 (by omega)])); exact (qb j hj).1
  · (repeat (first | rw [wi_n (Or.inl (by omega))] | rw [wi_n (Or.inr (by omega))] | rw [wi_s] | rw [wr_i] | rw [cp_n (by omega)] | rw [cp_0 (by omega)])); exact (qb j hj).2.1
  · (repeat (first | rw [wi_n (Or.inl (by omega))] | rw [wi_n (Or.inr (by omega))] | rw [wi_s] | rw [wr_i] | rw [cp_n (by omega)] | rw [cp_0 (by omega)])); exact (qb j hj).2.2.1
  · (repeat (first | rw [wi_n (Or.inl (by omega))] | rw [wi_n (Or.inr (by omega))] | rw [wi_s] | rw [wr_i] | rw [cp_n (by omega)] | rw [cp_0 (by omega)])); exact (qb j hj).2.2.2
