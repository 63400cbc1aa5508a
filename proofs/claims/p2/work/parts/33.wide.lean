/-! ===== contracts: the widest ===== -/
theorem qC_up {d d' y : Nat} {as : List Value} {M : zM} {Q : Option Value → zM → Prop} (h : qC d y as M Q) (hd : d ≤ d') : qC d' y as M Q := by
  obtain ⟨v, M', h1, h2⟩ := h
  exact ⟨v, M', zEv_up h1 hd, h2⟩
/-- the widest of the free steps from s on, r steps -/
def ywf (T : yT) : Nat → Nat → Nat → Nat
  | 0, _, _ => 0
  | r + 1, s, f => if f.testBit s then max (ywf T r (s + 1) f) (1 + ywf T r (s + 1) (f &&& ybd T s)) else ywf T r (s + 1) f
theorem ywf_le (T : yT) : ∀ r s f, ywf T r s f ≤ r
  | 0, _, _ => Nat.le_refl _
  | r + 1, s, f => by
    have h1 := ywf_le T r (s + 1) f
    have h2 := ywf_le T r (s + 1) (f &&& ybd T s)
    rw [ywf]
    split
    · exact Nat.max_le.mpr ⟨by omega, by omega⟩
    · omega
theorem ybd_lt (T : yT) (i : Nat) (h : tn T ≤ 12) : ybd T i < 4096 := ymk_lt12 _ h
theorem and_lt {a b : Nat} (h : a < 4096) : a &&& b < 4096 := Nat.lt_of_le_of_lt Nat.and_le_left h
theorem d38_0 : decode (zB 38) 0 = .ok (.iload_n 1, 1) := by decide +kernel
theorem d38_1 : decode (zB 38) 1 = .ok (.aload_n 0, 1) := by decide +kernel
theorem d38_2 : decode (zB 38) 2 = .ok (.getfield 34, 3) := by decide +kernel
theorem d38_5 : decode (zB 38) 5 = .ok (.if_icmp .lt 5, 3) := by decide +kernel
theorem d38_8 : decode (zB 38) 8 = .ok (.iconst 0, 1) := by decide +kernel
theorem d38_9 : decode (zB 38) 9 = .ok (.ireturn, 1) := by decide +kernel
theorem d38_10 : decode (zB 38) 10 = .ok (.aload_n 0, 1) := by decide +kernel
theorem d38_11 : decode (zB 38) 11 = .ok (.iload_n 1, 1) := by decide +kernel
theorem d38_12 : decode (zB 38) 12 = .ok (.iconst 1, 1) := by decide +kernel
theorem d38_13 : decode (zB 38) 13 = .ok (.iadd, 1) := by decide +kernel
theorem d38_14 : decode (zB 38) 14 = .ok (.iload_n 2, 1) := by decide +kernel
theorem d38_15 : decode (zB 38) 15 = .ok (.invokestatic 51, 3) := by decide +kernel
theorem d38_18 : decode (zB 38) 18 = .ok (.istore_n 3, 1) := by decide +kernel
theorem d38_19 : decode (zB 38) 19 = .ok (.iload_n 2, 1) := by decide +kernel
theorem d38_20 : decode (zB 38) 20 = .ok (.iload_n 1, 1) := by decide +kernel
theorem d38_21 : decode (zB 38) 21 = .ok (.invokestatic 37, 3) := by decide +kernel
theorem d38_24 : decode (zB 38) 24 = .ok (.ifCond .ne 5, 3) := by decide +kernel
theorem d38_27 : decode (zB 38) 27 = .ok (.iload_n 3, 1) := by decide +kernel
theorem d38_28 : decode (zB 38) 28 = .ok (.ireturn, 1) := by decide +kernel
theorem d38_29 : decode (zB 38) 29 = .ok (.iload_n 3, 1) := by decide +kernel
theorem d38_30 : decode (zB 38) 30 = .ok (.iconst 1, 1) := by decide +kernel
theorem d38_31 : decode (zB 38) 31 = .ok (.aload_n 0, 1) := by decide +kernel
theorem d38_32 : decode (zB 38) 32 = .ok (.iload_n 1, 1) := by decide +kernel
theorem d38_33 : decode (zB 38) 33 = .ok (.iconst 1, 1) := by decide +kernel
theorem d38_34 : decode (zB 38) 34 = .ok (.iadd, 1) := by decide +kernel
theorem d38_35 : decode (zB 38) 35 = .ok (.iload_n 2, 1) := by decide +kernel
theorem d38_36 : decode (zB 38) 36 = .ok (.aload_n 0, 1) := by decide +kernel
theorem d38_37 : decode (zB 38) 37 = .ok (.iload_n 1, 1) := by decide +kernel
theorem d38_38 : decode (zB 38) 38 = .ok (.invokevirtual 55, 3) := by decide +kernel
theorem d38_41 : decode (zB 38) 41 = .ok (.iand, 1) := by decide +kernel
theorem d38_42 : decode (zB 38) 42 = .ok (.invokestatic 51, 3) := by decide +kernel
theorem d38_45 : decode (zB 38) 45 = .ok (.iadd, 1) := by decide +kernel
theorem d38_46 : decode (zB 38) 46 = .ok (.invokestatic 45, 3) := by decide +kernel
theorem d38_49 : decode (zB 38) 49 = .ok (.ireturn, 1) := by decide +kernel
theorem c38 {d : Nat} {M : zM} {a : Nat} {T : yT} (hp : SPr M a) (hr : RP M a T) (ho : OKT T) : ∀ (r s f : Nat) {Q : Option Value → zM → Prop}, s + r = tn T → f < 4096 → Q (some (.int (nI (ywf T r s f)))) M → qC (d + r + 3) 38 [.ref a, .int (nI s), .int (nI f)] M Q := by
  have hn := ho.n
  intro r
  induction r with
  | zero =>
    intro s f Q hs hf k
    refine qC_of (by decide) (Nat.le_of_ble_eq_true rfl) ?_
    refine q_iload_n d38_0 rfl ?_
    refine q_aload_n d38_1 rfl ?_
    refine q_getv (c := 1) (f := 6) d38_2 ⟨rfl, by decide⟩ hp.1 hr.1 ?_
    refine nc_lt 10 d38_5 (by decide) (by omega) (by omega) (fun h5 => (False.elim (by omega))) (fun h5 => ?_)
    refine q_iconstN (z := 0) d38_8 ?_
    refine q_iret d38_9 rfl ?_
    exact k
  | succ r ih =>
    intro s f Q hs hf k
    refine qC_of (d := d + r + 3) (by decide) (Nat.le_of_ble_eq_true rfl) ?_
    refine q_iload_n d38_0 rfl ?_
    refine q_aload_n d38_1 rfl ?_
    refine q_getv (c := 1) (f := 6) d38_2 ⟨rfl, by decide⟩ hp.1 hr.1 ?_
    refine nc_lt 10 d38_5 (by decide) (by omega) (by omega) (fun h5 => ?_) (fun h5 => (False.elim (by omega)))
    refine q_aload_n d38_10 rfl ?_
    refine q_iload_n d38_11 rfl ?_
    refine q_iconstN (z := 1) d38_12 ?_
    refine n_iadd d38_13 ?_
    refine q_iload_n d38_14 rfl ?_
    refine q_s3 d38_15 (Or.inl rfl) rfl (Nat.le_of_ble_eq_true rfl) (ih (s + 1) _ (by omega) hf ?_)
    have b1 := ywf_le T r (s + 1) f
    refine q_istore_n d38_18 (by decide) rfl ?_
    refine q_iload_n d38_19 rfl ?_
    refine q_iload_n d38_20 rfl ?_
    refine q_s2 d38_21 (Or.inr rfl) rfl (Nat.le_of_ble_eq_true rfl) (c35 (by omega) (by omega) ?_)
    refine b0_ne 29 d38_24 (by decide) (fun h24 => ?_) (fun h24 => ?_)
    · have b2 := ywf_le T r (s + 1) (f &&& ybd T s)
      refine q_iload_n d38_29 rfl ?_
      refine q_iconstN (z := 1) d38_30 ?_
      refine q_aload_n d38_31 rfl ?_
      refine q_iload_n d38_32 rfl ?_
      refine q_iconstN (z := 1) d38_33 ?_
      refine n_iadd d38_34 ?_
      refine q_iload_n d38_35 rfl ?_
      refine q_aload_n d38_36 rfl ?_
      refine q_iload_n d38_37 rfl ?_
      refine q_v1 d38_38 rfl rfl hp.1 (Nat.le_of_ble_eq_true rfl) (c39 hp hr ho (by omega) ?_)
      refine n_iand d38_41 ?_
      refine q_s3 d38_42 (Or.inl rfl) rfl (Nat.le_of_ble_eq_true rfl) (ih (s + 1) _ (by omega) (and_lt hf) ?_)
      refine n_iadd d38_45 ?_
      refine q_max d38_46 rfl (Nat.le_of_ble_eq_true rfl) ?_
      rw [n_maxN (by omega) (by omega)]
      refine q_iret d38_49 rfl ?_
      rw [ywf, if_pos h24] at k; exact k
    · refine q_iload_n d38_27 rfl ?_
      refine q_iret d38_28 rfl ?_
      rw [ywf, h24, if_neg (by decide)] at k; exact k
theorem d36_0 : decode (zB 36) 0 = .ok (.aload_n 0, 1) := by decide +kernel
theorem d36_1 : decode (zB 36) 1 = .ok (.iconst 0, 1) := by decide +kernel
theorem d36_2 : decode (zB 36) 2 = .ok (.aload_n 0, 1) := by decide +kernel
theorem d36_3 : decode (zB 36) 3 = .ok (.invokevirtual 41, 3) := by decide +kernel
theorem d36_6 : decode (zB 36) 6 = .ok (.invokestatic 51, 3) := by decide +kernel
theorem d36_9 : decode (zB 36) 9 = .ok (.ireturn, 1) := by decide +kernel
theorem c36 {d : Nat} {M : zM} {Q : Option Value → zM → Prop} {a : Nat} {T : yT} (hp : SPr M a) (hr : RP M a T) (ho : OKT T) (k : Q (some (.int (nI (ywf T (tn T) 0 (2 ^ tn T - 1))))) M) : qC (d + 16) 36 [.ref a] M Q := by
  have hn := ho.n
  have hz : 2 ^ tn T ≤ 4096 := pow_12 hn
  have h0 : 0 < 2 ^ tn T := Nat.two_pow_pos _
  refine qC_of (d := d + 15) (by decide) (Nat.le_of_ble_eq_true rfl) ?_
  refine q_aload_n d36_0 rfl ?_
  refine q_iconstN (z := 0) d36_1 ?_
  refine q_aload_n d36_2 rfl ?_
  refine q_v0 d36_3 rfl rfl hp.1 (Nat.le_of_ble_eq_true rfl) (c37 hp hr hn ?_)
  refine q_s3 d36_6 (Or.inl rfl) rfl (Nat.le_of_ble_eq_true rfl) (qC_up (c38 (d := d) hp hr ho (tn T) 0 _ (by omega) (by omega) ?_) (by omega))
  refine q_iret d36_9 rfl ?_
  exact k
