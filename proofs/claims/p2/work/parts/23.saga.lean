/-! ===== contracts: sagas ===== -/
def zSa (a : Nat) : Prop := a = 70 ∨ a = 78 ∨ a = 86 ∨ a = 102 ∨ a = 110 ∨ a = 118
def FS (a : Nat) : Nat → Nat → Prop := Fb a (a + 8)
theorem SC.sg {M : zM} (h : SC M) {a : Nat} (ha : zSa a) : SSg M a := by
  obtain ⟨_, _, _, _, _, _, _, _, _, h1, h2, _⟩ := h
  rcases ha with rfl | rfl | rfl | rfl | rfl | rfl
  · exact h1 0 (by omega)
  · exact h1 1 (by omega)
  · exact h1 2 (by omega)
  · exact h2 0 (by omega)
  · exact h2 1 (by omega)
  · exact h2 2 (by omega)
theorem SC.pr {M : zM} (h : SC M) {i : Nat} (hi : i < 6) : SPr M (20 + 7 * i) := h.2.2.1 i hi
theorem SSg_wr {M : zM} {a : Nat} {v : Option Nat} (h : SSg M a) : SSg (zwr M a 2 v) a :=
  ⟨h.1, (by rw [wr_eq, if_neg (by omega)]; exact h.2.1), fun f hf => (by rw [wr_eq, if_neg (by omega)]; exact h.2.2.1 f hf), h.2.2.2⟩
theorem FS_i {a f k : Nat} (h : f < 8) : FS a (a + f) k := ⟨by omega, by omega⟩
theorem FS_x {a b k : Nat} (h1 : a ≤ b) (h2 : b < a + 8) : FS a b k := ⟨h1, h2⟩
theorem FS_0 {a k : Nat} : FS a a k := ⟨by omega, by omega⟩
theorem bit_or (m i k : Nat) : (m ||| 2 ^ i).testBit k = (m.testBit k || decide (k = i)) := by
  rw [Nat.testBit_or, Nat.testBit_two_pow, show decide (i = k) = decide (k = i) by simp only [decide_eq_decide]; omega]
theorem bit_df (m i k : Nat) : (zdf m (2 ^ i)).testBit k = (m.testBit k && !decide (k = i)) := by
  rw [zdf_bit, Nat.testBit_two_pow, show decide (i = k) = decide (k = i) by simp only [decide_eq_decide]; omega]
/-- a step comes to a stand, or leaves it -/
theorem gm_in {S : yS} {i v : Nat} (hi : i < 12) : gm (gdS S (yu (gd S) i v)) v = gm S v ||| 2 ^ i := by
  apply Nat.eq_of_testBit_eq
  intro k
  rw [gm_bit, bit_or, gm_bit]
  show (decide (k < 12) && (yu (gd S) i v k == v)) = _
  by_cases e : k = i
  · subst e; rw [yu_s]; simp [hi]
  · rw [yu_n e]; simp [e]
theorem gm_out {S : yS} {i v w : Nat} (hv : gd S i = v) (hw : w ≠ v) : gm (gdS S (yu (gd S) i w)) v = zdf (gm S v) (2 ^ i) := by
  apply Nat.eq_of_testBit_eq
  intro k
  rw [gm_bit, bit_df, gm_bit]
  show (decide (k < 12) && (yu (gd S) i w k == v)) = _
  by_cases e : k = i
  · subst e; rw [yu_s]; simp [hw]
  · rw [yu_n e]; simp [e]
theorem gm_not {S : yS} {i v w : Nat} (hv : gd S i ≠ v) (hw : w ≠ v) : gm (gdS S (yu (gd S) i w)) v = gm S v := by
  apply Nat.eq_of_testBit_eq
  intro k
  rw [gm_bit, gm_bit]
  show (decide (k < 12) && (yu (gd S) i w k == v)) = _
  by_cases e : k = i
  · subst e; rw [yu_s, show (w == v) = false from beq_false_of_ne hw, show (gd S k == v) = false from beq_false_of_ne hv]
  · rw [yu_n e]
theorem d61_0 : decode (zB 61) 0 = .ok (.aload_n 0, 1) := by decide +kernel
theorem d61_1 : decode (zB 61) 1 = .ok (.getfield 9, 3) := by decide +kernel
theorem d61_4 : decode (zB 61) 4 = .ok (.iconst 1, 1) := by decide +kernel
theorem d61_5 : decode (zB 61) 5 = .ok (.if_icmp .eq 11, 3) := by decide +kernel
theorem d61_8 : decode (zB 61) 8 = .ok (.aload_n 0, 1) := by decide +kernel
theorem d61_9 : decode (zB 61) 9 = .ok (.getfield 9, 3) := by decide +kernel
theorem d61_12 : decode (zB 61) 12 = .ok (.iconst 2, 1) := by decide +kernel
theorem d61_13 : decode (zB 61) 13 = .ok (.if_icmp .ne 7, 3) := by decide +kernel
theorem d61_16 : decode (zB 61) 16 = .ok (.iconst 1, 1) := by decide +kernel
theorem d61_17 : decode (zB 61) 17 = .ok (.goto 4, 3) := by decide +kernel
theorem d61_20 : decode (zB 61) 20 = .ok (.iconst 0, 1) := by decide +kernel
theorem d61_21 : decode (zB 61) 21 = .ok (.ireturn, 1) := by decide +kernel
theorem c61 {d : Nat} {M : zM} {Q : Option Value → zM → Prop} {a g : Nat} (hs : SSg M a) (q0 : zi M a 0 = nI g) (hg : g ≤ 5) (k : Q (some (.int (bI (decide (g = 1 ∨ g = 2))))) M) : qC (d + 1) 61 [.ref a] M Q := by
  refine qC_of (by decide) (Nat.le_of_ble_eq_true rfl) ?_
  refine q_aload_n d61_0 rfl ?_
  refine q_getv (c := 5) (f := 0) d61_1 ⟨rfl, by decide⟩ hs.1 q0 ?_
  refine q_iconstN (z := 1) d61_4 ?_
  refine nc_eq 16 d61_5 (by decide) (by omega) (by omega) (fun h5 => ?_) (fun h5 => ?_)
  · refine q_iconstN (z := 1) d61_16 ?_
    refine q_goto 21 d61_17 (by decide) ?_
    refine q_zret d61_21 rfl (by decide) ?_
    exact bK1 k (decide_eq_true (by omega))
  · refine q_aload_n d61_8 rfl ?_
    refine q_getv (c := 5) (f := 0) d61_9 ⟨rfl, by decide⟩ hs.1 q0 ?_
    refine q_iconstN (z := 2) d61_12 ?_
    refine nc_ne 20 d61_13 (by decide) (by omega) (by omega) (fun h13 => ?_) (fun h13 => ?_)
    · refine q_iconstN (z := 0) d61_20 ?_
      refine q_zret d61_21 rfl (by decide) ?_
      exact bK0 k (decide_eq_false (by omega))
    · refine q_iconstN (z := 1) d61_16 ?_
      refine q_goto 21 d61_17 (by decide) ?_
      refine q_zret d61_21 rfl (by decide) ?_
      exact bK1 k (decide_eq_true (by omega))
theorem d104_0 : decode (zB 104) 0 = .ok (.aload_n 0, 1) := by decide +kernel
theorem d104_1 : decode (zB 104) 1 = .ok (.getfield 9, 3) := by decide +kernel
theorem d104_4 : decode (zB 104) 4 = .ok (.iconst 3, 1) := by decide +kernel
theorem d104_5 : decode (zB 104) 5 = .ok (.if_icmp .eq 19, 3) := by decide +kernel
theorem d104_8 : decode (zB 104) 8 = .ok (.aload_n 0, 1) := by decide +kernel
theorem d104_9 : decode (zB 104) 9 = .ok (.getfield 9, 3) := by decide +kernel
theorem d104_12 : decode (zB 104) 12 = .ok (.iconst 4, 1) := by decide +kernel
theorem d104_13 : decode (zB 104) 13 = .ok (.if_icmp .eq 11, 3) := by decide +kernel
theorem d104_16 : decode (zB 104) 16 = .ok (.aload_n 0, 1) := by decide +kernel
theorem d104_17 : decode (zB 104) 17 = .ok (.getfield 9, 3) := by decide +kernel
theorem d104_20 : decode (zB 104) 20 = .ok (.iconst 5, 1) := by decide +kernel
theorem d104_21 : decode (zB 104) 21 = .ok (.if_icmp .ne 7, 3) := by decide +kernel
theorem d104_24 : decode (zB 104) 24 = .ok (.iconst 1, 1) := by decide +kernel
theorem d104_25 : decode (zB 104) 25 = .ok (.goto 4, 3) := by decide +kernel
theorem d104_28 : decode (zB 104) 28 = .ok (.iconst 0, 1) := by decide +kernel
theorem d104_29 : decode (zB 104) 29 = .ok (.ireturn, 1) := by decide +kernel
theorem c104 {d : Nat} {M : zM} {Q : Option Value → zM → Prop} {a g : Nat} (hs : SSg M a) (q0 : zi M a 0 = nI g) (hg : g ≤ 5) (k : Q (some (.int (bI (decide (3 ≤ g))))) M) : qC (d + 1) 104 [.ref a] M Q := by
  refine qC_of (by decide) (Nat.le_of_ble_eq_true rfl) ?_
  refine q_aload_n d104_0 rfl ?_
  refine q_getv (c := 5) (f := 0) d104_1 ⟨rfl, by decide⟩ hs.1 q0 ?_
  refine q_iconstN (z := 3) d104_4 ?_
  refine nc_eq 24 d104_5 (by decide) (by omega) (by omega) (fun h5 => ?_) (fun h5 => ?_)
  · refine q_iconstN (z := 1) d104_24 ?_
    refine q_goto 29 d104_25 (by decide) ?_
    refine q_zret d104_29 rfl (by decide) ?_
    exact bK1 k (decide_eq_true (by omega))
  · refine q_aload_n d104_8 rfl ?_
    refine q_getv (c := 5) (f := 0) d104_9 ⟨rfl, by decide⟩ hs.1 q0 ?_
    refine q_iconstN (z := 4) d104_12 ?_
    refine nc_eq 24 d104_13 (by decide) (by omega) (by omega) (fun h13 => ?_) (fun h13 => ?_)
    · refine q_iconstN (z := 1) d104_24 ?_
      refine q_goto 29 d104_25 (by decide) ?_
      refine q_zret d104_29 rfl (by decide) ?_
      exact bK1 k (decide_eq_true (by omega))
    · refine q_aload_n d104_16 rfl ?_
      refine q_getv (c := 5) (f := 0) d104_17 ⟨rfl, by decide⟩ hs.1 q0 ?_
      refine q_iconstN (z := 5) d104_20 ?_
      refine nc_ne 28 d104_21 (by decide) (by omega) (by omega) (fun h21 => ?_) (fun h21 => ?_)
      · refine q_iconstN (z := 0) d104_28 ?_
        refine q_zret d104_29 rfl (by decide) ?_
        exact bK0 k (decide_eq_false (by omega))
      · refine q_iconstN (z := 1) d104_24 ?_
        refine q_goto 29 d104_25 (by decide) ?_
        refine q_zret d104_29 rfl (by decide) ?_
        exact bK1 k (decide_eq_true (by omega))
theorem d80_0 : decode (zB 80) 0 = .ok (.aload_n 0, 1) := by decide +kernel
theorem d80_1 : decode (zB 80) 1 = .ok (.getfield 40, 3) := by decide +kernel
theorem d80_4 : decode (zB 80) 4 = .ok (.ifnull 21, 3) := by decide +kernel
theorem d80_7 : decode (zB 80) 7 = .ok (.aload_n 0, 1) := by decide +kernel
theorem d80_8 : decode (zB 80) 8 = .ok (.getfield 44, 3) := by decide +kernel
theorem d80_11 : decode (zB 80) 11 = .ok (.aload_n 0, 1) := by decide +kernel
theorem d80_12 : decode (zB 80) 12 = .ok (.getfield 40, 3) := by decide +kernel
theorem d80_15 : decode (zB 80) 15 = .ok (.invokevirtual 88, 3) := by decide +kernel
theorem d80_18 : decode (zB 80) 18 = .ok (.if_icmp .ne 7, 3) := by decide +kernel
theorem d80_21 : decode (zB 80) 21 = .ok (.iconst 1, 1) := by decide +kernel
theorem d80_22 : decode (zB 80) 22 = .ok (.goto 4, 3) := by decide +kernel
theorem d80_25 : decode (zB 80) 25 = .ok (.iconst 0, 1) := by decide +kernel
theorem d80_26 : decode (zB 80) 26 = .ok (.ireturn, 1) := by decide +kernel
theorem c80 {d : Nat} {M : zM} {Q : Option Value → zM → Prop} {a b dm : Nat} {T : yT} (hs : SSg M a) (q2 : zr M a 2 = some b) (hp : SPr M b) (hr : RP M b T) (hn : tn T ≤ 12) (q3 : zi M a 3 = nI dm) (hd : dm < 4096) (k : Q (some (.int (bI (decide (dm = 2 ^ tn T - 1))))) M) : qC (d + 2) 80 [.ref a] M Q := by
  refine qC_of (by decide) (Nat.le_of_ble_eq_true rfl) ?_
  refine q_aload_n d80_0 rfl ?_
  refine q_getr (c := 5) (f := 2) d80_1 ⟨rfl, rfl⟩ hs.1 q2 ?_
  refine q_ifnull (r := some _) 25 d80_4 (by decide) (fun q => absurd q (Option.some_ne_none _)) (fun _ => ?_)
  have hz : 2 ^ tn T ≤ 4096 := pow_12 hn
  refine q_aload_n d80_7 rfl ?_
  refine q_getv (c := 5) (f := 3) d80_8 ⟨rfl, by decide⟩ hs.1 q3 ?_
  refine q_aload_n d80_11 rfl ?_
  refine q_getr (c := 5) (f := 2) d80_12 ⟨rfl, rfl⟩ hs.1 q2 ?_
  refine q_v0 d80_15 rfl rfl hp.1 (Nat.le_of_ble_eq_true rfl) (c37 hp hr hn ?_)
  refine nc_ne 25 d80_18 (by decide) (by omega) (by omega) (fun h18 => ?_) (fun h18 => ?_)
  · refine q_iconstN (z := 0) d80_25 ?_
    refine q_zret d80_26 rfl (by decide) ?_
    exact bK0 k (decide_eq_false h18)
  · refine q_iconstN (z := 1) d80_21 ?_
    refine q_goto 26 d80_22 (by decide) ?_
    refine q_zret d80_26 rfl (by decide) ?_
    exact bK1 k (decide_eq_true h18)
theorem d88_0 : decode (zB 88) 0 = .ok (.aload_n 0, 1) := by decide +kernel
theorem d88_1 : decode (zB 88) 1 = .ok (.getfield 40, 3) := by decide +kernel
theorem d88_4 : decode (zB 88) 4 = .ok (.ifnull 21, 3) := by decide +kernel
theorem d88_7 : decode (zB 88) 7 = .ok (.aload_n 0, 1) := by decide +kernel
theorem d88_8 : decode (zB 88) 8 = .ok (.getfield 40, 3) := by decide +kernel
theorem d88_11 : decode (zB 88) 11 = .ok (.aload_n 0, 1) := by decide +kernel
theorem d88_12 : decode (zB 88) 12 = .ok (.getfield 44, 3) := by decide +kernel
theorem d88_15 : decode (zB 88) 15 = .ok (.invokevirtual 92, 3) := by decide +kernel
theorem d88_18 : decode (zB 88) 18 = .ok (.ifCond .eq 7, 3) := by decide +kernel
theorem d88_21 : decode (zB 88) 21 = .ok (.iconst 1, 1) := by decide +kernel
theorem d88_22 : decode (zB 88) 22 = .ok (.goto 4, 3) := by decide +kernel
theorem d88_25 : decode (zB 88) 25 = .ok (.iconst 0, 1) := by decide +kernel
theorem d88_26 : decode (zB 88) 26 = .ok (.ireturn, 1) := by decide +kernel
theorem c88 {d : Nat} {M : zM} {Q : Option Value → zM → Prop} {a b dm : Nat} {T : yT} (hs : SSg M a) (q2 : zr M a 2 = some b) (hp : SPr M b) (hr : RP M b T) (q3 : zi M a 3 = nI dm) (k : Q (some (.int (bI (ypa T dm)))) M) : qC (d + 2) 88 [.ref a] M Q := by
  refine qC_of (by decide) (Nat.le_of_ble_eq_true rfl) ?_
  refine q_aload_n d88_0 rfl ?_
  refine q_getr (c := 5) (f := 2) d88_1 ⟨rfl, rfl⟩ hs.1 q2 ?_
  refine q_ifnull (r := some _) 25 d88_4 (by decide) (fun q => absurd q (Option.some_ne_none _)) (fun _ => ?_)
  refine q_aload_n d88_7 rfl ?_
  refine q_getr (c := 5) (f := 2) d88_8 ⟨rfl, rfl⟩ hs.1 q2 ?_
  refine q_aload_n d88_11 rfl ?_
  refine q_getv (c := 5) (f := 3) d88_12 ⟨rfl, by decide⟩ hs.1 q3 ?_
  refine q_v1 d88_15 rfl rfl hp.1 (Nat.le_of_ble_eq_true rfl) (c77 hp hr ?_)
  refine b0_eq 25 d88_18 (by decide) (fun h18 => ?_) (fun h18 => ?_)
  · refine q_iconstN (z := 0) d88_25 ?_
    refine q_zret d88_26 rfl (by decide) ?_
    exact bK0 k h18
  · refine q_iconstN (z := 1) d88_21 ?_
    refine q_goto 26 d88_22 (by decide) ?_
    refine q_zret d88_26 rfl (by decide) ?_
    exact bK1 k h18
theorem c88n {d : Nat} {M : zM} {Q : Option Value → zM → Prop} {a : Nat} (hs : SSg M a) (q2 : zr M a 2 = none) (k : Q (some (.int (nI 0))) M) : qC (d + 2) 88 [.ref a] M Q := by
  refine qC_of (by decide) (Nat.le_of_ble_eq_true rfl) ?_
  refine q_aload_n d88_0 rfl ?_
  refine q_getr (c := 5) (f := 2) d88_1 ⟨rfl, rfl⟩ hs.1 q2 ?_
  refine q_ifnull (r := none) 25 d88_4 (by decide) (fun _ => ?_) (fun q => absurd rfl q)
  refine q_iconstN (z := 0) d88_25 ?_
  refine q_zret d88_26 rfl (by decide) ?_
  exact k
theorem d109_0 : decode (zB 109) 0 = .ok (.aload_n 0, 1) := by decide +kernel
theorem d109_1 : decode (zB 109) 1 = .ok (.getfield 40, 3) := by decide +kernel
theorem d109_4 : decode (zB 109) 4 = .ok (.ifnonnull 7, 3) := by decide +kernel
theorem d109_7 : decode (zB 109) 7 = .ok (.iconst 0, 1) := by decide +kernel
theorem d109_8 : decode (zB 109) 8 = .ok (.goto 10, 3) := by decide +kernel
theorem d109_11 : decode (zB 109) 11 = .ok (.aload_n 0, 1) := by decide +kernel
theorem d109_12 : decode (zB 109) 12 = .ok (.getfield 40, 3) := by decide +kernel
theorem d109_15 : decode (zB 109) 15 = .ok (.getfield 77, 3) := by decide +kernel
theorem d109_18 : decode (zB 109) 18 = .ok (.ireturn, 1) := by decide +kernel
theorem c109 {d : Nat} {M : zM} {Q : Option Value → zM → Prop} {a b : Nat} {T : yT} (hs : SSg M a) (q2 : zr M a 2 = some b) (hp : SPr M b) (hr : RP M b T) (k : Q (some (.int (nI (tn T)))) M) : qC (d + 1) 109 [.ref a] M Q := by
  refine qC_of (by decide) (Nat.le_of_ble_eq_true rfl) ?_
  refine q_aload_n d109_0 rfl ?_
  refine q_getr (c := 5) (f := 2) d109_1 ⟨rfl, rfl⟩ hs.1 q2 ?_
  refine q_ifnonnull (r := some _) 11 d109_4 (by decide) (fun _ => ?_) (fun q => absurd q (Option.some_ne_none _))
  refine q_aload_n d109_11 rfl ?_
  refine q_getr (c := 5) (f := 2) d109_12 ⟨rfl, rfl⟩ hs.1 q2 ?_
  refine q_getv (c := 1) (f := 6) d109_15 ⟨rfl, by decide⟩ hp.1 hr.1 ?_
  refine q_iret d109_18 rfl ?_
  exact k
theorem c109n {d : Nat} {M : zM} {Q : Option Value → zM → Prop} {a : Nat} (hs : SSg M a) (q2 : zr M a 2 = none) (k : Q (some (.int (nI 0))) M) : qC (d + 1) 109 [.ref a] M Q := by
  refine qC_of (by decide) (Nat.le_of_ble_eq_true rfl) ?_
  refine q_aload_n d109_0 rfl ?_
  refine q_getr (c := 5) (f := 2) d109_1 ⟨rfl, rfl⟩ hs.1 q2 ?_
  refine q_ifnonnull (r := none) 11 d109_4 (by decide) (fun q => absurd rfl q) (fun _ => ?_)
  refine q_iconstN (z := 0) d109_7 ?_
  refine q_goto 18 d109_8 (by decide) ?_
  refine q_iret d109_18 rfl ?_
  exact k
theorem d67_0 : decode (zB 67) 0 = .ok (.aload_n 0, 1) := by decide +kernel
theorem d67_1 : decode (zB 67) 1 = .ok (.getfield 40, 3) := by decide +kernel
theorem d67_4 : decode (zB 67) 4 = .ok (.ifnonnull 13, 3) := by decide +kernel
theorem d67_7 : decode (zB 67) 7 = .ok (.iload_n 1, 1) := by decide +kernel
theorem d67_8 : decode (zB 67) 8 = .ok (.iconst 0, 1) := by decide +kernel
theorem d67_9 : decode (zB 67) 9 = .ok (.bipush 11, 2) := by decide +kernel
theorem d67_11 : decode (zB 67) 11 = .ok (.invokestatic 84, 3) := by decide +kernel
theorem d67_14 : decode (zB 67) 14 = .ok (.goto 11, 3) := by decide +kernel
theorem d67_17 : decode (zB 67) 17 = .ok (.aload_n 0, 1) := by decide +kernel
theorem d67_18 : decode (zB 67) 18 = .ok (.getfield 40, 3) := by decide +kernel
theorem d67_21 : decode (zB 67) 21 = .ok (.iload_n 1, 1) := by decide +kernel
theorem d67_22 : decode (zB 67) 22 = .ok (.invokevirtual 80, 3) := by decide +kernel
theorem d67_25 : decode (zB 67) 25 = .ok (.ireturn, 1) := by decide +kernel
theorem c67 {d : Nat} {M : zM} {Q : Option Value → zM → Prop} {a b : Nat} {T : yT} {x : Int32} (hs : SSg M a) (q2 : zr M a 2 = some b) (hp : SPr M b) (hr : RP M b T) (hn : tn T ≤ 12) (k : Q (some (.int (bI (zix x (tn T)).isSome))) M) : qC (d + 2) 67 [.ref a, .int x] M Q := by
  refine qC_of (by decide) (Nat.le_of_ble_eq_true rfl) ?_
  refine q_aload_n d67_0 rfl ?_
  refine q_getr (c := 5) (f := 2) d67_1 ⟨rfl, rfl⟩ hs.1 q2 ?_
  refine q_ifnonnull (r := some _) 17 d67_4 (by decide) (fun _ => ?_) (fun q => absurd q (Option.some_ne_none _))
  refine q_aload_n d67_17 rfl ?_
  refine q_getr (c := 5) (f := 2) d67_18 ⟨rfl, rfl⟩ hs.1 q2 ?_
  refine q_iload_n d67_21 rfl ?_
  refine q_v1 d67_22 rfl rfl hp.1 (Nat.le_of_ble_eq_true rfl) (c47 hp hr hn ?_)
  refine b_ret d67_25 rfl ?_
  exact k
theorem c67n {d : Nat} {M : zM} {Q : Option Value → zM → Prop} {a : Nat} {x : Int32} (hs : SSg M a) (q2 : zr M a 2 = none) (k : Q (some (.int (bI (zix x 12).isSome))) M) : qC (d + 2) 67 [.ref a, .int x] M Q := by
  refine qC_of (by decide) (Nat.le_of_ble_eq_true rfl) ?_
  refine q_aload_n d67_0 rfl ?_
  refine q_getr (c := 5) (f := 2) d67_1 ⟨rfl, rfl⟩ hs.1 q2 ?_
  refine q_ifnonnull (r := none) 17 d67_4 (by decide) (fun q => absurd rfl q) (fun _ => ?_)
  refine q_iload_n d67_7 rfl ?_
  refine q_iconstN (z := 0) d67_8 ?_
  refine q_bipush (x := nI 11) d67_9 rfl ?_
  refine q_s3 d67_11 (Or.inr rfl) rfl (Nat.le_of_ble_eq_true rfl) (c10z (by omega) ?_)
  refine q_goto 25 d67_14 (by decide) ?_
  refine b_ret d67_25 rfl ?_
  exact k
theorem d115_0 : decode (zB 115) 0 = .ok (.aload_n 0, 1) := by decide +kernel
theorem d115_1 : decode (zB 115) 1 = .ok (.getfield 40, 3) := by decide +kernel
theorem d115_4 : decode (zB 115) 4 = .ok (.ifnull 18, 3) := by decide +kernel
theorem d115_7 : decode (zB 115) 7 = .ok (.aload_n 0, 1) := by decide +kernel
theorem d115_8 : decode (zB 115) 8 = .ok (.getfield 40, 3) := by decide +kernel
theorem d115_11 : decode (zB 115) 11 = .ok (.iload_n 1, 1) := by decide +kernel
theorem d115_12 : decode (zB 115) 12 = .ok (.invokevirtual 80, 3) := by decide +kernel
theorem d115_15 : decode (zB 115) 15 = .ok (.ifCond .eq 7, 3) := by decide +kernel
theorem d115_18 : decode (zB 115) 18 = .ok (.iconst 1, 1) := by decide +kernel
theorem d115_19 : decode (zB 115) 19 = .ok (.goto 4, 3) := by decide +kernel
theorem d115_22 : decode (zB 115) 22 = .ok (.iconst 0, 1) := by decide +kernel
theorem d115_23 : decode (zB 115) 23 = .ok (.ireturn, 1) := by decide +kernel
theorem c115 {d : Nat} {M : zM} {Q : Option Value → zM → Prop} {a b : Nat} {T : yT} {x : Int32} (hs : SSg M a) (q2 : zr M a 2 = some b) (hp : SPr M b) (hr : RP M b T) (hn : tn T ≤ 12) (k : Q (some (.int (bI (zix x (tn T)).isSome))) M) : qC (d + 2) 115 [.ref a, .int x] M Q := by
  refine qC_of (by decide) (Nat.le_of_ble_eq_true rfl) ?_
  refine q_aload_n d115_0 rfl ?_
  refine q_getr (c := 5) (f := 2) d115_1 ⟨rfl, rfl⟩ hs.1 q2 ?_
  refine q_ifnull (r := some _) 22 d115_4 (by decide) (fun q => absurd q (Option.some_ne_none _)) (fun _ => ?_)
  refine q_aload_n d115_7 rfl ?_
  refine q_getr (c := 5) (f := 2) d115_8 ⟨rfl, rfl⟩ hs.1 q2 ?_
  refine q_iload_n d115_11 rfl ?_
  refine q_v1 d115_12 rfl rfl hp.1 (Nat.le_of_ble_eq_true rfl) (c47 hp hr hn ?_)
  refine b0_eq 22 d115_15 (by decide) (fun h15 => ?_) (fun h15 => ?_)
  · refine q_iconstN (z := 0) d115_22 ?_
    refine q_zret d115_23 rfl (by decide) ?_
    exact bK0 k h15
  · refine q_iconstN (z := 1) d115_18 ?_
    refine q_goto 23 d115_19 (by decide) ?_
    refine q_zret d115_23 rfl (by decide) ?_
    exact bK1 k h15
theorem front_eq {T : yT} {S : yS} (h3 : ∀ i, gd S i ≤ 3) (hn : tn T ≤ 12) : zdf (zdf (ynx T (gm S 1)) (gm S 2)) (gm S 3) = yfr T S := by
  apply ymk_is
  intro i
  rw [zdf_bit, zdf_bit, gm_bit, gm_bit]
  unfold ynx
  rw [ymk_bit, gm_bit]
  have h := h3 i
  by_cases hi : i < tn T
  · have : i < 12 := by omega
    rw [decide_eq_true hi, decide_eq_true this]
    rcases (show gd S i = 0 ∨ gd S i = 1 ∨ gd S i = 2 ∨ gd S i = 3 by omega) with e | e | e | e <;> rw [e] <;> cases (zdf (ta T i) (gm S 1) == 0) <;> rfl
  · rw [decide_eq_false hi]; rfl
theorem d71_0 : decode (zB 71) 0 = .ok (.aload_n 0, 1) := by decide +kernel
theorem d71_1 : decode (zB 71) 1 = .ok (.getfield 40, 3) := by decide +kernel
theorem d71_4 : decode (zB 71) 4 = .ok (.ifnull 11, 3) := by decide +kernel
theorem d71_7 : decode (zB 71) 7 = .ok (.aload_n 0, 1) := by decide +kernel
theorem d71_8 : decode (zB 71) 8 = .ok (.getfield 9, 3) := by decide +kernel
theorem d71_11 : decode (zB 71) 11 = .ok (.iconst 1, 1) := by decide +kernel
theorem d71_12 : decode (zB 71) 12 = .ok (.if_icmp .eq 5, 3) := by decide +kernel
theorem d71_15 : decode (zB 71) 15 = .ok (.iconst 0, 1) := by decide +kernel
theorem d71_16 : decode (zB 71) 16 = .ok (.ireturn, 1) := by decide +kernel
theorem d71_17 : decode (zB 71) 17 = .ok (.aload_n 0, 1) := by decide +kernel
theorem d71_18 : decode (zB 71) 18 = .ok (.getfield 40, 3) := by decide +kernel
theorem d71_21 : decode (zB 71) 21 = .ok (.aload_n 0, 1) := by decide +kernel
theorem d71_22 : decode (zB 71) 22 = .ok (.getfield 44, 3) := by decide +kernel
theorem d71_25 : decode (zB 71) 25 = .ok (.invokevirtual 95, 3) := by decide +kernel
theorem d71_28 : decode (zB 71) 28 = .ok (.aload_n 0, 1) := by decide +kernel
theorem d71_29 : decode (zB 71) 29 = .ok (.getfield 47, 3) := by decide +kernel
theorem d71_32 : decode (zB 71) 32 = .ok (.iconst (-1), 1) := by decide +kernel
theorem d71_33 : decode (zB 71) 33 = .ok (.ixor, 1) := by decide +kernel
theorem d71_34 : decode (zB 71) 34 = .ok (.iand, 1) := by decide +kernel
theorem d71_35 : decode (zB 71) 35 = .ok (.aload_n 0, 1) := by decide +kernel
theorem d71_36 : decode (zB 71) 36 = .ok (.getfield 50, 3) := by decide +kernel
theorem d71_39 : decode (zB 71) 39 = .ok (.iconst (-1), 1) := by decide +kernel
theorem d71_40 : decode (zB 71) 40 = .ok (.ixor, 1) := by decide +kernel
theorem d71_41 : decode (zB 71) 41 = .ok (.iand, 1) := by decide +kernel
theorem d71_42 : decode (zB 71) 42 = .ok (.ireturn, 1) := by decide +kernel
theorem c71 {d : Nat} {M : zM} {Q : Option Value → zM → Prop} {a b : Nat} {T : yT} {S : yS} (hs : SSg M a) (q2 : zr M a 2 = some b) (hp : SPr M b) (hr : RP M b T) (ho : OKT T) (h3 : ∀ i, gd S i ≤ 3) (q0 : zi M a 0 = nI (gt S)) (hg : gt S ≤ 5) (q3 : zi M a 3 = nI (gm S 1)) (q4 : zi M a 4 = nI (gm S 2)) (q5 : zi M a 5 = nI (gm S 3)) (k : Q (some (.int (nI (if gt S = 1 then yfr T S else 0)))) M) : qC (d + 3) 71 [.ref a] M Q := by
  refine qC_of (by decide) (Nat.le_of_ble_eq_true rfl) ?_
  refine q_aload_n d71_0 rfl ?_
  refine q_getr (c := 5) (f := 2) d71_1 ⟨rfl, rfl⟩ hs.1 q2 ?_
  refine q_ifnull (r := some _) 15 d71_4 (by decide) (fun q => absurd q (Option.some_ne_none _)) (fun _ => ?_)
  refine q_aload_n d71_7 rfl ?_
  refine q_getv (c := 5) (f := 0) d71_8 ⟨rfl, by decide⟩ hs.1 q0 ?_
  refine q_iconstN (z := 1) d71_11 ?_
  refine nc_eq 17 d71_12 (by decide) (by omega) (by omega) (fun h12 => ?_) (fun h12 => ?_)
  · refine q_aload_n d71_17 rfl ?_
    refine q_getr (c := 5) (f := 2) d71_18 ⟨rfl, rfl⟩ hs.1 q2 ?_
    refine q_aload_n d71_21 rfl ?_
    refine q_getv (c := 5) (f := 3) d71_22 ⟨rfl, by decide⟩ hs.1 q3 ?_
    refine q_v1 d71_25 rfl rfl hp.1 (Nat.le_of_ble_eq_true rfl) (c44 hp hr ho (gm_lt S 1) ?_)
    refine q_aload_n d71_28 rfl ?_
    refine q_getv (c := 5) (f := 4) d71_29 ⟨rfl, by decide⟩ hs.1 q4 ?_
    refine q_iconst (x := (-1)) d71_32 rfl ?_
    refine q_ixor d71_33 ?_
    refine n_iandn d71_34 ?_
    refine q_aload_n d71_35 rfl ?_
    refine q_getv (c := 5) (f := 5) d71_36 ⟨rfl, by decide⟩ hs.1 q5 ?_
    refine q_iconst (x := (-1)) d71_39 rfl ?_
    refine q_ixor d71_40 ?_
    refine n_iandn d71_41 ?_
    refine q_iret d71_42 rfl ?_
    refine nK k ?_; rw [if_pos h12, front_eq h3 ho.n]
  · refine q_iconstN (z := 0) d71_15 ?_
    refine q_iret d71_16 rfl ?_
    refine nK k ?_; rw [if_neg h12]
theorem c71n {d : Nat} {M : zM} {Q : Option Value → zM → Prop} {a : Nat} (hs : SSg M a) (q2 : zr M a 2 = none) (k : Q (some (.int (nI 0))) M) : qC (d + 3) 71 [.ref a] M Q := by
  refine qC_of (by decide) (Nat.le_of_ble_eq_true rfl) ?_
  refine q_aload_n d71_0 rfl ?_
  refine q_getr (c := 5) (f := 2) d71_1 ⟨rfl, rfl⟩ hs.1 q2 ?_
  refine q_ifnull (r := none) 15 d71_4 (by decide) (fun _ => ?_) (fun q => absurd rfl q)
  refine q_iconstN (z := 0) d71_15 ?_
  refine q_iret d71_16 rfl ?_
  exact k
def ylast (l : List Nat) : Int32 := match l with
  | [] => -1
  | i :: _ => nI i
theorem d82_0 : decode (zB 82) 0 = .ok (.aload_n 0, 1) := by decide +kernel
theorem d82_1 : decode (zB 82) 1 = .ok (.getfield 53, 3) := by decide +kernel
theorem d82_4 : decode (zB 82) 4 = .ok (.ifCond .le 26, 3) := by decide +kernel
theorem d82_7 : decode (zB 82) 7 = .ok (.aload_n 0, 1) := by decide +kernel
theorem d82_8 : decode (zB 82) 8 = .ok (.getfield 53, 3) := by decide +kernel
theorem d82_11 : decode (zB 82) 11 = .ok (.bipush 12, 2) := by decide +kernel
theorem d82_13 : decode (zB 82) 13 = .ok (.if_icmp .gt 17, 3) := by decide +kernel
theorem d82_16 : decode (zB 82) 16 = .ok (.aload_n 0, 1) := by decide +kernel
theorem d82_17 : decode (zB 82) 17 = .ok (.getfield 18, 3) := by decide +kernel
theorem d82_20 : decode (zB 82) 20 = .ok (.aload_n 0, 1) := by decide +kernel
theorem d82_21 : decode (zB 82) 21 = .ok (.getfield 53, 3) := by decide +kernel
theorem d82_24 : decode (zB 82) 24 = .ok (.iconst 1, 1) := by decide +kernel
theorem d82_25 : decode (zB 82) 25 = .ok (.isub, 1) := by decide +kernel
theorem d82_26 : decode (zB 82) 26 = .ok (.iaload, 1) := by decide +kernel
theorem d82_27 : decode (zB 82) 27 = .ok (.goto 4, 3) := by decide +kernel
theorem d82_30 : decode (zB 82) 30 = .ok (.iconst (-1), 1) := by decide +kernel
theorem d82_31 : decode (zB 82) 31 = .ok (.ireturn, 1) := by decide +kernel
theorem c82 {d : Nat} {M : zM} {Q : Option Value → zM → Prop} {a : Nat} {l : List Nat} (hs : SSg M a) (q7 : zi M a 7 = nI l.length) (hl : l.length ≤ 12) (q8 : ∀ k, k < l.length → zi M (a + 1) k = nI (l.getD (l.length - 1 - k) 0)) (k : Q (some (.int (ylast l))) M) : qC (d + 1) 82 [.ref a] M Q := by
  refine qC_of (by decide) (Nat.le_of_ble_eq_true rfl) ?_
  refine q_aload_n d82_0 rfl ?_
  refine q_getv (c := 5) (f := 7) d82_1 ⟨rfl, by decide⟩ hs.1 q7 ?_
  refine n0_le 30 d82_4 (by decide) (by omega) (fun h4 => ?_) (fun h4 => ?_)
  · refine q_iconst (x := (-1)) d82_30 rfl ?_
    refine q_iret d82_31 rfl ?_
    cases l with
    | nil => first | exact k | (exact absurd h4 (by simp))
    | cons i t => first | (refine nK k ?_; show nI _ = nI i; rw [show (i :: t).length - 1 - ((i :: t).length - 1) = 0 by omega]; rfl) | exact absurd h4 (by simp)
  · refine q_aload_n d82_7 rfl ?_
    refine q_getv (c := 5) (f := 7) d82_8 ⟨rfl, by decide⟩ hs.1 q7 ?_
    refine q_bipush (x := nI 12) d82_11 rfl ?_
    refine nc_gt 30 d82_13 (by decide) (by omega) (by omega) (fun h13 => (False.elim (by omega))) (fun h13 => ?_)
    refine q_aload_n d82_16 rfl ?_
    refine q_getr (c := 5) (f := 6) d82_17 ⟨rfl, rfl⟩ hs.1 hs.2.1 ?_
    refine q_aload_n d82_20 rfl ?_
    refine q_getv (c := 5) (f := 7) d82_21 ⟨rfl, by decide⟩ hs.1 q7 ?_
    refine q_iconstN (z := 1) d82_24 ?_
    refine n_isub d82_25 (by omega) ?_
    refine n_iald d82_26 (hs.2.2.2 0 (by decide)) (by omega) (by decide) (q8 _ (by omega)) ?_
    refine q_goto 31 d82_27 (by decide) ?_
    refine q_iret d82_31 rfl ?_
    cases l with
    | nil => first | exact k | (exact absurd h4 (by simp))
    | cons i t => first | (refine nK k ?_; show nI _ = nI i; rw [show (i :: t).length - 1 - ((i :: t).length - 1) = 0 by omega]; rfl) | exact absurd h4 (by simp)
theorem d73_0 : decode (zB 73) 0 = .ok (.iload_n 1, 1) := by decide +kernel
theorem d73_1 : decode (zB 73) 1 = .ok (.ifCond .lt 9, 3) := by decide +kernel
theorem d73_4 : decode (zB 73) 4 = .ok (.iload_n 1, 1) := by decide +kernel
theorem d73_5 : decode (zB 73) 5 = .ok (.bipush 12, 2) := by decide +kernel
theorem d73_7 : decode (zB 73) 7 = .ok (.if_icmp .lt 5, 3) := by decide +kernel
theorem d73_10 : decode (zB 73) 10 = .ok (.iconst 0, 1) := by decide +kernel
theorem d73_11 : decode (zB 73) 11 = .ok (.ireturn, 1) := by decide +kernel
theorem d73_12 : decode (zB 73) 12 = .ok (.iload_n 2, 1) := by decide +kernel
theorem d73_13 : decode (zB 73) 13 = .ok (.iconst 1, 1) := by decide +kernel
theorem d73_14 : decode (zB 73) 14 = .ok (.if_icmp .ne 12, 3) := by decide +kernel
theorem d73_17 : decode (zB 73) 17 = .ok (.aload_n 0, 1) := by decide +kernel
theorem d73_18 : decode (zB 73) 18 = .ok (.getfield 22, 3) := by decide +kernel
theorem d73_21 : decode (zB 73) 21 = .ok (.iload_n 1, 1) := by decide +kernel
theorem d73_22 : decode (zB 73) 22 = .ok (.iaload, 1) := by decide +kernel
theorem d73_23 : decode (zB 73) 23 = .ok (.goto 9, 3) := by decide +kernel
theorem d73_26 : decode (zB 73) 26 = .ok (.aload_n 0, 1) := by decide +kernel
theorem d73_27 : decode (zB 73) 27 = .ok (.getfield 25, 3) := by decide +kernel
theorem d73_30 : decode (zB 73) 30 = .ok (.iload_n 1, 1) := by decide +kernel
theorem d73_31 : decode (zB 73) 31 = .ok (.iaload, 1) := by decide +kernel
theorem d73_32 : decode (zB 73) 32 = .ok (.ireturn, 1) := by decide +kernel
theorem c73 {d : Nat} {M : zM} {Q : Option Value → zM → Prop} {a i : Nat} {n : Int32} (hs : SSg M a) (hi : i < 12) (q9 : zi M (a + 2) i = n) (k : Q (some (.int n)) M) : qC (d + 1) 73 [.ref a, .int (nI i), .int (nI 1)] M Q := by
  refine qC_of (by decide) (Nat.le_of_ble_eq_true rfl) ?_
  refine q_iload_n d73_0 rfl ?_
  refine n0_lt 10 d73_1 (by decide) (by omega) (fun q => absurd q (Nat.not_lt_zero _)) (fun _ => ?_)
  refine q_iload_n d73_4 rfl ?_
  refine q_bipush (x := nI 12) d73_5 rfl ?_
  refine nc_lt 12 d73_7 (by decide) (by omega) (by omega) (fun h7 => ?_) (fun h7 => (False.elim (by omega)))
  refine q_iload_n d73_12 rfl ?_
  refine q_iconstN (z := 1) d73_13 ?_
  refine nc_ne 26 d73_14 (by decide) (by omega) (by omega) (fun h14 => (False.elim (by omega))) (fun h14 => ?_)
  refine q_aload_n d73_17 rfl ?_
  refine q_getr (c := 5) (f := 8) d73_18 ⟨rfl, rfl⟩ hs.1 (hs.2.2.1 0 (by decide)) ?_
  refine q_iload_n d73_21 rfl ?_
  refine n_iald d73_22 (hs.2.2.2 1 (by decide)) (by omega) (by decide) q9 ?_
  refine q_goto 32 d73_23 (by decide) ?_
  refine q_iret d73_32 rfl ?_
  exact k
theorem c73b {d : Nat} {M : zM} {Q : Option Value → zM → Prop} {a i : Nat} {n : Int32} (hs : SSg M a) (hi : i < 12) (qa : zi M (a + 3) i = n) (k : Q (some (.int n)) M) : qC (d + 1) 73 [.ref a, .int (nI i), .int (-1)] M Q := by
  refine qC_of (by decide) (Nat.le_of_ble_eq_true rfl) ?_
  refine q_iload_n d73_0 rfl ?_
  refine n0_lt 10 d73_1 (by decide) (by omega) (fun q => absurd q (Nat.not_lt_zero _)) (fun _ => ?_)
  refine q_iload_n d73_4 rfl ?_
  refine q_bipush (x := nI 12) d73_5 rfl ?_
  refine nc_lt 12 d73_7 (by decide) (by omega) (by omega) (fun h7 => ?_) (fun h7 => (False.elim (by omega)))
  refine q_iload_n d73_12 rfl ?_
  refine q_iconstN (z := 1) d73_13 ?_
  refine ic_ne 26 d73_14 (by decide) (fun h14 => ?_) (fun h14 => (False.elim (absurd h14 (by decide))))
  refine q_aload_n d73_26 rfl ?_
  refine q_getr (c := 5) (f := 9) d73_27 ⟨rfl, rfl⟩ hs.1 (hs.2.2.1 1 (by decide)) ?_
  refine q_iload_n d73_30 rfl ?_
  refine n_iald d73_31 (hs.2.2.2 2 (by decide)) (by omega) (by decide) qa ?_
  refine q_iret d73_32 rfl ?_
  exact k
theorem ysd_t {p : Nat → Int32} {i : Nat} (h : 0 < p i) : ysd p i = yu p i (p i - 1) := if_pos (decide_eq_true h)
theorem ysd_f {p : Nat → Int32} {i : Nat} (h : ¬ 0 < p i) : ysd p i = p := if_neg (by unfold ypl; simp [h])
theorem d74_0 : decode (zB 74) 0 = .ok (.iload_n 1, 1) := by decide +kernel
theorem d74_1 : decode (zB 74) 1 = .ok (.ifCond .lt 15, 3) := by decide +kernel
theorem d74_4 : decode (zB 74) 4 = .ok (.iload_n 1, 1) := by decide +kernel
theorem d74_5 : decode (zB 74) 5 = .ok (.aload_n 0, 1) := by decide +kernel
theorem d74_6 : decode (zB 74) 6 = .ok (.arraylength, 1) := by decide +kernel
theorem d74_7 : decode (zB 74) 7 = .ok (.if_icmp .ge 9, 3) := by decide +kernel
theorem d74_10 : decode (zB 74) 10 = .ok (.aload_n 0, 1) := by decide +kernel
theorem d74_11 : decode (zB 74) 11 = .ok (.iload_n 1, 1) := by decide +kernel
theorem d74_12 : decode (zB 74) 12 = .ok (.iaload, 1) := by decide +kernel
theorem d74_13 : decode (zB 74) 13 = .ok (.ifCond .gt 5, 3) := by decide +kernel
theorem d74_16 : decode (zB 74) 16 = .ok (.iconst 0, 1) := by decide +kernel
theorem d74_17 : decode (zB 74) 17 = .ok (.ireturn, 1) := by decide +kernel
theorem d74_18 : decode (zB 74) 18 = .ok (.aload_n 0, 1) := by decide +kernel
theorem d74_19 : decode (zB 74) 19 = .ok (.iload_n 1, 1) := by decide +kernel
theorem d74_20 : decode (zB 74) 20 = .ok (.dup2, 1) := by decide +kernel
theorem d74_21 : decode (zB 74) 21 = .ok (.iaload, 1) := by decide +kernel
theorem d74_22 : decode (zB 74) 22 = .ok (.iconst 1, 1) := by decide +kernel
theorem d74_23 : decode (zB 74) 23 = .ok (.isub, 1) := by decide +kernel
theorem d74_24 : decode (zB 74) 24 = .ok (.iastore, 1) := by decide +kernel
theorem d74_25 : decode (zB 74) 25 = .ok (.iconst 1, 1) := by decide +kernel
theorem d74_26 : decode (zB 74) 26 = .ok (.ireturn, 1) := by decide +kernel
theorem c74 {d : Nat} {M : zM} {Q : Option Value → zM → Prop} {b i : Nat} {p : Nat → Int32} (hk : zk M b = (20, 12)) (hi : i < 12) (hp : ∀ j, j < 12 → zi M b j = p j) (k : ∀ M', (∀ j, j < 12 → zi M' b j = ysd p i j) → Fi (fun a _ => a = b) M M' → Q (some (.int (bI (ypl p i)))) M') : qC (d + 1) 74 [.ref b, .int (nI i)] M Q := by
  refine qC_of (by decide) (Nat.le_of_ble_eq_true rfl) ?_
  refine q_iload_n d74_0 rfl ?_
  refine n0_lt 16 d74_1 (by decide) (by omega) (fun q => absurd q (Nat.not_lt_zero _)) (fun _ => ?_)
  refine q_iload_n d74_4 rfl ?_
  refine q_aload_n d74_5 rfl ?_
  refine n_alen d74_6 (Or.inl hk) ?_
  refine nc_ge 16 d74_7 (by decide) (by omega) (by omega) (fun h7 => (False.elim (by omega))) (fun h7 => ?_)
  refine q_aload_n d74_10 rfl ?_
  refine q_iload_n d74_11 rfl ?_
  refine n_iald d74_12 hk (by omega) (by decide) (hp _ hi) ?_
  refine i0_gt 18 d74_13 (by decide) (fun h13 => ?_) (fun h13 => ?_)
  · refine q_aload_n d74_18 rfl ?_
    refine q_iload_n d74_19 rfl ?_
    refine q_dup2 d74_20 rfl rfl ?_
    refine n_iald d74_21 hk (by omega) (by decide) (hp _ hi) ?_
    refine q_iconst (x := (1)) d74_22 rfl ?_
    refine q_isub d74_23 ?_
    refine n_iast d74_24 hk (by omega) (by decide) ?_
    refine q_iconstN (z := 1) d74_25 ?_
    refine q_iret d74_26 rfl ?_
    refine bK1 (k _ (fun j hj => ?_) ((Fi.refl _ _).wi rfl)) (decide_eq_true h13)
    rw [ysd_t h13]
    by_cases e : j = i
    · subst e; rw [wi_s, yu_s]
    · rw [wi_n (Or.inr e), yu_n e]; exact hp j hj
  · refine q_iconstN (z := 0) d74_16 ?_
    refine q_iret d74_17 rfl ?_
    exact bK0 (k _ (fun j hj => by rw [ysd_f h13]; exact hp j hj) (Fi.refl _ _)) (decide_eq_false h13)
theorem d78_0 : decode (zB 78) 0 = .ok (.iload_n 1, 1) := by decide +kernel
theorem d78_1 : decode (zB 78) 1 = .ok (.ifCond .lt 23, 3) := by decide +kernel
theorem d78_4 : decode (zB 78) 4 = .ok (.iload_n 1, 1) := by decide +kernel
theorem d78_5 : decode (zB 78) 5 = .ok (.bipush 12, 2) := by decide +kernel
theorem d78_7 : decode (zB 78) 7 = .ok (.if_icmp .ge 17, 3) := by decide +kernel
theorem d78_10 : decode (zB 78) 10 = .ok (.aload_n 0, 1) := by decide +kernel
theorem d78_11 : decode (zB 78) 11 = .ok (.getfield 34, 3) := by decide +kernel
theorem d78_14 : decode (zB 78) 14 = .ok (.iload_n 1, 1) := by decide +kernel
theorem d78_15 : decode (zB 78) 15 = .ok (.iaload, 1) := by decide +kernel
theorem d78_16 : decode (zB 78) 16 = .ok (.iconst 3, 1) := by decide +kernel
theorem d78_17 : decode (zB 78) 17 = .ok (.if_icmp .lt 7, 3) := by decide +kernel
theorem d78_20 : decode (zB 78) 20 = .ok (.iconst 1, 1) := by decide +kernel
theorem d78_21 : decode (zB 78) 21 = .ok (.goto 4, 3) := by decide +kernel
theorem d78_24 : decode (zB 78) 24 = .ok (.iconst 0, 1) := by decide +kernel
theorem d78_25 : decode (zB 78) 25 = .ok (.ireturn, 1) := by decide +kernel
theorem c78 {d : Nat} {M : zM} {Q : Option Value → zM → Prop} {a i : Nat} {x : Int32} (hs : SSg M a) (hi : i < 12) (qf : zi M (a + 6) i = x) (k : Q (some (.int (bI (decide (¬ x < nI 3))))) M) : qC (d + 1) 78 [.ref a, .int (nI i)] M Q := by
  refine qC_of (by decide) (Nat.le_of_ble_eq_true rfl) ?_
  refine q_iload_n d78_0 rfl ?_
  refine n0_lt 24 d78_1 (by decide) (by omega) (fun q => absurd q (Nat.not_lt_zero _)) (fun _ => ?_)
  refine q_iload_n d78_4 rfl ?_
  refine q_bipush (x := nI 12) d78_5 rfl ?_
  refine nc_ge 24 d78_7 (by decide) (by omega) (by omega) (fun h7 => (False.elim (by omega))) (fun h7 => ?_)
  refine q_aload_n d78_10 rfl ?_
  refine q_getr (c := 5) (f := 12) d78_11 ⟨rfl, rfl⟩ hs.1 (hs.2.2.1 4 (by decide)) ?_
  refine q_iload_n d78_14 rfl ?_
  refine n_iald d78_15 (hs.2.2.2 5 (by decide)) (by omega) (by decide) qf ?_
  refine q_iconstN (z := 3) d78_16 ?_
  refine ic_lt 24 d78_17 (by decide) (fun h17 => ?_) (fun h17 => ?_)
  · refine q_iconstN (z := 0) d78_24 ?_
    refine q_zret d78_25 rfl (by decide) ?_
    exact bK0 k (decide_eq_false (fun q => q h17))
  · refine q_iconstN (z := 1) d78_20 ?_
    refine q_goto 25 d78_21 (by decide) ?_
    refine q_zret d78_25 rfl (by decide) ?_
    exact bK1 k (decide_eq_true h17)
theorem RS_done {M M' : zM} {a i : Nat} {T : Nat → yT} {nm : Nat → Int32} {S : yS} (hR : RS M a T nm S) (h0 : gd S i = 0) (hi : i < 12)
    (g : ∀ b k, a ≤ b → b < a + 8 → (b = a + 3 → k ≠ i) → (b = a → k ≠ 3 ∧ k ≠ 7) → (b = a + 1 → k ≠ (go S).length) → zi M' b k = zi M b k) (g2 : zr M' a 2 = zr M a 2) (hq : zi M' (a + 3) i = nm i) (h3 : zi M' a 3 = nI (gm S 1 ||| 2 ^ i)) (h7 : zi M' a 7 = nI ((go S).length + 1)) (h1 : zi M' (a + 1) (go S).length = nI i) : RS M' a T nm (yDn S i (nm i)) := by
  obtain ⟨⟨q0, q1, q2⟩, ⟨q3, q4, q5⟩, ⟨q7, q8⟩, q9, qa, qb⟩ := hR
  refine ⟨⟨(g _ _ (by omega) (by omega) (by omega) (by omega) (by omega)).trans q0, (g _ _ (by omega) (by omega) (by omega) (by omega) (by omega)).trans q1, g2.trans q2⟩, ⟨?_, ?_, ?_⟩, ⟨h7, fun j hj => ?_⟩, fun j hj => (g _ _ (by omega) (by omega) (by omega) (by omega) (by omega)).trans (q9 j hj), fun j hj he => ?_, fun j hj => ?_⟩
  · rw [h3]; exact congrArg nI (gm_in (S := S) hi).symm
  · rw [g _ _ (by omega) (by omega) (by omega) (by omega) (by omega), q4]; exact congrArg nI (gm_not (S := S) (w := 1) (by omega) (by omega)).symm
  · rw [g _ _ (by omega) (by omega) (by omega) (by omega) (by omega), q5]; exact congrArg nI (gm_not (S := S) (w := 1) (by omega) (by omega)).symm
  · show _ = nI ((i :: go S).getD ((i :: go S).length - 1 - j) 0)
    have hj : j < (go S).length + 1 := hj
    rw [List.length_cons]
    by_cases e : j = (go S).length
    · subst e; rw [h1, show (go S).length + 1 - 1 - (go S).length = 0 by omega]; rfl
    · rw [g _ _ (by omega) (by omega) (by omega) (by omega) (by omega), q8 j (by omega), show (go S).length + 1 - 1 - j = ((go S).length - 1 - j) + 1 by omega]; rfl
  · show _ = yu (gb S) i (nm i) j
    have he : yu (gd S) i 1 j = 1 := he
    by_cases e : j = i
    · subst e; rw [hq, yu_s]
    · rw [yu_n e] at he; rw [yu_n e, g _ _ (by omega) (by omega) (by omega) (by omega) (by omega)]; exact qa j hj he
  · rw [g _ _ (by omega) (by omega) (by omega) (by omega) (by omega), g _ _ (by omega) (by omega) (by omega) (by omega) (by omega), g _ _ (by omega) (by omega) (by omega) (by omega) (by omega), g _ _ (by omega) (by omega) (by omega) (by omega) (by omega)]
    exact qb j hj
/-- the last of those done leaves them -/
theorem RS_undo {M M' : zM} {a i v : Nat} {t : List Nat} {T : Nat → yT} {nm : Nat → Int32} {S : yS} (hR : RS M a T nm S) (hg : go S = i :: t) (h0 : gd S i = 1) (hi : i < 12) (hv : v = 2 ∨ v = 3) (w : Nat → Int32)
    (g : ∀ b k, a ≤ b → b < a + 8 → (b = a → k ≠ 3 ∧ k ≠ 7 ∧ k ≠ v + 2) → b ≠ a + 7 → zi M' b k = zi M b k) (g2 : zr M' a 2 = zr M a 2) (h3 : zi M' a 3 = nI (zdf (gm S 1) (2 ^ i))) (h7 : zi M' a 7 = nI t.length) (hv1 : zi M' a (v + 2) = nI (gm S v ||| 2 ^ i)) (hw : ∀ k, k < 12 → zi M' (a + 7) k = w k) : RS M' a T nm (gwS (goS (gdS S (yu (gd S) i v)) t) w) := by
  obtain ⟨⟨q0, q1, q2⟩, ⟨q3, q4, q5⟩, ⟨q7, q8⟩, q9, qa, qb⟩ := hR
  refine ⟨⟨(g _ _ (by omega) (by omega) (by omega) (by omega)).trans q0, (g _ _ (by omega) (by omega) (by omega) (by omega)).trans q1, g2.trans q2⟩, ⟨?_, ?_, ?_⟩, ⟨h7, fun j hj => ?_⟩, fun j hj => (g _ _ (by omega) (by omega) (by omega) (by omega)).trans (q9 j hj), fun j hj he => ?_, fun j hj => ?_⟩
  · rw [h3]; exact congrArg nI (gm_out (S := S) h0 (by omega)).symm
  · rcases hv with rfl | rfl
    · rw [hv1]; exact congrArg nI (gm_in (S := S) hi).symm
    · rw [g _ _ (by omega) (by omega) (by omega) (by omega), q4]; exact congrArg nI (gm_not (S := S) (w := 3) (by omega) (by omega)).symm
  · rcases hv with rfl | rfl
    · rw [g _ _ (by omega) (by omega) (by omega) (by omega), q5]; exact congrArg nI (gm_not (S := S) (w := 2) (by omega) (by omega)).symm
    · rw [hv1]; exact congrArg nI (gm_in (S := S) hi).symm
  · show _ = nI (t.getD (t.length - 1 - j) 0)
    have hj : j < t.length := hj
    rw [hg] at q8
    have := q8 j (by rw [List.length_cons]; omega)
    rw [g _ _ (by omega) (by omega) (by omega) (by omega), this, List.length_cons, show t.length + 1 - 1 - j = (t.length - 1 - j) + 1 by omega]; rfl
  · show _ = gb S j
    have he : yu (gd S) i v j = 1 := he
    by_cases e : j = i
    · subst e; rw [yu_s] at he; omega
    · rw [yu_n e] at he; rw [g _ _ (by omega) (by omega) (by omega) (by omega)]; exact qa j hj he
  · rw [g _ _ (by omega) (by omega) (by omega) (by omega), g _ _ (by omega) (by omega) (by omega) (by omega), g _ _ (by omega) (by omega) (by omega) (by omega), hw j hj]
    exact ⟨(qb j hj).1, (qb j hj).2.1, (qb j hj).2.2.1, rfl⟩
theorem d75_0 : decode (zB 75) 0 = .ok (.iload_n 1, 1) := by decide +kernel
theorem d75_1 : decode (zB 75) 1 = .ok (.ifCond .lt 25, 3) := by decide +kernel
theorem d75_4 : decode (zB 75) 4 = .ok (.iload_n 1, 1) := by decide +kernel
theorem d75_5 : decode (zB 75) 5 = .ok (.bipush 12, 2) := by decide +kernel
theorem d75_7 : decode (zB 75) 7 = .ok (.if_icmp .ge 19, 3) := by decide +kernel
theorem d75_10 : decode (zB 75) 10 = .ok (.aload_n 0, 1) := by decide +kernel
theorem d75_11 : decode (zB 75) 11 = .ok (.getfield 53, 3) := by decide +kernel
theorem d75_14 : decode (zB 75) 14 = .ok (.ifCond .lt 12, 3) := by decide +kernel
theorem d75_17 : decode (zB 75) 17 = .ok (.aload_n 0, 1) := by decide +kernel
theorem d75_18 : decode (zB 75) 18 = .ok (.getfield 53, 3) := by decide +kernel
theorem d75_21 : decode (zB 75) 21 = .ok (.bipush 12, 2) := by decide +kernel
theorem d75_23 : decode (zB 75) 23 = .ok (.if_icmp .lt 4, 3) := by decide +kernel
theorem d75_26 : decode (zB 75) 26 = .ok (.return_, 1) := by decide +kernel
theorem d75_27 : decode (zB 75) 27 = .ok (.aload_n 0, 1) := by decide +kernel
theorem d75_28 : decode (zB 75) 28 = .ok (.getfield 25, 3) := by decide +kernel
theorem d75_31 : decode (zB 75) 31 = .ok (.iload_n 1, 1) := by decide +kernel
theorem d75_32 : decode (zB 75) 32 = .ok (.aload_n 0, 1) := by decide +kernel
theorem d75_33 : decode (zB 75) 33 = .ok (.getfield 22, 3) := by decide +kernel
theorem d75_36 : decode (zB 75) 36 = .ok (.iload_n 1, 1) := by decide +kernel
theorem d75_37 : decode (zB 75) 37 = .ok (.iaload, 1) := by decide +kernel
theorem d75_38 : decode (zB 75) 38 = .ok (.iastore, 1) := by decide +kernel
theorem d75_39 : decode (zB 75) 39 = .ok (.aload_n 0, 1) := by decide +kernel
theorem d75_40 : decode (zB 75) 40 = .ok (.dup, 1) := by decide +kernel
theorem d75_41 : decode (zB 75) 41 = .ok (.getfield 44, 3) := by decide +kernel
theorem d75_44 : decode (zB 75) 44 = .ok (.iconst 1, 1) := by decide +kernel
theorem d75_45 : decode (zB 75) 45 = .ok (.iload_n 1, 1) := by decide +kernel
theorem d75_46 : decode (zB 75) 46 = .ok (.ishl, 1) := by decide +kernel
theorem d75_47 : decode (zB 75) 47 = .ok (.ior, 1) := by decide +kernel
theorem d75_48 : decode (zB 75) 48 = .ok (.putfield 44, 3) := by decide +kernel
theorem d75_51 : decode (zB 75) 51 = .ok (.aload_n 0, 1) := by decide +kernel
theorem d75_52 : decode (zB 75) 52 = .ok (.getfield 18, 3) := by decide +kernel
theorem d75_55 : decode (zB 75) 55 = .ok (.aload_n 0, 1) := by decide +kernel
theorem d75_56 : decode (zB 75) 56 = .ok (.getfield 53, 3) := by decide +kernel
theorem d75_59 : decode (zB 75) 59 = .ok (.iload_n 1, 1) := by decide +kernel
theorem d75_60 : decode (zB 75) 60 = .ok (.iastore, 1) := by decide +kernel
theorem d75_61 : decode (zB 75) 61 = .ok (.aload_n 0, 1) := by decide +kernel
theorem d75_62 : decode (zB 75) 62 = .ok (.dup, 1) := by decide +kernel
theorem d75_63 : decode (zB 75) 63 = .ok (.getfield 53, 3) := by decide +kernel
theorem d75_66 : decode (zB 75) 66 = .ok (.iconst 1, 1) := by decide +kernel
theorem d75_67 : decode (zB 75) 67 = .ok (.iadd, 1) := by decide +kernel
theorem d75_68 : decode (zB 75) 68 = .ok (.putfield 53, 3) := by decide +kernel
theorem d75_71 : decode (zB 75) 71 = .ok (.return_, 1) := by decide +kernel
theorem c75 {d : Nat} {M : zM} {Q : Option Value → zM → Prop} {a : Nat} {T : Nat → yT} {nm : Nat → Int32} {S : yS} {i : Nat} (hs : SSg M a) (hR : RS M a T nm S) (h0 : gd S i = 0) (hi : i < gz T S) (hz : gz T S ≤ 12) (hl : (go S).length < 12) (k : ∀ M', RS M' a T nm (yDn S i (nm i)) → Fi (FS a) M M' → Q none M') : qC (d + 1) 75 [.ref a, .int (nI i)] M Q := by
  have hR' := hR
  obtain ⟨⟨q0, q1, q2⟩, ⟨q3, q4, q5⟩, ⟨q7, q8⟩, q9, qa, qb⟩ := hR
  have hm := gm_lt S 1
  refine qC_of (by decide) (Nat.le_of_ble_eq_true rfl) ?_
  refine q_iload_n d75_0 rfl ?_
  refine n0_lt 26 d75_1 (by decide) (by omega) (fun q => absurd q (Nat.not_lt_zero _)) (fun _ => ?_)
  refine q_iload_n d75_4 rfl ?_
  refine q_bipush (x := nI 12) d75_5 rfl ?_
  refine nc_ge 26 d75_7 (by decide) (by omega) (by omega) (fun h7 => (False.elim (by omega))) (fun h7 => ?_)
  refine q_aload_n d75_10 rfl ?_
  refine q_getv (c := 5) (f := 7) d75_11 ⟨rfl, by decide⟩ hs.1 q7 ?_
  refine n0_lt 26 d75_14 (by decide) (by omega) (fun q => absurd q (Nat.not_lt_zero _)) (fun _ => ?_)
  refine q_aload_n d75_17 rfl ?_
  refine q_getv (c := 5) (f := 7) d75_18 ⟨rfl, by decide⟩ hs.1 q7 ?_
  refine q_bipush (x := nI 12) d75_21 rfl ?_
  refine nc_lt 27 d75_23 (by decide) (by omega) (by omega) (fun h23 => ?_) (fun h23 => (False.elim (by omega)))
  refine q_aload_n d75_27 rfl ?_
  refine q_getr (c := 5) (f := 9) d75_28 ⟨rfl, rfl⟩ hs.1 (hs.2.2.1 1 (by decide)) ?_
  refine q_iload_n d75_31 rfl ?_
  refine q_aload_n d75_32 rfl ?_
  refine q_getr (c := 5) (f := 8) d75_33 ⟨rfl, rfl⟩ hs.1 (hs.2.2.1 0 (by decide)) ?_
  refine q_iload_n d75_36 rfl ?_
  refine n_iald d75_37 (hs.2.2.2 1 (by decide)) (by omega) (by decide) (q9 _ (by omega)) ?_
  refine n_iast d75_38 (hs.2.2.2 2 (by decide)) (by omega) (by decide) ?_
  refine q_aload_n d75_39 rfl ?_
  refine q_dup d75_40 rfl ?_
  refine q_getv (c := 5) (f := 3) d75_41 ⟨rfl, by decide⟩ hs.1 (Eq.trans (by (repeat (first | rw [wi_n (Or.inl (by omega))] | rw [wi_n (Or.inr (by omega))] | rw [wi_s] | rw [wr_i] | rw [cp_n (by omega)]))) q3) ?_
  refine q_iconstN (z := 1) d75_44 ?_
  refine q_iload_n d75_45 rfl ?_
  refine n_ishl1 d75_46 (by omega) ?_
  refine n_ior d75_47 ?_
  refine q_puti (c := 5) (f := 3) d75_48 ⟨rfl, rfl, by decide⟩ hs.1 ?_
  refine q_aload_n d75_51 rfl ?_
  refine q_getr (c := 5) (f := 6) d75_52 ⟨rfl, rfl⟩ hs.1 hs.2.1 ?_
  refine q_aload_n d75_55 rfl ?_
  refine q_getv (c := 5) (f := 7) d75_56 ⟨rfl, by decide⟩ hs.1 (Eq.trans (by (repeat (first | rw [wi_n (Or.inl (by omega))] | rw [wi_n (Or.inr (by omega))] | rw [wi_s] | rw [wr_i] | rw [cp_n (by omega)]))) q7) ?_
  refine q_iload_n d75_59 rfl ?_
  refine n_iast d75_60 (hs.2.2.2 0 (by decide)) (by omega) (by decide) ?_
  refine q_aload_n d75_61 rfl ?_
  refine q_dup d75_62 rfl ?_
  refine q_getv (c := 5) (f := 7) d75_63 ⟨rfl, by decide⟩ hs.1 (Eq.trans (by (repeat (first | rw [wi_n (Or.inl (by omega))] | rw [wi_n (Or.inr (by omega))] | rw [wi_s] | rw [wr_i] | rw [cp_n (by omega)]))) q7) ?_
  refine q_iconstN (z := 1) d75_66 ?_
  refine n_iadd d75_67 ?_
  refine q_puti (c := 5) (f := 7) d75_68 ⟨rfl, rfl, by decide⟩ hs.1 ?_
  refine q_ret d75_71 rfl ?_
  refine k _ (RS_done hR' h0 (by omega) (fun b j _ _ n1 n2 n3 => ?_) rfl ?_ ?_ ?_ ?_) (((((Fi.refl _ _).wi (FS_x (by omega) (by omega))).wi FS_0).wi (FS_x (by omega) (by omega))).wi FS_0)
  · rw [wi_n (by omega), wi_n (by omega), wi_n (by omega), wi_n (by omega)]
  · (repeat (first | rw [wi_n (Or.inl (by omega))] | rw [wi_n (Or.inr (by omega))] | rw [wi_s]))
  · (repeat (first | rw [wi_n (Or.inl (by omega))] | rw [wi_n (Or.inr (by omega))] | rw [wi_s]))
  · (repeat (first | rw [wi_n (Or.inl (by omega))] | rw [wi_n (Or.inr (by omega))] | rw [wi_s]))
  · (repeat (first | rw [wi_n (Or.inl (by omega))] | rw [wi_n (Or.inr (by omega))] | rw [wi_s]))
theorem nI_pm (n : Nat) : nI (n + 1) - nI 1 = nI n := by rw [pk_sub (by omega)]; rfl
theorem d85_0 : decode (zB 85) 0 = .ok (.aload_n 0, 1) := by decide +kernel
theorem d85_1 : decode (zB 85) 1 = .ok (.dup, 1) := by decide +kernel
theorem d85_2 : decode (zB 85) 2 = .ok (.getfield 44, 3) := by decide +kernel
theorem d85_5 : decode (zB 85) 5 = .ok (.iconst 1, 1) := by decide +kernel
theorem d85_6 : decode (zB 85) 6 = .ok (.iload_n 1, 1) := by decide +kernel
theorem d85_7 : decode (zB 85) 7 = .ok (.ishl, 1) := by decide +kernel
theorem d85_8 : decode (zB 85) 8 = .ok (.iconst (-1), 1) := by decide +kernel
theorem d85_9 : decode (zB 85) 9 = .ok (.ixor, 1) := by decide +kernel
theorem d85_10 : decode (zB 85) 10 = .ok (.iand, 1) := by decide +kernel
theorem d85_11 : decode (zB 85) 11 = .ok (.putfield 44, 3) := by decide +kernel
theorem d85_14 : decode (zB 85) 14 = .ok (.aload_n 0, 1) := by decide +kernel
theorem d85_15 : decode (zB 85) 15 = .ok (.getfield 53, 3) := by decide +kernel
theorem d85_18 : decode (zB 85) 18 = .ok (.ifCond .le 13, 3) := by decide +kernel
theorem d85_21 : decode (zB 85) 21 = .ok (.aload_n 0, 1) := by decide +kernel
theorem d85_22 : decode (zB 85) 22 = .ok (.dup, 1) := by decide +kernel
theorem d85_23 : decode (zB 85) 23 = .ok (.getfield 53, 3) := by decide +kernel
theorem d85_26 : decode (zB 85) 26 = .ok (.iconst 1, 1) := by decide +kernel
theorem d85_27 : decode (zB 85) 27 = .ok (.isub, 1) := by decide +kernel
theorem d85_28 : decode (zB 85) 28 = .ok (.putfield 53, 3) := by decide +kernel
theorem d85_31 : decode (zB 85) 31 = .ok (.return_, 1) := by decide +kernel
theorem c85 {d : Nat} {M : zM} {Q : Option Value → zM → Prop} {a i dm n : Nat} (hs : SSg M a) (hi : i < 12) (q3 : zi M a 3 = nI dm) (q7 : zi M a 7 = nI (n + 1)) (hn : n < 12) (k : Q none (zwi (zwi M a 3 (nI (zdf dm (2 ^ i)))) a 7 (nI n))) : qC (d + 1) 85 [.ref a, .int (nI i)] M Q := by
  refine qC_of (by decide) (Nat.le_of_ble_eq_true rfl) ?_
  refine q_aload_n d85_0 rfl ?_
  refine q_dup d85_1 rfl ?_
  refine q_getv (c := 5) (f := 3) d85_2 ⟨rfl, by decide⟩ hs.1 q3 ?_
  refine q_iconstN (z := 1) d85_5 ?_
  refine q_iload_n d85_6 rfl ?_
  refine n_ishl1 d85_7 (by omega) ?_
  refine q_iconst (x := (-1)) d85_8 rfl ?_
  refine q_ixor d85_9 ?_
  refine n_iandn d85_10 ?_
  refine q_puti (c := 5) (f := 3) d85_11 ⟨rfl, rfl, by decide⟩ hs.1 ?_
  refine q_aload_n d85_14 rfl ?_
  refine q_getv (c := 5) (f := 7) d85_15 ⟨rfl, by decide⟩ hs.1 (Eq.trans (by (repeat (first | rw [wi_n (Or.inl (by omega))] | rw [wi_n (Or.inr (by omega))] | rw [wi_s] | rw [wr_i] | rw [cp_n (by omega)]))) q7) ?_
  refine n0_le 31 d85_18 (by decide) (by omega) (fun h18 => ?_) (fun h18 => ?_)
  · refine q_ret d85_31 rfl ?_
    first | exact k | exact absurd h18 (by omega)
  · refine q_aload_n d85_21 rfl ?_
    refine q_dup d85_22 rfl ?_
    refine q_getv (c := 5) (f := 7) d85_23 ⟨rfl, by decide⟩ hs.1 (Eq.trans (by (repeat (first | rw [wi_n (Or.inl (by omega))] | rw [wi_n (Or.inr (by omega))] | rw [wi_s] | rw [wr_i] | rw [cp_n (by omega)]))) q7) ?_
    refine q_iconstN (z := 1) d85_26 ?_
    refine n_isub d85_27 (by omega) ?_
    refine q_puti (c := 5) (f := 7) d85_28 ⟨rfl, rfl, by decide⟩ hs.1 ?_
    refine q_ret d85_31 rfl ?_
    first | exact k | exact absurd h18 (by omega)
theorem d84_0 : decode (zB 84) 0 = .ok (.aload_n 0, 1) := by decide +kernel
theorem d84_1 : decode (zB 84) 1 = .ok (.iload_n 1, 1) := by decide +kernel
theorem d84_2 : decode (zB 84) 2 = .ok (.invokevirtual 99, 3) := by decide +kernel
theorem d84_5 : decode (zB 84) 5 = .ok (.aload_n 0, 1) := by decide +kernel
theorem d84_6 : decode (zB 84) 6 = .ok (.dup, 1) := by decide +kernel
theorem d84_7 : decode (zB 84) 7 = .ok (.getfield 47, 3) := by decide +kernel
theorem d84_10 : decode (zB 84) 10 = .ok (.iconst 1, 1) := by decide +kernel
theorem d84_11 : decode (zB 84) 11 = .ok (.iload_n 1, 1) := by decide +kernel
theorem d84_12 : decode (zB 84) 12 = .ok (.ishl, 1) := by decide +kernel
theorem d84_13 : decode (zB 84) 13 = .ok (.ior, 1) := by decide +kernel
theorem d84_14 : decode (zB 84) 14 = .ok (.putfield 47, 3) := by decide +kernel
theorem d84_17 : decode (zB 84) 17 = .ok (.return_, 1) := by decide +kernel
theorem c84 {d : Nat} {M : zM} {Q : Option Value → zM → Prop} {a : Nat} {T : Nat → yT} {nm : Nat → Int32} {S : yS} {i : Nat} {t : List Nat} (hs : SSg M a) (hR : RS M a T nm S) (hg : go S = i :: t) (h0 : gd S i = 1) (hi : i < 12) (hl : (go S).length ≤ 12) (k : ∀ M', RS M' a T nm (gwS (goS (gdS S (yu (gd S) i 2)) t) (gw S)) → Fi (FS a) M M' → Q none M') : qC (d + 2) 84 [.ref a, .int (nI i)] M Q := by
  have hR' := hR
  obtain ⟨⟨q0, q1, q2⟩, ⟨q3, q4, q5⟩, ⟨q7, q8⟩, q9, qa, qb⟩ := hR
  refine qC_of (by decide) (Nat.le_of_ble_eq_true rfl) ?_
  refine q_aload_n d84_0 rfl ?_
  refine q_iload_n d84_1 rfl ?_
  refine q_v1 d84_2 rfl rfl hs.1 (Nat.le_of_ble_eq_true rfl) (c85 hs (by omega) q3 (by rw [q7, hg]; rfl) (by rw [hg] at hl; exact hl) ?_)
  refine q_aload_n d84_5 rfl ?_
  refine q_dup d84_6 rfl ?_
  refine q_getv (c := 5) (f := 4) d84_7 ⟨rfl, by decide⟩ hs.1 (Eq.trans (by (repeat (first | rw [wi_n (Or.inl (by omega))] | rw [wi_n (Or.inr (by omega))] | rw [wi_s] | rw [wr_i] | rw [cp_n (by omega)]))) q4) ?_
  refine q_iconstN (z := 1) d84_10 ?_
  refine q_iload_n d84_11 rfl ?_
  refine n_ishl1 d84_12 (by omega) ?_
  refine n_ior d84_13 ?_
  refine q_puti (c := 5) (f := 4) d84_14 ⟨rfl, rfl, by decide⟩ hs.1 ?_
  refine q_ret d84_17 rfl ?_
  refine k _ (RS_undo hR' hg h0 (by omega) (Or.inl rfl) (gw S) (fun b j _ _ n1 n2 => ?_) rfl ?_ ?_ ?_ (fun j hj => ?_)) ((((Fi.refl _ _).wi FS_0).wi FS_0).wi FS_0)
  · rw [wi_n (by omega), wi_n (by omega), wi_n (by omega)]
  · (repeat (first | rw [wi_n (Or.inl (by omega))] | rw [wi_n (Or.inr (by omega))] | rw [wi_s]))
  · (repeat (first | rw [wi_n (Or.inl (by omega))] | rw [wi_n (Or.inr (by omega))] | rw [wi_s]))
  · (repeat (first | rw [wi_n (Or.inl (by omega))] | rw [wi_n (Or.inr (by omega))] | rw [wi_s]))
  · (repeat (first | rw [wi_n (Or.inl (by omega))] | rw [wi_n (Or.inr (by omega))] | rw [wi_s])); exact (qb j hj).2.2.2
theorem d86_0 : decode (zB 86) 0 = .ok (.iload_n 1, 1) := by decide +kernel
theorem d86_1 : decode (zB 86) 1 = .ok (.ifCond .lt 9, 3) := by decide +kernel
theorem d86_4 : decode (zB 86) 4 = .ok (.iload_n 1, 1) := by decide +kernel
theorem d86_5 : decode (zB 86) 5 = .ok (.bipush 12, 2) := by decide +kernel
theorem d86_7 : decode (zB 86) 7 = .ok (.if_icmp .lt 4, 3) := by decide +kernel
theorem d86_10 : decode (zB 86) 10 = .ok (.return_, 1) := by decide +kernel
theorem d86_11 : decode (zB 86) 11 = .ok (.aload_n 0, 1) := by decide +kernel
theorem d86_12 : decode (zB 86) 12 = .ok (.iload_n 1, 1) := by decide +kernel
theorem d86_13 : decode (zB 86) 13 = .ok (.invokevirtual 99, 3) := by decide +kernel
theorem d86_16 : decode (zB 86) 16 = .ok (.aload_n 0, 1) := by decide +kernel
theorem d86_17 : decode (zB 86) 17 = .ok (.dup, 1) := by decide +kernel
theorem d86_18 : decode (zB 86) 18 = .ok (.getfield 50, 3) := by decide +kernel
theorem d86_21 : decode (zB 86) 21 = .ok (.iconst 1, 1) := by decide +kernel
theorem d86_22 : decode (zB 86) 22 = .ok (.iload_n 1, 1) := by decide +kernel
theorem d86_23 : decode (zB 86) 23 = .ok (.ishl, 1) := by decide +kernel
theorem d86_24 : decode (zB 86) 24 = .ok (.ior, 1) := by decide +kernel
theorem d86_25 : decode (zB 86) 25 = .ok (.putfield 50, 3) := by decide +kernel
theorem d86_28 : decode (zB 86) 28 = .ok (.aload_n 0, 1) := by decide +kernel
theorem d86_29 : decode (zB 86) 29 = .ok (.getfield 37, 3) := by decide +kernel
theorem d86_32 : decode (zB 86) 32 = .ok (.iload_n 1, 1) := by decide +kernel
theorem d86_33 : decode (zB 86) 33 = .ok (.iload_n 2, 1) := by decide +kernel
theorem d86_34 : decode (zB 86) 34 = .ok (.iastore, 1) := by decide +kernel
theorem d86_35 : decode (zB 86) 35 = .ok (.return_, 1) := by decide +kernel
theorem c86 {d : Nat} {M : zM} {Q : Option Value → zM → Prop} {a : Nat} {T : Nat → yT} {nm : Nat → Int32} {S : yS} {i : Nat} {t : List Nat} {r : Int32} (hs : SSg M a) (hR : RS M a T nm S) (hg : go S = i :: t) (h0 : gd S i = 1) (hi : i < 12) (hl : (go S).length ≤ 12) (k : ∀ M', RS M' a T nm (gwS (goS (gdS S (yu (gd S) i 3)) t) (yu (gw S) i r)) → Fi (FS a) M M' → Q none M') : qC (d + 2) 86 [.ref a, .int (nI i), .int r] M Q := by
  have hR' := hR
  obtain ⟨⟨q0, q1, q2⟩, ⟨q3, q4, q5⟩, ⟨q7, q8⟩, q9, qa, qb⟩ := hR
  refine qC_of (by decide) (Nat.le_of_ble_eq_true rfl) ?_
  refine q_iload_n d86_0 rfl ?_
  refine n0_lt 10 d86_1 (by decide) (by omega) (fun q => absurd q (Nat.not_lt_zero _)) (fun _ => ?_)
  refine q_iload_n d86_4 rfl ?_
  refine q_bipush (x := nI 12) d86_5 rfl ?_
  refine nc_lt 11 d86_7 (by decide) (by omega) (by omega) (fun h7 => ?_) (fun h7 => (False.elim (by omega)))
  refine q_aload_n d86_11 rfl ?_
  refine q_iload_n d86_12 rfl ?_
  refine q_v1 d86_13 rfl rfl hs.1 (Nat.le_of_ble_eq_true rfl) (c85 hs (by omega) q3 (by rw [q7, hg]; rfl) (by rw [hg] at hl; exact hl) ?_)
  refine q_aload_n d86_16 rfl ?_
  refine q_dup d86_17 rfl ?_
  refine q_getv (c := 5) (f := 5) d86_18 ⟨rfl, by decide⟩ hs.1 (Eq.trans (by (repeat (first | rw [wi_n (Or.inl (by omega))] | rw [wi_n (Or.inr (by omega))] | rw [wi_s] | rw [wr_i] | rw [cp_n (by omega)]))) q5) ?_
  refine q_iconstN (z := 1) d86_21 ?_
  refine q_iload_n d86_22 rfl ?_
  refine n_ishl1 d86_23 (by omega) ?_
  refine n_ior d86_24 ?_
  refine q_puti (c := 5) (f := 5) d86_25 ⟨rfl, rfl, by decide⟩ hs.1 ?_
  refine q_aload_n d86_28 rfl ?_
  refine q_getr (c := 5) (f := 13) d86_29 ⟨rfl, rfl⟩ hs.1 (hs.2.2.1 5 (by decide)) ?_
  refine q_iload_n d86_32 rfl ?_
  refine q_iload_n d86_33 rfl ?_
  refine n_iast d86_34 (hs.2.2.2 6 (by decide)) (by omega) (by decide) ?_
  refine q_ret d86_35 rfl ?_
  refine k _ (RS_undo hR' hg h0 (by omega) (Or.inr rfl) (yu (gw S) i r) (fun b j _ _ n1 n2 => ?_) rfl ?_ ?_ ?_ (fun j hj => ?_)) (((((Fi.refl _ _).wi FS_0).wi FS_0).wi FS_0).wi (FS_x (by omega) (by omega)))
  · rw [wi_n (by omega), wi_n (by omega), wi_n (by omega), wi_n (by omega)]
  · (repeat (first | rw [wi_n (Or.inl (by omega))] | rw [wi_n (Or.inr (by omega))] | rw [wi_s]))
  · (repeat (first | rw [wi_n (Or.inl (by omega))] | rw [wi_n (Or.inr (by omega))] | rw [wi_s]))
  · (repeat (first | rw [wi_n (Or.inl (by omega))] | rw [wi_n (Or.inr (by omega))] | rw [wi_s]))
  · by_cases e : j = i
    · subst e; rw [wi_s, yu_s]
    · rw [yu_n e]; (repeat (first | rw [wi_n (Or.inl (by omega))] | rw [wi_n (Or.inr (by omega))] | rw [wi_s])); exact (qb j hj).2.2.2
