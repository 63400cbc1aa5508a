/-! ===== contracts: parts and lines are read ===== -/
theorem d18_0 : decode (zB 18) 0 = .ok (.aload_n 0, 1) := by decide +kernel
theorem d18_1 : decode (zB 18) 1 = .ok (.iload_n 1, 1) := by decide +kernel
theorem d18_2 : decode (zB 18) 2 = .ok (.iload_n 2, 1) := by decide +kernel
theorem d18_3 : decode (zB 18) 3 = .ok (.invokevirtual 59, 3) := by decide +kernel
theorem d18_6 : decode (zB 18) 6 = .ok (.istore_n 3, 1) := by decide +kernel
theorem d18_7 : decode (zB 18) 7 = .ok (.iconst 0, 1) := by decide +kernel
theorem d18_8 : decode (zB 18) 8 = .ok (.istore 4, 2) := by decide +kernel
theorem d18_10 : decode (zB 18) 10 = .ok (.iload 4, 2) := by decide +kernel
theorem d18_12 : decode (zB 18) 12 = .ok (.bipush 120, 2) := by decide +kernel
theorem d18_14 : decode (zB 18) 14 = .ok (.if_icmp .ge 41, 3) := by decide +kernel
theorem d18_17 : decode (zB 18) 17 = .ok (.aload_n 0, 1) := by decide +kernel
theorem d18_18 : decode (zB 18) 18 = .ok (.getfield 31, 3) := by decide +kernel
theorem d18_21 : decode (zB 18) 21 = .ok (.iconst (-1), 1) := by decide +kernel
theorem d18_22 : decode (zB 18) 22 = .ok (.if_icmp .ne 33, 3) := by decide +kernel
theorem d18_25 : decode (zB 18) 25 = .ok (.aload_n 0, 1) := by decide +kernel
theorem d18_26 : decode (zB 18) 26 = .ok (.getfield 41, 3) := by decide +kernel
theorem d18_29 : decode (zB 18) 29 = .ok (.bipush 59, 2) := by decide +kernel
theorem d18_31 : decode (zB 18) 31 = .ok (.if_icmp .ne 24, 3) := by decide +kernel
theorem d18_34 : decode (zB 18) 34 = .ok (.aload_n 0, 1) := by decide +kernel
theorem d18_35 : decode (zB 18) 35 = .ok (.invokevirtual 34, 3) := by decide +kernel
theorem d18_38 : decode (zB 18) 38 = .ok (.iload_n 3, 1) := by decide +kernel
theorem d18_39 : decode (zB 18) 39 = .ok (.aload_n 0, 1) := by decide +kernel
theorem d18_40 : decode (zB 18) 40 = .ok (.iload_n 1, 1) := by decide +kernel
theorem d18_41 : decode (zB 18) 41 = .ok (.iload_n 3, 1) := by decide +kernel
theorem d18_42 : decode (zB 18) 42 = .ok (.ior, 1) := by decide +kernel
theorem d18_43 : decode (zB 18) 43 = .ok (.iload_n 2, 1) := by decide +kernel
theorem d18_44 : decode (zB 18) 44 = .ok (.invokevirtual 59, 3) := by decide +kernel
theorem d18_47 : decode (zB 18) 47 = .ok (.ior, 1) := by decide +kernel
theorem d18_48 : decode (zB 18) 48 = .ok (.istore_n 3, 1) := by decide +kernel
theorem d18_49 : decode (zB 18) 49 = .ok (.iinc 4 1, 3) := by decide +kernel
theorem d18_52 : decode (zB 18) 52 = .ok (.goto (-42), 3) := by decide +kernel
theorem d18_55 : decode (zB 18) 55 = .ok (.iload_n 3, 1) := by decide +kernel
theorem d18_56 : decode (zB 18) 56 = .ok (.ireturn, 1) := by decide +kernel
theorem d19_0 : decode (zB 19) 0 = .ok (.aload_n 0, 1) := by decide +kernel
theorem d19_1 : decode (zB 19) 1 = .ok (.getfield 31, 3) := by decide +kernel
theorem d19_4 : decode (zB 19) 4 = .ok (.iconst (-1), 1) := by decide +kernel
theorem d19_5 : decode (zB 19) 5 = .ok (.if_icmp .ne 17, 3) := by decide +kernel
theorem d19_8 : decode (zB 19) 8 = .ok (.aload_n 0, 1) := by decide +kernel
theorem d19_9 : decode (zB 19) 9 = .ok (.getfield 41, 3) := by decide +kernel
theorem d19_12 : decode (zB 19) 12 = .ok (.iconst 1, 1) := by decide +kernel
theorem d19_13 : decode (zB 19) 13 = .ok (.if_icmp .ne 9, 3) := by decide +kernel
theorem d19_16 : decode (zB 19) 16 = .ok (.aload_n 0, 1) := by decide +kernel
theorem d19_17 : decode (zB 19) 17 = .ok (.iload_n 1, 1) := by decide +kernel
theorem d19_18 : decode (zB 19) 18 = .ok (.invokevirtual 62, 3) := by decide +kernel
theorem d19_21 : decode (zB 19) 21 = .ok (.ireturn, 1) := by decide +kernel
theorem d19_22 : decode (zB 19) 22 = .ok (.aload_n 0, 1) := by decide +kernel
theorem d19_23 : decode (zB 19) 23 = .ok (.getfield 31, 3) := by decide +kernel
theorem d19_26 : decode (zB 19) 26 = .ok (.iconst (-1), 1) := by decide +kernel
theorem d19_27 : decode (zB 19) 27 = .ok (.if_icmp .ne 26, 3) := by decide +kernel
theorem d19_30 : decode (zB 19) 30 = .ok (.aload_n 0, 1) := by decide +kernel
theorem d19_31 : decode (zB 19) 31 = .ok (.getfield 41, 3) := by decide +kernel
theorem d19_34 : decode (zB 19) 34 = .ok (.bipush 123, 2) := by decide +kernel
theorem d19_36 : decode (zB 19) 36 = .ok (.if_icmp .ne 17, 3) := by decide +kernel
theorem d19_39 : decode (zB 19) 39 = .ok (.iload_n 2, 1) := by decide +kernel
theorem d19_40 : decode (zB 19) 40 = .ok (.iconst 3, 1) := by decide +kernel
theorem d19_41 : decode (zB 19) 41 = .ok (.if_icmp .ge 12, 3) := by decide +kernel
theorem d19_44 : decode (zB 19) 44 = .ok (.aload_n 0, 1) := by decide +kernel
theorem d19_45 : decode (zB 19) 45 = .ok (.iload_n 1, 1) := by decide +kernel
theorem d19_46 : decode (zB 19) 46 = .ok (.iload_n 2, 1) := by decide +kernel
theorem d19_47 : decode (zB 19) 47 = .ok (.iconst 1, 1) := by decide +kernel
theorem d19_48 : decode (zB 19) 48 = .ok (.iadd, 1) := by decide +kernel
theorem d19_49 : decode (zB 19) 49 = .ok (.invokevirtual 66, 3) := by decide +kernel
theorem d19_52 : decode (zB 19) 52 = .ok (.ireturn, 1) := by decide +kernel
theorem d19_53 : decode (zB 19) 53 = .ok (.aload_n 0, 1) := by decide +kernel
theorem d19_54 : decode (zB 19) 54 = .ok (.getfield 31, 3) := by decide +kernel
theorem d19_57 : decode (zB 19) 57 = .ok (.iconst (-1), 1) := by decide +kernel
theorem d19_58 : decode (zB 19) 58 = .ok (.if_icmp .ne 41, 3) := by decide +kernel
theorem d19_61 : decode (zB 19) 61 = .ok (.aload_n 0, 1) := by decide +kernel
theorem d19_62 : decode (zB 19) 62 = .ok (.getfield 41, 3) := by decide +kernel
theorem d19_65 : decode (zB 19) 65 = .ok (.bipush 33, 2) := by decide +kernel
theorem d19_67 : decode (zB 19) 67 = .ok (.if_icmp .ne 32, 3) := by decide +kernel
theorem d19_70 : decode (zB 19) 70 = .ok (.iload_n 2, 1) := by decide +kernel
theorem d19_71 : decode (zB 19) 71 = .ok (.ifCond .ne 28, 3) := by decide +kernel
theorem d19_74 : decode (zB 19) 74 = .ok (.aload_n 0, 1) := by decide +kernel
theorem d19_75 : decode (zB 19) 75 = .ok (.getfield 19, 3) := by decide +kernel
theorem d19_78 : decode (zB 19) 78 = .ok (.getfield 69, 3) := by decide +kernel
theorem d19_81 : decode (zB 19) 81 = .ok (.iconst (-1), 1) := by decide +kernel
theorem d19_82 : decode (zB 19) 82 = .ok (.if_icmp .ne 17, 3) := by decide +kernel
theorem d19_85 : decode (zB 19) 85 = .ok (.aload_n 0, 1) := by decide +kernel
theorem d19_86 : decode (zB 19) 86 = .ok (.getfield 19, 3) := by decide +kernel
theorem d19_89 : decode (zB 19) 89 = .ok (.iload_n 1, 1) := by decide +kernel
theorem d19_90 : decode (zB 19) 90 = .ok (.putfield 69, 3) := by decide +kernel
theorem d19_93 : decode (zB 19) 93 = .ok (.aload_n 0, 1) := by decide +kernel
theorem d19_94 : decode (zB 19) 94 = .ok (.invokevirtual 34, 3) := by decide +kernel
theorem d19_97 : decode (zB 19) 97 = .ok (.iconst 0, 1) := by decide +kernel
theorem d19_98 : decode (zB 19) 98 = .ok (.ireturn, 1) := by decide +kernel
theorem d19_99 : decode (zB 19) 99 = .ok (.aload_n 0, 1) := by decide +kernel
theorem d19_100 : decode (zB 19) 100 = .ok (.invokevirtual 44, 3) := by decide +kernel
theorem d19_103 : decode (zB 19) 103 = .ok (.iconst 0, 1) := by decide +kernel
theorem d19_104 : decode (zB 19) 104 = .ok (.ireturn, 1) := by decide +kernel
theorem c19f {d : Nat} {M : zM} {Q : Option Value → zM → Prop} {c n f : Nat} {b : Nat → Nat} {x z : Int32} (hB : BR M c n b f) (hf : f ≤ 120) (k : Q (some (.int (nI 0))) M) : qC (d + 2) 19 [.ref 17, .int x, .int z] M Q := by
  refine qC_of (by decide) (Nat.le_of_ble_eq_true rfl) ?_
  refine q_aload_n d19_0 rfl ?_
  refine q_getv (c := 3) (f := 5) d19_1 ⟨rfl, by decide⟩ hB.1.2.1.1 hB.2.2.2.1 ?_
  refine q_iconst (x := (-1)) d19_4 rfl ?_
  refine ic_ne 22 d19_5 (by decide) (fun h5 => ?_) (fun h5 => (False.elim (nI_m1 (by omega) h5)))
  refine q_aload_n d19_22 rfl ?_
  refine q_getv (c := 3) (f := 5) d19_23 ⟨rfl, by decide⟩ hB.1.2.1.1 hB.2.2.2.1 ?_
  refine q_iconst (x := (-1)) d19_26 rfl ?_
  refine ic_ne 53 d19_27 (by decide) (fun h27 => ?_) (fun h27 => (False.elim (nI_m1 (by omega) h27)))
  refine q_aload_n d19_53 rfl ?_
  refine q_getv (c := 3) (f := 5) d19_54 ⟨rfl, by decide⟩ hB.1.2.1.1 hB.2.2.2.1 ?_
  refine q_iconst (x := (-1)) d19_57 rfl ?_
  refine ic_ne 99 d19_58 (by decide) (fun h58 => ?_) (fun h58 => (False.elim (nI_m1 (by omega) h58)))
  refine q_aload_n d19_99 rfl ?_
  refine q_v0 d19_100 rfl rfl hB.1.2.1.1 (Nat.le_of_ble_eq_true rfl) (c24f hB hf ?_)
  refine q_iconstN (z := 0) d19_103 ?_
  refine q_iret d19_104 rfl ?_
  exact k
theorem c18f {d : Nat} {M : zM} {Q : Option Value → zM → Prop} {c n f : Nat} {b : Nat → Nat} {x z : Int32} (hB : BR M c n b f) (hf : f ≤ 120) (k : Q (some (.int (nI 0))) M) : qC (d + 3) 18 [.ref 17, .int x, .int z] M Q := by
  refine qC_of (by decide) (Nat.le_of_ble_eq_true rfl) ?_
  refine q_aload_n d18_0 rfl ?_
  refine q_iload_n d18_1 rfl ?_
  refine q_iload_n d18_2 rfl ?_
  refine q_v2 d18_3 rfl rfl hB.1.2.1.1 (Nat.le_of_ble_eq_true rfl) (c19f hB hf ?_)
  refine q_istore_n d18_6 (by decide) rfl ?_
  refine q_iconstN (z := 0) d18_7 ?_
  refine q_istore d18_8 (by decide) rfl ?_
  refine q_iload d18_10 rfl ?_
  refine q_bipush (x := nI 120) d18_12 rfl ?_
  refine nc_ge 55 d18_14 (by decide) (by decide) (by decide) (fun q => absurd q (by decide)) (fun _ => ?_)
  refine q_aload_n d18_17 rfl ?_
  refine q_getv (c := 3) (f := 5) d18_18 ⟨rfl, by decide⟩ hB.1.2.1.1 hB.2.2.2.1 ?_
  refine q_iconst (x := (-1)) d18_21 rfl ?_
  refine ic_ne 55 d18_22 (by decide) (fun h22 => ?_) (fun h22 => (False.elim (nI_m1 (by omega) h22)))
  refine q_iload_n d18_55 rfl ?_
  refine q_iret d18_56 rfl ?_
  exact k
def tq (m : Nat) : Bool := m == 3
def cOut (Q : Option Value → zM → Prop) (M : zM) (c n : Nat) (b : Nat → Nat) (R : Except Nat (Nat × yQ)) : Prop := match R with
  | .error f => ∀ v M', BR M' c n b f → Fi (FG c) M M' → Q (some (.int v)) M'
  | .ok (o, K1) => ∀ M', GR M' c n b K1 → Fi (FG c) M M' → Q (some (.int (nI o))) M'
theorem cOut_e {Q : Option Value → zM → Prop} {M : zM} {c n f : Nat} {b : Nat → Nat} {R : Except Nat (Nat × yQ)} (e : R = .error f) (h : ∀ v M', BR M' c n b f → Fi (FG c) M M' → Q (some (.int v)) M') : cOut Q M c n b R := by subst e; exact h
theorem cOut_o {Q : Option Value → zM → Prop} {M : zM} {c n o : Nat} {b : Nat → Nat} {K1 : yQ} {R : Except Nat (Nat × yQ)} (e : R = .ok (o, K1)) (h : ∀ M', GR M' c n b K1 → Fi (FG c) M M' → Q (some (.int (nI o))) M') : cOut Q M c n b R := by subst e; exact h
def cLN (m : Nat) : Prop := ∀ (d : Nat) (M : zM) (Q : Option Value → zM → Prop) (K : yQ) (ah c n : Nat) (b : Nat → Nat), GR M c n b K → yQv n b K → ah < 2 ^ tn K.2 → cOut Q M c n b (pLd n b m (tq m) ah K) → qC (d + 3 * m + 12) 18 [.ref 17, .int (nI ah), .int (nI (3 - m))] M Q
def cBR (m : Nat) : Prop := ∀ (d : Nat) (M : zM) (Q : Option Value → zM → Prop) (K : yQ) (ah c n : Nat) (b : Nat → Nat), GR M c n b K → yQv n b K → ah < 2 ^ tn K.2 → cOut Q M c n b (pBr n b (pLd n b m false) ah K) → qC (d + 3 * m + 13) 30 [.ref 17, .int (nI ah), .int (nI (3 - m))] M Q
/-- what a part may have within braces -/
def pB0 (n : Nat) (b : Nat → Nat) (m : Nat) : pFn := match m with
  | 0 => fun _ Q => .error Q.1.2.1
  | m + 1 => pBr n b (pLd n b m false)
theorem pLd_eq (n : Nat) (b : Nat → Nat) (m : Nat) (top : Bool) : pLd n b m top = pLn n b (pPt n b (pB0 n b m) top) := by cases m <;> rfl
theorem pB0_v {n : Nat} {b : Nat → Nat} (hb : ∀ i, i < n → b i < 256) (m : Nat) : pOK n b (pB0 n b m) := by
  cases m with
  | zero => exact fun _ Q hQ _ => hQ.f
  | succ m => exact pBr_v hb (pLd_v hb m false)
def cPT (m : Nat) : Prop := ∀ (d : Nat) (M : zM) (Q : Option Value → zM → Prop) (K : yQ) (ah c n : Nat) (b : Nat → Nat), GR M c n b K → yQv n b K → ah < 2 ^ tn K.2 → cOut Q M c n b (pPt n b (pB0 n b m) (tq m) ah K) → qC (d + 3 * m + 11) 19 [.ref 17, .int (nI ah), .int (nI (3 - m))] M Q
theorem GR.pi {M : zM} {c n ah : Nat} {b : Nat → Nat} {K : yQ} (h : GR M c n b K) : GR (zwi M (20 + 7 * c) 7 (nI ah)) c n b (K.1, pPi K.2 ah) := by
  have f : Fi (fun a k => a = 20 + 7 * c ∧ k = 7) M (zwi M (20 + 7 * c) 7 (nI ah)) := (Fi.refl _ _).wi ⟨rfl, rfl⟩
  obtain ⟨h1, h2, h3⟩ := h.2.2.2.2.2.2
  exact ⟨SC_wi h.1 (by omega), h.2.1, RTp_fi h.2.2.1 f.fr ⟨by omega, fun q => by omega⟩, RK_fi h.2.2.2.1 f.fr ⟨by omega, by omega, by omega⟩, (f.1 _ _ (by omega)).trans h.2.2.2.2.1, h.2.2.2.2.2.1, (f.1 _ _ (by omega)).trans h1, wi_s _ _ _ _, fun q hq => ⟨(f.1 _ _ (by omega)).trans (h3 q hq).1, (f.1 _ _ (by omega)).trans (h3 q hq).2.1, (f.1 _ _ (by omega)).trans (h3 q hq).2.2.1, (f.1 _ _ (by omega)).trans (h3 q hq).2.2.2.1, (f.1 _ _ (by omega)).trans (h3 q hq).2.2.2.2⟩⟩
theorem cOut_ret {Q Q' : Option Value → zM → Prop} {M : zM} {c n : Nat} {b : Nat → Nat} {R : Except Nat (Nat × yQ)} (h : cOut Q M c n b R) (hq : ∀ (v : Int32) M', Q (some (.int v)) M' → Q' (some (.int v)) M') : cOut Q' M c n b R := by
  cases R with
  | error f => exact fun v M' g f1 => hq _ _ (h v M' g f1)
  | ok r => exact fun M' g f1 => hq _ _ (h M' g f1)
theorem c19_0 : cPT 0 := by
  intro d M Q K ah c n b hG hv hah hk
  refine qC_of (d := d + 3 * 0 + 10) (by decide) (Nat.le_of_ble_eq_true rfl) ?_
  have h120 := hG.2.2.1.1
  have hk1 := hv.1.1.1
  have hk2 := hv.1.1.2.1
  have hk3 := hv.1.1.2.2.1
  by_cases ht : K.1.1 = 1
  · rw [show pPt n b (pB0 n b 0) (tq 0) ah K = pSt n b ah K from if_pos ht] at hk
    refine q_aload_n d19_0 rfl ?_
    refine q_getv (c := 3) (f := 5) d19_1 ⟨rfl, by decide⟩ hG.1.2.1.1 hG.2.2.2.2.1 ?_
    refine q_iconst (x := (-1)) d19_4 rfl ?_
    refine ic_ne 22 d19_5 (by decide) (fun h5 => (False.elim (h5 rfl))) (fun h5 => ?_)
    refine q_aload_n d19_8 rfl ?_
    refine q_getv (c := 3) (f := 3) d19_9 ⟨rfl, by decide⟩ hG.1.2.1.1 hG.2.2.2.1.1 ?_
    refine q_iconstN (z := 1) d19_12 ?_
    refine nc_ne 22 d19_13 (by decide) (by omega) (by omega) (fun h13 => (False.elim (h13 ht))) (fun h13 => ?_)
    refine q_aload_n d19_16 rfl ?_
    refine q_iload_n d19_17 rfl ?_
    exact q_v1 d19_18 rfl rfl hG.1.2.1.1 (Nat.le_of_ble_eq_true rfl) (c20 hG hv (fun o K1 M1 e hG1 f1 => (q_iret d19_21 rfl (by rw [e] at hk; exact hk M1 hG1 f1))) (fun f v M1 e hB f1 => (q_iret d19_21 rfl (by rw [e] at hk; exact hk v M1 hB f1))))
  · by_cases hb : K.1.1 = 123
    · rw [show pPt n b (pB0 n b 0) (tq 0) ah K = .error K.1.2.1 from (if_neg ht).trans (if_pos hb)] at hk
      refine q_aload_n d19_0 rfl ?_
      refine q_getv (c := 3) (f := 5) d19_1 ⟨rfl, by decide⟩ hG.1.2.1.1 hG.2.2.2.2.1 ?_
      refine q_iconst (x := (-1)) d19_4 rfl ?_
      refine ic_ne 22 d19_5 (by decide) (fun h5 => (False.elim (h5 rfl))) (fun h5 => ?_)
      refine q_aload_n d19_8 rfl ?_
      refine q_getv (c := 3) (f := 3) d19_9 ⟨rfl, by decide⟩ hG.1.2.1.1 hG.2.2.2.1.1 ?_
      refine q_iconstN (z := 1) d19_12 ?_
      refine nc_ne 22 d19_13 (by decide) (by omega) (by omega) (fun h13 => ?_) (fun h13 => (False.elim (ht h13)))
      refine q_aload_n d19_22 rfl ?_
      refine q_getv (c := 3) (f := 5) d19_23 ⟨rfl, by decide⟩ hG.1.2.1.1 hG.2.2.2.2.1 ?_
      refine q_iconst (x := (-1)) d19_26 rfl ?_
      refine ic_ne 53 d19_27 (by decide) (fun h27 => (False.elim (h27 rfl))) (fun h27 => ?_)
      refine q_aload_n d19_30 rfl ?_
      refine q_getv (c := 3) (f := 3) d19_31 ⟨rfl, by decide⟩ hG.1.2.1.1 hG.2.2.2.1.1 ?_
      refine q_bipush (x := nI 123) d19_34 rfl ?_
      refine nc_ne 53 d19_36 (by decide) (by omega) (by omega) (fun h36 => (False.elim (h36 hb))) (fun h36 => ?_)
      refine q_iload_n d19_39 rfl ?_
      refine q_iconstN (z := 3) d19_40 ?_
      refine nc_ge 53 d19_41 (by decide) (by omega) (by omega) (fun h41 => ?_) (fun h41 => (False.elim (by omega)))
      refine q_aload_n d19_53 rfl ?_
      refine q_getv (c := 3) (f := 5) d19_54 ⟨rfl, by decide⟩ hG.1.2.1.1 hG.2.2.2.2.1 ?_
      refine q_iconst (x := (-1)) d19_57 rfl ?_
      refine ic_ne 99 d19_58 (by decide) (fun h58 => (False.elim (h58 rfl))) (fun h58 => ?_)
      refine q_aload_n d19_61 rfl ?_
      refine q_getv (c := 3) (f := 3) d19_62 ⟨rfl, by decide⟩ hG.1.2.1.1 hG.2.2.2.1.1 ?_
      refine q_bipush (x := nI 33) d19_65 rfl ?_
      refine nc_ne 99 d19_67 (by decide) (by omega) (by omega) (fun h67 => ?_) (fun h67 => (False.elim (by omega)))
      refine q_aload_n d19_99 rfl ?_
      refine q_v0 d19_100 rfl rfl hG.1.2.1.1 (Nat.le_of_ble_eq_true rfl) (c24 hG hv (fun M1 hB f1 => ?_))
      refine q_iconstN (z := 0) d19_103 ?_
      refine q_iret d19_104 rfl ?_
      exact hk _ _ hB f1
    · by_cases hp : K.1.1 = 33 ∧ tq 0 = true ∧ tp K.2 = -1
      · have hz : 3 = 0 := by have := hp.2.1; unfold tq at this; simp only [beq_iff_eq] at this; omega
        rw [show pPt n b (pB0 n b 0) (tq 0) ah K = .ok (0, (pAd n b K.1, pPi K.2 ah)) from (if_neg ht).trans ((if_neg hb).trans (if_pos hp))] at hk
        refine q_aload_n d19_0 rfl ?_
        refine q_getv (c := 3) (f := 5) d19_1 ⟨rfl, by decide⟩ hG.1.2.1.1 hG.2.2.2.2.1 ?_
        refine q_iconst (x := (-1)) d19_4 rfl ?_
        refine ic_ne 22 d19_5 (by decide) (fun h5 => (False.elim (h5 rfl))) (fun h5 => ?_)
        refine q_aload_n d19_8 rfl ?_
        refine q_getv (c := 3) (f := 3) d19_9 ⟨rfl, by decide⟩ hG.1.2.1.1 hG.2.2.2.1.1 ?_
        refine q_iconstN (z := 1) d19_12 ?_
        refine nc_ne 22 d19_13 (by decide) (by omega) (by omega) (fun h13 => ?_) (fun h13 => (False.elim (ht h13)))
        refine q_aload_n d19_22 rfl ?_
        refine q_getv (c := 3) (f := 5) d19_23 ⟨rfl, by decide⟩ hG.1.2.1.1 hG.2.2.2.2.1 ?_
        refine q_iconst (x := (-1)) d19_26 rfl ?_
        refine ic_ne 53 d19_27 (by decide) (fun h27 => (False.elim (h27 rfl))) (fun h27 => ?_)
        refine q_aload_n d19_30 rfl ?_
        refine q_getv (c := 3) (f := 3) d19_31 ⟨rfl, by decide⟩ hG.1.2.1.1 hG.2.2.2.1.1 ?_
        refine q_bipush (x := nI 123) d19_34 rfl ?_
        refine nc_ne 53 d19_36 (by decide) (by omega) (by omega) (fun h36 => ?_) (fun h36 => (False.elim (hb h36)))
        refine q_aload_n d19_53 rfl ?_
        refine q_getv (c := 3) (f := 5) d19_54 ⟨rfl, by decide⟩ hG.1.2.1.1 hG.2.2.2.2.1 ?_
        refine q_iconst (x := (-1)) d19_57 rfl ?_
        refine ic_ne 99 d19_58 (by decide) (fun h58 => (False.elim (h58 rfl))) (fun h58 => ?_)
        refine q_aload_n d19_61 rfl ?_
        refine q_getv (c := 3) (f := 3) d19_62 ⟨rfl, by decide⟩ hG.1.2.1.1 hG.2.2.2.1.1 ?_
        refine q_bipush (x := nI 33) d19_65 rfl ?_
        refine nc_ne 99 d19_67 (by decide) (by omega) (by omega) (fun h67 => (False.elim (h67 hp.1))) (fun h67 => ?_)
        refine q_iload_n d19_70 rfl ?_
        refine n0_ne 99 d19_71 (by decide) (by omega) (fun h71 => (False.elim (h71 hz))) (fun h71 => ?_)
        refine q_aload_n d19_74 rfl ?_
        refine q_getr (c := 3) (f := 6) d19_75 ⟨rfl, rfl⟩ hG.1.2.1.1 hG.2.2.2.2.2.1 ?_
        refine q_getv (c := 1) (f := 7) d19_78 ⟨rfl, by decide⟩ (hG.1.pr hG.2.1).1 hG.2.2.2.2.2.2.2.1 ?_
        refine q_iconst (x := (-1)) d19_81 rfl ?_
        refine ic_ne 99 d19_82 (by decide) (fun h82 => (False.elim (h82 hp.2.2))) (fun h82 => ?_)
        refine q_aload_n d19_85 rfl ?_
        refine q_getr (c := 3) (f := 6) d19_86 ⟨rfl, rfl⟩ hG.1.2.1.1 hG.2.2.2.2.2.1 ?_
        refine q_iload_n d19_89 rfl ?_
        refine q_puti (c := 1) (f := 7) d19_90 ⟨rfl, rfl, by decide⟩ (hG.1.pr hG.2.1).1 ?_
        have f1p : Fi (FG c) M (zwi M (20 + 7 * c) 7 (nI ah)) := (Fi.refl _ _).wi (Or.inr ⟨by omega, by omega⟩)
        have hG2 : GR (zwi M (20 + 7 * c) 7 (nI ah)) c n b (K.1, pPi K.2 ah) := hG.pi
        refine q_aload_n d19_93 rfl ?_
        refine q_v0 d19_94 rfl rfl hG.1.2.1.1 (Nat.le_of_ble_eq_true rfl) (c16 hG2.1.2.1 hG2.2.2.1 hG2.2.2.2.1.2.2 (by omega) (fun M1 hk1 f1 => ?_))
        refine q_iconstN (z := 0) d19_97 ?_
        refine q_iret d19_98 rfl ?_
        exact hk _ (hG2.ad hk1 f1) (f1p.trans (f1.mono FK_G))
      · rw [show pPt n b (pB0 n b 0) (tq 0) ah K = .error K.1.2.1 from (if_neg ht).trans ((if_neg hb).trans (if_neg hp))] at hk
        refine q_aload_n d19_0 rfl ?_
        refine q_getv (c := 3) (f := 5) d19_1 ⟨rfl, by decide⟩ hG.1.2.1.1 hG.2.2.2.2.1 ?_
        refine q_iconst (x := (-1)) d19_4 rfl ?_
        refine ic_ne 22 d19_5 (by decide) (fun h5 => (False.elim (h5 rfl))) (fun h5 => ?_)
        refine q_aload_n d19_8 rfl ?_
        refine q_getv (c := 3) (f := 3) d19_9 ⟨rfl, by decide⟩ hG.1.2.1.1 hG.2.2.2.1.1 ?_
        refine q_iconstN (z := 1) d19_12 ?_
        refine nc_ne 22 d19_13 (by decide) (by omega) (by omega) (fun h13 => ?_) (fun h13 => (False.elim (ht h13)))
        refine q_aload_n d19_22 rfl ?_
        refine q_getv (c := 3) (f := 5) d19_23 ⟨rfl, by decide⟩ hG.1.2.1.1 hG.2.2.2.2.1 ?_
        refine q_iconst (x := (-1)) d19_26 rfl ?_
        refine ic_ne 53 d19_27 (by decide) (fun h27 => (False.elim (h27 rfl))) (fun h27 => ?_)
        refine q_aload_n d19_30 rfl ?_
        refine q_getv (c := 3) (f := 3) d19_31 ⟨rfl, by decide⟩ hG.1.2.1.1 hG.2.2.2.1.1 ?_
        refine q_bipush (x := nI 123) d19_34 rfl ?_
        refine nc_ne 53 d19_36 (by decide) (by omega) (by omega) (fun h36 => ?_) (fun h36 => (False.elim (hb h36)))
        refine q_aload_n d19_53 rfl ?_
        refine q_getv (c := 3) (f := 5) d19_54 ⟨rfl, by decide⟩ hG.1.2.1.1 hG.2.2.2.2.1 ?_
        refine q_iconst (x := (-1)) d19_57 rfl ?_
        refine ic_ne 99 d19_58 (by decide) (fun h58 => (False.elim (h58 rfl))) (fun h58 => ?_)
        refine q_aload_n d19_61 rfl ?_
        refine q_getv (c := 3) (f := 3) d19_62 ⟨rfl, by decide⟩ hG.1.2.1.1 hG.2.2.2.1.1 ?_
        refine q_bipush (x := nI 33) d19_65 rfl ?_
        refine nc_ne 99 d19_67 (by decide) (by omega) (by omega) (fun h67 => ?_) (fun h67 => ?_)
        · refine q_aload_n d19_99 rfl ?_
          refine q_v0 d19_100 rfl rfl hG.1.2.1.1 (Nat.le_of_ble_eq_true rfl) (c24 hG hv (fun M1 hB f1 => ?_))
          refine q_iconstN (z := 0) d19_103 ?_
          refine q_iret d19_104 rfl ?_
          exact hk _ _ hB f1
        · refine q_iload_n d19_70 rfl ?_
          refine n0_ne 99 d19_71 (by decide) (by omega) (fun h71 => ?_) (fun h71 => ?_)
          · refine q_aload_n d19_99 rfl ?_
            refine q_v0 d19_100 rfl rfl hG.1.2.1.1 (Nat.le_of_ble_eq_true rfl) (c24 hG hv (fun M1 hB f1 => ?_))
            refine q_iconstN (z := 0) d19_103 ?_
            refine q_iret d19_104 rfl ?_
            exact hk _ _ hB f1
          · refine q_aload_n d19_74 rfl ?_
            refine q_getr (c := 3) (f := 6) d19_75 ⟨rfl, rfl⟩ hG.1.2.1.1 hG.2.2.2.2.2.1 ?_
            refine q_getv (c := 1) (f := 7) d19_78 ⟨rfl, by decide⟩ (hG.1.pr hG.2.1).1 hG.2.2.2.2.2.2.2.1 ?_
            refine q_iconst (x := (-1)) d19_81 rfl ?_
            refine ic_ne 99 d19_82 (by decide) (fun h82 => ?_) (fun h82 => (False.elim (hp ⟨h67, by unfold tq; rw [beq_iff_eq]; omega, h82⟩)))
            refine q_aload_n d19_99 rfl ?_
            refine q_v0 d19_100 rfl rfl hG.1.2.1.1 (Nat.le_of_ble_eq_true rfl) (c24 hG hv (fun M1 hB f1 => ?_))
            refine q_iconstN (z := 0) d19_103 ?_
            refine q_iret d19_104 rfl ?_
            exact hk _ _ hB f1
theorem c19_S (m : Nat) (hm2 : m ≤ 2) (hBr : cBR m) : cPT (m + 1) := by
  intro d M Q K ah c n b hG hv hah hk
  rw [show d + 3 * (m + 1) + 11 = d + 3 * m + 13 + 1 by omega]
  refine qC_of (by decide) (Nat.le_of_ble_eq_true rfl) ?_
  have h120 := hG.2.2.1.1
  have hk1 := hv.1.1.1
  have hk2 := hv.1.1.2.1
  have hk3 := hv.1.1.2.2.1
  by_cases ht : K.1.1 = 1
  · rw [show pPt n b (pB0 n b (m + 1)) (tq (m + 1)) ah K = pSt n b ah K from if_pos ht] at hk
    refine q_aload_n d19_0 rfl ?_
    refine q_getv (c := 3) (f := 5) d19_1 ⟨rfl, by decide⟩ hG.1.2.1.1 hG.2.2.2.2.1 ?_
    refine q_iconst (x := (-1)) d19_4 rfl ?_
    refine ic_ne 22 d19_5 (by decide) (fun h5 => (False.elim (h5 rfl))) (fun h5 => ?_)
    refine q_aload_n d19_8 rfl ?_
    refine q_getv (c := 3) (f := 3) d19_9 ⟨rfl, by decide⟩ hG.1.2.1.1 hG.2.2.2.1.1 ?_
    refine q_iconstN (z := 1) d19_12 ?_
    refine nc_ne 22 d19_13 (by decide) (by omega) (by omega) (fun h13 => (False.elim (h13 ht))) (fun h13 => ?_)
    refine q_aload_n d19_16 rfl ?_
    refine q_iload_n d19_17 rfl ?_
    exact q_v1 d19_18 rfl rfl hG.1.2.1.1 (Nat.le_of_ble_eq_true rfl) (c20 hG hv (fun o K1 M1 e hG1 f1 => (q_iret d19_21 rfl (by rw [e] at hk; exact hk M1 hG1 f1))) (fun f v M1 e hB f1 => (q_iret d19_21 rfl (by rw [e] at hk; exact hk v M1 hB f1))))
  · by_cases hb : K.1.1 = 123
    · rw [show pPt n b (pB0 n b (m + 1)) (tq (m + 1)) ah K = pBr n b (pLd n b m false) ah K from (if_neg ht).trans (if_pos hb)] at hk
      refine q_aload_n d19_0 rfl ?_
      refine q_getv (c := 3) (f := 5) d19_1 ⟨rfl, by decide⟩ hG.1.2.1.1 hG.2.2.2.2.1 ?_
      refine q_iconst (x := (-1)) d19_4 rfl ?_
      refine ic_ne 22 d19_5 (by decide) (fun h5 => (False.elim (h5 rfl))) (fun h5 => ?_)
      refine q_aload_n d19_8 rfl ?_
      refine q_getv (c := 3) (f := 3) d19_9 ⟨rfl, by decide⟩ hG.1.2.1.1 hG.2.2.2.1.1 ?_
      refine q_iconstN (z := 1) d19_12 ?_
      refine nc_ne 22 d19_13 (by decide) (by omega) (by omega) (fun h13 => ?_) (fun h13 => (False.elim (ht h13)))
      refine q_aload_n d19_22 rfl ?_
      refine q_getv (c := 3) (f := 5) d19_23 ⟨rfl, by decide⟩ hG.1.2.1.1 hG.2.2.2.2.1 ?_
      refine q_iconst (x := (-1)) d19_26 rfl ?_
      refine ic_ne 53 d19_27 (by decide) (fun h27 => (False.elim (h27 rfl))) (fun h27 => ?_)
      refine q_aload_n d19_30 rfl ?_
      refine q_getv (c := 3) (f := 3) d19_31 ⟨rfl, by decide⟩ hG.1.2.1.1 hG.2.2.2.1.1 ?_
      refine q_bipush (x := nI 123) d19_34 rfl ?_
      refine nc_ne 53 d19_36 (by decide) (by omega) (by omega) (fun h36 => (False.elim (h36 hb))) (fun h36 => ?_)
      refine q_iload_n d19_39 rfl ?_
      refine q_iconstN (z := 3) d19_40 ?_
      refine nc_ge 53 d19_41 (by decide) (by omega) (by omega) (fun h41 => (False.elim (by omega))) (fun h41 => ?_)
      refine q_aload_n d19_44 rfl ?_
      refine q_iload_n d19_45 rfl ?_
      refine q_iload_n d19_46 rfl ?_
      refine q_iconstN (z := 1) d19_47 ?_
      refine n_iadd d19_48 ?_
      rw [show 3 - (m + 1) + 1 = 3 - m by omega]
      refine q_v2 d19_49 rfl rfl hG.1.2.1.1 (Nat.le_of_ble_eq_true rfl) (hBr _ _ _ _ _ _ _ _ hG hv hah ?_)
      exact cOut_ret hk (fun v M1 q => q_iret d19_52 rfl q)
    · by_cases hp : K.1.1 = 33 ∧ tq (m + 1) = true ∧ tp K.2 = -1
      · have hz : (3 - (m + 1)) = 0 := by have := hp.2.1; unfold tq at this; simp only [beq_iff_eq] at this; omega
        rw [show pPt n b (pB0 n b (m + 1)) (tq (m + 1)) ah K = .ok (0, (pAd n b K.1, pPi K.2 ah)) from (if_neg ht).trans ((if_neg hb).trans (if_pos hp))] at hk
        refine q_aload_n d19_0 rfl ?_
        refine q_getv (c := 3) (f := 5) d19_1 ⟨rfl, by decide⟩ hG.1.2.1.1 hG.2.2.2.2.1 ?_
        refine q_iconst (x := (-1)) d19_4 rfl ?_
        refine ic_ne 22 d19_5 (by decide) (fun h5 => (False.elim (h5 rfl))) (fun h5 => ?_)
        refine q_aload_n d19_8 rfl ?_
        refine q_getv (c := 3) (f := 3) d19_9 ⟨rfl, by decide⟩ hG.1.2.1.1 hG.2.2.2.1.1 ?_
        refine q_iconstN (z := 1) d19_12 ?_
        refine nc_ne 22 d19_13 (by decide) (by omega) (by omega) (fun h13 => ?_) (fun h13 => (False.elim (ht h13)))
        refine q_aload_n d19_22 rfl ?_
        refine q_getv (c := 3) (f := 5) d19_23 ⟨rfl, by decide⟩ hG.1.2.1.1 hG.2.2.2.2.1 ?_
        refine q_iconst (x := (-1)) d19_26 rfl ?_
        refine ic_ne 53 d19_27 (by decide) (fun h27 => (False.elim (h27 rfl))) (fun h27 => ?_)
        refine q_aload_n d19_30 rfl ?_
        refine q_getv (c := 3) (f := 3) d19_31 ⟨rfl, by decide⟩ hG.1.2.1.1 hG.2.2.2.1.1 ?_
        refine q_bipush (x := nI 123) d19_34 rfl ?_
        refine nc_ne 53 d19_36 (by decide) (by omega) (by omega) (fun h36 => ?_) (fun h36 => (False.elim (hb h36)))
        refine q_aload_n d19_53 rfl ?_
        refine q_getv (c := 3) (f := 5) d19_54 ⟨rfl, by decide⟩ hG.1.2.1.1 hG.2.2.2.2.1 ?_
        refine q_iconst (x := (-1)) d19_57 rfl ?_
        refine ic_ne 99 d19_58 (by decide) (fun h58 => (False.elim (h58 rfl))) (fun h58 => ?_)
        refine q_aload_n d19_61 rfl ?_
        refine q_getv (c := 3) (f := 3) d19_62 ⟨rfl, by decide⟩ hG.1.2.1.1 hG.2.2.2.1.1 ?_
        refine q_bipush (x := nI 33) d19_65 rfl ?_
        refine nc_ne 99 d19_67 (by decide) (by omega) (by omega) (fun h67 => (False.elim (h67 hp.1))) (fun h67 => ?_)
        refine q_iload_n d19_70 rfl ?_
        refine n0_ne 99 d19_71 (by decide) (by omega) (fun h71 => (False.elim (h71 hz))) (fun h71 => ?_)
        refine q_aload_n d19_74 rfl ?_
        refine q_getr (c := 3) (f := 6) d19_75 ⟨rfl, rfl⟩ hG.1.2.1.1 hG.2.2.2.2.2.1 ?_
        refine q_getv (c := 1) (f := 7) d19_78 ⟨rfl, by decide⟩ (hG.1.pr hG.2.1).1 hG.2.2.2.2.2.2.2.1 ?_
        refine q_iconst (x := (-1)) d19_81 rfl ?_
        refine ic_ne 99 d19_82 (by decide) (fun h82 => (False.elim (h82 hp.2.2))) (fun h82 => ?_)
        refine q_aload_n d19_85 rfl ?_
        refine q_getr (c := 3) (f := 6) d19_86 ⟨rfl, rfl⟩ hG.1.2.1.1 hG.2.2.2.2.2.1 ?_
        refine q_iload_n d19_89 rfl ?_
        refine q_puti (c := 1) (f := 7) d19_90 ⟨rfl, rfl, by decide⟩ (hG.1.pr hG.2.1).1 ?_
        have f1p : Fi (FG c) M (zwi M (20 + 7 * c) 7 (nI ah)) := (Fi.refl _ _).wi (Or.inr ⟨by omega, by omega⟩)
        have hG2 : GR (zwi M (20 + 7 * c) 7 (nI ah)) c n b (K.1, pPi K.2 ah) := hG.pi
        refine q_aload_n d19_93 rfl ?_
        refine q_v0 d19_94 rfl rfl hG.1.2.1.1 (Nat.le_of_ble_eq_true rfl) (c16 hG2.1.2.1 hG2.2.2.1 hG2.2.2.2.1.2.2 (by omega) (fun M1 hk1 f1 => ?_))
        refine q_iconstN (z := 0) d19_97 ?_
        refine q_iret d19_98 rfl ?_
        exact hk _ (hG2.ad hk1 f1) (f1p.trans (f1.mono FK_G))
      · rw [show pPt n b (pB0 n b (m + 1)) (tq (m + 1)) ah K = .error K.1.2.1 from (if_neg ht).trans ((if_neg hb).trans (if_neg hp))] at hk
        refine q_aload_n d19_0 rfl ?_
        refine q_getv (c := 3) (f := 5) d19_1 ⟨rfl, by decide⟩ hG.1.2.1.1 hG.2.2.2.2.1 ?_
        refine q_iconst (x := (-1)) d19_4 rfl ?_
        refine ic_ne 22 d19_5 (by decide) (fun h5 => (False.elim (h5 rfl))) (fun h5 => ?_)
        refine q_aload_n d19_8 rfl ?_
        refine q_getv (c := 3) (f := 3) d19_9 ⟨rfl, by decide⟩ hG.1.2.1.1 hG.2.2.2.1.1 ?_
        refine q_iconstN (z := 1) d19_12 ?_
        refine nc_ne 22 d19_13 (by decide) (by omega) (by omega) (fun h13 => ?_) (fun h13 => (False.elim (ht h13)))
        refine q_aload_n d19_22 rfl ?_
        refine q_getv (c := 3) (f := 5) d19_23 ⟨rfl, by decide⟩ hG.1.2.1.1 hG.2.2.2.2.1 ?_
        refine q_iconst (x := (-1)) d19_26 rfl ?_
        refine ic_ne 53 d19_27 (by decide) (fun h27 => (False.elim (h27 rfl))) (fun h27 => ?_)
        refine q_aload_n d19_30 rfl ?_
        refine q_getv (c := 3) (f := 3) d19_31 ⟨rfl, by decide⟩ hG.1.2.1.1 hG.2.2.2.1.1 ?_
        refine q_bipush (x := nI 123) d19_34 rfl ?_
        refine nc_ne 53 d19_36 (by decide) (by omega) (by omega) (fun h36 => ?_) (fun h36 => (False.elim (hb h36)))
        refine q_aload_n d19_53 rfl ?_
        refine q_getv (c := 3) (f := 5) d19_54 ⟨rfl, by decide⟩ hG.1.2.1.1 hG.2.2.2.2.1 ?_
        refine q_iconst (x := (-1)) d19_57 rfl ?_
        refine ic_ne 99 d19_58 (by decide) (fun h58 => (False.elim (h58 rfl))) (fun h58 => ?_)
        refine q_aload_n d19_61 rfl ?_
        refine q_getv (c := 3) (f := 3) d19_62 ⟨rfl, by decide⟩ hG.1.2.1.1 hG.2.2.2.1.1 ?_
        refine q_bipush (x := nI 33) d19_65 rfl ?_
        refine nc_ne 99 d19_67 (by decide) (by omega) (by omega) (fun h67 => ?_) (fun h67 => ?_)
        · refine q_aload_n d19_99 rfl ?_
          refine q_v0 d19_100 rfl rfl hG.1.2.1.1 (Nat.le_of_ble_eq_true rfl) (c24 hG hv (fun M1 hB f1 => ?_))
          refine q_iconstN (z := 0) d19_103 ?_
          refine q_iret d19_104 rfl ?_
          exact hk _ _ hB f1
        · refine q_iload_n d19_70 rfl ?_
          refine n0_ne 99 d19_71 (by decide) (by omega) (fun h71 => ?_) (fun h71 => ?_)
          · refine q_aload_n d19_99 rfl ?_
            refine q_v0 d19_100 rfl rfl hG.1.2.1.1 (Nat.le_of_ble_eq_true rfl) (c24 hG hv (fun M1 hB f1 => ?_))
            refine q_iconstN (z := 0) d19_103 ?_
            refine q_iret d19_104 rfl ?_
            exact hk _ _ hB f1
          · refine q_aload_n d19_74 rfl ?_
            refine q_getr (c := 3) (f := 6) d19_75 ⟨rfl, rfl⟩ hG.1.2.1.1 hG.2.2.2.2.2.1 ?_
            refine q_getv (c := 1) (f := 7) d19_78 ⟨rfl, by decide⟩ (hG.1.pr hG.2.1).1 hG.2.2.2.2.2.2.2.1 ?_
            refine q_iconst (x := (-1)) d19_81 rfl ?_
            refine ic_ne 99 d19_82 (by decide) (fun h82 => ?_) (fun h82 => (False.elim (hp ⟨h67, by unfold tq; rw [beq_iff_eq]; omega, h82⟩)))
            refine q_aload_n d19_99 rfl ?_
            refine q_v0 d19_100 rfl rfl hG.1.2.1.1 (Nat.le_of_ble_eq_true rfl) (c24 hG hv (fun M1 hB f1 => ?_))
            refine q_iconstN (z := 0) d19_103 ?_
            refine q_iret d19_104 rfl ?_
            exact hk _ _ hB f1
theorem pRe_no {n ah r own : Nat} {b : Nat → Nat} {pt : pFn} {K : yQ} (h : ¬ K.1.1 = 59) : pRe n b pt ah r own K = .ok (own, K) := by
  cases r with
  | zero => rfl
  | succ r => rw [pRe, if_neg h]
theorem pRe_er {n ah r own f : Nat} {b : Nat → Nat} {pt : pFn} {K : yQ} (h : K.1.1 = 59) (e : pt (ah ||| own) (pAd n b K.1, K.2) = .error f) : pRe n b pt ah (r + 1) own K = .error f := by
  rw [pRe, if_pos h, e]
theorem pRe_ok {n ah r own o : Nat} {b : Nat → Nat} {pt : pFn} {K K2 : yQ} (h : K.1.1 = 59) (e : pt (ah ||| own) (pAd n b K.1, K.2) = .ok (o, K2)) : pRe n b pt ah (r + 1) own K = pRe n b pt ah r (own ||| o) K2 := by
  rw [pRe, if_pos h, e]
theorem l18b {d : Nat} {M : zM} {Q : Option Value → zM → Prop} {c n f : Nat} {b : Nat → Nat} {x z : Int32} (hB : BR M c n b f) (hf : f ≤ 120) (k : ∀ v M', M' = M → Q (some (.int v)) M') : ∀ (r i : Nat) (v : Int32), i ≤ 121 → 121 ≤ i + r → qW (zEv (d + 1)) 18 Q 10 [(0, .ref 17), (1, .int x), (2, .int z), (3, .int v), (4, .int (nI i))] [] M := by
  intro r i v h1 h2
  by_cases hi : i < 120
  · skip
    refine q_iload d18_10 rfl ?_
    refine q_bipush (x := nI 120) d18_12 rfl ?_
    refine nc_ge 55 d18_14 (by decide) (by omega) (by omega) (fun h14 => ?_) (fun h14 => ?_)
    · refine q_iload_n d18_55 rfl ?_
      refine q_iret d18_56 rfl ?_
      exact k _ _ rfl
    · refine q_aload_n d18_17 rfl ?_
      refine q_getv (c := 3) (f := 5) d18_18 ⟨rfl, by decide⟩ hB.1.2.1.1 hB.2.2.2.1 ?_
      refine q_iconst (x := (-1)) d18_21 rfl ?_
      refine ic_ne 55 d18_22 (by decide) (fun h22 => ?_) (fun h22 => (False.elim (nI_m1 (by omega) h22)))
      refine q_iload_n d18_55 rfl ?_
      refine q_iret d18_56 rfl ?_
      exact k _ _ rfl
  · skip
    refine q_iload d18_10 rfl ?_
    refine q_bipush (x := nI 120) d18_12 rfl ?_
    refine nc_ge 55 d18_14 (by decide) (by omega) (by omega) (fun h14 => ?_) (fun h14 => ?_)
    · refine q_iload_n d18_55 rfl ?_
      refine q_iret d18_56 rfl ?_
      exact k _ _ rfl
    · refine q_aload_n d18_17 rfl ?_
      refine q_getv (c := 3) (f := 5) d18_18 ⟨rfl, by decide⟩ hB.1.2.1.1 hB.2.2.2.1 ?_
      refine q_iconst (x := (-1)) d18_21 rfl ?_
      refine ic_ne 55 d18_22 (by decide) (fun h22 => ?_) (fun h22 => (False.elim (nI_m1 (by omega) h22)))
      refine q_iload_n d18_55 rfl ?_
      refine q_iret d18_56 rfl ?_
      exact k _ _ rfl
theorem l18 {d m : Nat} {Q : Option Value → zM → Prop} {M0 : zM} {ah c n : Nat} {b : Nat → Nat} {R : Except Nat (Nat × yQ)} (hP : cPT m) (hk : cOut Q M0 c n b R) : ∀ (r i own : Nat) (K1 : yQ) (M1 : zM), i ≤ 120 → 120 < i + r → GR M1 c n b K1 → yQv n b K1 → ah < 2 ^ tn K1.2 → own < 2 ^ tn K1.2 → Fi (FG c) M0 M1 → pRe n b (pPt n b (pB0 n b m) (tq m)) ah (120 - i) own K1 = R →
    qW (zEv (d + 3 * m + 11)) 18 Q 10 [(0, .ref 17), (1, .int (nI ah)), (2, .int (nI (3 - m))), (3, .int (nI own)), (4, .int (nI i))] [] M1 := by
  intro r
  induction r with
  | zero => intros; omega
  | succ r ih =>
    intro i own K1 M1 h1 h2 hG1 hv1 hah hown hF hR
    have h120 := hG1.2.2.1.1
    have hk1 := hv1.1.1.1
    have hk2 := hv1.1.1.2.1
    have hk3 := hv1.1.1.2.2.1
    by_cases hi : i < 120
    · by_cases ht : K1.1.1 = 59
      · cases e : pPt n b (pB0 n b m) (tq m) (ah ||| own) (pAd n b K1.1, K1.2) with
        | error f =>
        refine q_iload d18_10 rfl ?_
        refine q_bipush (x := nI 120) d18_12 rfl ?_
        refine nc_ge 55 d18_14 (by decide) (by omega) (by omega) (fun h14 => (False.elim (by omega))) (fun h14 => ?_)
        refine q_aload_n d18_17 rfl ?_
        refine q_getv (c := 3) (f := 5) d18_18 ⟨rfl, by decide⟩ hG1.1.2.1.1 hG1.2.2.2.2.1 ?_
        refine q_iconst (x := (-1)) d18_21 rfl ?_
        refine ic_ne 55 d18_22 (by decide) (fun h22 => (False.elim (h22 rfl))) (fun h22 => ?_)
        refine q_aload_n d18_25 rfl ?_
        refine q_getv (c := 3) (f := 3) d18_26 ⟨rfl, by decide⟩ hG1.1.2.1.1 hG1.2.2.2.1.1 ?_
        refine q_bipush (x := nI 59) d18_29 rfl ?_
        refine nc_ne 55 d18_31 (by decide) (by omega) (by omega) (fun h31 => (False.elim (h31 ht))) (fun h31 => ?_)
        refine q_aload_n d18_34 rfl ?_
        refine q_v0 d18_35 rfl rfl hG1.1.2.1.1 (Nat.le_of_ble_eq_true rfl) (c16 hG1.1.2.1 hG1.2.2.1 hG1.2.2.2.1.2.2 (by omega) (fun M2 hk2 f2 => ?_))
        have hG2 := hG1.ad hk2 f2
        have g2 : Fi (FG c) M0 M2 := hF.trans (f2.mono FK_G)
        have hv2 : yQv n b (pAd n b K1.1, K1.2) := ⟨(pAd_v hv1.1 hG1.b).1, hv1.2⟩
        refine q_iload_n d18_38 rfl ?_
        refine q_aload_n d18_39 rfl ?_
        refine q_iload_n d18_40 rfl ?_
        refine q_iload_n d18_41 rfl ?_
        refine n_ior d18_42 ?_
        refine q_iload_n d18_43 rfl ?_
        refine q_v2 d18_44 rfl rfl hG2.1.2.1.1 (Nat.le_of_ble_eq_true rfl) (hP _ _ _ _ _ _ _ _ hG2 hv2 (or_lt hah hown) (cOut_e e (fun v M3 hB3 f3 => ?_)))
        refine q_ior d18_47 ?_
        refine q_istore_n d18_48 (by decide) rfl ?_
        refine n_iinc 1 d18_49 (by decide) rfl rfl ?_
        refine q_goto 10 d18_52 (by decide) ?_
        refine qW_srt rfl rfl ?_
        rw [show 120 - i = (120 - (i + 1)) + 1 by omega, pRe_er ht e] at hR
        subst hR
        have hf : f ≤ 120 := by have h9 := pPt_v (top := tq m) hG1.b (pB0_v hG1.b m) (ah ||| own) (pAd n b K1.1, K1.2) hv2 (or_lt hah hown); rw [e] at h9; exact Nat.le_trans h9 h120
        exact l18b hB3 hf (fun v M9 e9 => by subst e9; exact hk v _ hB3 (g2.trans f3)) (121) (i + 1) _ (by omega) (by omega)
        | ok r2 =>
          obtain ⟨o, K2⟩ := r2
          refine q_iload d18_10 rfl ?_
          refine q_bipush (x := nI 120) d18_12 rfl ?_
          refine nc_ge 55 d18_14 (by decide) (by omega) (by omega) (fun h14 => (False.elim (by omega))) (fun h14 => ?_)
          refine q_aload_n d18_17 rfl ?_
          refine q_getv (c := 3) (f := 5) d18_18 ⟨rfl, by decide⟩ hG1.1.2.1.1 hG1.2.2.2.2.1 ?_
          refine q_iconst (x := (-1)) d18_21 rfl ?_
          refine ic_ne 55 d18_22 (by decide) (fun h22 => (False.elim (h22 rfl))) (fun h22 => ?_)
          refine q_aload_n d18_25 rfl ?_
          refine q_getv (c := 3) (f := 3) d18_26 ⟨rfl, by decide⟩ hG1.1.2.1.1 hG1.2.2.2.1.1 ?_
          refine q_bipush (x := nI 59) d18_29 rfl ?_
          refine nc_ne 55 d18_31 (by decide) (by omega) (by omega) (fun h31 => (False.elim (h31 ht))) (fun h31 => ?_)
          refine q_aload_n d18_34 rfl ?_
          refine q_v0 d18_35 rfl rfl hG1.1.2.1.1 (Nat.le_of_ble_eq_true rfl) (c16 hG1.1.2.1 hG1.2.2.1 hG1.2.2.2.1.2.2 (by omega) (fun M2 hk2 f2 => ?_))
          have hG2 := hG1.ad hk2 f2
          have g2 : Fi (FG c) M0 M2 := hF.trans (f2.mono FK_G)
          have hv2 : yQv n b (pAd n b K1.1, K1.2) := ⟨(pAd_v hv1.1 hG1.b).1, hv1.2⟩
          refine q_iload_n d18_38 rfl ?_
          refine q_aload_n d18_39 rfl ?_
          refine q_iload_n d18_40 rfl ?_
          refine q_iload_n d18_41 rfl ?_
          refine n_ior d18_42 ?_
          refine q_iload_n d18_43 rfl ?_
          refine q_v2 d18_44 rfl rfl hG2.1.2.1.1 (Nat.le_of_ble_eq_true rfl) (hP _ _ _ _ _ _ _ _ hG2 hv2 (or_lt hah hown) (cOut_o e (fun M3 hG3 f3 => ?_)))
          refine n_ior d18_47 ?_
          refine q_istore_n d18_48 (by decide) rfl ?_
          refine n_iinc 1 d18_49 (by decide) rfl rfl ?_
          refine q_goto 10 d18_52 (by decide) ?_
          refine qW_srt rfl rfl ?_
          rw [show 120 - i = (120 - (i + 1)) + 1 by omega, pRe_ok ht e] at hR
          have h9 := pPt_v (top := tq m) hG1.b (pB0_v hG1.b m) (ah ||| own) (pAd n b K1.1, K1.2) hv2 (or_lt hah hown)
          rw [e] at h9
          obtain ⟨p1, p2, p3, p4, p5⟩ := h9
          have p2 : tn K1.2 ≤ tn K2.2 := p2
          have hw : 2 ^ tn K1.2 ≤ 2 ^ tn K2.2 := Nat.pow_le_pow_right (by omega) p2
          exact ih (i + 1) _ _ _ (by omega) (by omega) hG3 p1 (by omega) (or_lt (by omega) p3) (g2.trans f3) hR
      · skip
        refine q_iload d18_10 rfl ?_
        refine q_bipush (x := nI 120) d18_12 rfl ?_
        refine nc_ge 55 d18_14 (by decide) (by omega) (by omega) (fun h14 => ?_) (fun h14 => ?_)
        · refine q_iload_n d18_55 rfl ?_
          refine q_iret d18_56 rfl ?_
          rw [pRe_no ht] at hR
          subst hR
          exact hk _ hG1 hF
        · refine q_aload_n d18_17 rfl ?_
          refine q_getv (c := 3) (f := 5) d18_18 ⟨rfl, by decide⟩ hG1.1.2.1.1 hG1.2.2.2.2.1 ?_
          refine q_iconst (x := (-1)) d18_21 rfl ?_
          refine ic_ne 55 d18_22 (by decide) (fun h22 => (False.elim (h22 rfl))) (fun h22 => ?_)
          refine q_aload_n d18_25 rfl ?_
          refine q_getv (c := 3) (f := 3) d18_26 ⟨rfl, by decide⟩ hG1.1.2.1.1 hG1.2.2.2.1.1 ?_
          refine q_bipush (x := nI 59) d18_29 rfl ?_
          refine nc_ne 55 d18_31 (by decide) (by omega) (by omega) (fun h31 => ?_) (fun h31 => (False.elim (ht h31)))
          refine q_iload_n d18_55 rfl ?_
          refine q_iret d18_56 rfl ?_
          rw [pRe_no ht] at hR
          subst hR
          exact hk _ hG1 hF
    · skip
      refine q_iload d18_10 rfl ?_
      refine q_bipush (x := nI 120) d18_12 rfl ?_
      refine nc_ge 55 d18_14 (by decide) (by omega) (by omega) (fun h14 => ?_) (fun h14 => (False.elim (by omega)))
      refine q_iload_n d18_55 rfl ?_
      refine q_iret d18_56 rfl ?_
      rw [show 120 - i = 0 by omega, pRe] at hR
      subst hR
      exact hk _ hG1 hF
theorem c18_of (m : Nat) (hP : cPT m) : cLN m := by
  intro d M Q K ah c n b hG hv hah hk
  refine qC_of (d := d + 3 * m + 11) (by decide) (Nat.le_of_ble_eq_true rfl) ?_
  have h120 := hG.2.2.1.1
  have hk1 := hv.1.1.1
  have hk2 := hv.1.1.2.1
  have hk3 := hv.1.1.2.2.1
  rw [pLd_eq] at hk
  unfold pLn at hk
  cases e : pPt n b (pB0 n b m) (tq m) ah K with
  | error f =>
    rw [e] at hk
    simp only [] at hk
    refine q_aload_n d18_0 rfl ?_
    refine q_iload_n d18_1 rfl ?_
    refine q_iload_n d18_2 rfl ?_
    refine q_v2 d18_3 rfl rfl hG.1.2.1.1 (Nat.le_of_ble_eq_true rfl) (hP _ _ _ _ _ _ _ _ hG hv hah (cOut_e e (fun v M3 hB3 f3 => ?_)))
    refine q_istore_n d18_6 (by decide) rfl ?_
    refine q_iconstN (z := 0) d18_7 ?_
    refine q_istore d18_8 (by decide) rfl ?_
    refine qW_srt rfl rfl ?_
    have hf : f ≤ 120 := by have h9 := pPt_v (top := tq m) hG.b (pB0_v hG.b m) ah K hv hah; rw [e] at h9; exact Nat.le_trans h9 h120
    exact l18b hB3 hf (fun v M9 e9 => by subst e9; exact hk v _ hB3 f3) 121 0 _ (by omega) (by omega)
  | ok r =>
    obtain ⟨o, K2⟩ := r
    rw [e] at hk
    simp only [] at hk
    refine q_aload_n d18_0 rfl ?_
    refine q_iload_n d18_1 rfl ?_
    refine q_iload_n d18_2 rfl ?_
    refine q_v2 d18_3 rfl rfl hG.1.2.1.1 (Nat.le_of_ble_eq_true rfl) (hP _ _ _ _ _ _ _ _ hG hv hah (cOut_o e (fun M3 hG3 f3 => ?_)))
    refine q_istore_n d18_6 (by decide) rfl ?_
    refine q_iconstN (z := 0) d18_7 ?_
    refine q_istore d18_8 (by decide) rfl ?_
    refine qW_srt rfl rfl ?_
    have h9 := pPt_v (top := tq m) hG.b (pB0_v hG.b m) ah K hv hah
    rw [e] at h9
    obtain ⟨p1, p2, p3, p4, p5⟩ := h9
    have hw : 2 ^ tn K.2 ≤ 2 ^ tn K2.2 := Nat.pow_le_pow_right (by omega) p2
    exact l18 hP hk 121 0 _ _ _ (by omega) (by omega) hG3 p1 (by omega) p3 f3 rfl
