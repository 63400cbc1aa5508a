/-! ===== the reference: what is counted of a text (that it ends) ===== -/
/-- a new row, else as it was -/
def FC (M M' : zM) : Prop := (∀ a k, a ≠ zn M → zi M' a k = zi M a k) ∧ zr M' = zr M ∧ zl M' = zl M ∧ (∀ a, a ≠ zn M → zk M' a = zk M a) ∧ zn M' = zn M + 1 ∧ zs M' = zs M + 12
theorem d146_0 : decode (zB 146) 0 = .ok (.bipush 12, 2) := by decide +kernel
theorem d146_2 : decode (zB 146) 2 = .ok (.newarray .int, 2) := by decide +kernel
theorem d146_4 : decode (zB 146) 4 = .ok (.astore_n 2, 1) := by decide +kernel
theorem d146_5 : decode (zB 146) 5 = .ok (.iconst 0, 1) := by decide +kernel
theorem d146_6 : decode (zB 146) 6 = .ok (.istore_n 3, 1) := by decide +kernel
theorem d146_7 : decode (zB 146) 7 = .ok (.iconst 0, 1) := by decide +kernel
theorem d146_8 : decode (zB 146) 8 = .ok (.istore 4, 2) := by decide +kernel
theorem d146_10 : decode (zB 146) 10 = .ok (.iload 4, 2) := by decide +kernel
theorem d146_12 : decode (zB 146) 12 = .ok (.aload_n 0, 1) := by decide +kernel
theorem d146_13 : decode (zB 146) 13 = .ok (.getfield 9, 3) := by decide +kernel
theorem d146_16 : decode (zB 146) 16 = .ok (.iload_n 1, 1) := by decide +kernel
theorem d146_17 : decode (zB 146) 17 = .ok (.iaload, 1) := by decide +kernel
theorem d146_18 : decode (zB 146) 18 = .ok (.if_icmp .ge 68, 3) := by decide +kernel
theorem d146_21 : decode (zB 146) 21 = .ok (.aload_n 2, 1) := by decide +kernel
theorem d146_22 : decode (zB 146) 22 = .ok (.iload 4, 2) := by decide +kernel
theorem d146_24 : decode (zB 146) 24 = .ok (.iconst 1, 1) := by decide +kernel
theorem d146_25 : decode (zB 146) 25 = .ok (.iastore, 1) := by decide +kernel
theorem d146_26 : decode (zB 146) 26 = .ok (.iconst 0, 1) := by decide +kernel
theorem d146_27 : decode (zB 146) 27 = .ok (.istore 5, 2) := by decide +kernel
theorem d146_29 : decode (zB 146) 29 = .ok (.iload 5, 2) := by decide +kernel
theorem d146_31 : decode (zB 146) 31 = .ok (.iload 4, 2) := by decide +kernel
theorem d146_33 : decode (zB 146) 33 = .ok (.if_icmp .ge 38, 3) := by decide +kernel
theorem d146_36 : decode (zB 146) 36 = .ok (.aload_n 0, 1) := by decide +kernel
theorem d146_37 : decode (zB 146) 37 = .ok (.iload_n 1, 1) := by decide +kernel
theorem d146_38 : decode (zB 146) 38 = .ok (.iload 5, 2) := by decide +kernel
theorem d146_40 : decode (zB 146) 40 = .ok (.iload 4, 2) := by decide +kernel
theorem d146_42 : decode (zB 146) 42 = .ok (.invokevirtual 206, 3) := by decide +kernel
theorem d146_45 : decode (zB 146) 45 = .ok (.ifCond .eq 20, 3) := by decide +kernel
theorem d146_48 : decode (zB 146) 48 = .ok (.aload_n 2, 1) := by decide +kernel
theorem d146_49 : decode (zB 146) 49 = .ok (.iload 4, 2) := by decide +kernel
theorem d146_51 : decode (zB 146) 51 = .ok (.aload_n 2, 1) := by decide +kernel
theorem d146_52 : decode (zB 146) 52 = .ok (.iload 4, 2) := by decide +kernel
theorem d146_54 : decode (zB 146) 54 = .ok (.iaload, 1) := by decide +kernel
theorem d146_55 : decode (zB 146) 55 = .ok (.aload_n 2, 1) := by decide +kernel
theorem d146_56 : decode (zB 146) 56 = .ok (.iload 5, 2) := by decide +kernel
theorem d146_58 : decode (zB 146) 58 = .ok (.iaload, 1) := by decide +kernel
theorem d146_59 : decode (zB 146) 59 = .ok (.iconst 1, 1) := by decide +kernel
theorem d146_60 : decode (zB 146) 60 = .ok (.iadd, 1) := by decide +kernel
theorem d146_61 : decode (zB 146) 61 = .ok (.invokestatic 209, 3) := by decide +kernel
theorem d146_64 : decode (zB 146) 64 = .ok (.iastore, 1) := by decide +kernel
theorem d146_65 : decode (zB 146) 65 = .ok (.iinc 5 1, 3) := by decide +kernel
theorem d146_68 : decode (zB 146) 68 = .ok (.goto (-39), 3) := by decide +kernel
theorem d146_71 : decode (zB 146) 71 = .ok (.iload_n 3, 1) := by decide +kernel
theorem d146_72 : decode (zB 146) 72 = .ok (.aload_n 2, 1) := by decide +kernel
theorem d146_73 : decode (zB 146) 73 = .ok (.iload 4, 2) := by decide +kernel
theorem d146_75 : decode (zB 146) 75 = .ok (.iaload, 1) := by decide +kernel
theorem d146_76 : decode (zB 146) 76 = .ok (.invokestatic 209, 3) := by decide +kernel
theorem d146_79 : decode (zB 146) 79 = .ok (.istore_n 3, 1) := by decide +kernel
theorem d146_80 : decode (zB 146) 80 = .ok (.iinc 4 1, 3) := by decide +kernel
theorem d146_83 : decode (zB 146) 83 = .ok (.goto (-73), 3) := by decide +kernel
theorem d146_86 : decode (zB 146) 86 = .ok (.iload_n 3, 1) := by decide +kernel
theorem d146_87 : decode (zB 146) 87 = .ok (.ireturn, 1) := by decide +kernel
theorem l146b {d : Nat} {Q : Option Value → zM → Prop} {T : yT} {M0 : zM} {t B i : Nat} {v3 : Int32} (hX : SX M0) (hT : XT1 M0 t T) (ho : OKT T) (ht : t < 6) (hB : 327 ≤ B) (hA : zk M0 B = (20, 12)) (hi : i < tn T) (k : ∀ M', Fi (fun b _ => b = B) M0 M' → qW (zEv (d + 1)) 146 Q 71 [(0, .ref 136), (1, .int (nI t)), (2, .ref B), (3, .int v3), (4, .int (nI i)), (5, .int (nI i))] [] M') : ∀ (r j : Nat) (M1 : zM), j ≤ i → i < j + r →  Fi (fun b _ => b = B) M0 M1 → qW (zEv (d + 1)) 146 Q 29 [(0, .ref 136), (1, .int (nI t)), (2, .ref B), (3, .int v3), (4, .int (nI i)), (5, .int (nI j))] [] M1 := by
  intro r
  induction r with
  | zero => intros; omega
  | succ r ih =>
    intro j M1 h1 h2 hF
    have hn := ho.n
    have hX1 := SX_fi hX hF
    have hT1 := XT1_fi hT ht hF (fun b k b1 b2 q => by omega)
    have hA1 : zk M1 B = (20, 12) := (congrFun hF.2.2.2.1 B).trans hA
    refine q_iload d146_29 rfl ?_
    refine q_iload d146_31 rfl ?_
    refine nc_ge 71 d146_33 (by decide) (by omega) (by omega) (fun h33 => ?_) (fun h33 => ?_)
    · refine qW_srt rfl rfl ?_
      have e9 : j = i := by omega
      subst e9
      exact k _ hF
    · refine q_aload_n d146_36 rfl ?_
      refine q_iload_n d146_37 rfl ?_
      refine q_iload d146_38 rfl ?_
      refine q_iload d146_40 rfl ?_
      refine q_v3 d146_42 rfl rfl (xk_136 hX1) (Nat.le_of_ble_eq_true rfl) (c147 hX1 hT1 ho ht (by omega) (by omega) ?_)
      refine b0_eq 65 d146_45 (by decide) (fun h45 => ?_) (fun h45 => ?_)
      · refine n_iinc 1 d146_65 (by decide) rfl rfl ?_
        refine q_goto 29 d146_68 (by decide) ?_
        refine qW_srt rfl rfl ?_
        first
        | exact ih (j + 1) _ (by omega) (by omega) (hF.wi rfl)
        | exact ih (j + 1) _ (by omega) (by omega) hF
      · refine q_aload_n d146_48 rfl ?_
        refine q_iload d146_49 rfl ?_
        refine q_aload_n d146_51 rfl ?_
        refine q_iload d146_52 rfl ?_
        refine n_iald d146_54 hA1 (by omega) (by decide) rfl ?_
        refine q_aload_n d146_55 rfl ?_
        refine q_iload d146_56 rfl ?_
        refine n_iald d146_58 hA1 (by omega) (by decide) rfl ?_
        refine q_iconstN (z := 1) d146_59 ?_
        refine q_iadd d146_60 ?_
        refine q_max d146_61 rfl (Nat.le_of_ble_eq_true rfl) ?_
        refine n_iast d146_64 hA1 (by omega) (by decide) ?_
        refine n_iinc 1 d146_65 (by decide) rfl rfl ?_
        refine q_goto 29 d146_68 (by decide) ?_
        refine qW_srt rfl rfl ?_
        first
        | exact ih (j + 1) _ (by omega) (by omega) (hF.wi rfl)
        | exact ih (j + 1) _ (by omega) (by omega) hF
theorem l146 {d : Nat} {Q : Option Value → zM → Prop} {T : yT} {M0 : zM} {t B : Nat} (hX : SX M0) (hT : XT1 M0 t T) (ho : OKT T) (ht : t < 6) (hB : 327 ≤ B) (hA : zk M0 B = (20, 12)) (k : ∀ v M', Fi (fun b _ => b = B) M0 M' → Q (some (.int v)) M') : ∀ (r i : Nat) (M1 : zM) (v3 : Int32), i ≤ tn T → tn T < i + r →  Fi (fun b _ => b = B) M0 M1 → qW (zEv (d + 1)) 146 Q 10 [(0, .ref 136), (1, .int (nI t)), (2, .ref B), (3, .int v3), (4, .int (nI i))] [] M1 := by
  intro r
  induction r with
  | zero => intros; omega
  | succ r ih =>
    intro i M1 v3 h1 h2 hF
    have hn := ho.n
    have hX1 := SX_fi hX hF
    have hT1 := XT1_fi hT ht hF (fun b k b1 b2 q => by omega)
    have hA1 : zk M1 B = (20, 12) := (congrFun hF.2.2.2.1 B).trans hA
    refine q_iload d146_10 rfl ?_
    refine q_aload_n d146_12 rfl ?_
    refine q_getr (c := 8) (f := 1) d146_13 ⟨rfl, rfl⟩ (xk_136 hX1) (xf_stepMany hX1) ?_
    refine q_iload_n d146_16 rfl ?_
    refine n_iald d146_17 (xk_stepMany hX1) (by omega) (by decide) hT1.1 ?_
    refine nc_ge 86 d146_18 (by decide) (by omega) (by omega) (fun h18 => ?_) (fun h18 => ?_)
    · refine q_iload_n d146_86 rfl ?_
      refine q_iret d146_87 rfl ?_
      exact k _ _ hF
    · refine q_aload_n d146_21 rfl ?_
      refine q_iload d146_22 rfl ?_
      refine q_iconstN (z := 1) d146_24 ?_
      refine n_iast d146_25 hA1 (by omega) (by decide) ?_
      refine q_iconstN (z := 0) d146_26 ?_
      refine q_istore d146_27 (by decide) rfl ?_
      refine qW_srt rfl rfl ?_
      refine l146b hX hT ho ht hB hA (by omega) (fun M2 hF2 => ?_) (i + 1) 0 _ (by omega) (by omega) (hF.wi rfl)
      have hX2 := SX_fi hX hF2
      have hT2 := XT1_fi hT ht hF2 (fun b k b1 b2 q => by omega)
      have hA2 : zk M2 B = (20, 12) := (congrFun hF2.2.2.2.1 B).trans hA
      refine q_iload_n d146_71 rfl ?_
      refine q_aload_n d146_72 rfl ?_
      refine q_iload d146_73 rfl ?_
      refine n_iald d146_75 hA2 (by omega) (by decide) rfl ?_
      refine q_max d146_76 rfl (Nat.le_of_ble_eq_true rfl) ?_
      refine q_istore_n d146_79 (by decide) rfl ?_
      refine n_iinc 1 d146_80 (by decide) rfl rfl ?_
      refine q_goto 10 d146_83 (by decide) ?_
      refine qW_fg 5 rfl rfl ?_
      exact ih (i + 1) _ _ (by omega) (by omega) hF2
theorem SX_nw {M : zM} {t n c : Nat} (h : SX M) (h3 : 327 ≤ zn M) : SX (znw M t n c) := SX_of h (fun a ha => if_neg (show a ≠ zn M by omega)) (fun a f _ _ => rfl)
theorem c146 {d : Nat} {M : zM} {Q : Option Value → zM → Prop} {T : yT} {t : Nat} (hX : SX M) (hT : XT1 M t T) (ho : OKT T) (ht : t < 6) (h327 : 327 ≤ zn M) (k : ∀ v M', FC M M' → Q (some (.int v)) M') : qC (d + 2) 146 [.ref 136, .int (nI t)] M Q := by
  refine qC_of (by decide) (Nat.le_of_ble_eq_true rfl) ?_
  have hn := ho.n
  have hX1 : SX (znw M 20 12 12) := SX_nw hX h327
  have hT1 : XT1 (znw M 20 12 12) t T := hT
  have hA : zk (znw M 20 12 12) (zn M) = (20, 12) := if_pos rfl
  refine q_bipush (x := nI 12) d146_0 rfl ?_
  refine q_newi (N := 12) d146_2 (by decide) (by decide) (by decide) ?_
  refine q_astore_n d146_4 (by decide) rfl ?_
  refine q_iconstN (z := 0) d146_5 ?_
  refine q_istore_n d146_6 (by decide) rfl ?_
  refine q_iconstN (z := 0) d146_7 ?_
  refine q_istore d146_8 (by decide) rfl ?_
  refine qW_srt rfl rfl ?_
  exact l146 hX1 hT1 ho ht h327 hA (fun v M2 hF => k v M2 ⟨fun a j q => hF.1 a j q, hF.2.1, hF.2.2.1, fun a q => (congrFun hF.2.2.2.1 a).trans (if_neg q), hF.2.2.2.2.1, hF.2.2.2.2.2⟩) (tn T + 1) 0 _ _ (by omega) (by omega) (Fi.refl _ _)
theorem d148_0 : decode (zB 148) 0 = .ok (.iconst 0, 1) := by decide +kernel
theorem d148_1 : decode (zB 148) 1 = .ok (.istore_n 2, 1) := by decide +kernel
theorem d148_2 : decode (zB 148) 2 = .ok (.iconst 1, 1) := by decide +kernel
theorem d148_3 : decode (zB 148) 3 = .ok (.istore_n 3, 1) := by decide +kernel
theorem d148_4 : decode (zB 148) 4 = .ok (.iload_n 3, 1) := by decide +kernel
theorem d148_5 : decode (zB 148) 5 = .ok (.iconst 1, 1) := by decide +kernel
theorem d148_6 : decode (zB 148) 6 = .ok (.aload_n 0, 1) := by decide +kernel
theorem d148_7 : decode (zB 148) 7 = .ok (.getfield 9, 3) := by decide +kernel
theorem d148_10 : decode (zB 148) 10 = .ok (.iload_n 1, 1) := by decide +kernel
theorem d148_11 : decode (zB 148) 11 = .ok (.iaload, 1) := by decide +kernel
theorem d148_12 : decode (zB 148) 12 = .ok (.ishl, 1) := by decide +kernel
theorem d148_13 : decode (zB 148) 13 = .ok (.if_icmp .ge 97, 3) := by decide +kernel
theorem d148_16 : decode (zB 148) 16 = .ok (.iload_n 3, 1) := by decide +kernel
theorem d148_17 : decode (zB 148) 17 = .ok (.invokestatic 214, 3) := by decide +kernel
theorem d148_20 : decode (zB 148) 20 = .ok (.iload_n 2, 1) := by decide +kernel
theorem d148_21 : decode (zB 148) 21 = .ok (.if_icmp .le 7, 3) := by decide +kernel
theorem d148_24 : decode (zB 148) 24 = .ok (.iconst 1, 1) := by decide +kernel
theorem d148_25 : decode (zB 148) 25 = .ok (.goto 4, 3) := by decide +kernel
theorem d148_28 : decode (zB 148) 28 = .ok (.iconst 0, 1) := by decide +kernel
theorem d148_29 : decode (zB 148) 29 = .ok (.istore 4, 2) := by decide +kernel
theorem d148_31 : decode (zB 148) 31 = .ok (.iconst 0, 1) := by decide +kernel
theorem d148_32 : decode (zB 148) 32 = .ok (.istore 5, 2) := by decide +kernel
theorem d148_34 : decode (zB 148) 34 = .ok (.iload 5, 2) := by decide +kernel
theorem d148_36 : decode (zB 148) 36 = .ok (.aload_n 0, 1) := by decide +kernel
theorem d148_37 : decode (zB 148) 37 = .ok (.getfield 9, 3) := by decide +kernel
theorem d148_40 : decode (zB 148) 40 = .ok (.iload_n 1, 1) := by decide +kernel
theorem d148_41 : decode (zB 148) 41 = .ok (.iaload, 1) := by decide +kernel
theorem d148_42 : decode (zB 148) 42 = .ok (.if_icmp .ge 52, 3) := by decide +kernel
theorem d148_45 : decode (zB 148) 45 = .ok (.iload 4, 2) := by decide +kernel
theorem d148_47 : decode (zB 148) 47 = .ok (.ifCond .eq 47, 3) := by decide +kernel
theorem d148_50 : decode (zB 148) 50 = .ok (.iload_n 3, 1) := by decide +kernel
theorem d148_51 : decode (zB 148) 51 = .ok (.iload 5, 2) := by decide +kernel
theorem d148_53 : decode (zB 148) 53 = .ok (.ishr, 1) := by decide +kernel
theorem d148_54 : decode (zB 148) 54 = .ok (.iconst 1, 1) := by decide +kernel
theorem d148_55 : decode (zB 148) 55 = .ok (.iand, 1) := by decide +kernel
theorem d148_56 : decode (zB 148) 56 = .ok (.iconst 1, 1) := by decide +kernel
theorem d148_57 : decode (zB 148) 57 = .ok (.if_icmp .ne 31, 3) := by decide +kernel
theorem d148_60 : decode (zB 148) 60 = .ok (.iload_n 3, 1) := by decide +kernel
theorem d148_61 : decode (zB 148) 61 = .ok (.iconst 1, 1) := by decide +kernel
theorem d148_62 : decode (zB 148) 62 = .ok (.iload 5, 2) := by decide +kernel
theorem d148_64 : decode (zB 148) 64 = .ok (.ishl, 1) := by decide +kernel
theorem d148_65 : decode (zB 148) 65 = .ok (.iconst (-1), 1) := by decide +kernel
theorem d148_66 : decode (zB 148) 66 = .ok (.ixor, 1) := by decide +kernel
theorem d148_67 : decode (zB 148) 67 = .ok (.iand, 1) := by decide +kernel
theorem d148_68 : decode (zB 148) 68 = .ok (.aload_n 0, 1) := by decide +kernel
theorem d148_69 : decode (zB 148) 69 = .ok (.iload_n 1, 1) := by decide +kernel
theorem d148_70 : decode (zB 148) 70 = .ok (.iload 5, 2) := by decide +kernel
theorem d148_72 : decode (zB 148) 72 = .ok (.invokevirtual 219, 3) := by decide +kernel
theorem d148_75 : decode (zB 148) 75 = .ok (.iconst (-1), 1) := by decide +kernel
theorem d148_76 : decode (zB 148) 76 = .ok (.ixor, 1) := by decide +kernel
theorem d148_77 : decode (zB 148) 77 = .ok (.iand, 1) := by decide +kernel
theorem d148_78 : decode (zB 148) 78 = .ok (.ifCond .ne 7, 3) := by decide +kernel
theorem d148_81 : decode (zB 148) 81 = .ok (.iconst 1, 1) := by decide +kernel
theorem d148_82 : decode (zB 148) 82 = .ok (.goto 4, 3) := by decide +kernel
theorem d148_85 : decode (zB 148) 85 = .ok (.iconst 0, 1) := by decide +kernel
theorem d148_86 : decode (zB 148) 86 = .ok (.istore 4, 2) := by decide +kernel
theorem d148_88 : decode (zB 148) 88 = .ok (.iinc 5 1, 3) := by decide +kernel
theorem d148_91 : decode (zB 148) 91 = .ok (.goto (-57), 3) := by decide +kernel
theorem d148_94 : decode (zB 148) 94 = .ok (.iload 4, 2) := by decide +kernel
theorem d148_96 : decode (zB 148) 96 = .ok (.ifCond .eq 8, 3) := by decide +kernel
theorem d148_99 : decode (zB 148) 99 = .ok (.iload_n 3, 1) := by decide +kernel
theorem d148_100 : decode (zB 148) 100 = .ok (.invokestatic 214, 3) := by decide +kernel
theorem d148_103 : decode (zB 148) 103 = .ok (.istore_n 2, 1) := by decide +kernel
theorem d148_104 : decode (zB 148) 104 = .ok (.iinc 3 1, 3) := by decide +kernel
theorem d148_107 : decode (zB 148) 107 = .ok (.goto (-103), 3) := by decide +kernel
theorem d148_110 : decode (zB 148) 110 = .ok (.iload_n 2, 1) := by decide +kernel
theorem d148_111 : decode (zB 148) 111 = .ok (.ireturn, 1) := by decide +kernel
theorem l148b {d : Nat} {M : zM} {Q : Option Value → zM → Prop} {T : yT} {t s : Nat} {v2 : Int32} (hX : SX M) (hT : XT1 M t T) (ho : OKT T) (ht : t < 6) (hs : s < 2 ^ tn T) (k : ∀ (v4 : Int32) (i : Nat), qW (zEv (d + 2)) 148 Q 94 [(0, .ref 136), (1, .int (nI t)), (2, .int v2), (3, .int (nI s)), (4, .int v4), (5, .int (nI i))] [] M) : ∀ (r i : Nat) (v4 : Int32), i ≤ tn T → tn T < i + r → qW (zEv (d + 2)) 148 Q 34 [(0, .ref 136), (1, .int (nI t)), (2, .int v2), (3, .int (nI s)), (4, .int v4), (5, .int (nI i))] [] M := by
  intro r
  induction r with
  | zero => intros; omega
  | succ r ih =>
    intro i v4 h1 h2 
    have hn := ho.n
    have hp12 : 2 ^ tn T ≤ 2 ^ 12 := Nat.pow_le_pow_right (by omega) hn
    refine q_iload d148_34 rfl ?_
    refine q_aload_n d148_36 rfl ?_
    refine q_getr (c := 8) (f := 1) d148_37 ⟨rfl, rfl⟩ (xk_136 hX) (xf_stepMany hX) ?_
    refine q_iload_n d148_40 rfl ?_
    refine n_iald d148_41 (xk_stepMany hX) (by omega) (by decide) hT.1 ?_
    refine nc_ge 94 d148_42 (by decide) (by omega) (by omega) (fun h42 => ?_) (fun h42 => ?_)
    · refine qW_srt rfl rfl ?_
      exact k _ _
    · refine q_iload d148_45 rfl ?_
      refine i0_eq 94 d148_47 (by decide) (fun h47 => ?_) (fun h47 => ?_)
      · refine qW_srt rfl rfl ?_
        exact k _ _
      · refine q_iload_n d148_50 rfl ?_
        refine q_iload d148_51 rfl ?_
        refine q_ishr d148_53 ?_
        refine q_iconstN (z := 1) d148_54 ?_
        refine q_iand d148_55 ?_
        refine q_iconstN (z := 1) d148_56 ?_
        refine ic_ne 88 d148_57 (by decide) (fun h57 => ?_) (fun h57 => ?_)
        · refine n_iinc 1 d148_88 (by decide) rfl rfl ?_
          refine q_goto 34 d148_91 (by decide) ?_
          refine qW_srt rfl rfl ?_
          exact ih (i + 1) _ (by omega) (by omega)
        · refine q_iload_n d148_60 rfl ?_
          refine q_iconstN (z := 1) d148_61 ?_
          refine q_iload d148_62 rfl ?_
          refine n_ishl1 d148_64 (by omega) ?_
          refine q_iconst (x := (-1)) d148_65 rfl ?_
          refine q_ixor d148_66 ?_
          refine n_iandn d148_67 ?_
          refine q_aload_n d148_68 rfl ?_
          refine q_iload_n d148_69 rfl ?_
          refine q_iload d148_70 rfl ?_
          refine q_v2 d148_72 rfl rfl (xk_136 hX) (Nat.le_of_ble_eq_true rfl) (c149 hX hT ho ht (by omega) ?_)
          refine q_iconst (x := (-1)) d148_75 rfl ?_
          refine q_ixor d148_76 ?_
          refine q_iand d148_77 ?_
          refine i0_ne 85 d148_78 (by decide) (fun h78 => ?_) (fun h78 => ?_)
          · refine q_iconstN (z := 0) d148_85 ?_
            refine q_istore d148_86 (by decide) rfl ?_
            refine n_iinc 1 d148_88 (by decide) rfl rfl ?_
            refine q_goto 34 d148_91 (by decide) ?_
            refine qW_srt rfl rfl ?_
            exact ih (i + 1) _ (by omega) (by omega)
          · refine q_iconstN (z := 1) d148_81 ?_
            refine q_goto 86 d148_82 (by decide) ?_
            refine q_istore d148_86 (by decide) rfl ?_
            refine n_iinc 1 d148_88 (by decide) rfl rfl ?_
            refine q_goto 34 d148_91 (by decide) ?_
            refine qW_srt rfl rfl ?_
            exact ih (i + 1) _ (by omega) (by omega)
theorem l148 {d : Nat} {M : zM} {Q : Option Value → zM → Prop} {T : yT} {t : Nat} (hX : SX M) (hT : XT1 M t T) (ho : OKT T) (ht : t < 6) (k : ∀ v, Q (some (.int v)) M) : ∀ (r s : Nat) (v2 : Int32), s ≤ 2 ^ tn T → 2 ^ tn T < s + r → qW (zEv (d + 2)) 148 Q 4 [(0, .ref 136), (1, .int (nI t)), (2, .int v2), (3, .int (nI s))] [] M := by
  intro r
  induction r with
  | zero => intros; omega
  | succ r ih =>
    intro s v2 h1 h2 
    have hn := ho.n
    have hp12 : 2 ^ tn T ≤ 2 ^ 12 := Nat.pow_le_pow_right (by omega) hn
    refine q_iload_n d148_4 rfl ?_
    refine q_iconstN (z := 1) d148_5 ?_
    refine q_aload_n d148_6 rfl ?_
    refine q_getr (c := 8) (f := 1) d148_7 ⟨rfl, rfl⟩ (xk_136 hX) (xf_stepMany hX) ?_
    refine q_iload_n d148_10 rfl ?_
    refine n_iald d148_11 (xk_stepMany hX) (by omega) (by decide) hT.1 ?_
    refine n_ishl1 d148_12 (by omega) ?_
    refine nc_ge 110 d148_13 (by decide) (by omega) (by omega) (fun h13 => ?_) (fun h13 => ?_)
    · refine q_iload_n d148_110 rfl ?_
      refine q_iret d148_111 rfl ?_
      exact k _
    · refine q_iload_n d148_16 rfl ?_
      refine q_s1 d148_17 (Or.inl rfl) rfl (Nat.le_of_ble_eq_true rfl) (c105 ?_)
      refine q_iload_n d148_20 rfl ?_
      refine ic_le 28 d148_21 (by decide) (fun h21 => ?_) (fun h21 => ?_)
      · refine q_iconstN (z := 0) d148_28 ?_
        refine q_istore d148_29 (by decide) rfl ?_
        refine q_iconstN (z := 0) d148_31 ?_
        refine q_istore d148_32 (by decide) rfl ?_
        refine qW_srt rfl rfl ?_
        refine l148b hX hT ho ht (by omega) (fun v4 i => ?_) (tn T + 1) 0 _ (by omega) (by omega)
        refine q_iload d148_94 rfl ?_
        refine i0_eq 104 d148_96 (by decide) (fun h96 => ?_) (fun h96 => ?_)
        · refine n_iinc 1 d148_104 (by decide) rfl rfl ?_
          refine q_goto 4 d148_107 (by decide) ?_
          refine qW_fg 5 rfl rfl ?_
          refine qW_fg 4 rfl rfl ?_
          exact ih (s + 1) _ (by omega) (by omega)
        · refine q_iload_n d148_99 rfl ?_
          refine q_s1 d148_100 (Or.inl rfl) rfl (Nat.le_of_ble_eq_true rfl) (c105 ?_)
          refine q_istore_n d148_103 (by decide) rfl ?_
          refine n_iinc 1 d148_104 (by decide) rfl rfl ?_
          refine q_goto 4 d148_107 (by decide) ?_
          refine qW_fg 5 rfl rfl ?_
          refine qW_fg 4 rfl rfl ?_
          exact ih (s + 1) _ (by omega) (by omega)
      · refine q_iconstN (z := 1) d148_24 ?_
        refine q_goto 29 d148_25 (by decide) ?_
        refine q_istore d148_29 (by decide) rfl ?_
        refine q_iconstN (z := 0) d148_31 ?_
        refine q_istore d148_32 (by decide) rfl ?_
        refine qW_srt rfl rfl ?_
        refine l148b hX hT ho ht (by omega) (fun v4 i => ?_) (tn T + 1) 0 _ (by omega) (by omega)
        refine q_iload d148_94 rfl ?_
        refine i0_eq 104 d148_96 (by decide) (fun h96 => ?_) (fun h96 => ?_)
        · refine n_iinc 1 d148_104 (by decide) rfl rfl ?_
          refine q_goto 4 d148_107 (by decide) ?_
          refine qW_fg 5 rfl rfl ?_
          refine qW_fg 4 rfl rfl ?_
          exact ih (s + 1) _ (by omega) (by omega)
        · refine q_iload_n d148_99 rfl ?_
          refine q_s1 d148_100 (Or.inl rfl) rfl (Nat.le_of_ble_eq_true rfl) (c105 ?_)
          refine q_istore_n d148_103 (by decide) rfl ?_
          refine n_iinc 1 d148_104 (by decide) rfl rfl ?_
          refine q_goto 4 d148_107 (by decide) ?_
          refine qW_fg 5 rfl rfl ?_
          refine qW_fg 4 rfl rfl ?_
          exact ih (s + 1) _ (by omega) (by omega)
theorem c148 {d : Nat} {M : zM} {Q : Option Value → zM → Prop} {T : yT} {t : Nat} (hX : SX M) (hT : XT1 M t T) (ho : OKT T) (ht : t < 6) (k : ∀ v, Q (some (.int v)) M) : qC (d + 3) 148 [.ref 136, .int (nI t)] M Q := by
  refine qC_of (by decide) (Nat.le_of_ble_eq_true rfl) ?_
  have hn := ho.n
  have hp12 : 2 ^ tn T ≤ 2 ^ 12 := Nat.pow_le_pow_right (by omega) hn
  refine q_iconstN (z := 0) d148_0 ?_
  refine q_istore_n d148_1 (by decide) rfl ?_
  refine q_iconstN (z := 1) d148_2 ?_
  refine q_istore_n d148_3 (by decide) rfl ?_
  refine qW_srt rfl rfl ?_
  exact l148 hX hT ho ht k (2 ^ tn T) 1 _ (Nat.one_le_two_pow) (by omega)
theorem d151_0 : decode (zB 151) 0 = .ok (.aload_n 0, 1) := by decide +kernel
theorem d151_1 : decode (zB 151) 1 = .ok (.getfield 21, 3) := by decide +kernel
theorem d151_4 : decode (zB 151) 4 = .ok (.iload_n 1, 1) := by decide +kernel
theorem d151_5 : decode (zB 151) 5 = .ok (.aaload, 1) := by decide +kernel
theorem d151_6 : decode (zB 151) 6 = .ok (.iload_n 2, 1) := by decide +kernel
theorem d151_7 : decode (zB 151) 7 = .ok (.iaload, 1) := by decide +kernel
theorem d151_8 : decode (zB 151) 8 = .ok (.iconst (-1), 1) := by decide +kernel
theorem d151_9 : decode (zB 151) 9 = .ok (.if_icmp .ne 7, 3) := by decide +kernel
theorem d151_12 : decode (zB 151) 12 = .ok (.iconst 0, 1) := by decide +kernel
theorem d151_13 : decode (zB 151) 13 = .ok (.goto 13, 3) := by decide +kernel
theorem d151_16 : decode (zB 151) 16 = .ok (.iconst 1, 1) := by decide +kernel
theorem d151_17 : decode (zB 151) 17 = .ok (.aload_n 0, 1) := by decide +kernel
theorem d151_18 : decode (zB 151) 18 = .ok (.getfield 21, 3) := by decide +kernel
theorem d151_21 : decode (zB 151) 21 = .ok (.iload_n 1, 1) := by decide +kernel
theorem d151_22 : decode (zB 151) 22 = .ok (.aaload, 1) := by decide +kernel
theorem d151_23 : decode (zB 151) 23 = .ok (.iload_n 2, 1) := by decide +kernel
theorem d151_24 : decode (zB 151) 24 = .ok (.iaload, 1) := by decide +kernel
theorem d151_25 : decode (zB 151) 25 = .ok (.ishl, 1) := by decide +kernel
theorem d151_26 : decode (zB 151) 26 = .ok (.aload_n 0, 1) := by decide +kernel
theorem d151_27 : decode (zB 151) 27 = .ok (.getfield 24, 3) := by decide +kernel
theorem d151_30 : decode (zB 151) 30 = .ok (.iload_n 1, 1) := by decide +kernel
theorem d151_31 : decode (zB 151) 31 = .ok (.aaload, 1) := by decide +kernel
theorem d151_32 : decode (zB 151) 32 = .ok (.iload_n 2, 1) := by decide +kernel
theorem d151_33 : decode (zB 151) 33 = .ok (.iaload, 1) := by decide +kernel
theorem d151_34 : decode (zB 151) 34 = .ok (.iconst (-1), 1) := by decide +kernel
theorem d151_35 : decode (zB 151) 35 = .ok (.if_icmp .ne 7, 3) := by decide +kernel
theorem d151_38 : decode (zB 151) 38 = .ok (.iconst 0, 1) := by decide +kernel
theorem d151_39 : decode (zB 151) 39 = .ok (.goto 13, 3) := by decide +kernel
theorem d151_42 : decode (zB 151) 42 = .ok (.iconst 1, 1) := by decide +kernel
theorem d151_43 : decode (zB 151) 43 = .ok (.aload_n 0, 1) := by decide +kernel
theorem d151_44 : decode (zB 151) 44 = .ok (.getfield 24, 3) := by decide +kernel
theorem d151_47 : decode (zB 151) 47 = .ok (.iload_n 1, 1) := by decide +kernel
theorem d151_48 : decode (zB 151) 48 = .ok (.aaload, 1) := by decide +kernel
theorem d151_49 : decode (zB 151) 49 = .ok (.iload_n 2, 1) := by decide +kernel
theorem d151_50 : decode (zB 151) 50 = .ok (.iaload, 1) := by decide +kernel
theorem d151_51 : decode (zB 151) 51 = .ok (.ishl, 1) := by decide +kernel
theorem d151_52 : decode (zB 151) 52 = .ok (.ior, 1) := by decide +kernel
theorem d151_53 : decode (zB 151) 53 = .ok (.ireturn, 1) := by decide +kernel
theorem c151 {d : Nat} {M : zM} {Q : Option Value → zM → Prop} {T : yT} {t i : Nat} (hX : SX M) (hT : XT1 M t T) (ho : OKT T) (ht : t < 6) (hi : i < tn T) (k : ∀ v, Q (some (.int v)) M) : qC (d + 1) 151 [.ref 136, .int (nI t), .int (nI i)] M Q := by
  refine qC_of (by decide) (Nat.le_of_ble_eq_true rfl) ?_
  have hn := ho.n
  refine q_aload_n d151_0 rfl ?_
  refine q_getr (c := 8) (f := 4) d151_1 ⟨rfl, rfl⟩ (xk_136 hX) (xf_firsts hX) ?_
  refine q_iload_n d151_4 rfl ?_
  refine n_aald d151_5 (xk_firsts hX) (by decide) (by omega) (by decide) (xr_firsts hX (by omega)) ?_
  refine q_iload_n d151_6 rfl ?_
  refine n_iald d151_7 (xa_firsts hX (by omega)) (by omega) (by decide) (hT.2.2 _ (by omega)).2.1 ?_
  refine q_iconst (x := (-1)) d151_8 rfl ?_
  refine ic_ne 16 d151_9 (by decide) (fun h9 => ?_) (fun h9 => ?_)
  · refine q_iconstN (z := 1) d151_16 ?_
    refine q_aload_n d151_17 rfl ?_
    refine q_getr (c := 8) (f := 4) d151_18 ⟨rfl, rfl⟩ (xk_136 hX) (xf_firsts hX) ?_
    refine q_iload_n d151_21 rfl ?_
    refine n_aald d151_22 (xk_firsts hX) (by decide) (by omega) (by decide) (xr_firsts hX (by omega)) ?_
    refine q_iload_n d151_23 rfl ?_
    refine n_iald d151_24 (xa_firsts hX (by omega)) (by omega) (by decide) (hT.2.2 _ (by omega)).2.1 ?_
    refine q_ishl d151_25 ?_
    refine q_aload_n d151_26 rfl ?_
    refine q_getr (c := 8) (f := 5) d151_27 ⟨rfl, rfl⟩ (xk_136 hX) (xf_seconds hX) ?_
    refine q_iload_n d151_30 rfl ?_
    refine n_aald d151_31 (xk_seconds hX) (by decide) (by omega) (by decide) (xr_seconds hX (by omega)) ?_
    refine q_iload_n d151_32 rfl ?_
    refine n_iald d151_33 (xa_seconds hX (by omega)) (by omega) (by decide) (hT.2.2 _ (by omega)).2.2.1 ?_
    refine q_iconst (x := (-1)) d151_34 rfl ?_
    refine ic_ne 42 d151_35 (by decide) (fun h35 => ?_) (fun h35 => ?_)
    · refine q_iconstN (z := 1) d151_42 ?_
      refine q_aload_n d151_43 rfl ?_
      refine q_getr (c := 8) (f := 5) d151_44 ⟨rfl, rfl⟩ (xk_136 hX) (xf_seconds hX) ?_
      refine q_iload_n d151_47 rfl ?_
      refine n_aald d151_48 (xk_seconds hX) (by decide) (by omega) (by decide) (xr_seconds hX (by omega)) ?_
      refine q_iload_n d151_49 rfl ?_
      refine n_iald d151_50 (xa_seconds hX (by omega)) (by omega) (by decide) (hT.2.2 _ (by omega)).2.2.1 ?_
      refine q_ishl d151_51 ?_
      refine q_ior d151_52 ?_
      refine q_iret d151_53 rfl ?_
      exact k _
    · refine q_iconstN (z := 0) d151_38 ?_
      refine q_goto 52 d151_39 (by decide) ?_
      refine q_ior d151_52 ?_
      refine q_iret d151_53 rfl ?_
      exact k _
  · refine q_iconstN (z := 0) d151_12 ?_
    refine q_goto 26 d151_13 (by decide) ?_
    refine q_aload_n d151_26 rfl ?_
    refine q_getr (c := 8) (f := 5) d151_27 ⟨rfl, rfl⟩ (xk_136 hX) (xf_seconds hX) ?_
    refine q_iload_n d151_30 rfl ?_
    refine n_aald d151_31 (xk_seconds hX) (by decide) (by omega) (by decide) (xr_seconds hX (by omega)) ?_
    refine q_iload_n d151_32 rfl ?_
    refine n_iald d151_33 (xa_seconds hX (by omega)) (by omega) (by decide) (hT.2.2 _ (by omega)).2.2.1 ?_
    refine q_iconst (x := (-1)) d151_34 rfl ?_
    refine ic_ne 42 d151_35 (by decide) (fun h35 => ?_) (fun h35 => ?_)
    · refine q_iconstN (z := 1) d151_42 ?_
      refine q_aload_n d151_43 rfl ?_
      refine q_getr (c := 8) (f := 5) d151_44 ⟨rfl, rfl⟩ (xk_136 hX) (xf_seconds hX) ?_
      refine q_iload_n d151_47 rfl ?_
      refine n_aald d151_48 (xk_seconds hX) (by decide) (by omega) (by decide) (xr_seconds hX (by omega)) ?_
      refine q_iload_n d151_49 rfl ?_
      refine n_iald d151_50 (xa_seconds hX (by omega)) (by omega) (by decide) (hT.2.2 _ (by omega)).2.2.1 ?_
      refine q_ishl d151_51 ?_
      refine q_ior d151_52 ?_
      refine q_iret d151_53 rfl ?_
      exact k _
    · refine q_iconstN (z := 0) d151_38 ?_
      refine q_goto 52 d151_39 (by decide) ?_
      refine n_ior d151_52 ?_
      refine q_iret d151_53 rfl ?_
      exact k _
theorem d150_0 : decode (zB 150) 0 = .ok (.iconst 0, 1) := by decide +kernel
theorem d150_1 : decode (zB 150) 1 = .ok (.istore_n 2, 1) := by decide +kernel
theorem d150_2 : decode (zB 150) 2 = .ok (.iconst 0, 1) := by decide +kernel
theorem d150_3 : decode (zB 150) 3 = .ok (.istore_n 3, 1) := by decide +kernel
theorem d150_4 : decode (zB 150) 4 = .ok (.iload_n 3, 1) := by decide +kernel
theorem d150_5 : decode (zB 150) 5 = .ok (.aload_n 0, 1) := by decide +kernel
theorem d150_6 : decode (zB 150) 6 = .ok (.getfield 9, 3) := by decide +kernel
theorem d150_9 : decode (zB 150) 9 = .ok (.iload_n 1, 1) := by decide +kernel
theorem d150_10 : decode (zB 150) 10 = .ok (.iaload, 1) := by decide +kernel
theorem d150_11 : decode (zB 150) 11 = .ok (.if_icmp .ge 59, 3) := by decide +kernel
theorem d150_14 : decode (zB 150) 14 = .ok (.iconst 0, 1) := by decide +kernel
theorem d150_15 : decode (zB 150) 15 = .ok (.istore 4, 2) := by decide +kernel
theorem d150_17 : decode (zB 150) 17 = .ok (.iload 4, 2) := by decide +kernel
theorem d150_19 : decode (zB 150) 19 = .ok (.iload_n 3, 1) := by decide +kernel
theorem d150_20 : decode (zB 150) 20 = .ok (.if_icmp .ge 44, 3) := by decide +kernel
theorem d150_23 : decode (zB 150) 23 = .ok (.aload_n 0, 1) := by decide +kernel
theorem d150_24 : decode (zB 150) 24 = .ok (.iload_n 1, 1) := by decide +kernel
theorem d150_25 : decode (zB 150) 25 = .ok (.iload_n 3, 1) := by decide +kernel
theorem d150_26 : decode (zB 150) 26 = .ok (.invokevirtual 219, 3) := by decide +kernel
theorem d150_29 : decode (zB 150) 29 = .ok (.iload 4, 2) := by decide +kernel
theorem d150_31 : decode (zB 150) 31 = .ok (.ishr, 1) := by decide +kernel
theorem d150_32 : decode (zB 150) 32 = .ok (.iconst 1, 1) := by decide +kernel
theorem d150_33 : decode (zB 150) 33 = .ok (.iand, 1) := by decide +kernel
theorem d150_34 : decode (zB 150) 34 = .ok (.iconst 1, 1) := by decide +kernel
theorem d150_35 : decode (zB 150) 35 = .ok (.if_icmp .ne 23, 3) := by decide +kernel
theorem d150_38 : decode (zB 150) 38 = .ok (.aload_n 0, 1) := by decide +kernel
theorem d150_39 : decode (zB 150) 39 = .ok (.iload_n 1, 1) := by decide +kernel
theorem d150_40 : decode (zB 150) 40 = .ok (.iload_n 3, 1) := by decide +kernel
theorem d150_41 : decode (zB 150) 41 = .ok (.invokevirtual 222, 3) := by decide +kernel
theorem d150_44 : decode (zB 150) 44 = .ok (.aload_n 0, 1) := by decide +kernel
theorem d150_45 : decode (zB 150) 45 = .ok (.iload_n 1, 1) := by decide +kernel
theorem d150_46 : decode (zB 150) 46 = .ok (.iload 4, 2) := by decide +kernel
theorem d150_48 : decode (zB 150) 48 = .ok (.invokevirtual 222, 3) := by decide +kernel
theorem d150_51 : decode (zB 150) 51 = .ok (.iand, 1) := by decide +kernel
theorem d150_52 : decode (zB 150) 52 = .ok (.ifCond .eq 6, 3) := by decide +kernel
theorem d150_55 : decode (zB 150) 55 = .ok (.iinc 2 1, 3) := by decide +kernel
theorem d150_58 : decode (zB 150) 58 = .ok (.iinc 4 1, 3) := by decide +kernel
theorem d150_61 : decode (zB 150) 61 = .ok (.goto (-44), 3) := by decide +kernel
theorem d150_64 : decode (zB 150) 64 = .ok (.iinc 3 1, 3) := by decide +kernel
theorem d150_67 : decode (zB 150) 67 = .ok (.goto (-63), 3) := by decide +kernel
theorem d150_70 : decode (zB 150) 70 = .ok (.iload_n 2, 1) := by decide +kernel
theorem d150_71 : decode (zB 150) 71 = .ok (.ireturn, 1) := by decide +kernel
theorem l150b {d : Nat} {M : zM} {Q : Option Value → zM → Prop} {T : yT} {t i : Nat} (hX : SX M) (hT : XT1 M t T) (ho : OKT T) (ht : t < 6) (hi : i < tn T) (k : ∀ (v2 : Int32), qW (zEv (d + 2)) 150 Q 64 [(0, .ref 136), (1, .int (nI t)), (2, .int v2), (3, .int (nI i)), (4, .int (nI i))] [] M) : ∀ (r j : Nat) (v2 : Int32), j ≤ i → i < j + r → qW (zEv (d + 2)) 150 Q 17 [(0, .ref 136), (1, .int (nI t)), (2, .int v2), (3, .int (nI i)), (4, .int (nI j))] [] M := by
  intro r
  induction r with
  | zero => intros; omega
  | succ r ih =>
    intro j v2 h1 h2 
    have hn := ho.n
    refine q_iload d150_17 rfl ?_
    refine q_iload_n d150_19 rfl ?_
    refine nc_ge 64 d150_20 (by decide) (by omega) (by omega) (fun h20 => ?_) (fun h20 => ?_)
    · refine qW_srt rfl rfl ?_
      have e9 : j = i := by omega
      subst e9
      exact k _
    · refine q_aload_n d150_23 rfl ?_
      refine q_iload_n d150_24 rfl ?_
      refine q_iload_n d150_25 rfl ?_
      refine q_v2 d150_26 rfl rfl (xk_136 hX) (Nat.le_of_ble_eq_true rfl) (c149 hX hT ho ht (by omega) ?_)
      refine q_iload d150_29 rfl ?_
      refine q_ishr d150_31 ?_
      refine q_iconstN (z := 1) d150_32 ?_
      refine q_iand d150_33 ?_
      refine q_iconstN (z := 1) d150_34 ?_
      refine ic_ne 58 d150_35 (by decide) (fun h35 => ?_) (fun h35 => ?_)
      · refine n_iinc 1 d150_58 (by decide) rfl rfl ?_
        refine q_goto 17 d150_61 (by decide) ?_
        refine qW_srt rfl rfl ?_
        exact ih (j + 1) _ (by omega) (by omega)
      · refine q_aload_n d150_38 rfl ?_
        refine q_iload_n d150_39 rfl ?_
        refine q_iload_n d150_40 rfl ?_
        refine q_v2 d150_41 rfl rfl (xk_136 hX) (Nat.le_of_ble_eq_true rfl) (c151 hX hT ho ht (by omega) (fun v8 => ?_))
        refine q_aload_n d150_44 rfl ?_
        refine q_iload_n d150_45 rfl ?_
        refine q_iload d150_46 rfl ?_
        refine q_v2 d150_48 rfl rfl (xk_136 hX) (Nat.le_of_ble_eq_true rfl) (c151 hX hT ho ht (by omega) (fun v9 => ?_))
        refine q_iand d150_51 ?_
        refine i0_eq 58 d150_52 (by decide) (fun h52 => ?_) (fun h52 => ?_)
        · refine n_iinc 1 d150_58 (by decide) rfl rfl ?_
          refine q_goto 17 d150_61 (by decide) ?_
          refine qW_srt rfl rfl ?_
          exact ih (j + 1) _ (by omega) (by omega)
        · refine q_iinc d150_55 (by decide) rfl rfl rfl ?_
          refine n_iinc 1 d150_58 (by decide) rfl rfl ?_
          refine q_goto 17 d150_61 (by decide) ?_
          refine qW_srt rfl rfl ?_
          exact ih (j + 1) _ (by omega) (by omega)
theorem l150 {d : Nat} {M : zM} {Q : Option Value → zM → Prop} {T : yT} {t : Nat} (hX : SX M) (hT : XT1 M t T) (ho : OKT T) (ht : t < 6) (k : ∀ v, Q (some (.int v)) M) : ∀ (r i : Nat) (v2 : Int32), i ≤ tn T → tn T < i + r → qW (zEv (d + 2)) 150 Q 4 [(0, .ref 136), (1, .int (nI t)), (2, .int v2), (3, .int (nI i))] [] M := by
  intro r
  induction r with
  | zero => intros; omega
  | succ r ih =>
    intro i v2 h1 h2 
    have hn := ho.n
    refine q_iload_n d150_4 rfl ?_
    refine q_aload_n d150_5 rfl ?_
    refine q_getr (c := 8) (f := 1) d150_6 ⟨rfl, rfl⟩ (xk_136 hX) (xf_stepMany hX) ?_
    refine q_iload_n d150_9 rfl ?_
    refine n_iald d150_10 (xk_stepMany hX) (by omega) (by decide) hT.1 ?_
    refine nc_ge 70 d150_11 (by decide) (by omega) (by omega) (fun h11 => ?_) (fun h11 => ?_)
    · refine q_iload_n d150_70 rfl ?_
      refine q_iret d150_71 rfl ?_
      exact k _
    · refine q_iconstN (z := 0) d150_14 ?_
      refine q_istore d150_15 (by decide) rfl ?_
      refine qW_srt rfl rfl ?_
      refine l150b hX hT ho ht (by omega) (fun v2 => ?_) (i + 1) 0 _ (by omega) (by omega)
      refine n_iinc 1 d150_64 (by decide) rfl rfl ?_
      refine q_goto 4 d150_67 (by decide) ?_
      refine qW_fg 4 rfl rfl ?_
      exact ih (i + 1) _ (by omega) (by omega)
theorem c150 {d : Nat} {M : zM} {Q : Option Value → zM → Prop} {T : yT} {t : Nat} (hX : SX M) (hT : XT1 M t T) (ho : OKT T) (ht : t < 6) (k : ∀ v, Q (some (.int v)) M) : qC (d + 3) 150 [.ref 136, .int (nI t)] M Q := by
  refine qC_of (by decide) (Nat.le_of_ble_eq_true rfl) ?_
  have hn := ho.n
  refine q_iconstN (z := 0) d150_0 ?_
  refine q_istore_n d150_1 (by decide) rfl ?_
  refine q_iconstN (z := 0) d150_2 ?_
  refine q_istore_n d150_3 (by decide) rfl ?_
  refine qW_srt rfl rfl ?_
  exact l150 hX hT ho ht k (tn T + 1) 0 _ (by omega) (by omega)
theorem d153_0 : decode (zB 153) 0 = .ok (.iconst 0, 1) := by decide +kernel
theorem d153_1 : decode (zB 153) 1 = .ok (.istore_n 3, 1) := by decide +kernel
theorem d153_2 : decode (zB 153) 2 = .ok (.iload_n 3, 1) := by decide +kernel
theorem d153_3 : decode (zB 153) 3 = .ok (.aload_n 0, 1) := by decide +kernel
theorem d153_4 : decode (zB 153) 4 = .ok (.getfield 9, 3) := by decide +kernel
theorem d153_7 : decode (zB 153) 7 = .ok (.iload_n 1, 1) := by decide +kernel
theorem d153_8 : decode (zB 153) 8 = .ok (.iaload, 1) := by decide +kernel
theorem d153_9 : decode (zB 153) 9 = .ok (.if_icmp .ge 35, 3) := by decide +kernel
theorem d153_12 : decode (zB 153) 12 = .ok (.iload_n 2, 1) := by decide +kernel
theorem d153_13 : decode (zB 153) 13 = .ok (.iload_n 3, 1) := by decide +kernel
theorem d153_14 : decode (zB 153) 14 = .ok (.ishr, 1) := by decide +kernel
theorem d153_15 : decode (zB 153) 15 = .ok (.iconst 1, 1) := by decide +kernel
theorem d153_16 : decode (zB 153) 16 = .ok (.iand, 1) := by decide +kernel
theorem d153_17 : decode (zB 153) 17 = .ok (.iconst 1, 1) := by decide +kernel
theorem d153_18 : decode (zB 153) 18 = .ok (.if_icmp .ne 20, 3) := by decide +kernel
theorem d153_21 : decode (zB 153) 21 = .ok (.aload_n 0, 1) := by decide +kernel
theorem d153_22 : decode (zB 153) 22 = .ok (.getfield 30, 3) := by decide +kernel
theorem d153_25 : decode (zB 153) 25 = .ok (.iload_n 1, 1) := by decide +kernel
theorem d153_26 : decode (zB 153) 26 = .ok (.aaload, 1) := by decide +kernel
theorem d153_27 : decode (zB 153) 27 = .ok (.iload_n 3, 1) := by decide +kernel
theorem d153_28 : decode (zB 153) 28 = .ok (.iaload, 1) := by decide +kernel
theorem d153_29 : decode (zB 153) 29 = .ok (.iload_n 2, 1) := by decide +kernel
theorem d153_30 : decode (zB 153) 30 = .ok (.iconst (-1), 1) := by decide +kernel
theorem d153_31 : decode (zB 153) 31 = .ok (.ixor, 1) := by decide +kernel
theorem d153_32 : decode (zB 153) 32 = .ok (.iand, 1) := by decide +kernel
theorem d153_33 : decode (zB 153) 33 = .ok (.ifCond .eq 5, 3) := by decide +kernel
theorem d153_36 : decode (zB 153) 36 = .ok (.iconst 0, 1) := by decide +kernel
theorem d153_37 : decode (zB 153) 37 = .ok (.ireturn, 1) := by decide +kernel
theorem d153_38 : decode (zB 153) 38 = .ok (.iinc 3 1, 3) := by decide +kernel
theorem d153_41 : decode (zB 153) 41 = .ok (.goto (-39), 3) := by decide +kernel
theorem d153_44 : decode (zB 153) 44 = .ok (.iconst 1, 1) := by decide +kernel
theorem d153_45 : decode (zB 153) 45 = .ok (.ireturn, 1) := by decide +kernel
theorem l153 {d : Nat} {M : zM} {Q : Option Value → zM → Prop} {T : yT} {t s : Nat} (hX : SX M) (hT : XT1 M t T) (ho : OKT T) (ht : t < 6) (hs : s < 2 ^ tn T) (k : ∀ v, Q (some (.int v)) M) : ∀ (r i : Nat), i ≤ tn T → tn T < i + r → qW (zEv (d + 0)) 153 Q 2 [(3, .int (nI i)), (0, .ref 136), (1, .int (nI t)), (2, .int (nI s))] [] M := by
  intro r
  induction r with
  | zero => intros; omega
  | succ r ih =>
    intro i  h1 h2 
    have hn := ho.n
    have hp12 : 2 ^ tn T ≤ 2 ^ 12 := Nat.pow_le_pow_right (by omega) hn
    refine q_iload_n d153_2 rfl ?_
    refine q_aload_n d153_3 rfl ?_
    refine q_getr (c := 8) (f := 1) d153_4 ⟨rfl, rfl⟩ (xk_136 hX) (xf_stepMany hX) ?_
    refine q_iload_n d153_7 rfl ?_
    refine n_iald d153_8 (xk_stepMany hX) (by omega) (by decide) hT.1 ?_
    refine nc_ge 44 d153_9 (by decide) (by omega) (by omega) (fun h9 => ?_) (fun h9 => ?_)
    · refine q_iconstN (z := 1) d153_44 ?_
      refine q_zret d153_45 rfl (by decide) ?_
      exact k _
    · refine q_iload_n d153_12 rfl ?_
      refine q_iload_n d153_13 rfl ?_
      refine q_ishr d153_14 ?_
      refine q_iconstN (z := 1) d153_15 ?_
      refine q_iand d153_16 ?_
      refine q_iconstN (z := 1) d153_17 ?_
      refine ic_ne 38 d153_18 (by decide) (fun h18 => ?_) (fun h18 => ?_)
      · refine n_iinc 1 d153_38 (by decide) rfl rfl ?_
        refine q_goto 2 d153_41 (by decide) ?_
        exact ih (i + 1) (by omega) (by omega)
      · refine q_aload_n d153_21 rfl ?_
        refine q_getr (c := 8) (f := 7) d153_22 ⟨rfl, rfl⟩ (xk_136 hX) (xf_aheads hX) ?_
        refine q_iload_n d153_25 rfl ?_
        refine n_aald d153_26 (xk_aheads hX) (by decide) (by omega) (by decide) (xr_aheads hX (by omega)) ?_
        refine q_iload_n d153_27 rfl ?_
        refine n_iald d153_28 (xa_aheads hX (by omega)) (by omega) (by decide) (hT.2.2 _ (by omega)).2.2.2.2 ?_
        refine q_iload_n d153_29 rfl ?_
        refine q_iconst (x := (-1)) d153_30 rfl ?_
        refine q_ixor d153_31 ?_
        refine q_iand d153_32 ?_
        refine i0_eq 38 d153_33 (by decide) (fun h33 => ?_) (fun h33 => ?_)
        · refine n_iinc 1 d153_38 (by decide) rfl rfl ?_
          refine q_goto 2 d153_41 (by decide) ?_
          exact ih (i + 1) (by omega) (by omega)
        · refine q_iconstN (z := 0) d153_36 ?_
          refine q_zret d153_37 rfl (by decide) ?_
          exact k _
theorem c153 {d : Nat} {M : zM} {Q : Option Value → zM → Prop} {T : yT} {t s : Nat} (hX : SX M) (hT : XT1 M t T) (ho : OKT T) (ht : t < 6) (hs : s < 2 ^ tn T) (k : ∀ v, Q (some (.int v)) M) : qC (d + 1) 153 [.ref 136, .int (nI t), .int (nI s)] M Q := by
  refine qC_of (by decide) (Nat.le_of_ble_eq_true rfl) ?_
  have hn := ho.n
  refine q_iconstN (z := 0) d153_0 ?_
  refine q_istore_n d153_1 (by decide) rfl ?_
  exact l153 hX hT ho ht hs k (tn T + 1) 0 (by omega) (by omega)
/-- what is tried and laid back writes -/
def FW9 : Nat → Nat → Prop := fun b k => (b = 136 ∧ (k = 9 ∨ k = 10 ∨ k = 20)) ∨ (173 < b ∧ b < 205) ∨ (209 < b ∧ b < 319)
theorem FB_9 {b k : Nat} (h : FB b k) : FW9 b k := by unfold FB at h; unfold FW9; omega
theorem FA_9 {b k l : Nat} (hl : l < 4) (h : FA l b k) : FW9 b k := by unfold FA at h; unfold FW9; omega
theorem FW9_Z {b k : Nat} (h : FW9 b k) : FZ b k := by unfold FW9 at h; unfold FZ; omega
theorem KB.rf (M : zM) : KB M M := ⟨⟨fun _ _ => rfl, rfl, rfl, rfl, fun _ _ => rfl, fun _ _ => rfl⟩, fun _ _ _ _ _ _ => rfl⟩
theorem OKP_x {T : yT} {P : yP} {i : Nat} {n : Int32} (hT : OKT T) (hi : i < tn T) (h : OKP P) : OKP (xdo T P i n 1) := by
  unfold xdo
  split
  · exact OKP_ch hT hi h (by assumption)
  · exact h
theorem XPu.kb {M M' : zM} {P : yP} (h : XPu M P) (hK : KB M M') : XPu M' P := ⟨fun k hk => (hK.1.1 k hk).trans (h.1 k hk), hK.1.2.1.trans h.2.1, hK.1.2.2.1.trans h.2.2⟩
theorem KB.tr {M0 M1 M2 : zM} (h : KB M0 M1) (g : KB M1 M2) : KB M0 M2 := ⟨⟨fun k hk => (g.1.1 k hk).trans (h.1.1 k hk), g.1.2.1.trans h.1.2.1, g.1.2.2.1.trans h.1.2.2.1, g.1.2.2.2.1.trans h.1.2.2.2.1, fun k hk => (g.1.2.2.2.2.1 k hk).trans (h.1.2.2.2.2.1 k hk), fun k hk => (g.1.2.2.2.2.2 k hk).trans (h.1.2.2.2.2.2 k hk)⟩, fun a s ha hs k hk => (g.2 a s ha hs k hk).trans (h.2 a s ha hs k hk)⟩
theorem d154_0 : decode (zB 154) 0 = .ok (.aload_n 0, 1) := by decide +kernel
theorem d154_1 : decode (zB 154) 1 = .ok (.iconst 0, 1) := by decide +kernel
theorem d154_2 : decode (zB 154) 2 = .ok (.invokevirtual 225, 3) := by decide +kernel
theorem d154_5 : decode (zB 154) 5 = .ok (.iconst 1, 1) := by decide +kernel
theorem d154_6 : decode (zB 154) 6 = .ok (.istore_n 3, 1) := by decide +kernel
theorem d154_7 : decode (zB 154) 7 = .ok (.iconst 0, 1) := by decide +kernel
theorem d154_8 : decode (zB 154) 8 = .ok (.istore 4, 2) := by decide +kernel
theorem d154_10 : decode (zB 154) 10 = .ok (.iload 4, 2) := by decide +kernel
theorem d154_12 : decode (zB 154) 12 = .ok (.aload_n 0, 1) := by decide +kernel
theorem d154_13 : decode (zB 154) 13 = .ok (.getfield 9, 3) := by decide +kernel
theorem d154_16 : decode (zB 154) 16 = .ok (.iload_n 1, 1) := by decide +kernel
theorem d154_17 : decode (zB 154) 17 = .ok (.iaload, 1) := by decide +kernel
theorem d154_18 : decode (zB 154) 18 = .ok (.if_icmp .ge 48, 3) := by decide +kernel
theorem d154_21 : decode (zB 154) 21 = .ok (.iload_n 3, 1) := by decide +kernel
theorem d154_22 : decode (zB 154) 22 = .ok (.ifCond .eq 44, 3) := by decide +kernel
theorem d154_25 : decode (zB 154) 25 = .ok (.iload_n 2, 1) := by decide +kernel
theorem d154_26 : decode (zB 154) 26 = .ok (.iload 4, 2) := by decide +kernel
theorem d154_28 : decode (zB 154) 28 = .ok (.ishr, 1) := by decide +kernel
theorem d154_29 : decode (zB 154) 29 = .ok (.iconst 1, 1) := by decide +kernel
theorem d154_30 : decode (zB 154) 30 = .ok (.iand, 1) := by decide +kernel
theorem d154_31 : decode (zB 154) 31 = .ok (.iconst 1, 1) := by decide +kernel
theorem d154_32 : decode (zB 154) 32 = .ok (.if_icmp .ne 28, 3) := by decide +kernel
theorem d154_35 : decode (zB 154) 35 = .ok (.aload_n 0, 1) := by decide +kernel
theorem d154_36 : decode (zB 154) 36 = .ok (.iload_n 1, 1) := by decide +kernel
theorem d154_37 : decode (zB 154) 37 = .ok (.iload 4, 2) := by decide +kernel
theorem d154_39 : decode (zB 154) 39 = .ok (.aload_n 0, 1) := by decide +kernel
theorem d154_40 : decode (zB 154) 40 = .ok (.getfield 27, 3) := by decide +kernel
theorem d154_43 : decode (zB 154) 43 = .ok (.iload_n 1, 1) := by decide +kernel
theorem d154_44 : decode (zB 154) 44 = .ok (.aaload, 1) := by decide +kernel
theorem d154_45 : decode (zB 154) 45 = .ok (.iload 4, 2) := by decide +kernel
theorem d154_47 : decode (zB 154) 47 = .ok (.iaload, 1) := by decide +kernel
theorem d154_48 : decode (zB 154) 48 = .ok (.invokevirtual 229, 3) := by decide +kernel
theorem d154_51 : decode (zB 154) 51 = .ok (.ifCond .ne 7, 3) := by decide +kernel
theorem d154_54 : decode (zB 154) 54 = .ok (.iconst 1, 1) := by decide +kernel
theorem d154_55 : decode (zB 154) 55 = .ok (.goto 4, 3) := by decide +kernel
theorem d154_58 : decode (zB 154) 58 = .ok (.iconst 0, 1) := by decide +kernel
theorem d154_59 : decode (zB 154) 59 = .ok (.istore_n 3, 1) := by decide +kernel
theorem d154_60 : decode (zB 154) 60 = .ok (.iinc 4 1, 3) := by decide +kernel
theorem d154_63 : decode (zB 154) 63 = .ok (.goto (-53), 3) := by decide +kernel
theorem d154_66 : decode (zB 154) 66 = .ok (.iconst 0, 1) := by decide +kernel
theorem d154_67 : decode (zB 154) 67 = .ok (.istore 4, 2) := by decide +kernel
theorem d154_69 : decode (zB 154) 69 = .ok (.iload_n 3, 1) := by decide +kernel
theorem d154_70 : decode (zB 154) 70 = .ok (.ifCond .eq 93, 3) := by decide +kernel
theorem d154_73 : decode (zB 154) 73 = .ok (.aload_n 0, 1) := by decide +kernel
theorem d154_74 : decode (zB 154) 74 = .ok (.iconst 1, 1) := by decide +kernel
theorem d154_75 : decode (zB 154) 75 = .ok (.invokevirtual 225, 3) := by decide +kernel
theorem d154_78 : decode (zB 154) 78 = .ok (.iconst 0, 1) := by decide +kernel
theorem d154_79 : decode (zB 154) 79 = .ok (.istore 5, 2) := by decide +kernel
theorem d154_81 : decode (zB 154) 81 = .ok (.iload 5, 2) := by decide +kernel
theorem d154_83 : decode (zB 154) 83 = .ok (.aload_n 0, 1) := by decide +kernel
theorem d154_84 : decode (zB 154) 84 = .ok (.getfield 9, 3) := by decide +kernel
theorem d154_87 : decode (zB 154) 87 = .ok (.iload_n 1, 1) := by decide +kernel
theorem d154_88 : decode (zB 154) 88 = .ok (.iaload, 1) := by decide +kernel
theorem d154_89 : decode (zB 154) 89 = .ok (.if_icmp .ge 74, 3) := by decide +kernel
theorem d154_92 : decode (zB 154) 92 = .ok (.iload 4, 2) := by decide +kernel
theorem d154_94 : decode (zB 154) 94 = .ok (.ifCond .ne 69, 3) := by decide +kernel
theorem d154_97 : decode (zB 154) 97 = .ok (.iload_n 2, 1) := by decide +kernel
theorem d154_98 : decode (zB 154) 98 = .ok (.iload 5, 2) := by decide +kernel
theorem d154_100 : decode (zB 154) 100 = .ok (.ishr, 1) := by decide +kernel
theorem d154_101 : decode (zB 154) 101 = .ok (.iconst 1, 1) := by decide +kernel
theorem d154_102 : decode (zB 154) 102 = .ok (.iand, 1) := by decide +kernel
theorem d154_103 : decode (zB 154) 103 = .ok (.iconst 1, 1) := by decide +kernel
theorem d154_104 : decode (zB 154) 104 = .ok (.if_icmp .eq 53, 3) := by decide +kernel
theorem d154_107 : decode (zB 154) 107 = .ok (.aload_n 0, 1) := by decide +kernel
theorem d154_108 : decode (zB 154) 108 = .ok (.getfield 30, 3) := by decide +kernel
theorem d154_111 : decode (zB 154) 111 = .ok (.iload_n 1, 1) := by decide +kernel
theorem d154_112 : decode (zB 154) 112 = .ok (.aaload, 1) := by decide +kernel
theorem d154_113 : decode (zB 154) 113 = .ok (.iload 5, 2) := by decide +kernel
theorem d154_115 : decode (zB 154) 115 = .ok (.iaload, 1) := by decide +kernel
theorem d154_116 : decode (zB 154) 116 = .ok (.iload_n 2, 1) := by decide +kernel
theorem d154_117 : decode (zB 154) 117 = .ok (.iconst (-1), 1) := by decide +kernel
theorem d154_118 : decode (zB 154) 118 = .ok (.ixor, 1) := by decide +kernel
theorem d154_119 : decode (zB 154) 119 = .ok (.iand, 1) := by decide +kernel
theorem d154_120 : decode (zB 154) 120 = .ok (.ifCond .eq 6, 3) := by decide +kernel
theorem d154_123 : decode (zB 154) 123 = .ok (.goto 34, 3) := by decide +kernel
theorem d154_126 : decode (zB 154) 126 = .ok (.aload_n 0, 1) := by decide +kernel
theorem d154_127 : decode (zB 154) 127 = .ok (.iload_n 1, 1) := by decide +kernel
theorem d154_128 : decode (zB 154) 128 = .ok (.iload 5, 2) := by decide +kernel
theorem d154_130 : decode (zB 154) 130 = .ok (.aload_n 0, 1) := by decide +kernel
theorem d154_131 : decode (zB 154) 131 = .ok (.getfield 27, 3) := by decide +kernel
theorem d154_134 : decode (zB 154) 134 = .ok (.iload_n 1, 1) := by decide +kernel
theorem d154_135 : decode (zB 154) 135 = .ok (.aaload, 1) := by decide +kernel
theorem d154_136 : decode (zB 154) 136 = .ok (.iload 5, 2) := by decide +kernel
theorem d154_138 : decode (zB 154) 138 = .ok (.iaload, 1) := by decide +kernel
theorem d154_139 : decode (zB 154) 139 = .ok (.invokevirtual 229, 3) := by decide +kernel
theorem d154_142 : decode (zB 154) 142 = .ok (.ifCond .eq 7, 3) := by decide +kernel
theorem d154_145 : decode (zB 154) 145 = .ok (.iconst 1, 1) := by decide +kernel
theorem d154_146 : decode (zB 154) 146 = .ok (.goto 4, 3) := by decide +kernel
theorem d154_149 : decode (zB 154) 149 = .ok (.iconst 0, 1) := by decide +kernel
theorem d154_150 : decode (zB 154) 150 = .ok (.istore 4, 2) := by decide +kernel
theorem d154_152 : decode (zB 154) 152 = .ok (.aload_n 0, 1) := by decide +kernel
theorem d154_153 : decode (zB 154) 153 = .ok (.iconst 1, 1) := by decide +kernel
theorem d154_154 : decode (zB 154) 154 = .ok (.invokevirtual 233, 3) := by decide +kernel
theorem d154_157 : decode (zB 154) 157 = .ok (.iinc 5 1, 3) := by decide +kernel
theorem d154_160 : decode (zB 154) 160 = .ok (.goto (-79), 3) := by decide +kernel
theorem d154_163 : decode (zB 154) 163 = .ok (.aload_n 0, 1) := by decide +kernel
theorem d154_164 : decode (zB 154) 164 = .ok (.iconst 0, 1) := by decide +kernel
theorem d154_165 : decode (zB 154) 165 = .ok (.invokevirtual 233, 3) := by decide +kernel
theorem d154_168 : decode (zB 154) 168 = .ok (.iload 4, 2) := by decide +kernel
theorem d154_170 : decode (zB 154) 170 = .ok (.ireturn, 1) := by decide +kernel
theorem l154a {d : Nat} {Q : Option Value → zM → Prop} {T : yT} {M0 : zM} {t s : Nat} (hX0 : SX M0) (hT0 : XT1 M0 t T) (ho : OKT T) (ht : t < 6) (hs : s < 2 ^ tn T) (k : ∀ (v3 : Int32) (i : Nat) M' P', (v3 = 0 ∨ v3 = 1) → XPu M' P' → OKP P' → KA M0 M' 0 → Fi FW9 M0 M' → qW (zEv (d + 3)) 154 Q 66 [(0, .ref 136), (1, .int (nI t)), (2, .int (nI s)), (3, .int v3), (4, .int (nI i))] [] M') : ∀ (r i : Nat) (M1 : zM) (P : yP) (v3 : Int32), i ≤ tn T → tn T < i + r →  (v3 = 0 ∨ v3 = 1) → XPu M1 P → OKP P → KA M0 M1 0 → Fi FW9 M0 M1 → qW (zEv (d + 3)) 154 Q 10 [(0, .ref 136), (1, .int (nI t)), (2, .int (nI s)), (3, .int v3), (4, .int (nI i))] [] M1 := by
  intro r
  induction r with
  | zero => intros; omega
  | succ r ih =>
    intro i M1 P v3 h1 h2 hv hP hO hK hF
    have hn := ho.n
    have hX := SX_fi hX0 hF
    have hT := XT1_fi hT0 ht hF (fun b k b1 b2 q => by unfold FW9 at q; omega)
    refine q_iload d154_10 rfl ?_
    refine q_aload_n d154_12 rfl ?_
    refine q_getr (c := 8) (f := 1) d154_13 ⟨rfl, rfl⟩ (xk_136 hX) (xf_stepMany hX) ?_
    refine q_iload_n d154_16 rfl ?_
    refine n_iald d154_17 (xk_stepMany hX) (by omega) (by decide) hT.1 ?_
    refine nc_ge 66 d154_18 (by decide) (by omega) (by omega) (fun h18 => ?_) (fun h18 => ?_)
    · refine qW_srt rfl rfl ?_
      exact k _ _ _ _ hv hP hO hK hF
    · refine q_iload_n d154_21 rfl ?_
      refine i0_eq 66 d154_22 (by decide) (fun h22 => ?_) (fun h22 => ?_)
      · refine qW_srt rfl rfl ?_
        exact k _ _ _ _ hv hP hO hK hF
      · refine q_iload_n d154_25 rfl ?_
        refine q_iload d154_26 rfl ?_
        refine q_ishr d154_28 ?_
        refine q_iconstN (z := 1) d154_29 ?_
        refine q_iand d154_30 ?_
        refine q_iconstN (z := 1) d154_31 ?_
        refine ic_ne 60 d154_32 (by decide) (fun h32 => ?_) (fun h32 => ?_)
        · refine n_iinc 1 d154_60 (by decide) rfl rfl ?_
          refine q_goto 10 d154_63 (by decide) ?_
          refine qW_srt rfl rfl ?_
          first
          | exact ih (i + 1) _ _ _ (by omega) (by omega) hv hP hO hK hF
          | exact ih (i + 1) _ _ _ (by omega) (by omega) (by first | exact Or.inl rfl | exact Or.inr rfl) hP2 (OKP_x ho (by omega) hO) hK2 hF2
        · refine q_aload_n d154_35 rfl ?_
          refine q_iload_n d154_36 rfl ?_
          refine q_iload d154_37 rfl ?_
          refine q_aload_n d154_39 rfl ?_
          refine q_getr (c := 8) (f := 6) d154_40 ⟨rfl, rfl⟩ (xk_136 hX) (xf_numbers hX) ?_
          refine q_iload_n d154_43 rfl ?_
          refine n_aald d154_44 (xk_numbers hX) (by decide) (by omega) (by decide) (xr_numbers hX (by omega)) ?_
          refine q_iload d154_45 rfl ?_
          refine n_iald d154_47 (xa_numbers hX (by omega)) (by omega) (by decide) (hT.2.2 _ (by omega)).2.2.2.1 ?_
          refine q_v3 d154_48 rfl rfl (xk_136 hX) (Nat.le_of_ble_eq_true rfl) (c157 hX hP hT ho hO ht (by omega) (fun M2 hP2 f2 => ?_))
          have hF2 : Fi FW9 M0 M2 := hF.trans (f2.mono (fun b k q => by unfold GP at q; unfold FW9; omega))
          have hK2 := hK.fi f2 (fun b k q1 q2 => by unfold FA at q1; unfold GP at q2; omega)
          have hX2 := SX_fi hX f2
          refine i0_ne 58 d154_51 (by decide) (fun h51 => ?_) (fun h51 => ?_)
          · refine q_iconstN (z := 0) d154_58 ?_
            refine q_istore_n d154_59 (by decide) rfl ?_
            refine n_iinc 1 d154_60 (by decide) rfl rfl ?_
            refine q_goto 10 d154_63 (by decide) ?_
            refine qW_srt rfl rfl ?_
            first
            | exact ih (i + 1) _ _ _ (by omega) (by omega) hv hP hO hK hF
            | exact ih (i + 1) _ _ _ (by omega) (by omega) (by first | exact Or.inl rfl | exact Or.inr rfl) hP2 (OKP_x ho (by omega) hO) hK2 hF2
          · refine q_iconstN (z := 1) d154_54 ?_
            refine q_goto 59 d154_55 (by decide) ?_
            refine q_istore_n d154_59 (by decide) rfl ?_
            refine n_iinc 1 d154_60 (by decide) rfl rfl ?_
            refine q_goto 10 d154_63 (by decide) ?_
            refine qW_srt rfl rfl ?_
            first
            | exact ih (i + 1) _ _ _ (by omega) (by omega) hv hP hO hK hF
            | exact ih (i + 1) _ _ _ (by omega) (by omega) (by first | exact Or.inl rfl | exact Or.inr rfl) hP2 (OKP_x ho (by omega) hO) hK2 hF2
theorem l154b {d : Nat} {Q : Option Value → zM → Prop} {T : yT} {M0 Mk : zM} {P : yP} {t s : Nat} {v3 : Int32} (hX0 : SX M0) (hT0 : XT1 M0 t T) (ho : OKT T) (ht : t < 6) (hs : s < 2 ^ tn T) (hP1 : XPu Mk P) (hO : OKP P) (k : ∀ v M', (v = 0 ∨ v = 1) → KB M0 M' → Fi FW9 M0 M' → Q (some (.int v)) M') : ∀ (r i : Nat) (M1 : zM) (v4 : Int32), i ≤ tn T → tn T < i + r →  (v4 = 0 ∨ v4 = 1) → XPu M1 P → KA M0 M1 0 → KA Mk M1 1 → Fi FW9 M0 M1 → qW (zEv (d + 3)) 154 Q 81 [(0, .ref 136), (1, .int (nI t)), (2, .int (nI s)), (3, .int v3), (4, .int v4), (5, .int (nI i))] [] M1 := by
  intro r
  induction r with
  | zero => intros; omega
  | succ r ih =>
    intro i M1 v4 h1 h2 hv hP hK hK1 hF
    have hn := ho.n
    have hX := SX_fi hX0 hF
    have hT := XT1_fi hT0 ht hF (fun b k b1 b2 q => by unfold FW9 at q; omega)
    refine q_iload d154_81 rfl ?_
    refine q_aload_n d154_83 rfl ?_
    refine q_getr (c := 8) (f := 1) d154_84 ⟨rfl, rfl⟩ (xk_136 hX) (xf_stepMany hX) ?_
    refine q_iload_n d154_87 rfl ?_
    refine n_iald d154_88 (xk_stepMany hX) (by omega) (by decide) hT.1 ?_
    refine nc_ge 163 d154_89 (by decide) (by omega) (by omega) (fun h89 => ?_) (fun h89 => ?_)
    · refine q_aload_n d154_163 rfl ?_
      refine q_iconstN (z := 0) d154_164 ?_
      refine q_v1 d154_165 rfl rfl (xk_136 hX) (Nat.le_of_ble_eq_true rfl) (c162 (l := 0) hX (by decide) hK (fun M3 hB3 f3 => ?_))
      refine q_iload d154_168 rfl ?_
      refine q_zret d154_170 rfl hv ?_
      exact k _ _ hv hB3 (hF.trans (f3.mono (fun b k q => FB_9 q)))
    · refine q_iload d154_92 rfl ?_
      refine i0_ne 163 d154_94 (by decide) (fun h94 => ?_) (fun h94 => ?_)
      · refine q_aload_n d154_163 rfl ?_
        refine q_iconstN (z := 0) d154_164 ?_
        refine q_v1 d154_165 rfl rfl (xk_136 hX) (Nat.le_of_ble_eq_true rfl) (c162 (l := 0) hX (by decide) hK (fun M3 hB3 f3 => ?_))
        refine q_iload d154_168 rfl ?_
        refine q_zret d154_170 rfl hv ?_
        exact k _ _ hv hB3 (hF.trans (f3.mono (fun b k q => FB_9 q)))
      · refine q_iload_n d154_97 rfl ?_
        refine q_iload d154_98 rfl ?_
        refine q_ishr d154_100 ?_
        refine q_iconstN (z := 1) d154_101 ?_
        refine q_iand d154_102 ?_
        refine q_iconstN (z := 1) d154_103 ?_
        refine ic_eq 157 d154_104 (by decide) (fun h104 => ?_) (fun h104 => ?_)
        · refine n_iinc 1 d154_157 (by decide) rfl rfl ?_
          refine q_goto 81 d154_160 (by decide) ?_
          refine qW_srt rfl rfl ?_
          first
          | exact ih (i + 1) _ _ (by omega) (by omega) hv hP hK hK1 hF
          | exact ih (i + 1) _ _ (by omega) (by omega) (by first | exact Or.inl rfl | exact Or.inr rfl) hP3 hK3 hK13 hF3
        · refine q_aload_n d154_107 rfl ?_
          refine q_getr (c := 8) (f := 7) d154_108 ⟨rfl, rfl⟩ (xk_136 hX) (xf_aheads hX) ?_
          refine q_iload_n d154_111 rfl ?_
          refine n_aald d154_112 (xk_aheads hX) (by decide) (by omega) (by decide) (xr_aheads hX (by omega)) ?_
          refine q_iload d154_113 rfl ?_
          refine n_iald d154_115 (xa_aheads hX (by omega)) (by omega) (by decide) (hT.2.2 _ (by omega)).2.2.2.2 ?_
          refine q_iload_n d154_116 rfl ?_
          refine q_iconst (x := (-1)) d154_117 rfl ?_
          refine q_ixor d154_118 ?_
          refine q_iand d154_119 ?_
          refine i0_eq 126 d154_120 (by decide) (fun h120 => ?_) (fun h120 => ?_)
          · refine q_aload_n d154_126 rfl ?_
            refine q_iload_n d154_127 rfl ?_
            refine q_iload d154_128 rfl ?_
            refine q_aload_n d154_130 rfl ?_
            refine q_getr (c := 8) (f := 6) d154_131 ⟨rfl, rfl⟩ (xk_136 hX) (xf_numbers hX) ?_
            refine q_iload_n d154_134 rfl ?_
            refine n_aald d154_135 (xk_numbers hX) (by decide) (by omega) (by decide) (xr_numbers hX (by omega)) ?_
            refine q_iload d154_136 rfl ?_
            refine n_iald d154_138 (xa_numbers hX (by omega)) (by omega) (by decide) (hT.2.2 _ (by omega)).2.2.2.1 ?_
            refine q_v3 d154_139 rfl rfl (xk_136 hX) (Nat.le_of_ble_eq_true rfl) (c157 hX hP hT ho hO ht (by omega) (fun M2 hP2 f2 => ?_))
            have hF2 : Fi FW9 M0 M2 := hF.trans (f2.mono (fun b k q => by unfold GP at q; unfold FW9; omega))
            have hK2 := hK.fi f2 (fun b k q1 q2 => by unfold FA at q1; unfold GP at q2; omega)
            have hX2 := SX_fi hX f2
            have hK12 := hK1.fi f2 (fun b k q1 q2 => by unfold FA at q1; unfold GP at q2; omega)
            refine i0_eq 149 d154_142 (by decide) (fun h142 => ?_) (fun h142 => ?_)
            · refine q_iconstN (z := 0) d154_149 ?_
              refine q_istore d154_150 (by decide) rfl ?_
              refine q_aload_n d154_152 rfl ?_
              refine q_iconstN (z := 1) d154_153 ?_
              refine q_v1 d154_154 rfl rfl (xk_136 hX2) (Nat.le_of_ble_eq_true rfl) (c162 (l := 1) hX2 (by decide) hK12 (fun M3 hB3 f3 => ?_))
              have hF3 : Fi FW9 M0 M3 := hF2.trans (f3.mono (fun b k q => FB_9 q))
              have hK3 := hK2.fi f3 (fun b k q1 q2 => by unfold FA at q1; unfold FB at q2; omega)
              have hK13 := hK12.fi f3 (fun b k q1 q2 => by unfold FA at q1; unfold FB at q2; omega)
              have hP3 := hP1.kb hB3
              refine n_iinc 1 d154_157 (by decide) rfl rfl ?_
              refine q_goto 81 d154_160 (by decide) ?_
              refine qW_srt rfl rfl ?_
              first
              | exact ih (i + 1) _ _ (by omega) (by omega) hv hP hK hK1 hF
              | exact ih (i + 1) _ _ (by omega) (by omega) (by first | exact Or.inl rfl | exact Or.inr rfl) hP3 hK3 hK13 hF3
            · refine q_iconstN (z := 1) d154_145 ?_
              refine q_goto 150 d154_146 (by decide) ?_
              refine q_istore d154_150 (by decide) rfl ?_
              refine q_aload_n d154_152 rfl ?_
              refine q_iconstN (z := 1) d154_153 ?_
              refine q_v1 d154_154 rfl rfl (xk_136 hX2) (Nat.le_of_ble_eq_true rfl) (c162 (l := 1) hX2 (by decide) hK12 (fun M3 hB3 f3 => ?_))
              have hF3 : Fi FW9 M0 M3 := hF2.trans (f3.mono (fun b k q => FB_9 q))
              have hK3 := hK2.fi f3 (fun b k q1 q2 => by unfold FA at q1; unfold FB at q2; omega)
              have hK13 := hK12.fi f3 (fun b k q1 q2 => by unfold FA at q1; unfold FB at q2; omega)
              have hP3 := hP1.kb hB3
              refine n_iinc 1 d154_157 (by decide) rfl rfl ?_
              refine q_goto 81 d154_160 (by decide) ?_
              refine qW_srt rfl rfl ?_
              first
              | exact ih (i + 1) _ _ (by omega) (by omega) hv hP hK hK1 hF
              | exact ih (i + 1) _ _ (by omega) (by omega) (by first | exact Or.inl rfl | exact Or.inr rfl) hP3 hK3 hK13 hF3
          · refine q_goto 157 d154_123 (by decide) ?_
            refine n_iinc 1 d154_157 (by decide) rfl rfl ?_
            refine q_goto 81 d154_160 (by decide) ?_
            refine qW_srt rfl rfl ?_
            first
            | exact ih (i + 1) _ _ (by omega) (by omega) hv hP hK hK1 hF
            | exact ih (i + 1) _ _ (by omega) (by omega) (by first | exact Or.inl rfl | exact Or.inr rfl) hP3 hK3 hK13 hF3
theorem c154 {d : Nat} {M : zM} {Q : Option Value → zM → Prop} {T : yT} {P : yP} {t s : Nat} (hX : SX M) (hT : XT1 M t T) (ho : OKT T) (ht : t < 6) (hs : s < 2 ^ tn T) (hP : XPu M P) (hO : OKP P) (k : ∀ v M', (v = 0 ∨ v = 1) → KB M M' → Fi FW9 M M' → Q (some (.int v)) M') : qC (d + 4) 154 [.ref 136, .int (nI t), .int (nI s)] M Q := by
  refine qC_of (by decide) (Nat.le_of_ble_eq_true rfl) ?_
  have hn := ho.n
  refine q_aload_n d154_0 rfl ?_
  refine q_iconstN (z := 0) d154_1 ?_
  refine q_v1 d154_2 rfl rfl (xk_136 hX) (Nat.le_of_ble_eq_true rfl) (c155 (l := 0) hX (by decide) (fun M1 hK1 f1 => ?_))
  refine q_iconstN (z := 1) d154_5 ?_
  refine q_istore_n d154_6 (by decide) rfl ?_
  refine q_iconstN (z := 0) d154_7 ?_
  refine q_istore d154_8 (by decide) rfl ?_
  refine qW_srt rfl rfl ?_
  refine l154a hX hT ho ht hs (fun v3 i M2 P2 hv3 hP2 hO2 hKA hF2 => ?_) (tn T + 1) 0 _ _ _ (by omega) (by omega) (Or.inr rfl) (XPu_fi hP f1 (fun b k q1 q2 => by unfold GP at q1; unfold FA at q2; omega)) hO hK1 (f1.mono (fun b k q => FA_9 (by decide) q))
  have hX2 := SX_fi hX hF2
  have hT2 := XT1_fi hT ht hF2 (fun b k b1 b2 q => by unfold FW9 at q; omega)
  refine q_iconstN (z := 0) d154_66 ?_
  refine q_istore d154_67 (by decide) rfl ?_
  refine q_iload_n d154_69 rfl ?_
  refine i0_eq 163 d154_70 (by decide) (fun h70 => ?_) (fun h70 => ?_)
  · refine q_aload_n d154_163 rfl ?_
    refine q_iconstN (z := 0) d154_164 ?_
    refine q_v1 d154_165 rfl rfl (xk_136 hX2) (Nat.le_of_ble_eq_true rfl) (c162 (l := 0) hX2 (by decide) hKA (fun M3 hB3 f3 => ?_))
    refine q_iload d154_168 rfl ?_
    refine q_zret d154_170 rfl (by decide) ?_
    exact k _ _ (Or.inl rfl) hB3 (hF2.trans (f3.mono (fun b k q => FB_9 q)))
  · refine q_aload_n d154_73 rfl ?_
    refine q_iconstN (z := 1) d154_74 ?_
    refine q_v1 d154_75 rfl rfl (xk_136 hX2) (Nat.le_of_ble_eq_true rfl) (c155 (l := 1) hX2 (by decide) (fun M3 hK3 f3 => ?_))
    refine q_iconstN (z := 0) d154_78 ?_
    refine q_istore d154_79 (by decide) rfl ?_
    refine qW_srt rfl rfl ?_
    exact l154b (Mk := M2) hX hT ho ht hs hP2 hO2 k (tn T + 1) 0 _ _ (by omega) (by omega) (Or.inl rfl) (XPu_fi hP2 f3 (fun b k q1 q2 => by unfold GP at q1; unfold FA at q2; omega)) (hKA.fi f3 (fun b k q1 q2 => by unfold FA at q1 q2; omega)) hK3 (hF2.trans (f3.mono (fun b k q => FA_9 (by decide) q)))
