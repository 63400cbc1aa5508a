/-! ===== the law: its loop ===== -/
theorem few7 {L i : Nat} (h7 : L < 7) (h0 : i = 0) : nI (7 * i) > Int32.ofNat L - nI 7 := by
  subst h0
  rcases (show L = 0 ∨ L = 1 ∨ L = 2 ∨ L = 3 ∨ L = 4 ∨ L = 5 ∨ L = 6 by omega) with rfl | rfl | rfl | rfl | rfl | rfl | rfl <;> decide
theorem LI.up {xs : Nat → Int32} {L κ i : Nat} {M : zM} {D : yD} (h : LI xs L M D κ i) : LI xs L M D κ (i + 1) := by
  obtain ⟨h1, h2, h3, h4, ⟨h5, h6, h7⟩, h8, h9⟩ := h
  exact ⟨h1, h2, h3, by omega, ⟨h5, by omega, by omega⟩, h8, h9⟩
theorem l902_h {Q : Option Value → zM → Prop} {xs : Nat → Int32} {L : Nat} {M : zM} {D : yD} {κ i : Nat} (hL : L ≤ 3584) (h : LI xs L M D κ i) (h1 : 7 * i ≤ L) (nx0 : ∀ M' D' κ', 7 * i + 7 ≤ L → LI xs L M' D' κ' (i + 1) → qW (zEv 40) 902 Q 18 [(3, .int (nI (7 * i + 7))), (2, .ref 136), (1, .ref 16), (0, .ref 0)] [] M') (k : ∀ M', zn M' ≤ 600016 → zs M' ≤ 7302249 → Q (some (.int (nI 1))) M') : qW (zEv 40) 902 Q 18 [(3, .int (nI (7 * i))), (2, .ref 136), (1, .ref 16), (0, .ref 0)] [] M := by
  have hs := h.2.2.2.2.2.1
  have hz := h.2.2.2.2.2.2
  have hn := h.2.2.2.2.1
  by_cases h7 : L < 7
  · have h0 : i = 0 := by omega
    refine q_iload_n d902_18 rfl ?_
    refine q_aload_n d902_19 rfl ?_
    refine q_alen (N := L) d902_20 (Or.inr (Or.inr ⟨by decide, hz⟩)) ?_
    refine q_bipush (x := nI 7) d902_21 rfl ?_
    refine q_isub d902_23 ?_
    refine ic_gt 1091 d902_24 (by decide) (fun h24 => ?_) (fun h24 => (False.elim (h24 (few7 h7 h0))))
    refine q_iconstN (z := 1) d902_1091 ?_
    refine q_zret d902_1092 rfl (by decide) ?_
    exact k _ (by omega) (by omega)
  · by_cases hi : 7 * i + 7 ≤ L
    · have nx := fun M' D' κ' => nx0 M' D' κ' hi
      refine q_iload_n d902_18 rfl ?_
      refine q_aload_n d902_19 rfl ?_
      refine q_alen (N := L) d902_20 (Or.inr (Or.inr ⟨by decide, hz⟩)) ?_
      refine q_bipush (x := nI 7) d902_21 rfl ?_
      refine n_isub d902_23 (by omega) ?_
      refine nc_gt 1091 d902_24 (by decide) (by omega) (by omega) (fun h24 => (False.elim (by omega))) (fun h24 => ?_)
      refine q_aload_n d902_27 rfl ?_
      refine q_iload_n d902_28 rfl ?_
      refine n_ialds d902_29 ⟨by decide, hz⟩ (by omega) (by omega) (hs _) ?_
      refine q_bipush (x := nI 31) d902_30 rfl ?_
      refine q_iand d902_32 ?_
      obtain ⟨m, hm, hme⟩ := and31 (xs (7 * i))
      rw [hme]
      by_cases h25 : m < 25
      · rcases (show m = 0 ∨ m = 1 ∨ m = 2 ∨ m = 3 ∨ m = 4 ∨ m = 5 ∨ m = 6 ∨ m = 7 ∨ m = 8 ∨ m = 9 ∨ m = 10 ∨ m = 11 ∨ m = 12 ∨ m = 13 ∨ m = 14 ∨ m = 15 ∨ m = 16 ∨ m = 17 ∨ m = 18 ∨ m = 19 ∨ m = 20 ∨ m = 21 ∨ m = 22 ∨ m = 23 ∨ m = 24 by omega) with rfl | rfl | rfl | rfl | rfl | rfl | rfl | rfl | rfl | rfl | rfl | rfl | rfl | rfl | rfl | rfl | rfl | rfl | rfl | rfl | rfl | rfl | rfl | rfl | rfl
        · refine n_tsI (115) 148 d902_33 (by decide) (by decide) rfl (by decide) ?_
          exact l902_0 hL h (by omega) nx
        · refine n_tsI (190) 223 d902_33 (by decide) (by decide) rfl (by decide) ?_
          exact l902_1 hL h (by omega) nx
        · refine n_tsI (203) 236 d902_33 (by decide) (by decide) rfl (by decide) ?_
          exact l902_2 hL h (by omega) nx
        · refine n_tsI (236) 269 d902_33 (by decide) (by decide) rfl (by decide) ?_
          exact l902_3 hL h (by omega) nx
        · refine n_tsI (259) 292 d902_33 (by decide) (by decide) rfl (by decide) ?_
          exact l902_4 hL h (by omega) nx
        · refine n_tsI (302) 335 d902_33 (by decide) (by decide) rfl (by decide) ?_
          exact l902_5 hL h (by omega) nx
        · refine n_tsI (345) 378 d902_33 (by decide) (by decide) rfl (by decide) ?_
          exact l902_6 hL h (by omega) nx
        · refine n_tsI (378) 411 d902_33 (by decide) (by decide) rfl (by decide) ?_
          exact l902_7 hL h (by omega) nx
        · refine n_tsI (431) 464 d902_33 (by decide) (by decide) rfl (by decide) ?_
          exact l902_8 hL h (by omega) nx
        · refine n_tsI (444) 477 d902_33 (by decide) (by decide) rfl (by decide) ?_
          exact l902_9 hL h (by omega) nx
        · refine n_tsI (477) 510 d902_33 (by decide) (by decide) rfl (by decide) ?_
          exact l902_10 hL h (by omega) nx
        · refine n_tsI (510) 543 d902_33 (by decide) (by decide) rfl (by decide) ?_
          exact l902_11 hL h (by omega) nx
        · refine n_tsI (543) 576 d902_33 (by decide) (by decide) rfl (by decide) ?_
          exact l902_12 hL h (by omega) nx
        · refine n_tsI (576) 609 d902_33 (by decide) (by decide) rfl (by decide) ?_
          exact l902_13 hL h (by omega) nx
        · refine n_tsI (609) 642 d902_33 (by decide) (by decide) rfl (by decide) ?_
          exact l902_14 hL h (by omega) nx
        · refine n_tsI (632) 665 d902_33 (by decide) (by decide) rfl (by decide) ?_
          exact l902_15 hL h (by omega) nx
        · refine n_tsI (665) 698 d902_33 (by decide) (by decide) rfl (by decide) ?_
          exact l902_16 hL h (by omega) nx
        · refine n_tsI (698) 731 d902_33 (by decide) (by decide) rfl (by decide) ?_
          exact l902_17 hL h (by omega) nx
        · refine n_tsI (731) 764 d902_33 (by decide) (by decide) rfl (by decide) ?_
          exact l902_18 hL h (by omega) nx
        · refine n_tsI (784) 817 d902_33 (by decide) (by decide) rfl (by decide) ?_
          exact l902_19 hL h (by omega) nx
        · refine n_tsI (837) 870 d902_33 (by decide) (by decide) rfl (by decide) ?_
          exact l902_20 hL h (by omega) nx
        · refine n_tsI (880) 913 d902_33 (by decide) (by decide) rfl (by decide) ?_
          exact l902_21 hL h (by omega) nx
        · refine n_tsI (903) 936 d902_33 (by decide) (by decide) rfl (by decide) ?_
          exact l902_22 hL h (by omega) nx
        · refine n_tsI (946) 979 d902_33 (by decide) (by decide) rfl (by decide) ?_
          exact l902_23 hL h (by omega) nx
        · refine n_tsI (989) 1022 d902_33 (by decide) (by decide) rfl (by decide) ?_
          exact l902_24 hL h (by omega) nx
      · refine n_tsO 1085 d902_33 (by omega) (Or.inr (by omega)) (by decide) ?_
        refine n_iinc 7 d902_1085 (by decide) rfl rfl ?_
        refine q_goto 18 d902_1088 (by decide) ?_
        exact nx _ _ _ h.up
    · skip
      refine q_iload_n d902_18 rfl ?_
      refine q_aload_n d902_19 rfl ?_
      refine q_alen (N := L) d902_20 (Or.inr (Or.inr ⟨by decide, hz⟩)) ?_
      refine q_bipush (x := nI 7) d902_21 rfl ?_
      refine n_isub d902_23 (by omega) ?_
      refine nc_gt 1091 d902_24 (by decide) (by omega) (by omega) (fun h24 => ?_) (fun h24 => (False.elim (by omega)))
      refine q_iconstN (z := 1) d902_1091 ?_
      refine q_zret d902_1092 rfl (by decide) ?_
      exact k _ (by omega) (by omega)
theorem l902 {Q : Option Value → zM → Prop} {xs : Nat → Int32} {L : Nat} (hL : L ≤ 3584) (k : ∀ M', zn M' ≤ 600016 → zs M' ≤ 7302249 → Q (some (.int (nI 1))) M') : ∀ (r i : Nat) (M : zM) (D : yD) (κ : Nat), 7 * i ≤ L → 512 < i + r → LI xs L M D κ i → qW (zEv 40) 902 Q 18 [(3, .int (nI (7 * i))), (2, .ref 136), (1, .ref 16), (0, .ref 0)] [] M := by
  intro r
  induction r with
  | zero => intros; omega
  | succ r ih =>
    intro i M D κ h1 h2 h
    have hs := h.2.2.2.2.2.1
    have hz := h.2.2.2.2.2.2
    have hn := h.2.2.2.2.1
    have nx : ∀ M' D' κ', 7 * i + 7 ≤ L → LI xs L M' D' κ' (i + 1) → qW (zEv 40) 902 Q 18 [(3, .int (nI (7 * i + 7))), (2, .ref 136), (1, .ref 16), (0, .ref 0)] [] M' := fun M' D' κ' hle hI => ih (i + 1) M' D' κ' (by omega) (by omega) hI
    exact l902_h hL h h1 (fun M' D' κ' hle hI => nx M' D' κ' hle hI) k
theorem syl_L (xs : Nat → Int32) : syl xs sysL = [(3, .int (nI (7 * 0))), (2, .ref 136), (1, .ref 16), (0, .ref 0)] := rfl
theorem z_law {L : Nat} {xs : Nat → Int32} (hL : L ≤ 3584) : ∃ (d f : Nat) (M' : zM), d + 1 ≤ 1000 ∧ zLoop (zEv d) 902 (some (.int 1)) M' f 0 [(0, .ref 0)] [] (zM0 L xs) ∧ zn M' ≤ 600016 ∧ zs M' ≤ 7302249 := by
  have h0 : LI xs L (zB0 L xs) yD0 0 0 := ⟨z_RC L xs, z_RX L xs, z_OK, Nat.zero_le _, ⟨Nat.le_refl _, Nat.le_refl _, Nat.le_refl _⟩, z_sc1 L xs, z_sc2 L xs⟩
  have g := l902 (Q := fun v M => v = some (.int (nI 1)) ∧ zn M ≤ 600016 ∧ zs M ≤ 7302249) hL (fun M' a b => ⟨rfl, a, b⟩) 513 0 (zB0 L xs) yD0 0 (by omega) (by omega) h0
  rw [← syl_L xs] at g
  obtain ⟨f, v, M', g1, rfl, g2, g3⟩ := gate9 g
  exact ⟨40, f, M', by decide, g1, g2, g3⟩
theorem whole_start {p : Program} {e : Env} {s : State} {m : MethodId} {below : List Frame} {meth : Method} {c : Code} (l : Launch) (hflags : l.flags = flags0) {b L : Nat} {xs : Nat → Int32} (hL : L ≤ 3584) (C0 : lw_At p s m meth c b L xs) : W p l e room_1 s m #[Value.ref b] below meth c s.heap [] 0 0 (lw_Z below #[Value.ref b] s) (entryFrame m ([Value.ref b] : List Value).toArray 4) :=
  z_start l hL C0 (z_law hL)
