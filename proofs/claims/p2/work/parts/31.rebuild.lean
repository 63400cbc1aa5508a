/-! ===== contracts: replays, copies of worlds ===== -/
theorem yre_S {T : Nat → yT} {L : List yL} {i : Nat} (h : i < L.length) : yre T (L.take (i + 1)) = yag T (yre T (L.take i)) (L.getD i (0, 0, 0)) := by
  unfold yre
  rw [List.take_succ_eq_append_getElem h, List.foldl_append]
  simp only [List.foldl_cons, List.foldl_nil, List.getD, List.getElem?_eq_getElem h, Option.getD_some]
theorem OKW_0 {T : Nat → yT} {c : Nat} (h : c ≤ 6 ∧ ∀ i, i < c → OKT (T i)) : OKW T c yW0 := ⟨h, OKP_0, fun _ _ => OKS_0⟩
/-- the log can come so -/
def yva (T : Nat → yT) (c : Nat) (L : List yL) : Prop := ∀ k, k < L.length → yle T c (yre T (L.take k)) (L.getD k (0, 0, 0))
theorem d94_0 : decode (zB 94) 0 = .ok (.aload_n 0, 1) := by decide +kernel
theorem d94_1 : decode (zB 94) 1 = .ok (.getfield 12, 3) := by decide +kernel
theorem d94_4 : decode (zB 94) 4 = .ok (.invokevirtual 157, 3) := by decide +kernel
theorem d94_7 : decode (zB 94) 7 = .ok (.iconst 0, 1) := by decide +kernel
theorem d94_8 : decode (zB 94) 8 = .ok (.istore_n 3, 1) := by decide +kernel
theorem d94_9 : decode (zB 94) 9 = .ok (.iload_n 3, 1) := by decide +kernel
theorem d94_10 : decode (zB 94) 10 = .ok (.iconst 3, 1) := by decide +kernel
theorem d94_11 : decode (zB 94) 11 = .ok (.if_icmp .ge 18, 3) := by decide +kernel
theorem d94_14 : decode (zB 94) 14 = .ok (.aload_n 0, 1) := by decide +kernel
theorem d94_15 : decode (zB 94) 15 = .ok (.getfield 20, 3) := by decide +kernel
theorem d94_18 : decode (zB 94) 18 = .ok (.iload_n 3, 1) := by decide +kernel
theorem d94_19 : decode (zB 94) 19 = .ok (.aaload, 1) := by decide +kernel
theorem d94_20 : decode (zB 94) 20 = .ok (.invokevirtual 160, 3) := by decide +kernel
theorem d94_23 : decode (zB 94) 23 = .ok (.iinc 3 1, 3) := by decide +kernel
theorem d94_26 : decode (zB 94) 26 = .ok (.goto (-17), 3) := by decide +kernel
theorem d94_29 : decode (zB 94) 29 = .ok (.iconst 0, 1) := by decide +kernel
theorem d94_30 : decode (zB 94) 30 = .ok (.istore_n 3, 1) := by decide +kernel
theorem d94_31 : decode (zB 94) 31 = .ok (.iload_n 3, 1) := by decide +kernel
theorem d94_32 : decode (zB 94) 32 = .ok (.iload_n 2, 1) := by decide +kernel
theorem d94_33 : decode (zB 94) 33 = .ok (.if_icmp .ge 39, 3) := by decide +kernel
theorem d94_36 : decode (zB 94) 36 = .ok (.iload_n 3, 1) := by decide +kernel
theorem d94_37 : decode (zB 94) 37 = .ok (.aload_n 1, 1) := by decide +kernel
theorem d94_38 : decode (zB 94) 38 = .ok (.getfield 161, 3) := by decide +kernel
theorem d94_41 : decode (zB 94) 41 = .ok (.if_icmp .ge 31, 3) := by decide +kernel
theorem d94_44 : decode (zB 94) 44 = .ok (.aload_n 0, 1) := by decide +kernel
theorem d94_45 : decode (zB 94) 45 = .ok (.aload_n 1, 1) := by decide +kernel
theorem d94_46 : decode (zB 94) 46 = .ok (.getfield 164, 3) := by decide +kernel
theorem d94_49 : decode (zB 94) 49 = .ok (.iload_n 3, 1) := by decide +kernel
theorem d94_50 : decode (zB 94) 50 = .ok (.iaload, 1) := by decide +kernel
theorem d94_51 : decode (zB 94) 51 = .ok (.aload_n 1, 1) := by decide +kernel
theorem d94_52 : decode (zB 94) 52 = .ok (.getfield 167, 3) := by decide +kernel
theorem d94_55 : decode (zB 94) 55 = .ok (.iload_n 3, 1) := by decide +kernel
theorem d94_56 : decode (zB 94) 56 = .ok (.iaload, 1) := by decide +kernel
theorem d94_57 : decode (zB 94) 57 = .ok (.aload_n 1, 1) := by decide +kernel
theorem d94_58 : decode (zB 94) 58 = .ok (.getfield 170, 3) := by decide +kernel
theorem d94_61 : decode (zB 94) 61 = .ok (.iload_n 3, 1) := by decide +kernel
theorem d94_62 : decode (zB 94) 62 = .ok (.iaload, 1) := by decide +kernel
theorem d94_63 : decode (zB 94) 63 = .ok (.invokevirtual 173, 3) := by decide +kernel
theorem d94_66 : decode (zB 94) 66 = .ok (.iinc 3 1, 3) := by decide +kernel
theorem d94_69 : decode (zB 94) 69 = .ok (.goto (-38), 3) := by decide +kernel
theorem d94_72 : decode (zB 94) 72 = .ok (.return_, 1) := by decide +kernel
theorem l94b {d : Nat} {Q : Option Value → zM → Prop} {lo w u j c n : Nat} {T : Nat → yT} {g : Option (List yL)} {L : List yL} {M0 : zM} (hw : Wd lo w u j) (hok : c ≤ 6 ∧ ∀ i, i < c → OKT (T i)) (hL : RL M0 62 L) (hn : n ≤ L.length) (hlen : L.length ≤ 240) (hv : yva T c L) (k : ∀ M', CN M' lo w u j T c (yre T (L.take n), g) → Fr (FV u) M0 M' → Q none M') : ∀ (r i : Nat) (M1 : zM), i ≤ n → n < i + r → CN M1 lo w u j T c (yre T (L.take i), g) → Fr (FV u) M0 M1 → qW (zEv (d + 6)) 94 Q 31 [(3, .int (nI i)), (0, .ref w), (1, .ref 62), (2, .int (nI n))] [] M1 := by
  intro r
  induction r with
  | zero => intros; omega
  | succ r ih =>
    intro i M1 h1 h2 hC hF
    have hd := hw.d
    have hS := hC.1
    have hs62 := hS.2.2.2.1
    have hwo := hS.wo hw
    have hL1 : RL M1 62 L := RL_fr hL hF (fun b k h1 h2 q => by have := q.1; have := q.2; rcases hw with e | e <;> omega)
    refine q_iload_n d94_31 rfl ?_
    refine q_iload_n d94_32 rfl ?_
    refine nc_ge 72 d94_33 (by decide) (by omega) (by omega) (fun h33 => ?_) (fun h33 => ?_)
    · refine q_ret d94_72 rfl ?_
      have e : i = n := by omega
      subst e
      exact k _ hC hF
    · refine q_iload_n d94_36 rfl ?_
      refine q_aload_n d94_37 rfl ?_
      refine q_getv (c := 0) (f := 3) d94_38 ⟨rfl, by decide⟩ hs62.1 hL1.1 ?_
      refine nc_ge 72 d94_41 (by decide) (by omega) (by omega) (fun h41 => (False.elim (by omega))) (fun h41 => ?_)
      refine q_aload_n d94_44 rfl ?_
      refine q_aload_n d94_45 rfl ?_
      refine q_getr (c := 0) (f := 0) d94_46 ⟨rfl, rfl⟩ hs62.1 (hs62.2 0 (by decide)).1 ?_
      refine q_iload_n d94_49 rfl ?_
      refine n_iald d94_50 (hs62.2 0 (by decide)).2 (by omega) (by decide) (hL1.2 _ (by omega)).1 ?_
      refine q_aload_n d94_51 rfl ?_
      refine q_getr (c := 0) (f := 1) d94_52 ⟨rfl, rfl⟩ hs62.1 (hs62.2 1 (by decide)).1 ?_
      refine q_iload_n d94_55 rfl ?_
      refine n_iald d94_56 (hs62.2 1 (by decide)).2 (by omega) (by decide) (hL1.2 _ (by omega)).2.1 ?_
      refine q_aload_n d94_57 rfl ?_
      refine q_getr (c := 0) (f := 2) d94_58 ⟨rfl, rfl⟩ hs62.1 (hs62.2 2 (by decide)).1 ?_
      refine q_iload_n d94_61 rfl ?_
      refine n_iald d94_62 (hs62.2 2 (by decide)).2 (by omega) (by decide) (hL1.2 _ (by omega)).2.2 ?_
      refine q_v3 d94_63 rfl rfl hwo.1 (Nat.le_of_ble_eq_true rfl) (c96 hC (hv i (by omega)) (fun M2 hC2 f2 => ?_))
      refine n_iinc 1 d94_66 (by decide) rfl rfl ?_
      refine q_goto 31 d94_69 (by decide) ?_
      exact ih (i + 1) _ (by omega) (by omega) (by rw [yre_S (by omega)]; exact hC2) (hF.trans f2)
theorem l94a {d : Nat} {Q : Option Value → zM → Prop} {lo w u j c n : Nat} {T : Nat → yT} {g : Option (List yL)} {L : List yL} {M0 : zM} (hS0 : SC M0) (hT0 : RTx M0 T c) (hJ : RJ M0 j g) (hw : Wd lo w u j) (hok : c ≤ 6 ∧ ∀ i, i < c → OKT (T i)) (hL : RL M0 62 L) (hn : n ≤ L.length) (hlen : L.length ≤ 240) (hv : yva T c L) (k : ∀ M', CN M' lo w u j T c (yre T (L.take n), g) → Fr (FV u) M0 M' → Q none M') : ∀ (r i : Nat) (M1 : zM), i ≤ 3 → 3 < i + r → SC M1 → RPu M1 u yP0 → (∀ r, r < i → RS M1 (u + 3 + 8 * r) T (yNm T yW0 r) yS0) → Fr (FV u) M0 M1 → qW (zEv (d + 6)) 94 Q 9 [(3, .int (nI i)), (0, .ref w), (1, .ref 62), (2, .int (nI n))] [] M1 := by
  intro r
  induction r with
  | zero => intros; omega
  | succ r ih =>
    intro i M1 h1 h2 hS hP hs hF
    have hd := hw.d
    have hwo := hS.wo hw
    refine q_iload_n d94_9 rfl ?_
    refine q_iconstN (z := 3) d94_10 ?_
    refine nc_ge 29 d94_11 (by decide) (by omega) (by omega) (fun h11 => ?_) (fun h11 => ?_)
    · refine q_iconstN (z := 0) d94_29 ?_
      refine q_istore_n d94_30 (by decide) rfl ?_
      exact l94b hw hok hL hn hlen hv k (n + 1) 0 M1 (by omega) (by omega) ⟨hS, hw, RTx_fr hT0 hok.1 hF (fun b k h1 h2 q => by have := q.1; omega), OKW_0 hok, hP, fun r hr => hs r (by omega), RJ_fr hJ hF (fun b k h1 h2 q => by have := q.1; omega)⟩ hF
    · refine q_aload_n d94_14 rfl ?_
      refine q_getr (c := 6) (f := 3) d94_15 ⟨rfl, rfl⟩ hwo.1 hwo.2.2.2.2.1 ?_
      refine q_iload_n d94_18 rfl ?_
      refine n_aald d94_19 hwo.2.2.2.2.2.1 (by decide) (by omega) (by decide) (hwo.2.2.2.2.2.2 _ (by omega)) ?_
      refine q_v0 d94_20 rfl rfl (hS.sg (hw.sg (by omega))).1 (Nat.le_of_ble_eq_true rfl) (c63 (T := T) (nm := yNm T yW0 i) hS (hw.sg (by omega)) (fun M2 hR2 f2 hS2 => ?_))
      refine n_iinc 1 d94_23 (by decide) rfl rfl ?_
      refine q_goto 9 d94_26 (by decide) ?_
      refine ih (i + 1) _ (by omega) (by omega) hS2 (RPu_fr hP f2 (fun b k h1 h2 q => by have := q.1; omega)) (fun r hr => ?_) (hF.trans (f2.mono (Fb_m (by omega) (by omega))))
      by_cases e : r = i
      · subst e; exact hR2
      · exact RS_fr (hs r (by omega)) f2 (fun b k h1 h2 q => by have := q.1; have := q.2; omega)
theorem c94 {d : Nat} {M : zM} {Q : Option Value → zM → Prop} {lo w u j c n : Nat} {T : Nat → yT} {g : Option (List yL)} {L : List yL} (hS0 : SC M) (hT0 : RTx M T c) (hJ : RJ M j g) (hw : Wd lo w u j) (hok : c ≤ 6 ∧ ∀ i, i < c → OKT (T i)) (hL : RL M 62 L) (hn : n ≤ L.length) (hlen : L.length ≤ 240) (hv : yva T c L) (k : ∀ M', CN M' lo w u j T c (yre T (L.take n), g) → Fr (FV u) M M' → Q none M') : qC (d + 7) 94 [.ref w, .ref 62, .int (nI n)] M Q := by
  have hd := hw.d
  have hwo := hS0.wo hw
  refine qC_of (by decide) (Nat.le_of_ble_eq_true rfl) ?_
  refine q_aload_n d94_0 rfl ?_
  refine q_getr (c := 6) (f := 2) d94_1 ⟨rfl, rfl⟩ hwo.1 hwo.2.2.2.1 ?_
  refine q_v0 d94_4 rfl rfl (hS0.pu hw).1 (Nat.le_of_ble_eq_true rfl) (c95 (hS0.pu hw) (fun M1 hP1 f1 => ?_))
  refine q_iconstN (z := 0) d94_7 ?_
  refine q_istore_n d94_8 (by decide) rfl ?_
  exact l94a hS0 hT0 hJ hw hok hL hn hlen hv k 4 0 M1 (by omega) (by omega) (f1.sc hS0 (fun a k ha q => by have := q.1; omega)) hP1 (fun r hr => absurd hr (by omega)) (f1.fr.mono (Fb_m (by omega) (by omega)))
theorem d101_0 : decode (zB 101) 0 = .ok (.aload_n 0, 1) := by decide +kernel
theorem d101_1 : decode (zB 101) 1 = .ok (.getfield 12, 3) := by decide +kernel
theorem d101_4 : decode (zB 101) 4 = .ok (.aload_n 1, 1) := by decide +kernel
theorem d101_5 : decode (zB 101) 5 = .ok (.getfield 12, 3) := by decide +kernel
theorem d101_8 : decode (zB 101) 8 = .ok (.invokevirtual 33, 3) := by decide +kernel
theorem d101_11 : decode (zB 101) 11 = .ok (.iconst 0, 1) := by decide +kernel
theorem d101_12 : decode (zB 101) 12 = .ok (.istore_n 2, 1) := by decide +kernel
theorem d101_13 : decode (zB 101) 13 = .ok (.iload_n 2, 1) := by decide +kernel
theorem d101_14 : decode (zB 101) 14 = .ok (.iconst 3, 1) := by decide +kernel
theorem d101_15 : decode (zB 101) 15 = .ok (.if_icmp .ge 24, 3) := by decide +kernel
theorem d101_18 : decode (zB 101) 18 = .ok (.aload_n 0, 1) := by decide +kernel
theorem d101_19 : decode (zB 101) 19 = .ok (.getfield 20, 3) := by decide +kernel
theorem d101_22 : decode (zB 101) 22 = .ok (.iload_n 2, 1) := by decide +kernel
theorem d101_23 : decode (zB 101) 23 = .ok (.aaload, 1) := by decide +kernel
theorem d101_24 : decode (zB 101) 24 = .ok (.aload_n 1, 1) := by decide +kernel
theorem d101_25 : decode (zB 101) 25 = .ok (.getfield 20, 3) := by decide +kernel
theorem d101_28 : decode (zB 101) 28 = .ok (.iload_n 2, 1) := by decide +kernel
theorem d101_29 : decode (zB 101) 29 = .ok (.aaload, 1) := by decide +kernel
theorem d101_30 : decode (zB 101) 30 = .ok (.invokevirtual 37, 3) := by decide +kernel
theorem d101_33 : decode (zB 101) 33 = .ok (.iinc 2 1, 3) := by decide +kernel
theorem d101_36 : decode (zB 101) 36 = .ok (.goto (-23), 3) := by decide +kernel
theorem d101_39 : decode (zB 101) 39 = .ok (.return_, 1) := by decide +kernel
theorem gz_12 {T : Nat → yT} {c r : Nat} {W : yW} (h : OKW T c W) (hr : r < 3) : gz T (W.2 r) ≤ 12 := by
  unfold gz
  split
  · omega
  · rename_i q; exact (h.1.2 _ ((h.2.2 r hr).2.1 q)).n
theorem l101 {d : Nat} {Q : Option Value → zM → Prop} {c : Nat} {T : Nat → yT} {nm : Nat → Nat → Int32} {X : yX} {M0 : zM} (hC0 : CW M0 62 66 67 62 T c nm X) (k : ∀ M', CW M' 94 94 99 95 T c nm (X.1, none) → Fr (FV 99) M0 M' → Q none M') : ∀ (r i : Nat) (M1 : zM), i ≤ 3 → 3 < i + r → SC M1 → RPu M1 99 X.1.1 → (∀ r, r < i → RS M1 (102 + 8 * r) T (nm r) (X.1.2 r)) → Fr (FV 99) M0 M1 → qW (zEv (d + 1)) 101 Q 13 [(2, .int (nI i)), (0, .ref 94), (1, .ref 66)] [] M1 := by
  intro r
  induction r with
  | zero => intros; omega
  | succ r ih =>
    intro i M1 h1 h2 hS hP hs hF
    have hwt := hS.wo (Or.inr ⟨rfl, rfl, rfl, rfl⟩)
    have hwr := hS.wo (Or.inl ⟨rfl, rfl, rfl, rfl⟩)
    have hz : ∀ r, r < 3 → gz T (X.1.2 r) ≤ 12 := fun r hr => gz_12 hC0.2.2.2.1 hr
    refine q_iload_n d101_13 rfl ?_
    refine q_iconstN (z := 3) d101_14 ?_
    refine nc_ge 39 d101_15 (by decide) (by omega) (by omega) (fun h15 => ?_) (fun h15 => ?_)
    · refine q_ret d101_39 rfl ?_
      exact k _ ⟨hS, Or.inr ⟨rfl, rfl, rfl, rfl⟩, RTx_fr hC0.2.2.1 hC0.2.2.2.1.1.1 hF (fun b k h1 h2 q => by have := q.1; omega), hC0.2.2.2.1, hP, fun r hr => hs r (by omega), rfl⟩ hF
    · refine q_aload_n d101_18 rfl ?_
      refine q_getr (c := 6) (f := 3) d101_19 ⟨rfl, rfl⟩ hwt.1 hwt.2.2.2.2.1 ?_
      refine q_iload_n d101_22 rfl ?_
      refine n_aald d101_23 hwt.2.2.2.2.2.1 (by decide) (by omega) (by decide) (hwt.2.2.2.2.2.2 _ (by omega)) ?_
      refine q_aload_n d101_24 rfl ?_
      refine q_getr (c := 6) (f := 3) d101_25 ⟨rfl, rfl⟩ hwr.1 hwr.2.2.2.2.1 ?_
      refine q_iload_n d101_28 rfl ?_
      refine n_aald d101_29 hwr.2.2.2.2.2.1 (by decide) (by omega) (by decide) (hwr.2.2.2.2.2.2 _ (by omega)) ?_
      refine q_v1 d101_30 rfl rfl (hS.sg (by unfold zSa; omega)).1 (Nat.le_of_ble_eq_true rfl) (c102 (T := T) (nm := nm i) (S := X.1.2 i) hS (by unfold zSa; omega) (by unfold zSa; omega) (by omega) (RS_fr (hC0.2.2.2.2.2.1 i (by omega)) hF (fun b k h1 h2 q => by have := q.1; omega)) (Nat.le_trans (OKS_len (hC0.2.2.2.1.2.2 i (by omega)) (hz i (by omega))) (hz i (by omega))) (hz i (by omega)) (fun M2 hR2 f2 hS2 => ?_))
      refine n_iinc 1 d101_33 (by decide) rfl rfl ?_
      refine q_goto 13 d101_36 (by decide) ?_
      refine ih (i + 1) _ (by omega) (by omega) hS2 (RPu_fr hP f2 (fun b k h1 h2 q => by have := q.1; omega)) (fun r hr => ?_) (hF.trans (f2.mono (Fb_m (by omega) (by omega))))
      by_cases e : r = i
      · subst e; exact hR2
      · exact RS_fr (hs r (by omega)) f2 (fun b k h1 h2 q => by have := q.1; have := q.2; omega)
theorem c101 {d : Nat} {M : zM} {Q : Option Value → zM → Prop} {c : Nat} {T : Nat → yT} {nm : Nat → Nat → Int32} {X : yX} (hC0 : CW M 62 66 67 62 T c nm X) (k : ∀ M', CW M' 94 94 99 95 T c nm (X.1, none) → Fr (FV 99) M M' → Q none M') : qC (d + 2) 101 [.ref 94, .ref 66] M Q := by
  have hS := hC0.1
  have hwt := hS.wo (Or.inr ⟨rfl, rfl, rfl, rfl⟩)
  have hwr := hS.wo (Or.inl ⟨rfl, rfl, rfl, rfl⟩)
  have hpt := hS.pu (Or.inr ⟨rfl, rfl, rfl, rfl⟩)
  have hpr := hS.pu (Or.inl ⟨rfl, rfl, rfl, rfl⟩)
  refine qC_of (by decide) (Nat.le_of_ble_eq_true rfl) ?_
  refine q_aload_n d101_0 rfl ?_
  refine q_getr (c := 6) (f := 2) d101_1 ⟨rfl, rfl⟩ hwt.1 hwt.2.2.2.1 ?_
  refine q_aload_n d101_4 rfl ?_
  refine q_getr (c := 6) (f := 2) d101_5 ⟨rfl, rfl⟩ hwr.1 hwr.2.2.2.1 ?_
  refine q_v1 d101_8 rfl rfl hpt.1 (Nat.le_of_ble_eq_true rfl) (c42 hpt hpr hC0.2.2.2.2.1 (by omega) (fun M1 hP1 f1 => ?_))
  refine q_iconstN (z := 0) d101_11 ?_
  refine q_istore_n d101_12 (by decide) rfl ?_
  exact l101 hC0 k 4 0 M1 (by omega) (by omega) (f1.sc hS (fun a k ha q => by have := q.1; omega)) hP1 (fun r hr => absurd hr (by omega)) (f1.fr.mono (Fb_m (by omega) (by omega)))
def ydr (S : yS) : yS := gqS (gpS S (fun _ => 0)) (fun _ => 0)
/-- the first n sagas' plans are dropped -/
def ydp (n : Nat) (X : yX) : yX := ((X.1.1, fun s => if s < n then ydr (X.1.2 s) else X.1.2 s), X.2)
theorem RS_dr {M M' : zM} {a : Nat} {T : Nat → yT} {nm : Nat → Int32} {S : yS} (h : RS M a T nm S) (hp : ∀ j, j < 12 → zi M' (a + 4) j = nI 0 ∧ zi M' (a + 5) j = nI 0) (f : Fi (fun b _ => b = a + 4 ∨ b = a + 5) M M') : RS M' a T nm (ydr S) := by
  have g : ∀ b k, b ≠ a + 4 → b ≠ a + 5 → zi M' b k = zi M b k := fun b k n n2 => f.1 b k (by omega)
  obtain ⟨⟨h1, h2, h3⟩, ⟨h4, h5, h6⟩, ⟨h7, h8⟩, h9, ha, hb⟩ := h
  exact ⟨⟨(g _ _ (by omega) (by omega)).trans h1, (g _ _ (by omega) (by omega)).trans h2, (f.r _ _).trans h3⟩, ⟨(g _ _ (by omega) (by omega)).trans h4, (g _ _ (by omega) (by omega)).trans h5, (g _ _ (by omega) (by omega)).trans h6⟩,
    ⟨(g _ _ (by omega) (by omega)).trans h7, fun k hk => (g _ _ (by omega) (by omega)).trans (h8 k hk)⟩, fun k hk => (g _ _ (by omega) (by omega)).trans (h9 k hk), fun k hk he => (g _ _ (by omega) (by omega)).trans (ha k hk he),
    fun k hk => ⟨(hp k hk).1, (hp k hk).2, (g _ _ (by omega) (by omega)).trans (hb k hk).2.2.1, (g _ _ (by omega) (by omega)).trans (hb k hk).2.2.2⟩⟩
theorem ydp_S {i : Nat} {X : yX} : yss (ydp i X) i (ydr (X.1.2 i)) = ydp (i + 1) X := by
  unfold ydp yss
  simp only []
  congr 2
  funext s
  by_cases e : s = i
  · subst e; rw [yu_s, if_pos (by omega)]
  · rw [yu_n e]
    by_cases h : s < i
    · rw [if_pos h, if_pos (by omega)]
    · rw [if_neg h, if_neg (by omega)]
theorem ydp_ok {T : Nat → yT} {c n : Nat} {X : yX} (h : OKW T c X.1) : OKW T c (ydp n X).1 := ⟨h.1, h.2.1, fun s hs => by
  show OKS T c (if s < n then ydr (X.1.2 s) else X.1.2 s)
  split
  · exact h.2.2 s hs
  · exact h.2.2 s hs⟩
theorem d108_0 : decode (zB 108) 0 = .ok (.iconst 0, 1) := by decide +kernel
theorem d108_1 : decode (zB 108) 1 = .ok (.istore_n 1, 1) := by decide +kernel
theorem d108_2 : decode (zB 108) 2 = .ok (.iload_n 1, 1) := by decide +kernel
theorem d108_3 : decode (zB 108) 3 = .ok (.iconst 3, 1) := by decide +kernel
theorem d108_4 : decode (zB 108) 4 = .ok (.if_icmp .ge 18, 3) := by decide +kernel
theorem d108_7 : decode (zB 108) 7 = .ok (.aload_n 0, 1) := by decide +kernel
theorem d108_8 : decode (zB 108) 8 = .ok (.getfield 20, 3) := by decide +kernel
theorem d108_11 : decode (zB 108) 11 = .ok (.iload_n 1, 1) := by decide +kernel
theorem d108_12 : decode (zB 108) 12 = .ok (.aaload, 1) := by decide +kernel
theorem d108_13 : decode (zB 108) 13 = .ok (.invokevirtual 40, 3) := by decide +kernel
theorem d108_16 : decode (zB 108) 16 = .ok (.iinc 1 1, 3) := by decide +kernel
theorem d108_19 : decode (zB 108) 19 = .ok (.goto (-17), 3) := by decide +kernel
theorem d108_22 : decode (zB 108) 22 = .ok (.return_, 1) := by decide +kernel
theorem l108 {d : Nat} {Q : Option Value → zM → Prop} {lo w u j c : Nat} {T : Nat → yT} {nm : Nat → Nat → Int32} {X : yX} {M0 : zM} (hO : OKW T c X.1) (hw : Wd lo w u j) (k : ∀ M', CW M' lo w u j T c nm (ydp 3 X) → Fi (FW lo) M0 M' → Q none M') : ∀ (r i : Nat) (M1 : zM), i ≤ 3 → 3 < i + r → CW M1 lo w u j T c nm (ydp i X) → Fi (FW lo) M0 M1 → qW (zEv (d + 2)) 108 Q 2 [(1, .int (nI i)), (0, .ref w)] [] M1 := by
  intro r
  induction r with
  | zero => intros; omega
  | succ r ih =>
    intro i M1 h1 h2 hC hF
    have hd := hw.d
    have hwo := hC.1.wo hw
    refine q_iload_n d108_2 rfl ?_
    refine q_iconstN (z := 3) d108_3 ?_
    refine nc_ge 22 d108_4 (by decide) (by omega) (by omega) (fun h4 => ?_) (fun h4 => ?_)
    · refine q_ret d108_22 rfl ?_
      rw [show i = 3 by omega] at hC
      exact k _ hC hF
    · refine q_aload_n d108_7 rfl ?_
      refine q_getr (c := 6) (f := 3) d108_8 ⟨rfl, rfl⟩ hwo.1 hwo.2.2.2.2.1 ?_
      refine q_iload_n d108_11 rfl ?_
      refine n_aald d108_12 hwo.2.2.2.2.2.1 (by decide) (by omega) (by decide) (hwo.2.2.2.2.2.2 _ (by omega)) ?_
      refine q_v0 d108_13 rfl rfl (hC.1.sg (hw.sg (by omega))).1 (Nat.le_of_ble_eq_true rfl) (c64 (hC.1.sg (hw.sg (by omega))) (fun M2 hp2 f2 => ?_))
      refine n_iinc 1 d108_16 (by decide) rfl rfl ?_
      refine q_goto 2 d108_19 (by decide) ?_
      have f2' : Fi (FS (u + 3 + 8 * i)) M1 M2 := f2.mono (fun b _ q => FS_x (by omega) (by omega))
      have e1 : (ydp i X).1.2 i = X.1.2 i := if_neg (by omega)
      have hRi := hC.2.2.2.2.2.1 i (by omega)
      rw [e1] at hRi
      have hR2 := RW_sg hw hC.2.2.2.2 (show i < 3 by omega) (RS_dr hRi hp2 f2) f2'.fr
      rw [ydp_S] at hR2
      exact ih (i + 1) _ (by omega) (by omega) (hC.up hR2 (ydp_ok hO) (f2'.mono (Fb_m (by omega) (by omega)))) (hF.trans (f2'.mono (Fb_m (by omega) (by omega))))
theorem c108 {d : Nat} {M : zM} {Q : Option Value → zM → Prop} {lo w u j c : Nat} {T : Nat → yT} {nm : Nat → Nat → Int32} {X : yX} (hC : CW M lo w u j T c nm X) (k : ∀ M', CW M' lo w u j T c nm (ydp 3 X) → Fi (FW lo) M M' → Q none M') : qC (d + 3) 108 [.ref w] M Q := by
  have hwo := hC.1.wo hC.2.1
  refine qC_of (by decide) (Nat.le_of_ble_eq_true rfl) ?_
  refine q_iconstN (z := 0) d108_0 ?_
  refine q_istore_n d108_1 (by decide) rfl ?_
  exact l108 hC.2.2.2.1 hC.2.1 k 4 0 M (by omega) (by omega) hC (Fi.refl _ _)
def yac1 (S : yS) : Nat := if gt S = 1 ∨ gt S = 2 then 1 else 0
def yact (W : yW) : Nat → Nat
  | 0 => 0
  | n + 1 => yact W n + yac1 (W.2 n)
theorem yact_le (W : yW) : ∀ n, yact W n ≤ n
  | 0 => Nat.le_refl _
  | n + 1 => by have := yact_le W n; unfold yact yac1; split <;> omega
theorem yact_t {W : yW} {n : Nat} (h : decide (gt (W.2 n) = 1 ∨ gt (W.2 n) = 2) = true) : yact W (n + 1) = yact W n + 1 := by
  have : yact W (n + 1) = yact W n + yac1 (W.2 n) := rfl
  rw [this]; unfold yac1; rw [if_pos (of_decide_eq_true h)]
theorem yact_f {W : yW} {n : Nat} (h : decide (gt (W.2 n) = 1 ∨ gt (W.2 n) = 2) = false) : yact W (n + 1) = yact W n := by
  have : yact W (n + 1) = yact W n + yac1 (W.2 n) := rfl
  rw [this]; unfold yac1; rw [if_neg (of_decide_eq_false h)]; rfl
theorem d124_0 : decode (zB 124) 0 = .ok (.iconst 0, 1) := by decide +kernel
theorem d124_1 : decode (zB 124) 1 = .ok (.istore_n 1, 1) := by decide +kernel
theorem d124_2 : decode (zB 124) 2 = .ok (.iconst 0, 1) := by decide +kernel
theorem d124_3 : decode (zB 124) 3 = .ok (.istore_n 2, 1) := by decide +kernel
theorem d124_4 : decode (zB 124) 4 = .ok (.iload_n 2, 1) := by decide +kernel
theorem d124_5 : decode (zB 124) 5 = .ok (.iconst 3, 1) := by decide +kernel
theorem d124_6 : decode (zB 124) 6 = .ok (.if_icmp .ge 24, 3) := by decide +kernel
theorem d124_9 : decode (zB 124) 9 = .ok (.aload_n 0, 1) := by decide +kernel
theorem d124_10 : decode (zB 124) 10 = .ok (.getfield 20, 3) := by decide +kernel
theorem d124_13 : decode (zB 124) 13 = .ok (.iload_n 2, 1) := by decide +kernel
theorem d124_14 : decode (zB 124) 14 = .ok (.aaload, 1) := by decide +kernel
theorem d124_15 : decode (zB 124) 15 = .ok (.invokevirtual 43, 3) := by decide +kernel
theorem d124_18 : decode (zB 124) 18 = .ok (.ifCond .eq 6, 3) := by decide +kernel
theorem d124_21 : decode (zB 124) 21 = .ok (.iinc 1 1, 3) := by decide +kernel
theorem d124_24 : decode (zB 124) 24 = .ok (.iinc 2 1, 3) := by decide +kernel
theorem d124_27 : decode (zB 124) 27 = .ok (.goto (-23), 3) := by decide +kernel
theorem d124_30 : decode (zB 124) 30 = .ok (.iload_n 1, 1) := by decide +kernel
theorem d124_31 : decode (zB 124) 31 = .ok (.ireturn, 1) := by decide +kernel
theorem l124 {d : Nat} {M : zM} {Q : Option Value → zM → Prop} {lo w u j c : Nat} {T : Nat → yT} {nm : Nat → Nat → Int32} {X : yX} (hC : CW M lo w u j T c nm X) (k : Q (some (.int (nI (yact X.1 3)))) M) : ∀ (r i : Nat), i ≤ 3 → 3 < i + r → qW (zEv (d + 1)) 124 Q 4 [(2, .int (nI i)), (1, .int (nI (yact X.1 i))), (0, .ref w)] [] M := by
  intro r
  induction r with
  | zero => intros; omega
  | succ r ih =>
    intro i  h1 h2 
    have hwo := hC.1.wo hC.2.1
    have hle := yact_le X.1 i
    refine q_iload_n d124_4 rfl ?_
    refine q_iconstN (z := 3) d124_5 ?_
    refine nc_ge 30 d124_6 (by decide) (by omega) (by omega) (fun h6 => ?_) (fun h6 => ?_)
    · refine q_iload_n d124_30 rfl ?_
      refine q_iret d124_31 rfl ?_
      rw [show i = 3 by omega]; exact k
    · refine q_aload_n d124_9 rfl ?_
      refine q_getr (c := 6) (f := 3) d124_10 ⟨rfl, rfl⟩ hwo.1 hwo.2.2.2.2.1 ?_
      refine q_iload_n d124_13 rfl ?_
      refine n_aald d124_14 hwo.2.2.2.2.2.1 (by decide) (by omega) (by decide) (hwo.2.2.2.2.2.2 _ (by omega)) ?_
      refine q_v0 d124_15 rfl rfl (hC.1.sg (hC.2.1.sg (by omega))).1 (Nat.le_of_ble_eq_true rfl) (c61 (hC.1.sg (hC.2.1.sg (by omega))) (hC.2.2.2.2.2.1 i (by omega)).1.1 (hC.2.2.2.1.2.2 i (by omega)).1 ?_)
      refine b0_eq 24 d124_18 (by decide) (fun h18 => ?_) (fun h18 => ?_)
      · refine n_iinc 1 d124_24 (by decide) rfl rfl ?_
        refine q_goto 4 d124_27 (by decide) ?_
        first
        | (rw [← yact_t h18]; exact ih (i + 1) (by omega) (by omega))
        | (rw [← yact_f h18]; exact ih (i + 1) (by omega) (by omega))
      · refine n_iinc 1 d124_21 (by decide) rfl rfl ?_
        refine n_iinc 1 d124_24 (by decide) rfl rfl ?_
        refine q_goto 4 d124_27 (by decide) ?_
        first
        | (rw [← yact_t h18]; exact ih (i + 1) (by omega) (by omega))
        | (rw [← yact_f h18]; exact ih (i + 1) (by omega) (by omega))
theorem c124 {d : Nat} {M : zM} {Q : Option Value → zM → Prop} {lo w u j c : Nat} {T : Nat → yT} {nm : Nat → Nat → Int32} {X : yX} (hC : CW M lo w u j T c nm X) (k : Q (some (.int (nI (yact X.1 3)))) M) : qC (d + 2) 124 [.ref w] M Q := by
  have hwo := hC.1.wo hC.2.1
  refine qC_of (by decide) (Nat.le_of_ble_eq_true rfl) ?_
  refine q_iconstN (z := 0) d124_0 ?_
  refine q_istore_n d124_1 (by decide) rfl ?_
  refine q_iconstN (z := 0) d124_2 ?_
  refine q_istore_n d124_3 (by decide) rfl ?_
  exact l124 hC k 4 0 (by omega) (by omega)
