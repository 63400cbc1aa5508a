/-! ===== the calls of the class: set, tick ===== -/
/-! a log grows at its end -/
def yE (g g' : Option (List yL)) : Prop := ∀ L, g = some L → ∃ A, g' = some (L ++ A)
theorem yE_id {g : Option (List yL)} : yE g g := fun L e => ⟨[], by rw [e, List.append_nil]⟩
theorem yE_lg {g : Option (List yL)} {x : yL} : yE g (ylg g x) := fun L e => ⟨[x], by rw [e]; rfl⟩
theorem yE.trans {g g' g'' : Option (List yL)} (h : yE g g') (h2 : yE g' g'') : yE g g'' := by
  intro L e
  obtain ⟨A, eA⟩ := h L e
  obtain ⟨B, eB⟩ := h2 _ eA
  exact ⟨A ++ B, by rw [eB, List.append_assoc]⟩
theorem ytr_E {T : yT} {n : Int32} {s i : Nat} {X : yX} : yE X.2 (ytr T n s i X).2 := by
  unfold ytr
  simp only []
  repeat' split
  all_goals first
    | exact yE_lg
    | exact yE.trans (g' := ylg X.2 (2, s, i)) yE_lg yE_lg
theorem yfl_E {T : yT} {nm : Nat → Int32} {s fr : Nat} : ∀ (k i : Nat) (X : yX), yE X.2 (yfl T nm s fr k i X).2
  | 0, _, _ => yE_id
  | k + 1, i, X => by
    rw [yfl]
    by_cases h1 : gt (yxs X s) = 1
    · rw [if_pos h1]
      by_cases hb : fr.testBit i = true
      · rw [if_pos hb]; exact ytr_E.trans (yfl_E k _ _)
      · rw [if_neg hb]; exact yfl_E k _ _
    · rw [if_neg h1]; exact yE_id
theorem yfo_E {T : yT} {nm : Nat → Int32} {s : Nat} {X : yX} : yE X.2 (yfo T nm s X).2 := by
  unfold yfo
  simp only []
  split
  · exact (yfl_E (T := T) (nm := nm) (s := s) (fr := yfr T (yxs X s)) 12 0 X).trans yE_lg
  · exact yfl_E 12 0 X
theorem yun_E {T : yT} {s : Nat} {X : yX} : yE X.2 (yun T s X).2 := by
  unfold yun
  simp only []
  repeat' split
  all_goals first
    | exact yE_id
    | exact yE_lg
theorem yba_E {T : yT} {s : Nat} {X : yX} : yE X.2 (yba T s X).2 := by
  unfold yba
  simp only []
  split
  · exact (yun_E (T := T) (s := s) (X := X)).trans yE_lg
  · exact yun_E
theorem ytu_E {T : Nat → yT} {nm : Nat → Nat → Int32} {s : Nat} {X : yX} : yE X.2 (ytu T nm s X).2 := by
  unfold ytu
  split
  · exact yfo_E
  · split
    · exact yba_E
    · exact yE_id
theorem yti_E {T : Nat → yT} {nm : Nat → Nat → Int32} {X : yX} : yE X.2 (yti T nm X).2 := ytu_E.trans (ytu_E.trans ytu_E)
/-- a tick of the desk -/
theorem yti_D {D : yD} (hO : OKW (dT D) (dc D) (dW D)) : ∃ W' A, yti (dT D) (dnm D) (dX D) = (W', some (dL D ++ A)) ∧ OKW (dT D) (dc D) W' ∧ (∀ s, gx (W'.2 s) = gx ((dW D).2 s)) ∧ (dL D ++ A).length ≤ (dL D).length + 39 := by
  obtain ⟨A, hA⟩ := yti_E (T := dT D) (nm := dnm D) (X := dX D) (dL D) rfl
  obtain ⟨h1, h2, h3⟩ := yti_ok (T := dT D) (nm := dnm D) (c := dc D) (X := dX D) hO
  refine ⟨(yti (dT D) (dnm D) (dX D)).1, A, Prod.ext rfl hA, h1, fun s => (h2 s).1, ?_⟩
  rw [hA] at h3
  exact h3
/-- by what its texts say -/
theorem CN_of {M : zM} {lo w u j c : Nat} {T : Nat → yT} {nm : Nat → Nat → Int32} {X : yX} (h : CW M lo w u j T c nm X) (e : ∀ s, s < 3 → ∀ k, k < gz T (yxs X s) → yNm T X.1 s k = nm s k) : CN M lo w u j T c X :=
  ⟨h.1, h.2.1, h.2.2.1, h.2.2.2.1, RW_nm h.2.2.2.2 e⟩
theorem d90_0 : decode (zB 90) 0 = .ok (.iload_n 1, 1) := by decide +kernel
theorem d90_1 : decode (zB 90) 1 = .ok (.invokestatic 202, 3) := by decide +kernel
theorem d90_4 : decode (zB 90) 4 = .ok (.ifCond .eq 14, 3) := by decide +kernel
theorem d90_7 : decode (zB 90) 7 = .ok (.iload_n 2, 1) := by decide +kernel
theorem d90_8 : decode (zB 90) 8 = .ok (.iconst 0, 1) := by decide +kernel
theorem d90_9 : decode (zB 90) 9 = .ok (.sipush 9999, 3) := by decide +kernel
theorem d90_12 : decode (zB 90) 12 = .ok (.invokestatic 55, 3) := by decide +kernel
theorem d90_15 : decode (zB 90) 15 = .ok (.ifCond .ne 6, 3) := by decide +kernel
theorem d90_18 : decode (zB 90) 18 = .ok (.bipush (-2), 2) := by decide +kernel
theorem d90_20 : decode (zB 90) 20 = .ok (.ireturn, 1) := by decide +kernel
theorem d90_21 : decode (zB 90) 21 = .ok (.aload_n 0, 1) := by decide +kernel
theorem d90_22 : decode (zB 90) 22 = .ok (.getfield 28, 3) := by decide +kernel
theorem d90_25 : decode (zB 90) 25 = .ok (.getfield 154, 3) := by decide +kernel
theorem d90_28 : decode (zB 90) 28 = .ok (.sipush 240, 3) := by decide +kernel
theorem d90_31 : decode (zB 90) 31 = .ok (.if_icmp .lt 6, 3) := by decide +kernel
theorem d90_34 : decode (zB 90) 34 = .ok (.bipush (-4), 2) := by decide +kernel
theorem d90_36 : decode (zB 90) 36 = .ok (.ireturn, 1) := by decide +kernel
theorem d90_37 : decode (zB 90) 37 = .ok (.aload_n 0, 1) := by decide +kernel
theorem d90_38 : decode (zB 90) 38 = .ok (.getfield 37, 3) := by decide +kernel
theorem d90_41 : decode (zB 90) 41 = .ok (.getfield 94, 3) := by decide +kernel
theorem d90_44 : decode (zB 90) 44 = .ok (.getfield 205, 3) := by decide +kernel
theorem d90_47 : decode (zB 90) 47 = .ok (.iload_n 1, 1) := by decide +kernel
theorem d90_48 : decode (zB 90) 48 = .ok (.iaload, 1) := by decide +kernel
theorem d90_49 : decode (zB 90) 49 = .ok (.istore_n 3, 1) := by decide +kernel
theorem d90_50 : decode (zB 90) 50 = .ok (.aload_n 0, 1) := by decide +kernel
theorem d90_51 : decode (zB 90) 51 = .ok (.getfield 37, 3) := by decide +kernel
theorem d90_54 : decode (zB 90) 54 = .ok (.getfield 94, 3) := by decide +kernel
theorem d90_57 : decode (zB 90) 57 = .ok (.getfield 205, 3) := by decide +kernel
theorem d90_60 : decode (zB 90) 60 = .ok (.iload_n 1, 1) := by decide +kernel
theorem d90_61 : decode (zB 90) 61 = .ok (.iload_n 2, 1) := by decide +kernel
theorem d90_62 : decode (zB 90) 62 = .ok (.iastore, 1) := by decide +kernel
theorem d90_63 : decode (zB 90) 63 = .ok (.aload_n 0, 1) := by decide +kernel
theorem d90_64 : decode (zB 90) 64 = .ok (.getfield 28, 3) := by decide +kernel
theorem d90_67 : decode (zB 90) 67 = .ok (.bipush 6, 2) := by decide +kernel
theorem d90_69 : decode (zB 90) 69 = .ok (.iload_n 1, 1) := by decide +kernel
theorem d90_70 : decode (zB 90) 70 = .ok (.iload_n 2, 1) := by decide +kernel
theorem d90_71 : decode (zB 90) 71 = .ok (.invokevirtual 159, 3) := by decide +kernel
theorem d90_74 : decode (zB 90) 74 = .ok (.iload_n 3, 1) := by decide +kernel
theorem d90_75 : decode (zB 90) 75 = .ok (.ireturn, 1) := by decide +kernel
theorem p90 {d : Nat} {M : zM} {Q : Option Value → zM → Prop} {D : yD} {x y : Int32} (hR : RC M D) (hD : OKD D) (k : ∀ M', RC M' (sSet D x y).2 → Fc M M' → Q (some (.int (sSet D x y).1)) M') : qC (d + 3) 90 [.ref 16, .int x, .int y] M Q := by
  refine qC_of (by decide) (Nat.le_of_ble_eq_true rfl) ?_
  have hS := hR.1.1
  have hT := hR.1.2.2.1
  have hO := hR.1.2.2.2.1
  have hRW := hR.1.2.2.2.2
  have hJ : RL M 62 (dL D) := hRW.2.2.2
  have hc6 := hO.1.1
  have h240 := hD.2.1
  have h120 := hR.2.2.1.1
  have hwr := hS.wo (Or.inl ⟨rfl, rfl, rfl, rfl⟩)
  have hwt := hS.wo (Or.inr ⟨rfl, rfl, rfl, rfl⟩)
  have hpr := hS.pu (Or.inl ⟨rfl, rfl, rfl, rfl⟩)
  have hpt := hS.pu (Or.inr ⟨rfl, rfl, rfl, rfl⟩)
  unfold sSet at k
  rcases zix_c x (n := 6) (by omega) with ⟨a, ha, rfl, ea⟩ | ⟨ea, na⟩
  · rw [oz_s ea] at k
    rcases zix_c y (n := 10000) (by omega) with ⟨v, hv, rfl, ev⟩ | ⟨ev, nv⟩
    · rw [oz_s ev] at k
      by_cases hL : 240 ≤ (dL D).length
      · rw [if_pos hL] at k
        refine q_iload_n d90_0 rfl ?_
        refine q_s1 d90_1 (Or.inl rfl) rfl (Nat.le_of_ble_eq_true rfl) (c26t (by omega) ?_)
        refine n0_eq 18 d90_4 (by decide) (by decide) (fun q => absurd q (by decide)) (fun _ => ?_)
        refine q_iload_n d90_7 rfl ?_
        refine q_iconstN (z := 0) d90_8 ?_
        refine q_sipush (x := nI 9999) d90_9 rfl ?_
        refine q_s3 d90_12 (Or.inl rfl) rfl (Nat.le_of_ble_eq_true rfl) (c10t ⟨by omega, by omega⟩ (by decide) ?_)
        refine n0_ne 21 d90_15 (by decide) (by decide) (fun _ => ?_) (fun q => absurd q (by decide))
        refine q_aload_n d90_21 rfl ?_
        refine q_getr (c := 7) (f := 3) d90_22 ⟨rfl, rfl⟩ (hS.1.1) (hS.1.2.2.2.2.2.1) ?_
        refine q_getv (c := 0) (f := 3) d90_25 ⟨rfl, by decide⟩ hS.2.2.2.1.1 hJ.1 ?_
        refine q_sipush (x := nI 240) d90_28 rfl ?_
        refine nc_lt 37 d90_31 (by decide) (by omega) (by omega) (fun h31 => (False.elim (by omega))) (fun h31 => ?_)
        refine q_bipush (x := (-4)) d90_34 rfl ?_
        refine q_iret d90_36 rfl ?_
        exact k _ hR (Fc.refl _)
      · rw [if_neg hL] at k
        refine q_iload_n d90_0 rfl ?_
        refine q_s1 d90_1 (Or.inl rfl) rfl (Nat.le_of_ble_eq_true rfl) (c26t (by omega) ?_)
        refine n0_eq 18 d90_4 (by decide) (by decide) (fun q => absurd q (by decide)) (fun _ => ?_)
        refine q_iload_n d90_7 rfl ?_
        refine q_iconstN (z := 0) d90_8 ?_
        refine q_sipush (x := nI 9999) d90_9 rfl ?_
        refine q_s3 d90_12 (Or.inl rfl) rfl (Nat.le_of_ble_eq_true rfl) (c10t ⟨by omega, by omega⟩ (by decide) ?_)
        refine n0_ne 21 d90_15 (by decide) (by decide) (fun _ => ?_) (fun q => absurd q (by decide))
        refine q_aload_n d90_21 rfl ?_
        refine q_getr (c := 7) (f := 3) d90_22 ⟨rfl, rfl⟩ (hS.1.1) (hS.1.2.2.2.2.2.1) ?_
        refine q_getv (c := 0) (f := 3) d90_25 ⟨rfl, by decide⟩ hS.2.2.2.1.1 hJ.1 ?_
        refine q_sipush (x := nI 240) d90_28 rfl ?_
        refine nc_lt 37 d90_31 (by decide) (by omega) (by omega) (fun h31 => ?_) (fun h31 => (False.elim (by omega)))
        refine q_aload_n d90_37 rfl ?_
        refine q_getr (c := 7) (f := 4) d90_38 ⟨rfl, rfl⟩ (hS.1.1) (hS.1.2.2.2.2.2.2.1) ?_
        refine q_getr (c := 6) (f := 2) d90_41 ⟨rfl, rfl⟩ hwr.1 hwr.2.2.2.1 ?_
        refine q_getr (c := 2) (f := 0) d90_44 ⟨rfl, rfl⟩ hpr.1 hpr.2.1 ?_
        refine q_iload_n d90_47 rfl ?_
        refine n_iald d90_48 hpr.2.2 (by omega) (by decide) (hRW.1.1 _ (by omega)) ?_
        refine q_istore_n d90_49 (by decide) rfl ?_
        refine q_aload_n d90_50 rfl ?_
        refine q_getr (c := 7) (f := 4) d90_51 ⟨rfl, rfl⟩ (hS.1.1) (hS.1.2.2.2.2.2.2.1) ?_
        refine q_getr (c := 6) (f := 2) d90_54 ⟨rfl, rfl⟩ hwr.1 hwr.2.2.2.1 ?_
        refine q_getr (c := 2) (f := 0) d90_57 ⟨rfl, rfl⟩ hpr.1 hpr.2.1 ?_
        refine q_iload_n d90_60 rfl ?_
        refine q_iload_n d90_61 rfl ?_
        refine n_iast d90_62 hpr.2.2 (by omega) (by decide) ?_
        refine q_aload_n d90_63 rfl ?_
        refine q_getr (c := 7) (f := 3) d90_64 ⟨rfl, rfl⟩ (hS.1.1) (hS.1.2.2.2.2.2.1) ?_
        refine q_bipush (x := nI 6) d90_67 rfl ?_
        refine q_iload_n d90_69 rfl ?_
        refine q_iload_n d90_70 rfl ?_
        have hS1 : SC (zwi M (67 + 1) a (nI v)) := SC_wi hS (by omega)
        have hJ1 : RJ (zwi M (67 + 1) a (nI v)) 62 (some (dL D)) := RJ_fr hRW.2.2 ((Fi.refl (Fb 67 69) _).wi (a := 67 + 1) (k := a) (v := nI v) ⟨by omega, by omega⟩).fr (fun b q h1 h2 e => by have := e.1; omega)
        refine q_v3 d90_71 rfl rfl hS.2.2.2.1.1 (Nat.le_of_ble_eq_true rfl) (c65 (g := some (dL D)) hS1 hJ1 (by show (dL D).length + 1 ≤ 240; omega) (fun M2 hJ2 f2 => ?_))
        refine q_iload_n d90_74 rfl ?_
        refine q_iret d90_75 rfl ?_
        have f1 : Fi (Fb 62 69) M (zwi M (67 + 1) a (nI v)) := (Fi.refl _ _).wi ⟨by omega, by omega⟩
        have f12 : Fi (Fb 62 69) M M2 := f1.trans (f2.mono (fun b q e => ⟨by have := e.1; omega, by have := e.2; omega⟩))
        have g12 : Fi (FW 62) M M2 := f12.mono (fun b q e => ⟨by have := e.1; omega, by have := e.2; omega⟩)
        have hP2 : RPu M2 67 (yu (dW D).1.1 a (nI v), (dW D).1.2) := RPu_fr (RPu_b hRW.1) f2.fr (fun b q h1 h2 e => by have := e.2; omega)
        have hW2 : RW M2 67 62 (dT D) (yNm (dT D) (dW D)) (((yu (dW D).1.1 a (nI v), (dW D).1.2), (dW D).2), some (dL D ++ [(6, a, v)])) := ⟨hP2, fun s hs => RS_fr (hRW.2.1 s hs) f12.fr (fun b q h1 h2 e => by have := e.2; omega), hJ2⟩
        have hO2 : OKW (dT D) (dc D) ((yu (dW D).1.1 a (nI v), (dW D).1.2), (dW D).2) := ⟨hO.1, OKP_u hO.2.1 ⟨nI_pos' (by omega), nI_le (by omega) (by omega)⟩, hO.2.2⟩
        have hC2 : CW M2 62 66 67 62 (dT D) (dc D) (yNm (dT D) (dW D)) (((yu (dW D).1.1 a (nI v), (dW D).1.2), (dW D).2), some (dL D ++ [(6, a, v)])) := CW.up hR.1 hW2 hO2 g12
        exact k _ (hR.wo hC2 g12) (FW.c g12)
    · rw [oz_n ev] at k
      refine q_iload_n d90_0 rfl ?_
      refine q_s1 d90_1 (Or.inl rfl) rfl (Nat.le_of_ble_eq_true rfl) (c26t (by omega) ?_)
      refine n0_eq 18 d90_4 (by decide) (by decide) (fun q => absurd q (by decide)) (fun _ => ?_)
      refine q_iload_n d90_7 rfl ?_
      refine q_iconstN (z := 0) d90_8 ?_
      refine q_sipush (x := nI 9999) d90_9 rfl ?_
      refine q_s3 d90_12 (Or.inl rfl) rfl (Nat.le_of_ble_eq_true rfl) (c10f (by decide) (by omega) (by decide) ?_)
      refine n0_ne 21 d90_15 (by decide) (by decide) (fun q => absurd q (by decide)) (fun _ => ?_)
      refine q_bipush (x := (-2)) d90_18 rfl ?_
      refine q_iret d90_20 rfl ?_
      exact k _ hR (Fc.refl _)
  · rw [oz_n ea] at k
    refine q_iload_n d90_0 rfl ?_
    refine q_s1 d90_1 (Or.inl rfl) rfl (Nat.le_of_ble_eq_true rfl) (c26f ea ?_)
    refine n0_eq 18 d90_4 (by decide) (by decide) (fun _ => ?_) (fun q => absurd q (by decide))
    refine q_bipush (x := (-2)) d90_18 rfl ?_
    refine q_iret d90_20 rfl ?_
    exact k _ hR (Fc.refl _)
theorem d68_0 : decode (zB 68) 0 = .ok (.aload_n 0, 1) := by decide +kernel
theorem d68_1 : decode (zB 68) 1 = .ok (.getfield 28, 3) := by decide +kernel
theorem d68_4 : decode (zB 68) 4 = .ok (.getfield 154, 3) := by decide +kernel
theorem d68_7 : decode (zB 68) 7 = .ok (.sipush 190, 3) := by decide +kernel
theorem d68_10 : decode (zB 68) 10 = .ok (.if_icmp .le 6, 3) := by decide +kernel
theorem d68_13 : decode (zB 68) 13 = .ok (.bipush (-4), 2) := by decide +kernel
theorem d68_15 : decode (zB 68) 15 = .ok (.ireturn, 1) := by decide +kernel
theorem d68_16 : decode (zB 68) 16 = .ok (.aload_n 0, 1) := by decide +kernel
theorem d68_17 : decode (zB 68) 17 = .ok (.getfield 28, 3) := by decide +kernel
theorem d68_20 : decode (zB 68) 20 = .ok (.getfield 154, 3) := by decide +kernel
theorem d68_23 : decode (zB 68) 23 = .ok (.istore_n 1, 1) := by decide +kernel
theorem d68_24 : decode (zB 68) 24 = .ok (.aload_n 0, 1) := by decide +kernel
theorem d68_25 : decode (zB 68) 25 = .ok (.getfield 37, 3) := by decide +kernel
theorem d68_28 : decode (zB 68) 28 = .ok (.invokevirtual 175, 3) := by decide +kernel
theorem d68_31 : decode (zB 68) 31 = .ok (.aload_n 0, 1) := by decide +kernel
theorem d68_32 : decode (zB 68) 32 = .ok (.getfield 28, 3) := by decide +kernel
theorem d68_35 : decode (zB 68) 35 = .ok (.getfield 154, 3) := by decide +kernel
theorem d68_38 : decode (zB 68) 38 = .ok (.iload_n 1, 1) := by decide +kernel
theorem d68_39 : decode (zB 68) 39 = .ok (.isub, 1) := by decide +kernel
theorem d68_40 : decode (zB 68) 40 = .ok (.ireturn, 1) := by decide +kernel
theorem p68 {d : Nat} {M : zM} {Q : Option Value → zM → Prop} {D : yD} (hR : RC M D) (hD : OKD D) (k : ∀ M', RC M' (sTick D).2 → Fc M M' → Q (some (.int (sTick D).1)) M') : qC (d + 6) 68 [.ref 16] M Q := by
  refine qC_of (by decide) (Nat.le_of_ble_eq_true rfl) ?_
  have hS := hR.1.1
  have hT := hR.1.2.2.1
  have hO := hR.1.2.2.2.1
  have hRW := hR.1.2.2.2.2
  have hJ : RL M 62 (dL D) := hRW.2.2.2
  have hc6 := hO.1.1
  have h240 := hD.2.1
  have h120 := hR.2.2.1.1
  have hwr := hS.wo (Or.inl ⟨rfl, rfl, rfl, rfl⟩)
  have hwt := hS.wo (Or.inr ⟨rfl, rfl, rfl, rfl⟩)
  have hpr := hS.pu (Or.inl ⟨rfl, rfl, rfl, rfl⟩)
  have hpt := hS.pu (Or.inr ⟨rfl, rfl, rfl, rfl⟩)
  unfold sTick at k
  by_cases hL : 190 < (dL D).length
  · rw [if_pos hL] at k
    refine q_aload_n d68_0 rfl ?_
    refine q_getr (c := 7) (f := 3) d68_1 ⟨rfl, rfl⟩ (hS.1.1) (hS.1.2.2.2.2.2.1) ?_
    refine q_getv (c := 0) (f := 3) d68_4 ⟨rfl, by decide⟩ hS.2.2.2.1.1 hJ.1 ?_
    refine q_sipush (x := nI 190) d68_7 rfl ?_
    refine nc_le 16 d68_10 (by decide) (by omega) (by omega) (fun h10 => (False.elim (by omega))) (fun h10 => ?_)
    refine q_bipush (x := (-4)) d68_13 rfl ?_
    refine q_iret d68_15 rfl ?_
    exact k _ hR (Fc.refl _)
  · rw [if_neg hL] at k
    obtain ⟨W', A, hX, hO', hx, hlen⟩ := yti_D hO
    rw [hX] at k
    have hlA : (dL D).length ≤ (dL D ++ A).length := by rw [List.length_append]; omega
    refine q_aload_n d68_0 rfl ?_
    refine q_getr (c := 7) (f := 3) d68_1 ⟨rfl, rfl⟩ (hS.1.1) (hS.1.2.2.2.2.2.1) ?_
    refine q_getv (c := 0) (f := 3) d68_4 ⟨rfl, by decide⟩ hS.2.2.2.1.1 hJ.1 ?_
    refine q_sipush (x := nI 190) d68_7 rfl ?_
    refine nc_le 16 d68_10 (by decide) (by omega) (by omega) (fun h10 => ?_) (fun h10 => (False.elim (by omega)))
    refine q_aload_n d68_16 rfl ?_
    refine q_getr (c := 7) (f := 3) d68_17 ⟨rfl, rfl⟩ (hS.1.1) (hS.1.2.2.2.2.2.1) ?_
    refine q_getv (c := 0) (f := 3) d68_20 ⟨rfl, by decide⟩ hS.2.2.2.1.1 hJ.1 ?_
    refine q_istore_n d68_23 (by decide) rfl ?_
    refine q_aload_n d68_24 rfl ?_
    refine q_getr (c := 7) (f := 4) d68_25 ⟨rfl, rfl⟩ (hS.1.1) (hS.1.2.2.2.2.2.2.1) ?_
    refine q_v0 d68_28 rfl rfl hwr.1 (Nat.le_of_ble_eq_true rfl) (c69 (nm := dnm D) (X := dX D) hR.1 (by show (dL D).length + 39 ≤ 240; omega) (fun M1 hC1 f1 => ?_))
    rw [hX] at hC1
    have hS1 := hC1.1
    have hJ1 : RL M1 62 (dL D ++ A) := hC1.2.2.2.2.2.2.2
    refine q_aload_n d68_31 rfl ?_
    refine q_getr (c := 7) (f := 3) d68_32 ⟨rfl, rfl⟩ (hS1.1.1) (hS1.1.2.2.2.2.2.1) ?_
    refine q_getv (c := 0) (f := 3) d68_35 ⟨rfl, by decide⟩ hS1.2.2.2.1.1 hJ1.1 ?_
    refine q_iload_n d68_38 rfl ?_
    refine n_isub d68_39 (by omega) ?_
    refine q_iret d68_40 rfl ?_
    have hN : CN M1 62 66 67 62 (dT D) (dc D) (W', some (dL D ++ A)) := CN_of hC1 (fun s _ q _ => by show tu (dT D (gx (W'.2 s))) q = tu (dT D (gx ((dW D).2 s))) q; rw [hx s])
    exact k _ (hR.wo hN f1) (FW.c f1)
