/-! ===== the calls of the class: begin, breaks ===== -/
theorem RC.wr {M M' : zM} {D : yD} {W : yW} {L : List yL} (hR : RC M D) (h : CN M' 62 66 67 62 (dT D) (dc D) (W, some L)) (f : Fr (FW 62) M M') : RC M' (dwS D W L) :=
  ⟨h, (f.i (fun q => by have := q.1; omega)).trans hR.2.1, RTp_fi hR.2.2.1 f ⟨fun q => by have := q.1; omega, fun k q => by have := q.1; omega⟩, fun i hi => ⟨(f.i (fun q => by have := q.2; omega)).trans (hR.2.2.2 i hi).1, (f.i (fun q => by have := q.2; omega)).trans (hR.2.2.2 i hi).2⟩⟩
theorem FW.cr {M M' : zM} (f : Fr (FW 62) M M') : Fc M M' := f.c (fun a k ha q => by have := q.1; have := q.2; omega)
theorem yva_take {T : Nat → yT} {c n : Nat} {L : List yL} (h : yva T c L) : yva T c (L.take n) := by
  intro k hk
  rw [List.length_take] at hk
  have := h k (by omega)
  rw [List.take_take, Nat.min_eq_left (by omega), List.getD_eq_getElem?_getD, List.getElem?_take_of_lt (by omega), ← List.getD_eq_getElem?_getD]
  exact this
theorem d59_0 : decode (zB 59) 0 = .ok (.iload_n 1, 1) := by decide +kernel
theorem d59_1 : decode (zB 59) 1 = .ok (.invokestatic 141, 3) := by decide +kernel
theorem d59_4 : decode (zB 59) 4 = .ok (.ifCond .eq 11, 3) := by decide +kernel
theorem d59_7 : decode (zB 59) 7 = .ok (.aload_n 0, 1) := by decide +kernel
theorem d59_8 : decode (zB 59) 8 = .ok (.iload_n 2, 1) := by decide +kernel
theorem d59_9 : decode (zB 59) 9 = .ok (.invokevirtual 77, 3) := by decide +kernel
theorem d59_12 : decode (zB 59) 12 = .ok (.ifCond .ne 6, 3) := by decide +kernel
theorem d59_15 : decode (zB 59) 15 = .ok (.bipush (-2), 2) := by decide +kernel
theorem d59_17 : decode (zB 59) 17 = .ok (.ireturn, 1) := by decide +kernel
theorem d59_18 : decode (zB 59) 18 = .ok (.aload_n 0, 1) := by decide +kernel
theorem d59_19 : decode (zB 59) 19 = .ok (.getfield 37, 3) := by decide +kernel
theorem d59_22 : decode (zB 59) 22 = .ok (.getfield 144, 3) := by decide +kernel
theorem d59_25 : decode (zB 59) 25 = .ok (.iload_n 1, 1) := by decide +kernel
theorem d59_26 : decode (zB 59) 26 = .ok (.aaload, 1) := by decide +kernel
theorem d59_27 : decode (zB 59) 27 = .ok (.astore_n 3, 1) := by decide +kernel
theorem d59_28 : decode (zB 59) 28 = .ok (.aload_n 3, 1) := by decide +kernel
theorem d59_29 : decode (zB 59) 29 = .ok (.invokevirtual 148, 3) := by decide +kernel
theorem d59_32 : decode (zB 59) 32 = .ok (.ifCond .eq 6, 3) := by decide +kernel
theorem d59_35 : decode (zB 59) 35 = .ok (.bipush (-3), 2) := by decide +kernel
theorem d59_37 : decode (zB 59) 37 = .ok (.ireturn, 1) := by decide +kernel
theorem d59_38 : decode (zB 59) 38 = .ok (.aload_n 0, 1) := by decide +kernel
theorem d59_39 : decode (zB 59) 39 = .ok (.getfield 28, 3) := by decide +kernel
theorem d59_42 : decode (zB 59) 42 = .ok (.getfield 154, 3) := by decide +kernel
theorem d59_45 : decode (zB 59) 45 = .ok (.sipush 240, 3) := by decide +kernel
theorem d59_48 : decode (zB 59) 48 = .ok (.if_icmp .lt 6, 3) := by decide +kernel
theorem d59_51 : decode (zB 59) 51 = .ok (.bipush (-4), 2) := by decide +kernel
theorem d59_53 : decode (zB 59) 53 = .ok (.ireturn, 1) := by decide +kernel
theorem d59_54 : decode (zB 59) 54 = .ok (.aload_n 3, 1) := by decide +kernel
theorem d59_55 : decode (zB 59) 55 = .ok (.aload_n 0, 1) := by decide +kernel
theorem d59_56 : decode (zB 59) 56 = .ok (.getfield 18, 3) := by decide +kernel
theorem d59_59 : decode (zB 59) 59 = .ok (.iload_n 2, 1) := by decide +kernel
theorem d59_60 : decode (zB 59) 60 = .ok (.aaload, 1) := by decide +kernel
theorem d59_61 : decode (zB 59) 61 = .ok (.iload_n 2, 1) := by decide +kernel
theorem d59_62 : decode (zB 59) 62 = .ok (.invokevirtual 155, 3) := by decide +kernel
theorem d59_65 : decode (zB 59) 65 = .ok (.aload_n 0, 1) := by decide +kernel
theorem d59_66 : decode (zB 59) 66 = .ok (.getfield 28, 3) := by decide +kernel
theorem d59_69 : decode (zB 59) 69 = .ok (.iconst 0, 1) := by decide +kernel
theorem d59_70 : decode (zB 59) 70 = .ok (.iload_n 1, 1) := by decide +kernel
theorem d59_71 : decode (zB 59) 71 = .ok (.iload_n 2, 1) := by decide +kernel
theorem d59_72 : decode (zB 59) 72 = .ok (.invokevirtual 159, 3) := by decide +kernel
theorem d59_75 : decode (zB 59) 75 = .ok (.aload_n 0, 1) := by decide +kernel
theorem d59_76 : decode (zB 59) 76 = .ok (.getfield 18, 3) := by decide +kernel
theorem d59_79 : decode (zB 59) 79 = .ok (.iload_n 2, 1) := by decide +kernel
theorem d59_80 : decode (zB 59) 80 = .ok (.aaload, 1) := by decide +kernel
theorem d59_81 : decode (zB 59) 81 = .ok (.getfield 80, 3) := by decide +kernel
theorem d59_84 : decode (zB 59) 84 = .ok (.ireturn, 1) := by decide +kernel
theorem p59 {d : Nat} {M : zM} {Q : Option Value → zM → Prop} {D : yD} {x y : Int32} (hR : RC M D) (hD : OKD D) (k : ∀ M', RC M' (sBegin D x y).2 → Fc M M' → Q (some (.int (sBegin D x y).1)) M') : qC (d + 5) 59 [.ref 16, .int x, .int y] M Q := by
  refine qC_of (by decide) (Nat.le_of_ble_eq_true rfl) ?_
  have hS := hR.1.1
  have hT := hR.1.2.2.1
  have hO := hR.1.2.2.2.1
  have hRW := hR.1.2.2.2.2
  have hJ : RL M 62 (dL D) := hRW.2.2.2
  have hc6 := hO.1.1
  have h240 := hD.2.1
  have h120 := hR.2.2.1.1
  have hwr := hS.wo (Or.inl ⟨rfl, rfl, rfl, rfl⟩)
  have hwt := hS.wo (Or.inr ⟨rfl, rfl, rfl, rfl⟩)
  have hpr := hS.pu (Or.inl ⟨rfl, rfl, rfl, rfl⟩)
  have hpt := hS.pu (Or.inr ⟨rfl, rfl, rfl, rfl⟩)
  unfold sBegin at k
  rcases zix_c x (n := 3) (by omega) with ⟨s, hs, rfl, es⟩ | ⟨es, ns⟩
  · rw [oz_s es] at k
    have hsg := hS.sg (show zSa (70 + 8 * s) by unfold zSa; omega)
    have hOs : OKS (dT D) (dc D) (dS D s) := hO.2.2 s hs
    have hg5 := hOs.1
    have q0 : zi M (70 + 8 * s) 0 = nI (gt (dS D s)) := (hRW.2.1 s hs).1.1
    rcases zix_c y (n := dc D) (by omega) with ⟨t, ht, rfl, et⟩ | ⟨et, nt⟩
    · rw [oz_s et] at k
      have ho := hO.1.2 _ ht
      have hn := ho.n
      by_cases ha : gt (dS D s) = 1 ∨ gt (dS D s) = 2
      · rw [if_pos ha] at k
        refine q_iload_n d59_0 rfl ?_
        refine q_s1 d59_1 (Or.inl rfl) rfl (Nat.le_of_ble_eq_true rfl) (c60t (by omega) ?_)
        refine n0_eq 15 d59_4 (by decide) (by decide) (fun q => absurd q (by decide)) (fun _ => ?_)
        refine q_aload_n d59_7 rfl ?_
        refine q_iload_n d59_8 rfl ?_
        refine q_v1 d59_9 rfl rfl (hS.1.1) (Nat.le_of_ble_eq_true rfl) (c33t hR (by omega) ?_)
        refine n0_ne 18 d59_12 (by decide) (by decide) (fun _ => ?_) (fun q => absurd q (by decide))
        refine q_aload_n d59_18 rfl ?_
        refine q_getr (c := 7) (f := 4) d59_19 ⟨rfl, rfl⟩ (hS.1.1) (hS.1.2.2.2.2.2.2.1) ?_
        refine q_getr (c := 6) (f := 3) d59_22 ⟨rfl, rfl⟩ hwr.1 hwr.2.2.2.2.1 ?_
        refine q_iload_n d59_25 rfl ?_
        refine n_aald d59_26 hwr.2.2.2.2.2.1 (by decide) (by omega) (by decide) (hwr.2.2.2.2.2.2 _ (by omega)) ?_
        refine q_astore_n d59_27 (by decide) rfl ?_
        refine q_aload_n d59_28 rfl ?_
        refine q_v0 d59_29 rfl rfl hsg.1 (Nat.le_of_ble_eq_true rfl) (c61 hsg q0 hg5 ?_)
        refine b0_eq 38 d59_32 (by decide) (fun h32 => (False.elim (absurd ha (of_decide_eq_false h32)))) (fun h32 => ?_)
        refine q_bipush (x := (-3)) d59_35 rfl ?_
        refine q_iret d59_37 rfl ?_
        exact k _ hR (Fc.refl _)
      · rw [if_neg ha] at k
        by_cases hL : 240 ≤ (dL D).length
        · rw [if_pos hL] at k
          refine q_iload_n d59_0 rfl ?_
          refine q_s1 d59_1 (Or.inl rfl) rfl (Nat.le_of_ble_eq_true rfl) (c60t (by omega) ?_)
          refine n0_eq 15 d59_4 (by decide) (by decide) (fun q => absurd q (by decide)) (fun _ => ?_)
          refine q_aload_n d59_7 rfl ?_
          refine q_iload_n d59_8 rfl ?_
          refine q_v1 d59_9 rfl rfl (hS.1.1) (Nat.le_of_ble_eq_true rfl) (c33t hR (by omega) ?_)
          refine n0_ne 18 d59_12 (by decide) (by decide) (fun _ => ?_) (fun q => absurd q (by decide))
          refine q_aload_n d59_18 rfl ?_
          refine q_getr (c := 7) (f := 4) d59_19 ⟨rfl, rfl⟩ (hS.1.1) (hS.1.2.2.2.2.2.2.1) ?_
          refine q_getr (c := 6) (f := 3) d59_22 ⟨rfl, rfl⟩ hwr.1 hwr.2.2.2.2.1 ?_
          refine q_iload_n d59_25 rfl ?_
          refine n_aald d59_26 hwr.2.2.2.2.2.1 (by decide) (by omega) (by decide) (hwr.2.2.2.2.2.2 _ (by omega)) ?_
          refine q_astore_n d59_27 (by decide) rfl ?_
          refine q_aload_n d59_28 rfl ?_
          refine q_v0 d59_29 rfl rfl hsg.1 (Nat.le_of_ble_eq_true rfl) (c61 hsg q0 hg5 ?_)
          refine b0_eq 38 d59_32 (by decide) (fun h32 => ?_) (fun h32 => (False.elim (ha (of_decide_eq_true h32))))
          refine q_aload_n d59_38 rfl ?_
          refine q_getr (c := 7) (f := 3) d59_39 ⟨rfl, rfl⟩ (hS.1.1) (hS.1.2.2.2.2.2.1) ?_
          refine q_getv (c := 0) (f := 3) d59_42 ⟨rfl, by decide⟩ hS.2.2.2.1.1 hJ.1 ?_
          refine q_sipush (x := nI 240) d59_45 rfl ?_
          refine nc_lt 54 d59_48 (by decide) (by omega) (by omega) (fun h48 => (False.elim (by omega))) (fun h48 => ?_)
          refine q_bipush (x := (-4)) d59_51 rfl ?_
          refine q_iret d59_53 rfl ?_
          exact k _ hR (Fc.refl _)
        · rw [if_neg hL] at k
          refine q_iload_n d59_0 rfl ?_
          refine q_s1 d59_1 (Or.inl rfl) rfl (Nat.le_of_ble_eq_true rfl) (c60t (by omega) ?_)
          refine n0_eq 15 d59_4 (by decide) (by decide) (fun q => absurd q (by decide)) (fun _ => ?_)
          refine q_aload_n d59_7 rfl ?_
          refine q_iload_n d59_8 rfl ?_
          refine q_v1 d59_9 rfl rfl (hS.1.1) (Nat.le_of_ble_eq_true rfl) (c33t hR (by omega) ?_)
          refine n0_ne 18 d59_12 (by decide) (by decide) (fun _ => ?_) (fun q => absurd q (by decide))
          refine q_aload_n d59_18 rfl ?_
          refine q_getr (c := 7) (f := 4) d59_19 ⟨rfl, rfl⟩ (hS.1.1) (hS.1.2.2.2.2.2.2.1) ?_
          refine q_getr (c := 6) (f := 3) d59_22 ⟨rfl, rfl⟩ hwr.1 hwr.2.2.2.2.1 ?_
          refine q_iload_n d59_25 rfl ?_
          refine n_aald d59_26 hwr.2.2.2.2.2.1 (by decide) (by omega) (by decide) (hwr.2.2.2.2.2.2 _ (by omega)) ?_
          refine q_astore_n d59_27 (by decide) rfl ?_
          refine q_aload_n d59_28 rfl ?_
          refine q_v0 d59_29 rfl rfl hsg.1 (Nat.le_of_ble_eq_true rfl) (c61 hsg q0 hg5 ?_)
          refine b0_eq 38 d59_32 (by decide) (fun h32 => ?_) (fun h32 => (False.elim (ha (of_decide_eq_true h32))))
          refine q_aload_n d59_38 rfl ?_
          refine q_getr (c := 7) (f := 3) d59_39 ⟨rfl, rfl⟩ (hS.1.1) (hS.1.2.2.2.2.2.1) ?_
          refine q_getv (c := 0) (f := 3) d59_42 ⟨rfl, by decide⟩ hS.2.2.2.1.1 hJ.1 ?_
          refine q_sipush (x := nI 240) d59_45 rfl ?_
          refine nc_lt 54 d59_48 (by decide) (by omega) (by omega) (fun h48 => ?_) (fun h48 => (False.elim (by omega)))
          refine q_aload_n d59_54 rfl ?_
          refine q_aload_n d59_55 rfl ?_
          refine q_getr (c := 7) (f := 1) d59_56 ⟨rfl, rfl⟩ (hS.1.1) (hS.1.2.2.1) ?_
          refine q_iload_n d59_59 rfl ?_
          refine n_aald d59_60 (hS.1.2.2.2.1) (by decide) (by omega) (by decide) ((hS.1.2.2.2.2.1) _ (by omega)) ?_
          refine q_iload_n d59_61 rfl ?_
          refine q_v2 d59_62 rfl rfl hsg.1 (Nat.le_of_ble_eq_true rfl) (c62 (T := dT D) (nm := yNm (dT D) ((dW D).1, yu (dW D).2 s (ySt t)) s) hS (by unfold zSa; omega) (by omega) (hT t ht) hn (fun j hj => by show tu (dT D (gx (yu (dW D).2 s (ySt t) s))) j = _; rw [yu_s]; rfl) (fun M1 hR1 f1 hS1 => ?_))
          have hJ1 := RJ_fr hRW.2.2 f1 (fun b q h1 h2 e => by have := e.1; omega)
          refine q_aload_n d59_65 rfl ?_
          refine q_getr (c := 7) (f := 3) d59_66 ⟨rfl, rfl⟩ (hS1.1.1) (hS1.1.2.2.2.2.2.1) ?_
          refine q_iconstN (z := 0) d59_69 ?_
          refine q_iload_n d59_70 rfl ?_
          refine q_iload_n d59_71 rfl ?_
          refine q_v3 d59_72 rfl rfl hS1.2.2.2.1.1 (Nat.le_of_ble_eq_true rfl) (c65 (g := some (dL D)) hS1 hJ1 (by show (dL D).length + 1 ≤ 240; omega) (fun M2 hJ2 f2 => ?_))
          have hS2 := f2.sc hS1 (fun a q ha e => by have := e.1; omega)
          have g1 : Fr (FW 62) M M1 := f1.mono (fun b q e => ⟨by have := e.1; omega, by have := e.2; omega⟩)
          have g2 : Fr (FW 62) M M2 := g1.trans (f2.fr.mono (fun b q e => ⟨by have := e.1; omega, by have := e.2; omega⟩))
          have hT2 : RTx M2 (dT D) (dc D) := RTx_fr hT hc6 g2 (fun b q h1 h2 e => by have := e.1; omega)
          refine q_aload_n d59_75 rfl ?_
          refine q_getr (c := 7) (f := 1) d59_76 ⟨rfl, rfl⟩ (hS2.1.1) (hS2.1.2.2.1) ?_
          refine q_iload_n d59_79 rfl ?_
          refine n_aald d59_80 (hS2.1.2.2.2.1) (by decide) (by omega) (by decide) ((hS2.1.2.2.2.2.1) _ (by omega)) ?_
          refine q_getv (c := 1) (f := 6) d59_81 ⟨rfl, by decide⟩ (hS2.pr (by omega)).1 (hT2 _ ht).1 ?_
          refine q_iret d59_84 rfl ?_
          have hP2 : RPu M2 67 (dW D).1 := RPu_fr (RPu_fr hRW.1 f1 (fun b q h1 h2 e => by have := e.1; omega)) f2.fr (fun b q h1 h2 e => by have := e.2; omega)
          have hs2 : ∀ r, r < 3 → RS M2 (67 + 3 + 8 * r) (dT D) (yNm (dT D) ((dW D).1, yu (dW D).2 s (ySt t)) r) (yu (dW D).2 s (ySt t) r) := by
            intro r hr
            by_cases e : r = s
            · subst e; rw [yu_s]; exact RS_fr hR1 f2.fr (fun b q h1 h2 e => by have := e.2; omega)
            · rw [yu_n e]
              exact RS_fr (RS_fr (RS_nm (hRW.2.1 r hr) (fun q _ => by show tu (dT D (gx (yu (dW D).2 s (ySt t) r))) q = _; rw [yu_n e]; rfl)) f1 (fun b q h1 h2 e => by have := e.1; have := e.2; omega)) f2.fr (fun b q h1 h2 e => by have := e.2; omega)
          have hO2 : OKW (dT D) (dc D) ((dW D).1, yu (dW D).2 s (ySt t)) := ⟨hO.1, hO.2.1, fun r hr => by
            show OKS (dT D) (dc D) (yu (dW D).2 s (ySt t) r)
            by_cases e : r = s
            · subst e; rw [yu_s]; exact OKS_St ht
            · rw [yu_n e]; exact hO.2.2 r hr⟩
          have hN : CN M2 62 66 67 62 (dT D) (dc D) (((dW D).1, yu (dW D).2 s (ySt t)), some (dL D ++ [(0, s, t)])) := ⟨hS2, Or.inl ⟨rfl, rfl, rfl, rfl⟩, hT2, hO2, ⟨hP2, hs2, hJ2⟩⟩
          exact k _ (hR.wr hN g2) (FW.cr g2)
    · rw [oz_n et] at k
      refine q_iload_n d59_0 rfl ?_
      refine q_s1 d59_1 (Or.inl rfl) rfl (Nat.le_of_ble_eq_true rfl) (c60t (by omega) ?_)
      refine n0_eq 15 d59_4 (by decide) (by decide) (fun q => absurd q (by decide)) (fun _ => ?_)
      refine q_aload_n d59_7 rfl ?_
      refine q_iload_n d59_8 rfl ?_
      refine q_v1 d59_9 rfl rfl (hS.1.1) (Nat.le_of_ble_eq_true rfl) (c33f hR et ?_)
      refine n0_ne 18 d59_12 (by decide) (by decide) (fun q => absurd q (by decide)) (fun _ => ?_)
      refine q_bipush (x := (-2)) d59_15 rfl ?_
      refine q_iret d59_17 rfl ?_
      exact k _ hR (Fc.refl _)
  · rw [oz_n es] at k
    refine q_iload_n d59_0 rfl ?_
    refine q_s1 d59_1 (Or.inl rfl) rfl (Nat.le_of_ble_eq_true rfl) (c60f es ?_)
    refine n0_eq 15 d59_4 (by decide) (by decide) (fun _ => ?_) (fun q => absurd q (by decide))
    refine q_bipush (x := (-2)) d59_15 rfl ?_
    refine q_iret d59_17 rfl ?_
    exact k _ hR (Fc.refl _)
theorem c10g {d b : Nat} {M : zM} {Q : Option Value → zM → Prop} {x : Int32} (h : zix x (b + 1) = none) (hb : b + 1 < 2147483648) (k : Q (some (.int (nI 0))) M) : qC (d + 1) 10 [.int x, .int (nI 0), .int (nI b)] M Q :=
  c10f (by omega) (fun q => by have := zix_none h; omega) (by decide) k
theorem d99_0 : decode (zB 99) 0 = .ok (.iload_n 1, 1) := by decide +kernel
theorem d99_1 : decode (zB 99) 1 = .ok (.iconst 0, 1) := by decide +kernel
theorem d99_2 : decode (zB 99) 2 = .ok (.aload_n 0, 1) := by decide +kernel
theorem d99_3 : decode (zB 99) 3 = .ok (.getfield 28, 3) := by decide +kernel
theorem d99_6 : decode (zB 99) 6 = .ok (.getfield 154, 3) := by decide +kernel
theorem d99_9 : decode (zB 99) 9 = .ok (.invokestatic 55, 3) := by decide +kernel
theorem d99_12 : decode (zB 99) 12 = .ok (.ifCond .ne 6, 3) := by decide +kernel
theorem d99_15 : decode (zB 99) 15 = .ok (.bipush (-2), 2) := by decide +kernel
theorem d99_17 : decode (zB 99) 17 = .ok (.ireturn, 1) := by decide +kernel
theorem d99_18 : decode (zB 99) 18 = .ok (.aload_n 0, 1) := by decide +kernel
theorem d99_19 : decode (zB 99) 19 = .ok (.getfield 28, 3) := by decide +kernel
theorem d99_22 : decode (zB 99) 22 = .ok (.getfield 154, 3) := by decide +kernel
theorem d99_25 : decode (zB 99) 25 = .ok (.iload_n 1, 1) := by decide +kernel
theorem d99_26 : decode (zB 99) 26 = .ok (.isub, 1) := by decide +kernel
theorem d99_27 : decode (zB 99) 27 = .ok (.istore_n 2, 1) := by decide +kernel
theorem d99_28 : decode (zB 99) 28 = .ok (.aload_n 0, 1) := by decide +kernel
theorem d99_29 : decode (zB 99) 29 = .ok (.getfield 28, 3) := by decide +kernel
theorem d99_32 : decode (zB 99) 32 = .ok (.iload_n 1, 1) := by decide +kernel
theorem d99_33 : decode (zB 99) 33 = .ok (.putfield 154, 3) := by decide +kernel
theorem d99_36 : decode (zB 99) 36 = .ok (.aload_n 0, 1) := by decide +kernel
theorem d99_37 : decode (zB 99) 37 = .ok (.getfield 37, 3) := by decide +kernel
theorem d99_40 : decode (zB 99) 40 = .ok (.aload_n 0, 1) := by decide +kernel
theorem d99_41 : decode (zB 99) 41 = .ok (.getfield 28, 3) := by decide +kernel
theorem d99_44 : decode (zB 99) 44 = .ok (.iload_n 1, 1) := by decide +kernel
theorem d99_45 : decode (zB 99) 45 = .ok (.invokevirtual 220, 3) := by decide +kernel
theorem d99_48 : decode (zB 99) 48 = .ok (.iload_n 2, 1) := by decide +kernel
theorem d99_49 : decode (zB 99) 49 = .ok (.ireturn, 1) := by decide +kernel
theorem p99 {d : Nat} {M : zM} {Q : Option Value → zM → Prop} {D : yD} {x : Int32} (hR : RC M D) (hD : OKD D) (k : ∀ M', RC M' (sBreaks D x).2 → Fc M M' → Q (some (.int (sBreaks D x).1)) M') : qC (d + 8) 99 [.ref 16, .int x] M Q := by
  refine qC_of (by decide) (Nat.le_of_ble_eq_true rfl) ?_
  have hS := hR.1.1
  have hT := hR.1.2.2.1
  have hO := hR.1.2.2.2.1
  have hRW := hR.1.2.2.2.2
  have hJ : RL M 62 (dL D) := hRW.2.2.2
  have hc6 := hO.1.1
  have h240 := hD.2.1
  have h120 := hR.2.2.1.1
  have hwr := hS.wo (Or.inl ⟨rfl, rfl, rfl, rfl⟩)
  have hwt := hS.wo (Or.inr ⟨rfl, rfl, rfl, rfl⟩)
  have hpr := hS.pu (Or.inl ⟨rfl, rfl, rfl, rfl⟩)
  have hpt := hS.pu (Or.inr ⟨rfl, rfl, rfl, rfl⟩)
  unfold sBreaks at k
  rcases zix_c x (n := (dL D).length + 1) (by omega) with ⟨n, hn, rfl, en⟩ | ⟨en, nn⟩
  · rw [oz_s en] at k
    refine q_iload_n d99_0 rfl ?_
    refine q_iconstN (z := 0) d99_1 ?_
    refine q_aload_n d99_2 rfl ?_
    refine q_getr (c := 7) (f := 3) d99_3 ⟨rfl, rfl⟩ (hS.1.1) (hS.1.2.2.2.2.2.1) ?_
    refine q_getv (c := 0) (f := 3) d99_6 ⟨rfl, by decide⟩ hS.2.2.2.1.1 hJ.1 ?_
    refine q_s3 d99_9 (Or.inl rfl) rfl (Nat.le_of_ble_eq_true rfl) (c10t ⟨by omega, by omega⟩ (by omega) ?_)
    refine n0_ne 18 d99_12 (by decide) (by decide) (fun _ => ?_) (fun q => absurd q (by decide))
    refine q_aload_n d99_18 rfl ?_
    refine q_getr (c := 7) (f := 3) d99_19 ⟨rfl, rfl⟩ (hS.1.1) (hS.1.2.2.2.2.2.1) ?_
    refine q_getv (c := 0) (f := 3) d99_22 ⟨rfl, by decide⟩ hS.2.2.2.1.1 hJ.1 ?_
    refine q_iload_n d99_25 rfl ?_
    refine n_isub d99_26 (by omega) ?_
    refine q_istore_n d99_27 (by decide) rfl ?_
    refine q_aload_n d99_28 rfl ?_
    refine q_getr (c := 7) (f := 3) d99_29 ⟨rfl, rfl⟩ (hS.1.1) (hS.1.2.2.2.2.2.1) ?_
    refine q_iload_n d99_32 rfl ?_
    refine q_puti (c := 0) (f := 3) d99_33 ⟨rfl, rfl, by decide⟩ hS.2.2.2.1.1 ?_
    refine q_aload_n d99_36 rfl ?_
    refine q_getr (c := 7) (f := 4) d99_37 ⟨rfl, rfl⟩ (hS.1.1) (hS.1.2.2.2.2.2.2.1) ?_
    refine q_aload_n d99_40 rfl ?_
    refine q_getr (c := 7) (f := 3) d99_41 ⟨rfl, rfl⟩ (hS.1.1) (hS.1.2.2.2.2.2.1) ?_
    refine q_iload_n d99_44 rfl ?_
    have hlt : ((dL D).take n).length = n := by rw [List.length_take]; omega
    have hS1 : SC (zwi M 62 3 (nI n)) := SC_wi hS (by omega)
    have hL1 : RL (zwi M 62 3 (nI n)) 62 ((dL D).take n) := by
      refine ⟨by rw [wi_s, hlt], fun q hq => ?_⟩
      rw [hlt] at hq
      have h3 := hJ.2 q (by omega)
      rw [List.getD_eq_getElem?_getD, List.getElem?_take_of_lt hq, ← List.getD_eq_getElem?_getD, wi_n (Or.inl (by omega)), wi_n (Or.inl (by omega)), wi_n (Or.inl (by omega))]
      exact h3
    have f1 : Fr (FW 62) M (zwi M 62 3 (nI n)) := (Fr.refl _ _).wi ⟨by omega, by omega⟩
    refine q_v2 d99_45 rfl rfl hwr.1 (Nat.le_of_ble_eq_true rfl) (c94 (g := some ((dL D).take n)) (L := (dL D).take n) (n := n) hS1 (RTx_fr hT hc6 f1 (fun b q h1 h2 e => by have := e.1; omega)) ⟨rfl, hL1⟩ (Or.inl ⟨rfl, rfl, rfl, rfl⟩) hO.1 hL1 (by omega) (by omega) (yva_take hD.2.2.1) (fun M2 hN f2 => ?_))
    refine q_iload_n d99_48 rfl ?_
    refine q_iret d99_49 rfl ?_
    have g2 : Fr (FW 62) M M2 := f1.trans (f2.mono (fun b q e => ⟨by have := e.1; omega, by have := e.2; omega⟩))
    rw [List.take_take, Nat.min_self] at hN
    exact k _ (hR.wr hN g2) (FW.cr g2)
  · rw [oz_n en] at k
    refine q_iload_n d99_0 rfl ?_
    refine q_iconstN (z := 0) d99_1 ?_
    refine q_aload_n d99_2 rfl ?_
    refine q_getr (c := 7) (f := 3) d99_3 ⟨rfl, rfl⟩ (hS.1.1) (hS.1.2.2.2.2.2.1) ?_
    refine q_getv (c := 0) (f := 3) d99_6 ⟨rfl, by decide⟩ hS.2.2.2.1.1 hJ.1 ?_
    refine q_s3 d99_9 (Or.inl rfl) rfl (Nat.le_of_ble_eq_true rfl) (c10g en (by omega) ?_)
    refine n0_ne 18 d99_12 (by decide) (by decide) (fun q => absurd q (by decide)) (fun _ => ?_)
    refine q_bipush (x := (-2)) d99_15 rfl ?_
    refine q_iret d99_17 rfl ?_
    exact k _ hR (Fc.refl _)
