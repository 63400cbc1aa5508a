/-! ===== the reference: its desk ===== -/
/-! the reference's desk -/
def FWd : Nat → Nat → Prop := fun b k => (b = 136 ∧ (k = 9 ∨ k = 10 ∨ k = 20 ∨ k = 24)) ∨ (173 < b ∧ b < 208)
def FY : Nat → Nat → Prop := fun b _ => 135 < b
theorem FWd_Y {b k : Nat} (h : FWd b k) : FY b k := by unfold FWd at h; unfold FY; omega
theorem FX_W {b k : Nat} (h : FX b k) : FWd b k := by unfold FX at h; unfold FWd; omega
theorem FB_W {b k : Nat} (h : FB b k) : FWd b k := by unfold FB at h; unfold FWd; omega
def RX (M : zM) (D : yD) (κ : Nat) : Prop := CX [] M (dT D) (dc D) (dnm D) (dX D) κ ∧ zi M 136 21 = -1 ∧ zi M 136 0 = nI (dc D) ∧ (dn D ≤ 120 ∧ zi M 136 30 = nI (dn D) ∧ ∀ k, k < dn D → zi M 208 k = nI (db D k)) ∧ ∀ i, i < 4 → zi M 319 i = (dR D i).1 ∧ zi M 320 i = nI (dR D i).2
/-- the world is another -/
theorem RX.up {M M' : zM} {D : yD} {κ κ' : Nat} {W : yW} {L : List yL} (h : RX M D κ) (f : Fi FWd M M') (hO : OKW (dT D) (dc D) W) (hP : XPu M' W.1) (hS : ∀ s, s < 3 → XSa M' s (W.2 s) κ') (hc : zi M' 136 20 = nI κ') (hL : XLo [] M' (some L)) : RX M' (dwS D W L) κ' := by
  obtain ⟨h1, h2, h3, ⟨h4, h5, h6⟩, h7⟩ := h
  have b21 : zi M' 136 21 = -1 := (f.1 _ _ (by unfold FWd; omega)).trans h2
  exact ⟨⟨SX_fi h1.1 f, XTx_fi h1.2.1 hO.1.1 f (fun b k b1 b2 q => by unfold FWd at q; omega), hO, hP, hS, hc, hL, ⟨none, b21, fun s hs h0 k hk => rfl⟩⟩, b21, (f.1 _ _ (by unfold FWd; omega)).trans h3, ⟨h4, (f.1 _ _ (by unfold FWd; omega)).trans h5, fun k hk => (f.1 _ _ (by unfold FWd; omega)).trans (h6 k hk)⟩, fun i hi => ⟨(f.1 _ _ (by unfold FWd; omega)).trans (h7 i hi).1, (f.1 _ _ (by unfold FWd; omega)).trans (h7 i hi).2⟩⟩
theorem c131st {d : Nat} {M : zM} {Q : Option Value → zM → Prop} {x b : Nat} (h : x < b) (hb : b < 2147483648) (k : Q (some (.int (nI 1))) M) : qC (d + 1) 131 [.int (nI x), .int (nI 0), .int (nI b - nI 1)] M Q := c131s hb (by rw [zix_in h (by omega)]; exact k)
theorem c131sf {d : Nat} {M : zM} {Q : Option Value → zM → Prop} {x : Int32} {b : Nat} (h : zix x b = none) (hb : b < 2147483648) (k : Q (some (.int (nI 0))) M) : qC (d + 1) 131 [.int x, .int (nI 0), .int (nI b - nI 1)] M Q := c131s hb (by rw [h]; exact k)
def sRef (D : yD) (x y : Int32) : Int32 := oz x 3 (-2) (fun s => oz y (yms D s) (-2) (fun _ => if gt (dS D s) = 0 then -3 else nI 0))
theorem d145_0 : decode (zB 145) 0 = .ok (.iload_n 1, 1) := by decide +kernel
theorem d145_1 : decode (zB 145) 1 = .ok (.iconst 0, 1) := by decide +kernel
theorem d145_2 : decode (zB 145) 2 = .ok (.aload_n 0, 1) := by decide +kernel
theorem d145_3 : decode (zB 145) 3 = .ok (.getfield 116, 3) := by decide +kernel
theorem d145_6 : decode (zB 145) 6 = .ok (.iconst 1, 1) := by decide +kernel
theorem d145_7 : decode (zB 145) 7 = .ok (.isub, 1) := by decide +kernel
theorem d145_8 : decode (zB 145) 8 = .ok (.invokestatic 112, 3) := by decide +kernel
theorem d145_11 : decode (zB 145) 11 = .ok (.ireturn, 1) := by decide +kernel
theorem c145 {d : Nat} {M : zM} {Q : Option Value → zM → Prop} {D : yD} {κ : Nat} {x : Int32} (hR : RX M D κ) (k : Q (some (.int (bI (zix x (dc D)).isSome))) M) : qC (d + 2) 145 [.ref 136, .int x] M Q := by
  have hC := hR.1
  have hX := hC.1
  have hO : OKW (dT D) (dc D) (dW D) := hC.2.2.1
  have hc6 := hO.1.1
  have hL : XLo [] M (some (dL D)) := hC.2.2.2.2.2.2.1
  have hSa : ∀ s, s < 3 → XSa M s (dS D s) κ := hC.2.2.2.2.1
  have hTk := hC.k
  have hck := hC.2.2.2.2.2.1
  refine qC_of (by decide) (Nat.le_of_ble_eq_true rfl) ?_
  refine q_iload_n d145_0 rfl ?_
  refine q_iconstN (z := 0) d145_1 ?_
  refine q_aload_n d145_2 rfl ?_
  refine q_getv (c := 8) (f := 0) d145_3 ⟨rfl, by decide⟩ (xk_136 hX) hR.2.2.1 ?_
  refine q_iconstN (z := 1) d145_6 ?_
  refine q_isub d145_7 ?_
  refine q_s3 d145_8 (Or.inl rfl) rfl (Nat.le_of_ble_eq_true rfl) (c131s (by omega) ?_)
  refine b_ret d145_11 rfl ?_
  exact k
theorem c145t {d t : Nat} {M : zM} {Q : Option Value → zM → Prop} {D : yD} {κ : Nat} (hR : RX M D κ) (h : t < dc D) (k : Q (some (.int (nI 1))) M) : qC (d + 2) 145 [.ref 136, .int (nI t)] M Q := c145 hR (by rw [zix_in h (by have := hR.1.2.2.1.1.1; omega)]; exact k)
theorem c145f {d : Nat} {M : zM} {Q : Option Value → zM → Prop} {D : yD} {κ : Nat} {x : Int32} (hR : RX M D κ) (h : zix x (dc D) = none) (k : Q (some (.int (nI 0))) M) : qC (d + 2) 145 [.ref 136, .int x] M Q := c145 hR (by rw [h]; exact k)
theorem d173_0 : decode (zB 173) 0 = .ok (.iload_n 1, 1) := by decide +kernel
theorem d173_1 : decode (zB 173) 1 = .ok (.invokestatic 345, 3) := by decide +kernel
theorem d173_4 : decode (zB 173) 4 = .ok (.ifCond .eq 13, 3) := by decide +kernel
theorem d173_7 : decode (zB 173) 7 = .ok (.iload_n 2, 1) := by decide +kernel
theorem d173_8 : decode (zB 173) 8 = .ok (.iconst 0, 1) := by decide +kernel
theorem d173_9 : decode (zB 173) 9 = .ok (.bipush 11, 2) := by decide +kernel
theorem d173_11 : decode (zB 173) 11 = .ok (.invokestatic 112, 3) := by decide +kernel
theorem d173_14 : decode (zB 173) 14 = .ok (.ifCond .ne 6, 3) := by decide +kernel
theorem d173_17 : decode (zB 173) 17 = .ok (.bipush (-2), 2) := by decide +kernel
theorem d173_19 : decode (zB 173) 19 = .ok (.ireturn, 1) := by decide +kernel
theorem d173_20 : decode (zB 173) 20 = .ok (.aload_n 0, 1) := by decide +kernel
theorem d173_21 : decode (zB 173) 21 = .ok (.getfield 36, 3) := by decide +kernel
theorem d173_24 : decode (zB 173) 24 = .ok (.iload_n 1, 1) := by decide +kernel
theorem d173_25 : decode (zB 173) 25 = .ok (.iaload, 1) := by decide +kernel
theorem d173_26 : decode (zB 173) 26 = .ok (.ifCond .ne 6, 3) := by decide +kernel
theorem d173_29 : decode (zB 173) 29 = .ok (.bipush (-3), 2) := by decide +kernel
theorem d173_31 : decode (zB 173) 31 = .ok (.ireturn, 1) := by decide +kernel
theorem d173_32 : decode (zB 173) 32 = .ok (.iload_n 2, 1) := by decide +kernel
theorem d173_33 : decode (zB 173) 33 = .ok (.aload_n 0, 1) := by decide +kernel
theorem d173_34 : decode (zB 173) 34 = .ok (.getfield 9, 3) := by decide +kernel
theorem d173_37 : decode (zB 173) 37 = .ok (.aload_n 0, 1) := by decide +kernel
theorem d173_38 : decode (zB 173) 38 = .ok (.getfield 39, 3) := by decide +kernel
theorem d173_41 : decode (zB 173) 41 = .ok (.iload_n 1, 1) := by decide +kernel
theorem d173_42 : decode (zB 173) 42 = .ok (.iaload, 1) := by decide +kernel
theorem d173_43 : decode (zB 173) 43 = .ok (.iaload, 1) := by decide +kernel
theorem d173_44 : decode (zB 173) 44 = .ok (.if_icmp .ge 7, 3) := by decide +kernel
theorem d173_47 : decode (zB 173) 47 = .ok (.iconst 0, 1) := by decide +kernel
theorem d173_48 : decode (zB 173) 48 = .ok (.goto 5, 3) := by decide +kernel
theorem d173_51 : decode (zB 173) 51 = .ok (.bipush (-2), 2) := by decide +kernel
theorem d173_53 : decode (zB 173) 53 = .ok (.ireturn, 1) := by decide +kernel
theorem c173 {d : Nat} {M : zM} {Q : Option Value → zM → Prop} {D : yD} {κ : Nat} {x y : Int32} (hR : RX M D κ) (k : Q (some (.int (sRef D x y))) M) : qC (d + 3) 173 [.ref 136, .int x, .int y] M Q := by
  refine qC_of (by decide) (Nat.le_of_ble_eq_true rfl) ?_
  have hC := hR.1
  have hX := hC.1
  have hO : OKW (dT D) (dc D) (dW D) := hC.2.2.1
  have hc6 := hO.1.1
  have hL : XLo [] M (some (dL D)) := hC.2.2.2.2.2.2.1
  have hSa : ∀ s, s < 3 → XSa M s (dS D s) κ := hC.2.2.2.2.1
  have hTk := hC.k
  have hck := hC.2.2.2.2.2.1
  unfold sRef at k
  rcases zix_c x (n := 3) (by omega) with ⟨s, hs, rfl, es⟩ | ⟨es, ns⟩
  · rw [oz_s es] at k
    have hOs : OKS (dT D) (dc D) (dS D s) := hO.2.2 s hs
    have hg5 := hOs.1
    have hsa := hSa s hs
    by_cases h0 : gt (dS D s) = 0
    · have ey : yms D s = 12 := if_pos h0
      rw [ey, if_pos h0] at k
      rcases zix_c y (n := 12) (by omega) with ⟨i, hi, rfl, ei⟩ | ⟨ei, ni⟩
      · rw [oz_s ei] at k
        refine q_iload_n d173_0 rfl ?_
        refine q_s1 d173_1 (Or.inl rfl) rfl (Nat.le_of_ble_eq_true rfl) (c169t (by omega) ?_)
        refine n0_eq 17 d173_4 (by decide) (by decide) (fun q => absurd q (by decide)) (fun _ => ?_)
        refine q_iload_n d173_7 rfl ?_
        refine q_iconstN (z := 0) d173_8 ?_
        refine q_bipush (x := nI 11) d173_9 rfl ?_
        refine q_s3 d173_11 (Or.inl rfl) rfl (Nat.le_of_ble_eq_true rfl) (c131t ⟨by omega, by omega⟩ (by omega) ?_)
        refine n0_ne 20 d173_14 (by decide) (by decide) (fun _ => ?_) (fun q => absurd q (by decide))
        refine q_aload_n d173_20 rfl ?_
        refine q_getr (c := 8) (f := 11) d173_21 ⟨rfl, rfl⟩ (xk_136 hX) (xf_states hX) ?_
        refine q_iload_n d173_24 rfl ?_
        refine n_iald d173_25 (xk_states hX) (by omega) (by decide) (hSa _ (by omega)).1.1 ?_
        refine n0_ne 32 d173_26 (by decide) (by omega) (fun h26 => (False.elim (h26 h0))) (fun h26 => ?_)
        refine q_bipush (x := (-3)) d173_29 rfl ?_
        refine q_iret d173_31 rfl ?_
        exact k
      · rw [oz_n ei] at k
        refine q_iload_n d173_0 rfl ?_
        refine q_s1 d173_1 (Or.inl rfl) rfl (Nat.le_of_ble_eq_true rfl) (c169t (by omega) ?_)
        refine n0_eq 17 d173_4 (by decide) (by decide) (fun q => absurd q (by decide)) (fun _ => ?_)
        refine q_iload_n d173_7 rfl ?_
        refine q_iconstN (z := 0) d173_8 ?_
        refine q_bipush (x := nI 11) d173_9 rfl ?_
        refine q_s3 d173_11 (Or.inl rfl) rfl (Nat.le_of_ble_eq_true rfl) (c131f (by decide) (by have := zix_none ei; omega) (by decide) ?_)
        refine n0_ne 20 d173_14 (by decide) (by decide) (fun q => absurd q (by decide)) (fun _ => ?_)
        refine q_bipush (x := (-2)) d173_17 rfl ?_
        refine q_iret d173_19 rfl ?_
        exact k
    · have hx : gx (dS D s) < dc D := hOs.2.1 h0
      have hn := (hO.1.2 _ hx).n
      have hx1 : zi M 176 s = nI (gx (dS D s)) := hsa.1.2.trans (if_neg h0)
      have ey : yms D s = tn (dT D (gx (dS D s))) := if_neg h0
      rw [ey, if_neg h0] at k
      rcases zix_c y (n := tn (dT D (gx (dS D s)))) (by omega) with ⟨i, hi, rfl, ei⟩ | ⟨ei, ni⟩
      · rw [oz_s ei] at k
        refine q_iload_n d173_0 rfl ?_
        refine q_s1 d173_1 (Or.inl rfl) rfl (Nat.le_of_ble_eq_true rfl) (c169t (by omega) ?_)
        refine n0_eq 17 d173_4 (by decide) (by decide) (fun q => absurd q (by decide)) (fun _ => ?_)
        refine q_iload_n d173_7 rfl ?_
        refine q_iconstN (z := 0) d173_8 ?_
        refine q_bipush (x := nI 11) d173_9 rfl ?_
        refine q_s3 d173_11 (Or.inl rfl) rfl (Nat.le_of_ble_eq_true rfl) (c131t ⟨by omega, by omega⟩ (by omega) ?_)
        refine n0_ne 20 d173_14 (by decide) (by decide) (fun _ => ?_) (fun q => absurd q (by decide))
        refine q_aload_n d173_20 rfl ?_
        refine q_getr (c := 8) (f := 11) d173_21 ⟨rfl, rfl⟩ (xk_136 hX) (xf_states hX) ?_
        refine q_iload_n d173_24 rfl ?_
        refine n_iald d173_25 (xk_states hX) (by omega) (by decide) (hSa _ (by omega)).1.1 ?_
        refine n0_ne 32 d173_26 (by decide) (by omega) (fun h26 => ?_) (fun h26 => (False.elim (h0 h26)))
        refine q_iload_n d173_32 rfl ?_
        refine q_aload_n d173_33 rfl ?_
        refine q_getr (c := 8) (f := 1) d173_34 ⟨rfl, rfl⟩ (xk_136 hX) (xf_stepMany hX) ?_
        refine q_aload_n d173_37 rfl ?_
        refine q_getr (c := 8) (f := 12) d173_38 ⟨rfl, rfl⟩ (xk_136 hX) (xf_textOf hX) ?_
        refine q_iload_n d173_41 rfl ?_
        refine n_iald d173_42 (xk_textOf hX) (by omega) (by decide) hx1 ?_
        refine n_iald d173_43 (xk_stepMany hX) (by omega) (by decide) (hTk.1 _ (by omega)).1 ?_
        refine nc_ge 51 d173_44 (by decide) (by omega) (by omega) (fun h44 => (False.elim (by omega))) (fun h44 => ?_)
        refine q_iconstN (z := 0) d173_47 ?_
        refine q_goto 53 d173_48 (by decide) ?_
        refine q_iret d173_53 rfl ?_
        exact k
      · rw [oz_n ei] at k
        rcases zix_c y (n := 12) (by omega) with ⟨j, hj, rfl, ej⟩ | ⟨ej, nj⟩
        · have hj2 : tn (dT D (gx (dS D s))) ≤ j := Nat.le_of_not_lt (fun q => by rw [zix_in q (by omega)] at ei; cases ei)
          refine q_iload_n d173_0 rfl ?_
          refine q_s1 d173_1 (Or.inl rfl) rfl (Nat.le_of_ble_eq_true rfl) (c169t (by omega) ?_)
          refine n0_eq 17 d173_4 (by decide) (by decide) (fun q => absurd q (by decide)) (fun _ => ?_)
          refine q_iload_n d173_7 rfl ?_
          refine q_iconstN (z := 0) d173_8 ?_
          refine q_bipush (x := nI 11) d173_9 rfl ?_
          refine q_s3 d173_11 (Or.inl rfl) rfl (Nat.le_of_ble_eq_true rfl) (c131t ⟨by omega, by omega⟩ (by omega) ?_)
          refine n0_ne 20 d173_14 (by decide) (by decide) (fun _ => ?_) (fun q => absurd q (by decide))
          refine q_aload_n d173_20 rfl ?_
          refine q_getr (c := 8) (f := 11) d173_21 ⟨rfl, rfl⟩ (xk_136 hX) (xf_states hX) ?_
          refine q_iload_n d173_24 rfl ?_
          refine n_iald d173_25 (xk_states hX) (by omega) (by decide) (hSa _ (by omega)).1.1 ?_
          refine n0_ne 32 d173_26 (by decide) (by omega) (fun h26 => ?_) (fun h26 => (False.elim (h0 h26)))
          refine q_iload_n d173_32 rfl ?_
          refine q_aload_n d173_33 rfl ?_
          refine q_getr (c := 8) (f := 1) d173_34 ⟨rfl, rfl⟩ (xk_136 hX) (xf_stepMany hX) ?_
          refine q_aload_n d173_37 rfl ?_
          refine q_getr (c := 8) (f := 12) d173_38 ⟨rfl, rfl⟩ (xk_136 hX) (xf_textOf hX) ?_
          refine q_iload_n d173_41 rfl ?_
          refine n_iald d173_42 (xk_textOf hX) (by omega) (by decide) hx1 ?_
          refine n_iald d173_43 (xk_stepMany hX) (by omega) (by decide) (hTk.1 _ (by omega)).1 ?_
          refine nc_ge 51 d173_44 (by decide) (by omega) (by omega) (fun h44 => ?_) (fun h44 => (False.elim (by omega)))
          refine q_bipush (x := (-2)) d173_51 rfl ?_
          refine q_iret d173_53 rfl ?_
          exact k
        · refine q_iload_n d173_0 rfl ?_
          refine q_s1 d173_1 (Or.inl rfl) rfl (Nat.le_of_ble_eq_true rfl) (c169t (by omega) ?_)
          refine n0_eq 17 d173_4 (by decide) (by decide) (fun q => absurd q (by decide)) (fun _ => ?_)
          refine q_iload_n d173_7 rfl ?_
          refine q_iconstN (z := 0) d173_8 ?_
          refine q_bipush (x := nI 11) d173_9 rfl ?_
          refine q_s3 d173_11 (Or.inl rfl) rfl (Nat.le_of_ble_eq_true rfl) (c131f (by decide) (by have := zix_none ej; omega) (by decide) ?_)
          refine n0_ne 20 d173_14 (by decide) (by decide) (fun q => absurd q (by decide)) (fun _ => ?_)
          refine q_bipush (x := (-2)) d173_17 rfl ?_
          refine q_iret d173_19 rfl ?_
          exact k
  · rw [oz_n es] at k
    refine q_iload_n d173_0 rfl ?_
    refine q_s1 d173_1 (Or.inl rfl) rfl (Nat.le_of_ble_eq_true rfl) (c169f es ?_)
    refine n0_eq 17 d173_4 (by decide) (by decide) (fun _ => ?_) (fun q => absurd q (by decide))
    refine q_bipush (x := (-2)) d173_17 rfl ?_
    refine q_iret d173_19 rfl ?_
    exact k
theorem c173r {d : Nat} {M : zM} {Q : Option Value → zM → Prop} {D : yD} {κ : Nat} {x y r : Int32} (hR : RX M D κ) (h : sRef D x y = r) (k : Q (some (.int r)) M) : qC (d + 3) 173 [.ref 136, .int x, .int y] M Q := c173 hR (by rw [h]; exact k)
theorem d190_0 : decode (zB 190) 0 = .ok (.iload_n 2, 1) := by decide +kernel
theorem d190_1 : decode (zB 190) 1 = .ok (.iconst 0, 1) := by decide +kernel
theorem d190_2 : decode (zB 190) 2 = .ok (.iconst 2, 1) := by decide +kernel
theorem d190_3 : decode (zB 190) 3 = .ok (.invokestatic 112, 3) := by decide +kernel
theorem d190_6 : decode (zB 190) 6 = .ok (.ifCond .ne 6, 3) := by decide +kernel
theorem d190_9 : decode (zB 190) 9 = .ok (.bipush (-2), 2) := by decide +kernel
theorem d190_11 : decode (zB 190) 11 = .ok (.ireturn, 1) := by decide +kernel
theorem d190_12 : decode (zB 190) 12 = .ok (.iload_n 1, 1) := by decide +kernel
theorem d190_13 : decode (zB 190) 13 = .ok (.iconst 0, 1) := by decide +kernel
theorem d190_14 : decode (zB 190) 14 = .ok (.aload_n 0, 1) := by decide +kernel
theorem d190_15 : decode (zB 190) 15 = .ok (.getfield 301, 3) := by decide +kernel
theorem d190_18 : decode (zB 190) 18 = .ok (.iconst 1, 1) := by decide +kernel
theorem d190_19 : decode (zB 190) 19 = .ok (.isub, 1) := by decide +kernel
theorem d190_20 : decode (zB 190) 20 = .ok (.invokestatic 112, 3) := by decide +kernel
theorem d190_23 : decode (zB 190) 23 = .ok (.ifCond .ne 6, 3) := by decide +kernel
theorem d190_26 : decode (zB 190) 26 = .ok (.bipush (-12), 2) := by decide +kernel
theorem d190_28 : decode (zB 190) 28 = .ok (.ireturn, 1) := by decide +kernel
theorem d190_29 : decode (zB 190) 29 = .ok (.iload_n 2, 1) := by decide +kernel
theorem d190_30 : decode (zB 190) 30 = .ok (.ifCond .ne 12, 3) := by decide +kernel
theorem d190_33 : decode (zB 190) 33 = .ok (.aload_n 0, 1) := by decide +kernel
theorem d190_34 : decode (zB 190) 34 = .ok (.getfield 67, 3) := by decide +kernel
theorem d190_37 : decode (zB 190) 37 = .ok (.iload_n 1, 1) := by decide +kernel
theorem d190_38 : decode (zB 190) 38 = .ok (.iaload, 1) := by decide +kernel
theorem d190_39 : decode (zB 190) 39 = .ok (.goto 23, 3) := by decide +kernel
theorem d190_42 : decode (zB 190) 42 = .ok (.iload_n 2, 1) := by decide +kernel
theorem d190_43 : decode (zB 190) 43 = .ok (.iconst 1, 1) := by decide +kernel
theorem d190_44 : decode (zB 190) 44 = .ok (.if_icmp .ne 12, 3) := by decide +kernel
theorem d190_47 : decode (zB 190) 47 = .ok (.aload_n 0, 1) := by decide +kernel
theorem d190_48 : decode (zB 190) 48 = .ok (.getfield 70, 3) := by decide +kernel
theorem d190_51 : decode (zB 190) 51 = .ok (.iload_n 1, 1) := by decide +kernel
theorem d190_52 : decode (zB 190) 52 = .ok (.iaload, 1) := by decide +kernel
theorem d190_53 : decode (zB 190) 53 = .ok (.goto 9, 3) := by decide +kernel
theorem d190_56 : decode (zB 190) 56 = .ok (.aload_n 0, 1) := by decide +kernel
theorem d190_57 : decode (zB 190) 57 = .ok (.getfield 73, 3) := by decide +kernel
theorem d190_60 : decode (zB 190) 60 = .ok (.iload_n 1, 1) := by decide +kernel
theorem d190_61 : decode (zB 190) 61 = .ok (.iaload, 1) := by decide +kernel
theorem d190_62 : decode (zB 190) 62 = .ok (.ireturn, 1) := by decide +kernel
theorem x190 {d : Nat} {M : zM} {Q : Option Value → zM → Prop} {D : yD} {κ : Nat} {x y : Int32} (hR : RX M D κ) (hD : OKD D) (hκ : κ + 4000 < 2147483648) (k : ∀ M', RX M' D κ → Fi FY M M' → Q (some (.int (sLine D x y))) M') : qC (d + 2) 190 [.ref 136, .int x, .int y] M Q := by
  refine qC_of (by decide) (Nat.le_of_ble_eq_true rfl) ?_
  have hC := hR.1
  have hX := hC.1
  have hO : OKW (dT D) (dc D) (dW D) := hC.2.2.1
  have hc6 := hO.1.1
  have hL : XLo [] M (some (dL D)) := hC.2.2.2.2.2.2.1
  have hSa : ∀ s, s < 3 → XSa M s (dS D s) κ := hC.2.2.2.2.1
  have hTk := hC.k
  have hck := hC.2.2.2.2.2.1
  have h240 := hD.2.1
  unfold sLine at k
  rcases zix_c y (n := 3) (by omega) with ⟨w, hw, rfl, ew⟩ | ⟨ew, nw⟩
  · rw [oz_s ew] at k
    rcases zix_c x (n := (dL D).length) (by omega) with ⟨j, hj, rfl, ej⟩ | ⟨ej, nj⟩
    · rw [oz_s ej] at k
      rcases (show w = 0 ∨ w = 1 ∨ w = 2 by omega) with rfl | rfl | rfl
      · refine q_iload_n d190_0 rfl ?_
        refine q_iconstN (z := 0) d190_1 ?_
        refine q_iconstN (z := 2) d190_2 ?_
        refine q_s3 d190_3 (Or.inl rfl) rfl (Nat.le_of_ble_eq_true rfl) (c131t ⟨by omega, by omega⟩ (by omega) ?_)
        refine n0_ne 12 d190_6 (by decide) (by decide) (fun _ => ?_) (fun q => absurd q (by decide))
        refine q_iload_n d190_12 rfl ?_
        refine q_iconstN (z := 0) d190_13 ?_
        refine q_aload_n d190_14 rfl ?_
        refine q_getv (c := 8) (f := 24) d190_15 ⟨rfl, by decide⟩ (xk_136 hX) hL.2.1 ?_
        refine q_iconstN (z := 1) d190_18 ?_
        refine q_isub d190_19 ?_
        refine q_s3 d190_20 (Or.inl rfl) rfl (Nat.le_of_ble_eq_true rfl) (c131st (by omega) (by omega) ?_)
        refine n0_ne 29 d190_23 (by decide) (by decide) (fun _ => ?_) (fun q => absurd q (by decide))
        refine q_iload_n d190_29 rfl ?_
        refine n0_ne 42 d190_30 (by decide) (by decide) (fun q => absurd q (by decide)) (fun _ => ?_)
        refine q_aload_n d190_33 rfl ?_
        refine q_getr (c := 8) (f := 26) d190_34 ⟨rfl, rfl⟩ (xk_136 hX) (xf_acts hX) ?_
        refine q_iload_n d190_37 rfl ?_
        refine n_iald d190_38 (xk_acts hX) (by omega) (by decide) (hL.2.2 _ (by omega)).1 ?_
        refine q_goto 62 d190_39 (by decide) ?_
        refine q_iret d190_62 rfl ?_
        exact k _ hR (Fi.refl _ _)
      · refine q_iload_n d190_0 rfl ?_
        refine q_iconstN (z := 0) d190_1 ?_
        refine q_iconstN (z := 2) d190_2 ?_
        refine q_s3 d190_3 (Or.inl rfl) rfl (Nat.le_of_ble_eq_true rfl) (c131t ⟨by omega, by omega⟩ (by omega) ?_)
        refine n0_ne 12 d190_6 (by decide) (by decide) (fun _ => ?_) (fun q => absurd q (by decide))
        refine q_iload_n d190_12 rfl ?_
        refine q_iconstN (z := 0) d190_13 ?_
        refine q_aload_n d190_14 rfl ?_
        refine q_getv (c := 8) (f := 24) d190_15 ⟨rfl, by decide⟩ (xk_136 hX) hL.2.1 ?_
        refine q_iconstN (z := 1) d190_18 ?_
        refine q_isub d190_19 ?_
        refine q_s3 d190_20 (Or.inl rfl) rfl (Nat.le_of_ble_eq_true rfl) (c131st (by omega) (by omega) ?_)
        refine n0_ne 29 d190_23 (by decide) (by decide) (fun _ => ?_) (fun q => absurd q (by decide))
        refine q_iload_n d190_29 rfl ?_
        refine n0_ne 42 d190_30 (by decide) (by decide) (fun _ => ?_) (fun q => absurd q (by decide))
        refine q_iload_n d190_42 rfl ?_
        refine q_iconstN (z := 1) d190_43 ?_
        refine nc_ne 56 d190_44 (by decide) (by decide) (by decide) (fun q => absurd q (by decide)) (fun _ => ?_)
        refine q_aload_n d190_47 rfl ?_
        refine q_getr (c := 8) (f := 27) d190_48 ⟨rfl, rfl⟩ (xk_136 hX) (xf_whose hX) ?_
        refine q_iload_n d190_51 rfl ?_
        refine n_iald d190_52 (xk_whose hX) (by omega) (by decide) (hL.2.2 _ (by omega)).2.1 ?_
        refine q_goto 62 d190_53 (by decide) ?_
        refine q_iret d190_62 rfl ?_
        exact k _ hR (Fi.refl _ _)
      · refine q_iload_n d190_0 rfl ?_
        refine q_iconstN (z := 0) d190_1 ?_
        refine q_iconstN (z := 2) d190_2 ?_
        refine q_s3 d190_3 (Or.inl rfl) rfl (Nat.le_of_ble_eq_true rfl) (c131t ⟨by omega, by omega⟩ (by omega) ?_)
        refine n0_ne 12 d190_6 (by decide) (by decide) (fun _ => ?_) (fun q => absurd q (by decide))
        refine q_iload_n d190_12 rfl ?_
        refine q_iconstN (z := 0) d190_13 ?_
        refine q_aload_n d190_14 rfl ?_
        refine q_getv (c := 8) (f := 24) d190_15 ⟨rfl, by decide⟩ (xk_136 hX) hL.2.1 ?_
        refine q_iconstN (z := 1) d190_18 ?_
        refine q_isub d190_19 ?_
        refine q_s3 d190_20 (Or.inl rfl) rfl (Nat.le_of_ble_eq_true rfl) (c131st (by omega) (by omega) ?_)
        refine n0_ne 29 d190_23 (by decide) (by decide) (fun _ => ?_) (fun q => absurd q (by decide))
        refine q_iload_n d190_29 rfl ?_
        refine n0_ne 42 d190_30 (by decide) (by decide) (fun _ => ?_) (fun q => absurd q (by decide))
        refine q_iload_n d190_42 rfl ?_
        refine q_iconstN (z := 1) d190_43 ?_
        refine nc_ne 56 d190_44 (by decide) (by decide) (by decide) (fun _ => ?_) (fun q => absurd q (by decide))
        refine q_aload_n d190_56 rfl ?_
        refine q_getr (c := 8) (f := 28) d190_57 ⟨rfl, rfl⟩ (xk_136 hX) (xf_which hX) ?_
        refine q_iload_n d190_60 rfl ?_
        refine n_iald d190_61 (xk_which hX) (by omega) (by decide) (hL.2.2 _ (by omega)).2.2 ?_
        refine q_iret d190_62 rfl ?_
        exact k _ hR (Fi.refl _ _)
    · rw [oz_n ej] at k
      refine q_iload_n d190_0 rfl ?_
      refine q_iconstN (z := 0) d190_1 ?_
      refine q_iconstN (z := 2) d190_2 ?_
      refine q_s3 d190_3 (Or.inl rfl) rfl (Nat.le_of_ble_eq_true rfl) (c131t ⟨by omega, by omega⟩ (by omega) ?_)
      refine n0_ne 12 d190_6 (by decide) (by decide) (fun _ => ?_) (fun q => absurd q (by decide))
      refine q_iload_n d190_12 rfl ?_
      refine q_iconstN (z := 0) d190_13 ?_
      refine q_aload_n d190_14 rfl ?_
      refine q_getv (c := 8) (f := 24) d190_15 ⟨rfl, by decide⟩ (xk_136 hX) hL.2.1 ?_
      refine q_iconstN (z := 1) d190_18 ?_
      refine q_isub d190_19 ?_
      refine q_s3 d190_20 (Or.inl rfl) rfl (Nat.le_of_ble_eq_true rfl) (c131sf ej (by omega) ?_)
      refine n0_ne 29 d190_23 (by decide) (by decide) (fun q => absurd q (by decide)) (fun _ => ?_)
      refine q_bipush (x := (-12)) d190_26 rfl ?_
      refine q_iret d190_28 rfl ?_
      exact k _ hR (Fi.refl _ _)
  · rw [oz_n ew] at k
    refine q_iload_n d190_0 rfl ?_
    refine q_iconstN (z := 0) d190_1 ?_
    refine q_iconstN (z := 2) d190_2 ?_
    refine q_s3 d190_3 (Or.inl rfl) rfl (Nat.le_of_ble_eq_true rfl) (c131f (by decide) (by have := zix_none ew; omega) (by decide) ?_)
    refine n0_ne 12 d190_6 (by decide) (by decide) (fun q => absurd q (by decide)) (fun _ => ?_)
    refine q_bipush (x := (-2)) d190_9 rfl ?_
    refine q_iret d190_11 rfl ?_
    exact k _ hR (Fi.refl _ _)
theorem d187_0 : decode (zB 187) 0 = .ok (.aload_n 0, 1) := by decide +kernel
theorem d187_1 : decode (zB 187) 1 = .ok (.iload_n 1, 1) := by decide +kernel
theorem d187_2 : decode (zB 187) 2 = .ok (.iload_n 2, 1) := by decide +kernel
theorem d187_3 : decode (zB 187) 3 = .ok (.invokevirtual 351, 3) := by decide +kernel
theorem d187_6 : decode (zB 187) 6 = .ok (.istore_n 3, 1) := by decide +kernel
theorem d187_7 : decode (zB 187) 7 = .ok (.iload_n 3, 1) := by decide +kernel
theorem d187_8 : decode (zB 187) 8 = .ok (.ifCond .eq 7, 3) := by decide +kernel
theorem d187_11 : decode (zB 187) 11 = .ok (.iload_n 3, 1) := by decide +kernel
theorem d187_12 : decode (zB 187) 12 = .ok (.goto 11, 3) := by decide +kernel
theorem d187_15 : decode (zB 187) 15 = .ok (.aload_n 0, 1) := by decide +kernel
theorem d187_16 : decode (zB 187) 16 = .ok (.getfield 54, 3) := by decide +kernel
theorem d187_19 : decode (zB 187) 19 = .ok (.iload_n 1, 1) := by decide +kernel
theorem d187_20 : decode (zB 187) 20 = .ok (.aaload, 1) := by decide +kernel
theorem d187_21 : decode (zB 187) 21 = .ok (.iload_n 2, 1) := by decide +kernel
theorem d187_22 : decode (zB 187) 22 = .ok (.iaload, 1) := by decide +kernel
theorem d187_23 : decode (zB 187) 23 = .ok (.ireturn, 1) := by decide +kernel
theorem x187 {d : Nat} {M : zM} {Q : Option Value → zM → Prop} {D : yD} {κ : Nat} {x y : Int32} (hR : RX M D κ) (hD : OKD D) (hκ : κ + 4000 < 2147483648) (k : ∀ M', RX M' D κ → Fi FY M M' → Q (some (.int (sWhy D x y))) M') : qC (d + 4) 187 [.ref 136, .int x, .int y] M Q := by
  refine qC_of (by decide) (Nat.le_of_ble_eq_true rfl) ?_
  have hC := hR.1
  have hX := hC.1
  have hO : OKW (dT D) (dc D) (dW D) := hC.2.2.1
  have hc6 := hO.1.1
  have hL : XLo [] M (some (dL D)) := hC.2.2.2.2.2.2.1
  have hSa : ∀ s, s < 3 → XSa M s (dS D s) κ := hC.2.2.2.2.1
  have hTk := hC.k
  have hck := hC.2.2.2.2.2.1
  have h240 := hD.2.1
  unfold sWhy at k
  rcases zix_c x (n := 3) (by omega) with ⟨s, hs, rfl, es⟩ | ⟨es, ns⟩
  · rw [oz_s es] at k
    have hOs : OKS (dT D) (dc D) (dS D s) := hO.2.2 s hs
    have hg5 := hOs.1
    have hsa := hSa s hs
    have hym : yms D s ≤ 12 := by
      unfold yms
      by_cases h0 : gt (dS D s) = 0
      · rw [if_pos h0]; omega
      · rw [if_neg h0]; exact (hO.1.2 _ (hOs.2.1 h0)).n
    rcases zix_c y (n := yms D s) (by omega) with ⟨i, hi, rfl, ei⟩ | ⟨ei, ni⟩
    · rw [oz_s ei] at k
      by_cases h0 : gt (dS D s) = 0
      · rw [if_pos h0] at k
        refine q_aload_n d187_0 rfl ?_
        refine q_iload_n d187_1 rfl ?_
        refine q_iload_n d187_2 rfl ?_
        refine q_v2 d187_3 rfl rfl (xk_136 hX) (Nat.le_of_ble_eq_true rfl) (c173r hR (by unfold sRef; rw [oz_s es, oz_s ei, if_pos h0]) ?_)
        refine q_istore_n d187_6 (by decide) rfl ?_
        refine q_iload_n d187_7 rfl ?_
        refine i0_eq 15 d187_8 (by decide) (fun h8 => (False.elim (absurd h8 (by decide)))) (fun h8 => ?_)
        refine q_iload_n d187_11 rfl ?_
        refine q_goto 23 d187_12 (by decide) ?_
        refine q_iret d187_23 rfl ?_
        exact k _ hR (Fi.refl _ _)
      · rw [if_neg h0] at k
        have hx : gx (dS D s) < dc D := hOs.2.1 h0
        have hn := (hO.1.2 _ hx).n
        have hx1 : zi M 176 s = nI (gx (dS D s)) := hsa.1.2.trans (if_neg h0)
        have ey : yms D s = tn (dT D (gx (dS D s))) := if_neg h0
        have hi2 : i < tn (dT D (gx (dS D s))) := by rw [← ey]; exact hi
        refine q_aload_n d187_0 rfl ?_
        refine q_iload_n d187_1 rfl ?_
        refine q_iload_n d187_2 rfl ?_
        refine q_v2 d187_3 rfl rfl (xk_136 hX) (Nat.le_of_ble_eq_true rfl) (c173r hR (by unfold sRef; rw [oz_s es, oz_s ei, if_neg h0]) ?_)
        refine q_istore_n d187_6 (by decide) rfl ?_
        refine q_iload_n d187_7 rfl ?_
        refine n0_eq 15 d187_8 (by decide) (by decide) (fun _ => ?_) (fun q => absurd q (by decide))
        refine q_aload_n d187_15 rfl ?_
        refine q_getr (c := 8) (f := 17) d187_16 ⟨rfl, rfl⟩ (xk_136 hX) (xf_whys hX) ?_
        refine q_iload_n d187_19 rfl ?_
        refine n_aald d187_20 (xk_whys hX) (by decide) (by omega) (by decide) (xr_whys hX (by omega)) ?_
        refine q_iload_n d187_21 rfl ?_
        refine n_iald d187_22 (xa_whys hX (by omega)) (by omega) (by decide) ((hSa _ (by omega)).2.1 _ (by omega)).2.2.1 ?_
        refine q_iret d187_23 rfl ?_
        exact k _ hR (Fi.refl _ _)
    · rw [oz_n ei] at k
      refine q_aload_n d187_0 rfl ?_
      refine q_iload_n d187_1 rfl ?_
      refine q_iload_n d187_2 rfl ?_
      refine q_v2 d187_3 rfl rfl (xk_136 hX) (Nat.le_of_ble_eq_true rfl) (c173r hR (by unfold sRef; rw [oz_s es, oz_n ei]) ?_)
      refine q_istore_n d187_6 (by decide) rfl ?_
      refine q_iload_n d187_7 rfl ?_
      refine i0_eq 15 d187_8 (by decide) (fun h8 => (False.elim (absurd h8 (by decide)))) (fun h8 => ?_)
      refine q_iload_n d187_11 rfl ?_
      refine q_goto 23 d187_12 (by decide) ?_
      refine q_iret d187_23 rfl ?_
      exact k _ hR (Fi.refl _ _)
  · rw [oz_n es] at k
    refine q_aload_n d187_0 rfl ?_
    refine q_iload_n d187_1 rfl ?_
    refine q_iload_n d187_2 rfl ?_
    refine q_v2 d187_3 rfl rfl (xk_136 hX) (Nat.le_of_ble_eq_true rfl) (c173r hR (by unfold sRef; rw [oz_n es]) ?_)
    refine q_istore_n d187_6 (by decide) rfl ?_
    refine q_iload_n d187_7 rfl ?_
    refine i0_eq 15 d187_8 (by decide) (fun h8 => (False.elim (absurd h8 (by decide)))) (fun h8 => ?_)
    refine q_iload_n d187_11 rfl ?_
    refine q_goto 23 d187_12 (by decide) ?_
    refine q_iret d187_23 rfl ?_
    exact k _ hR (Fi.refl _ _)
