/-! ===== contracts: words, accounts, numbers ===== -/
theorem zTx_l : ∀ i, i < 6 → zTx i = (ywl i).map nI := by decide +kernel
theorem c900 {d i : Nat} {M : zM} {Q : Option Value → zM → Prop} (hi : i < 6) (k : Q (some (.int (nI (ywl i).length))) M) : qC (d + 7) 900 [.ref (3 + i)] M Q := by
  refine ⟨_, M, Or.inl ⟨rfl, by omega, rfl, i, hi, rfl, rfl⟩, ?_⟩
  rw [zTx_l i hi, List.length_map]; exact k
theorem c901 {d i j : Nat} {M : zM} {Q : Option Value → zM → Prop} (hi : i < 6) (hj : j < (ywl i).length) (k : Q (some (.int (nI ((ywl i).getD j 0)))) M) : qC (d + 7) 901 [.ref (3 + i), .int (nI j)] M Q := by
  refine ⟨_, M, Or.inr (Or.inl ⟨rfl, by omega, rfl, i, j, hi, by rw [zTx_l i hi, List.length_map]; exact hj, rfl, rfl⟩), ?_⟩
  have e : (zTx i).getD j 0 = nI ((ywl i).getD j 0) := by
    rw [zTx_l i hi]
    simp only [List.getD, List.getElem?_map, List.getElem?_eq_getElem hj, Option.map_some, Option.getD_some]
  rw [e]; exact k
theorem ywl_len : ∀ i, i < 6 → (ywl i).length ≤ 4 ∧ ∀ j, j < 4 → (ywl i).getD j 0 < 256 := by decide
theorem ywd_t {b : Nat → Nat} {s e i : Nat} (h1 : e - s = (ywl i).length) (h2 : ∀ k, k < (ywl i).length → b (s + k) = (ywl i).getD k 0) : ywd b s e i = true := by
  unfold ywd
  rw [h1]
  simp only [beq_self_eq_true, Bool.true_and, List.all_eq_true, List.mem_range, beq_iff_eq]
  exact h2
theorem ywd_f1 {b : Nat → Nat} {s e i : Nat} (h1 : ¬ e - s = (ywl i).length) : ywd b s e i = false := by
  unfold ywd; rw [beq_false_of_ne h1]; rfl
theorem ywd_f2 {b : Nat → Nat} {s e i k : Nat} (hk : k < (ywl i).length) (h2 : ¬ b (s + k) = (ywl i).getD k 0) : ywd b s e i = false := by
  cases h : ywd b s e i with
  | false => rfl
  | true =>
    unfold ywd at h
    simp only [Bool.and_eq_true, List.all_eq_true, List.mem_range, beq_iff_eq] at h
    exact absurd (h.2 k hk) h2
def ykv (k : Nat) : Int32 := if k < 6 then nI k else -1
/-- a reader that is well: at Q, its text at 20 + 7 c -/
def GR (M : zM) (c n : Nat) (b : Nat → Nat) (Q : yQ) : Prop := SC M ∧ c < 6 ∧ RTp M n b ∧ RK M Q.1 ∧ zi M 17 5 = -1 ∧ zr M 17 6 = some (20 + 7 * c) ∧ RP M (20 + 7 * c) Q.2
/-- one that has met a fault -/
def BR (M : zM) (c n : Nat) (b : Nat → Nat) (f : Nat) : Prop := SC M ∧ c < 6 ∧ RTp M n b ∧ zi M 17 5 = nI f ∧ zr M 17 6 = some (20 + 7 * c)
def FG (c : Nat) : Nat → Nat → Prop := fun a k => (a = 17 ∧ (k = 2 ∨ k = 3 ∨ k = 4 ∨ k = 5)) ∨ (20 + 7 * c ≤ a ∧ a < 27 + 7 * c)
theorem FK_t : ¬ FK 17 1 ∧ ∀ k, ¬ FK 18 k := ⟨by unfold FK; omega, fun k => by unfold FK; omega⟩
theorem FK_G {c : Nat} : ∀ a k, FK a k → FG c a k := fun a k q => Or.inl ⟨q.1, by have := q.2; omega⟩
theorem GR.ad {M M' : zM} {c n : Nat} {b : Nat → Nat} {Q : yQ} (h : GR M c n b Q) (hk : RK M' (pAd n b Q.1)) (f : Fi FK M M') : GR M' c n b (pAd n b Q.1, Q.2) :=
  ⟨f.sc h.1 (fun a k ha q => by have := q.1; omega), h.2.1, RTp_fi h.2.2.1 f.fr FK_t, hk, (f.1 _ _ (by unfold FK; omega)).trans h.2.2.2.2.1, (f.r _ _).trans h.2.2.2.2.2.1, RP_fr h.2.2.2.2.2.2 f.fr (fun a k h1 h2 q => by have := q.1; omega)⟩
theorem GR.bad {M : zM} {c n : Nat} {b : Nat → Nat} {Q : yQ} (h : GR M c n b Q) : BR (zwi M 17 5 (nI Q.1.2.1)) c n b Q.1.2.1 :=
  ⟨SC_wi h.1 (by omega), h.2.1, RTp_fi h.2.2.1 (((Fi.refl (fun a k => a = 17 ∧ k = 5) M).wi ⟨rfl, rfl⟩).fr) ⟨by omega, fun k => by omega⟩, wi_s _ _ _ _, h.2.2.2.2.2.1⟩
theorem d24_0 : decode (zB 24) 0 = .ok (.aload_n 0, 1) := by decide +kernel
theorem d24_1 : decode (zB 24) 1 = .ok (.getfield 31, 3) := by decide +kernel
theorem d24_4 : decode (zB 24) 4 = .ok (.iconst (-1), 1) := by decide +kernel
theorem d24_5 : decode (zB 24) 5 = .ok (.if_icmp .ne 11, 3) := by decide +kernel
theorem d24_8 : decode (zB 24) 8 = .ok (.aload_n 0, 1) := by decide +kernel
theorem d24_9 : decode (zB 24) 9 = .ok (.aload_n 0, 1) := by decide +kernel
theorem d24_10 : decode (zB 24) 10 = .ok (.getfield 48, 3) := by decide +kernel
theorem d24_13 : decode (zB 24) 13 = .ok (.putfield 31, 3) := by decide +kernel
theorem d24_16 : decode (zB 24) 16 = .ok (.return_, 1) := by decide +kernel
theorem c24 {d : Nat} {M : zM} {Q : Option Value → zM → Prop} {c n : Nat} {b : Nat → Nat} {K : yQ} (hG : GR M c n b K) (hv : yQv n b K) (kb : ∀ M', BR M' c n b K.1.2.1 → Fi (FG c) M M' → Q none M') : qC (d + 1) 24 [.ref 17] M Q := by
  have h120 := hG.2.2.1.1
  have hk1 := hv.1.1.1
  have hk2 := hv.1.1.2.1
  have hk3 := hv.1.1.2.2.1
  refine qC_of (by decide) (Nat.le_of_ble_eq_true rfl) ?_
  refine q_aload_n d24_0 rfl ?_
  refine q_getv (c := 3) (f := 5) d24_1 ⟨rfl, by decide⟩ hG.1.2.1.1 hG.2.2.2.2.1 ?_
  refine q_iconst (x := (-1)) d24_4 rfl ?_
  refine ic_ne 16 d24_5 (by decide) (fun h5 => (False.elim (h5 rfl))) (fun h5 => ?_)
  refine q_aload_n d24_8 rfl ?_
  refine q_aload_n d24_9 rfl ?_
  refine q_getv (c := 3) (f := 4) d24_10 ⟨rfl, by decide⟩ hG.1.2.1.1 hG.2.2.2.1.2.1 ?_
  refine q_puti (c := 3) (f := 5) d24_13 ⟨rfl, rfl, by decide⟩ hG.1.2.1.1 ?_
  refine q_ret d24_16 rfl ?_
  exact kb _ hG.bad ((Fi.refl _ _).wi (Or.inl ⟨rfl, by omega⟩))
theorem c24f {d : Nat} {M : zM} {Q : Option Value → zM → Prop} {c n f : Nat} {b : Nat → Nat} (hB : BR M c n b f) (hf : f ≤ 120) (k : Q none M) : qC (d + 1) 24 [.ref 17] M Q := by
  refine qC_of (by decide) (Nat.le_of_ble_eq_true rfl) ?_
  refine q_aload_n d24_0 rfl ?_
  refine q_getv (c := 3) (f := 5) d24_1 ⟨rfl, by decide⟩ hB.1.2.1.1 hB.2.2.2.1 ?_
  refine q_iconst (x := (-1)) d24_4 rfl ?_
  refine ic_ne 16 d24_5 (by decide) (fun h5 => ?_) (fun h5 => (False.elim (nI_m1 (by omega) h5)))
  refine q_ret d24_16 rfl ?_
  exact k
theorem d31_0 : decode (zB 31) 0 = .ok (.aload_n 0, 1) := by decide +kernel
theorem d31_1 : decode (zB 31) 1 = .ok (.getfield 31, 3) := by decide +kernel
theorem d31_4 : decode (zB 31) 4 = .ok (.iconst (-1), 1) := by decide +kernel
theorem d31_5 : decode (zB 31) 5 = .ok (.if_icmp .ne 18, 3) := by decide +kernel
theorem d31_8 : decode (zB 31) 8 = .ok (.aload_n 0, 1) := by decide +kernel
theorem d31_9 : decode (zB 31) 9 = .ok (.getfield 41, 3) := by decide +kernel
theorem d31_12 : decode (zB 31) 12 = .ok (.iload_n 1, 1) := by decide +kernel
theorem d31_13 : decode (zB 31) 13 = .ok (.if_icmp .ne 10, 3) := by decide +kernel
theorem d31_16 : decode (zB 31) 16 = .ok (.aload_n 0, 1) := by decide +kernel
theorem d31_17 : decode (zB 31) 17 = .ok (.invokevirtual 34, 3) := by decide +kernel
theorem d31_20 : decode (zB 31) 20 = .ok (.goto 7, 3) := by decide +kernel
theorem d31_23 : decode (zB 31) 23 = .ok (.aload_n 0, 1) := by decide +kernel
theorem d31_24 : decode (zB 31) 24 = .ok (.invokevirtual 44, 3) := by decide +kernel
theorem d31_27 : decode (zB 31) 27 = .ok (.return_, 1) := by decide +kernel
theorem c31t {d : Nat} {M : zM} {Q : Option Value → zM → Prop} {c n : Nat} {b : Nat → Nat} {K : yQ} (hG : GR M c n b K) (hv : yQv n b K) (k : ∀ M', GR M' c n b (pAd n b K.1, K.2) → Fi (FG c) M M' → Q none M') : qC (d + 3) 31 [.ref 17, .int (nI K.1.1)] M Q := by
  have h120 := hG.2.2.1.1
  have hk1 := hv.1.1.1
  have hk2 := hv.1.1.2.1
  have hk3 := hv.1.1.2.2.1
  refine qC_of (by decide) (Nat.le_of_ble_eq_true rfl) ?_
  refine q_aload_n d31_0 rfl ?_
  refine q_getv (c := 3) (f := 5) d31_1 ⟨rfl, by decide⟩ hG.1.2.1.1 hG.2.2.2.2.1 ?_
  refine q_iconst (x := (-1)) d31_4 rfl ?_
  refine ic_ne 23 d31_5 (by decide) (fun h5 => (False.elim (h5 rfl))) (fun h5 => ?_)
  refine q_aload_n d31_8 rfl ?_
  refine q_getv (c := 3) (f := 3) d31_9 ⟨rfl, by decide⟩ hG.1.2.1.1 hG.2.2.2.1.1 ?_
  refine q_iload_n d31_12 rfl ?_
  refine nc_ne 23 d31_13 (by decide) (by omega) (by omega) (fun h13 => (False.elim (h13 rfl))) (fun h13 => ?_)
  refine q_aload_n d31_16 rfl ?_
  refine q_v0 d31_17 rfl rfl hG.1.2.1.1 (Nat.le_of_ble_eq_true rfl) (c16 hG.1.2.1 hG.2.2.1 hG.2.2.2.1.2.2 (by omega) (fun M1 hk f1 => ?_))
  refine q_goto 27 d31_20 (by decide) ?_
  refine q_ret d31_27 rfl ?_
  exact k _ (hG.ad hk f1) (f1.mono FK_G)
theorem c31n {d : Nat} {M : zM} {Q : Option Value → zM → Prop} {c n : Nat} {b : Nat → Nat} {K : yQ} {ch : Nat} (hG : GR M c n b K) (hv : yQv n b K) (hc256 : ch < 256) (hch : ¬ K.1.1 = ch) (kb : ∀ M', BR M' c n b K.1.2.1 → Fi (FG c) M M' → Q none M') : qC (d + 3) 31 [.ref 17, .int (nI ch)] M Q := by
  have h120 := hG.2.2.1.1
  have hk1 := hv.1.1.1
  have hk2 := hv.1.1.2.1
  have hk3 := hv.1.1.2.2.1
  refine qC_of (by decide) (Nat.le_of_ble_eq_true rfl) ?_
  refine q_aload_n d31_0 rfl ?_
  refine q_getv (c := 3) (f := 5) d31_1 ⟨rfl, by decide⟩ hG.1.2.1.1 hG.2.2.2.2.1 ?_
  refine q_iconst (x := (-1)) d31_4 rfl ?_
  refine ic_ne 23 d31_5 (by decide) (fun h5 => (False.elim (h5 rfl))) (fun h5 => ?_)
  refine q_aload_n d31_8 rfl ?_
  refine q_getv (c := 3) (f := 3) d31_9 ⟨rfl, by decide⟩ hG.1.2.1.1 hG.2.2.2.1.1 ?_
  refine q_iload_n d31_12 rfl ?_
  refine nc_ne 23 d31_13 (by decide) (by omega) (by omega) (fun h13 => ?_) (fun h13 => (False.elim (hch h13)))
  refine q_aload_n d31_23 rfl ?_
  refine q_v0 d31_24 rfl rfl hG.1.2.1.1 (Nat.le_of_ble_eq_true rfl) (c24 hG hv (fun M1 hB f1 => ?_))
  refine q_ret d31_27 rfl ?_
  exact kb _ hB f1
theorem c31f {d : Nat} {M : zM} {Q : Option Value → zM → Prop} {c n f : Nat} {b : Nat → Nat} {x : Int32} (hB : BR M c n b f) (hf : f ≤ 120) (k : Q none M) : qC (d + 3) 31 [.ref 17, .int x] M Q := by
  refine qC_of (by decide) (Nat.le_of_ble_eq_true rfl) ?_
  refine q_aload_n d31_0 rfl ?_
  refine q_getv (c := 3) (f := 5) d31_1 ⟨rfl, by decide⟩ hB.1.2.1.1 hB.2.2.2.1 ?_
  refine q_iconst (x := (-1)) d31_4 rfl ?_
  refine ic_ne 23 d31_5 (by decide) (fun h5 => ?_) (fun h5 => (False.elim (nI_m1 (by omega) h5)))
  refine q_aload_n d31_23 rfl ?_
  refine q_v0 d31_24 rfl rfl hB.1.2.1.1 (Nat.le_of_ble_eq_true rfl) (c24f hB hf ?_)
  refine q_ret d31_27 rfl ?_
  exact k
theorem d22_0 : decode (zB 22) 0 = .ok (.iload_n 0, 1) := by decide +kernel
theorem d22_1 : decode (zB 22) 1 = .ok (.tableswitch 50 0 4 #[35, 38, 41, 44, 47], 35) := by decide +kernel
theorem d22_36 : decode (zB 22) 36 = .ok (.ldc 117, 2) := by decide +kernel
theorem d22_38 : decode (zB 22) 38 = .ok (.areturn, 1) := by decide +kernel
theorem d22_39 : decode (zB 22) 39 = .ok (.ldc 119, 2) := by decide +kernel
theorem d22_41 : decode (zB 22) 41 = .ok (.areturn, 1) := by decide +kernel
theorem d22_42 : decode (zB 22) 42 = .ok (.ldc 121, 2) := by decide +kernel
theorem d22_44 : decode (zB 22) 44 = .ok (.areturn, 1) := by decide +kernel
theorem d22_45 : decode (zB 22) 45 = .ok (.ldc 123, 2) := by decide +kernel
theorem d22_47 : decode (zB 22) 47 = .ok (.areturn, 1) := by decide +kernel
theorem d22_48 : decode (zB 22) 48 = .ok (.ldc 125, 2) := by decide +kernel
theorem d22_50 : decode (zB 22) 50 = .ok (.areturn, 1) := by decide +kernel
theorem d22_51 : decode (zB 22) 51 = .ok (.ldc 127, 2) := by decide +kernel
theorem d22_53 : decode (zB 22) 53 = .ok (.areturn, 1) := by decide +kernel
theorem c22 {d : Nat} {M : zM} {Q : Option Value → zM → Prop} {i : Nat} (hi : i < 6) (k : Q (some (.ref (3 + i))) M) : qC (d + 1) 22 [.int (nI i)] M Q := by
  refine qC_of (by decide) (Nat.le_of_ble_eq_true rfl) ?_
  rcases (show i = 0 ∨ i = 1 ∨ i = 2 ∨ i = 3 ∨ i = 4 ∨ i = 5 by omega) with rfl | rfl | rfl | rfl | rfl | rfl
  · refine q_iload_n d22_0 rfl ?_
    refine n_tsI (35) 36 d22_1 (by decide) (by decide) rfl (by decide) ?_
    refine q_ldcs d22_36 rfl ?_
    refine q_aret (r := some _) d22_38 rfl ?_
    exact k
  · refine q_iload_n d22_0 rfl ?_
    refine n_tsI (38) 39 d22_1 (by decide) (by decide) rfl (by decide) ?_
    refine q_ldcs d22_39 rfl ?_
    refine q_aret (r := some _) d22_41 rfl ?_
    exact k
  · refine q_iload_n d22_0 rfl ?_
    refine n_tsI (41) 42 d22_1 (by decide) (by decide) rfl (by decide) ?_
    refine q_ldcs d22_42 rfl ?_
    refine q_aret (r := some _) d22_44 rfl ?_
    exact k
  · refine q_iload_n d22_0 rfl ?_
    refine n_tsI (44) 45 d22_1 (by decide) (by decide) rfl (by decide) ?_
    refine q_ldcs d22_45 rfl ?_
    refine q_aret (r := some _) d22_47 rfl ?_
    exact k
  · refine q_iload_n d22_0 rfl ?_
    refine n_tsI (47) 48 d22_1 (by decide) (by decide) rfl (by decide) ?_
    refine q_ldcs d22_48 rfl ?_
    refine q_aret (r := some _) d22_50 rfl ?_
    exact k
  · refine q_iload_n d22_0 rfl ?_
    refine n_tsO 51 d22_1 (by decide) (Or.inr (by decide)) (by decide) ?_
    refine q_ldcs d22_51 rfl ?_
    refine q_aret (r := some _) d22_53 rfl ?_
    exact k
theorem d23_0 : decode (zB 23) 0 = .ok (.aload_n 0, 1) := by decide +kernel
theorem d23_1 : decode (zB 23) 1 = .ok (.getfield 28, 3) := by decide +kernel
theorem d23_4 : decode (zB 23) 4 = .ok (.aload_n 0, 1) := by decide +kernel
theorem d23_5 : decode (zB 23) 5 = .ok (.getfield 48, 3) := by decide +kernel
theorem d23_8 : decode (zB 23) 8 = .ok (.isub, 1) := by decide +kernel
theorem d23_9 : decode (zB 23) 9 = .ok (.aload_n 1, 1) := by decide +kernel
theorem d23_10 : decode (zB 23) 10 = .ok (.invokevirtual 108, 3) := by decide +kernel
theorem d23_13 : decode (zB 23) 13 = .ok (.if_icmp .eq 5, 3) := by decide +kernel
theorem d23_16 : decode (zB 23) 16 = .ok (.iconst 0, 1) := by decide +kernel
theorem d23_17 : decode (zB 23) 17 = .ok (.ireturn, 1) := by decide +kernel
theorem d23_18 : decode (zB 23) 18 = .ok (.iconst 0, 1) := by decide +kernel
theorem d23_19 : decode (zB 23) 19 = .ok (.istore_n 2, 1) := by decide +kernel
theorem d23_20 : decode (zB 23) 20 = .ok (.iload_n 2, 1) := by decide +kernel
theorem d23_21 : decode (zB 23) 21 = .ok (.aload_n 1, 1) := by decide +kernel
theorem d23_22 : decode (zB 23) 22 = .ok (.invokevirtual 108, 3) := by decide +kernel
theorem d23_25 : decode (zB 23) 25 = .ok (.if_icmp .ge 43, 3) := by decide +kernel
theorem d23_28 : decode (zB 23) 28 = .ok (.aload_n 0, 1) := by decide +kernel
theorem d23_29 : decode (zB 23) 29 = .ok (.getfield 48, 3) := by decide +kernel
theorem d23_32 : decode (zB 23) 32 = .ok (.iload_n 2, 1) := by decide +kernel
theorem d23_33 : decode (zB 23) 33 = .ok (.iadd, 1) := by decide +kernel
theorem d23_34 : decode (zB 23) 34 = .ok (.aload_n 0, 1) := by decide +kernel
theorem d23_35 : decode (zB 23) 35 = .ok (.getfield 15, 3) := by decide +kernel
theorem d23_38 : decode (zB 23) 38 = .ok (.if_icmp .ge 22, 3) := by decide +kernel
theorem d23_41 : decode (zB 23) 41 = .ok (.aload_n 0, 1) := by decide +kernel
theorem d23_42 : decode (zB 23) 42 = .ok (.getfield 9, 3) := by decide +kernel
theorem d23_45 : decode (zB 23) 45 = .ok (.aload_n 0, 1) := by decide +kernel
theorem d23_46 : decode (zB 23) 46 = .ok (.getfield 48, 3) := by decide +kernel
theorem d23_49 : decode (zB 23) 49 = .ok (.iload_n 2, 1) := by decide +kernel
theorem d23_50 : decode (zB 23) 50 = .ok (.iadd, 1) := by decide +kernel
theorem d23_51 : decode (zB 23) 51 = .ok (.iaload, 1) := by decide +kernel
theorem d23_52 : decode (zB 23) 52 = .ok (.aload_n 1, 1) := by decide +kernel
theorem d23_53 : decode (zB 23) 53 = .ok (.iload_n 2, 1) := by decide +kernel
theorem d23_54 : decode (zB 23) 54 = .ok (.invokevirtual 113, 3) := by decide +kernel
theorem d23_57 : decode (zB 23) 57 = .ok (.if_icmp .eq 5, 3) := by decide +kernel
theorem d23_60 : decode (zB 23) 60 = .ok (.iconst 0, 1) := by decide +kernel
theorem d23_61 : decode (zB 23) 61 = .ok (.ireturn, 1) := by decide +kernel
theorem d23_62 : decode (zB 23) 62 = .ok (.iinc 2 1, 3) := by decide +kernel
theorem d23_65 : decode (zB 23) 65 = .ok (.goto (-45), 3) := by decide +kernel
theorem d23_68 : decode (zB 23) 68 = .ok (.iconst 1, 1) := by decide +kernel
theorem d23_69 : decode (zB 23) 69 = .ok (.ireturn, 1) := by decide +kernel
theorem l23 {d : Nat} {M : zM} {Q : Option Value → zM → Prop} {c n : Nat} {b : Nat → Nat} {K : yQ} {i : Nat} (hG : GR M c n b K) (hv : yQv n b K) (hi : i < 6) (k : Q (some (.int (bI (ywd b K.1.2.1 K.1.2.2 i)))) M) (he : K.1.2.2 - K.1.2.1 = (ywl i).length) : ∀ (r q : Nat), q ≤ (ywl i).length → (ywl i).length < q + r → (∀ p, p < q → b (K.1.2.1 + p) = (ywl i).getD p 0) → qW (zEv (d + 7)) 23 Q 20 [(0, .ref 17), (1, .ref (3 + i)), (2, .int (nI q))] [] M := by
  intro r
  induction r with
  | zero => intros; omega
  | succ r ih =>
    intro q  h1 h2 hb
    have h120 := hG.2.2.1.1
    have hk1 := hv.1.1.1
    have hk2 := hv.1.1.2.1
    have hwl := ywl_len i hi
    refine q_iload_n d23_20 rfl ?_
    refine q_aload_n d23_21 rfl ?_
    refine q_t0 d23_22 (Or.inl rfl) (Nat.le_of_ble_eq_true rfl) (c900 hi ?_)
    refine nc_ge 68 d23_25 (by decide) (by omega) (by omega) (fun h25 => ?_) (fun h25 => ?_)
    · refine q_iconstN (z := 1) d23_68 ?_
      refine q_zret d23_69 rfl (by decide) ?_
      exact bK1 k (ywd_t he (fun p hp => hb p (by omega)))
    · refine q_aload_n d23_28 rfl ?_
      refine q_getv (c := 3) (f := 4) d23_29 ⟨rfl, by decide⟩ hG.1.2.1.1 hG.2.2.2.1.2.1 ?_
      refine q_iload_n d23_32 rfl ?_
      refine n_iadd d23_33 ?_
      refine q_aload_n d23_34 rfl ?_
      refine q_getv (c := 3) (f := 1) d23_35 ⟨rfl, by decide⟩ hG.1.2.1.1 hG.2.2.1.2.1 ?_
      refine nc_ge 60 d23_38 (by decide) (by omega) (by omega) (fun h38 => (False.elim (by omega))) (fun h38 => ?_)
      have hbb := (hG.2.2.1.2.2 (K.1.2.1 + q) (by omega)).2
      have hww := hwl.2 q (by omega)
      refine q_aload_n d23_41 rfl ?_
      refine q_getr (c := 3) (f := 0) d23_42 ⟨rfl, rfl⟩ hG.1.2.1.1 hG.1.2.1.2.1 ?_
      refine q_aload_n d23_45 rfl ?_
      refine q_getv (c := 3) (f := 4) d23_46 ⟨rfl, by decide⟩ hG.1.2.1.1 hG.2.2.2.1.2.1 ?_
      refine q_iload_n d23_49 rfl ?_
      refine n_iadd d23_50 ?_
      refine n_iald d23_51 hG.1.2.1.2.2 (by omega) (by decide) (hG.2.2.1.2.2 _ (by omega)).1 ?_
      refine q_aload_n d23_52 rfl ?_
      refine q_iload_n d23_53 rfl ?_
      refine q_t1 d23_54 (Or.inr rfl) (Nat.le_of_ble_eq_true rfl) (c901 hi (by omega) ?_)
      refine nc_eq 62 d23_57 (by decide) (by omega) (by omega) (fun h57 => ?_) (fun h57 => ?_)
      · refine n_iinc 1 d23_62 (by decide) rfl rfl ?_
        refine q_goto 20 d23_65 (by decide) ?_
        refine qW_srt rfl rfl ?_
        exact ih (q + 1) (by omega) (by omega) (fun p hp => by by_cases e : p = q; (subst e; exact h57); exact hb p (by omega))
      · refine q_iconstN (z := 0) d23_60 ?_
        refine q_zret d23_61 rfl (by decide) ?_
        exact bK0 k (ywd_f2 (by omega) h57)
theorem c23 {d : Nat} {M : zM} {Q : Option Value → zM → Prop} {c n : Nat} {b : Nat → Nat} {K : yQ} {i : Nat} (hG : GR M c n b K) (hv : yQv n b K) (hi : i < 6) (k : Q (some (.int (bI (ywd b K.1.2.1 K.1.2.2 i)))) M) : qC (d + 8) 23 [.ref 17, .ref (3 + i)] M Q := by
  have h120 := hG.2.2.1.1
  have hk1 := hv.1.1.1
  have hk2 := hv.1.1.2.1
  have hwl := ywl_len i hi
  refine qC_of (by decide) (Nat.le_of_ble_eq_true rfl) ?_
  refine q_aload_n d23_0 rfl ?_
  refine q_getv (c := 3) (f := 2) d23_1 ⟨rfl, by decide⟩ hG.1.2.1.1 hG.2.2.2.1.2.2 ?_
  refine q_aload_n d23_4 rfl ?_
  refine q_getv (c := 3) (f := 4) d23_5 ⟨rfl, by decide⟩ hG.1.2.1.1 hG.2.2.2.1.2.1 ?_
  refine n_isub d23_8 (by omega) ?_
  refine q_aload_n d23_9 rfl ?_
  refine q_t0 d23_10 (Or.inl rfl) (Nat.le_of_ble_eq_true rfl) (c900 hi ?_)
  refine nc_eq 18 d23_13 (by decide) (by omega) (by omega) (fun h13 => ?_) (fun h13 => ?_)
  · refine q_iconstN (z := 0) d23_18 ?_
    refine q_istore_n d23_19 (by decide) rfl ?_
    refine qW_srt rfl rfl ?_
    exact l23 hG hv hi k h13 ((ywl i).length + 1) 0 (by omega) (by omega) (fun p hp => absurd hp (by omega))
  · refine q_iconstN (z := 0) d23_16 ?_
    refine q_zret d23_17 rfl (by decide) ?_
    exact bK0 k (ywd_f1 h13)
theorem d21_0 : decode (zB 21) 0 = .ok (.iconst 0, 1) := by decide +kernel
theorem d21_1 : decode (zB 21) 1 = .ok (.istore_n 1, 1) := by decide +kernel
theorem d21_2 : decode (zB 21) 2 = .ok (.iload_n 1, 1) := by decide +kernel
theorem d21_3 : decode (zB 21) 3 = .ok (.bipush 6, 2) := by decide +kernel
theorem d21_5 : decode (zB 21) 5 = .ok (.if_icmp .ge 22, 3) := by decide +kernel
theorem d21_8 : decode (zB 21) 8 = .ok (.aload_n 0, 1) := by decide +kernel
theorem d21_9 : decode (zB 21) 9 = .ok (.iload_n 1, 1) := by decide +kernel
theorem d21_10 : decode (zB 21) 10 = .ok (.invokestatic 100, 3) := by decide +kernel
theorem d21_13 : decode (zB 21) 13 = .ok (.invokevirtual 104, 3) := by decide +kernel
theorem d21_16 : decode (zB 21) 16 = .ok (.ifCond .eq 5, 3) := by decide +kernel
theorem d21_19 : decode (zB 21) 19 = .ok (.iload_n 1, 1) := by decide +kernel
theorem d21_20 : decode (zB 21) 20 = .ok (.ireturn, 1) := by decide +kernel
theorem d21_21 : decode (zB 21) 21 = .ok (.iinc 1 1, 3) := by decide +kernel
theorem d21_24 : decode (zB 21) 24 = .ok (.goto (-22), 3) := by decide +kernel
theorem d21_27 : decode (zB 21) 27 = .ok (.iconst (-1), 1) := by decide +kernel
theorem d21_28 : decode (zB 21) 28 = .ok (.ireturn, 1) := by decide +kernel
theorem l21 {d : Nat} {M : zM} {Q : Option Value → zM → Prop} {c n : Nat} {b : Nat → Nat} {K : yQ} (hG : GR M c n b K) (hv : yQv n b K) (k : Q (some (.int (ykv (ykw b K.1.2.1 K.1.2.2)))) M) : ∀ (r i : Nat), i ≤ 6 → 6 < i + r → ykr b K.1.2.1 K.1.2.2 (6 - i) i = ykw b K.1.2.1 K.1.2.2 → qW (zEv (d + 8)) 21 Q 2 [(0, .ref 17), (1, .int (nI i))] [] M := by
  intro r
  induction r with
  | zero => intros; omega
  | succ r ih =>
    intro i  h1 h2 hb
    refine q_iload_n d21_2 rfl ?_
    refine q_bipush (x := nI 6) d21_3 rfl ?_
    refine nc_ge 27 d21_5 (by decide) (by omega) (by omega) (fun h5 => ?_) (fun h5 => ?_)
    · refine q_iconst (x := (-1)) d21_27 rfl ?_
      refine q_iret d21_28 rfl ?_
      refine nK k ?_; rw [show 6 - i = 0 by omega, show i = 6 by omega] at hb; rw [← hb]; rfl
    · refine q_aload_n d21_8 rfl ?_
      refine q_iload_n d21_9 rfl ?_
      refine q_s1 d21_10 (Or.inl rfl) rfl (Nat.le_of_ble_eq_true rfl) (c22 (by omega) ?_)
      refine q_v1 d21_13 rfl rfl hG.1.2.1.1 (Nat.le_of_ble_eq_true rfl) (c23 hG hv (by omega) ?_)
      refine b0_eq 21 d21_16 (by decide) (fun h16 => ?_) (fun h16 => ?_)
      · refine n_iinc 1 d21_21 (by decide) rfl rfl ?_
        refine q_goto 2 d21_24 (by decide) ?_
        refine qW_srt rfl rfl ?_
        exact ih (i + 1) (by omega) (by omega) (by rw [show 6 - i = (6 - (i + 1)) + 1 by omega, ykr, h16, if_neg (by decide)] at hb; exact hb)
      · refine q_iload_n d21_19 rfl ?_
        refine q_iret d21_20 rfl ?_
        refine nK k ?_; rw [show 6 - i = (6 - (i + 1)) + 1 by omega, ykr, if_pos h16] at hb; rw [← hb]; exact (if_pos (by omega)).symm
theorem c21 {d : Nat} {M : zM} {Q : Option Value → zM → Prop} {c n : Nat} {b : Nat → Nat} {K : yQ} (hG : GR M c n b K) (hv : yQv n b K) (k : Q (some (.int (ykv (ykw b K.1.2.1 K.1.2.2)))) M) : qC (d + 9) 21 [.ref 17] M Q := by
  refine qC_of (by decide) (Nat.le_of_ble_eq_true rfl) ?_
  refine q_iconstN (z := 0) d21_0 ?_
  refine q_istore_n d21_1 (by decide) rfl ?_
  refine qW_srt rfl rfl ?_
  exact l21 hG hv k 7 0 (by omega) (by omega) rfl
theorem d25_0 : decode (zB 25) 0 = .ok (.aload_n 0, 1) := by decide +kernel
theorem d25_1 : decode (zB 25) 1 = .ok (.getfield 31, 3) := by decide +kernel
theorem d25_4 : decode (zB 25) 4 = .ok (.iconst (-1), 1) := by decide +kernel
theorem d25_5 : decode (zB 25) 5 = .ok (.if_icmp .ne 24, 3) := by decide +kernel
theorem d25_8 : decode (zB 25) 8 = .ok (.aload_n 0, 1) := by decide +kernel
theorem d25_9 : decode (zB 25) 9 = .ok (.getfield 41, 3) := by decide +kernel
theorem d25_12 : decode (zB 25) 12 = .ok (.iconst 1, 1) := by decide +kernel
theorem d25_13 : decode (zB 25) 13 = .ok (.if_icmp .ne 16, 3) := by decide +kernel
theorem d25_16 : decode (zB 25) 16 = .ok (.aload_n 0, 1) := by decide +kernel
theorem d25_17 : decode (zB 25) 17 = .ok (.getfield 28, 3) := by decide +kernel
theorem d25_20 : decode (zB 25) 20 = .ok (.aload_n 0, 1) := by decide +kernel
theorem d25_21 : decode (zB 25) 21 = .ok (.getfield 48, 3) := by decide +kernel
theorem d25_24 : decode (zB 25) 24 = .ok (.isub, 1) := by decide +kernel
theorem d25_25 : decode (zB 25) 25 = .ok (.iconst 1, 1) := by decide +kernel
theorem d25_26 : decode (zB 25) 26 = .ok (.if_icmp .eq 9, 3) := by decide +kernel
theorem d25_29 : decode (zB 25) 29 = .ok (.aload_n 0, 1) := by decide +kernel
theorem d25_30 : decode (zB 25) 30 = .ok (.invokevirtual 44, 3) := by decide +kernel
theorem d25_33 : decode (zB 25) 33 = .ok (.iconst (-1), 1) := by decide +kernel
theorem d25_34 : decode (zB 25) 34 = .ok (.ireturn, 1) := by decide +kernel
theorem d25_35 : decode (zB 25) 35 = .ok (.aload_n 0, 1) := by decide +kernel
theorem d25_36 : decode (zB 25) 36 = .ok (.getfield 9, 3) := by decide +kernel
theorem d25_39 : decode (zB 25) 39 = .ok (.aload_n 0, 1) := by decide +kernel
theorem d25_40 : decode (zB 25) 40 = .ok (.getfield 48, 3) := by decide +kernel
theorem d25_43 : decode (zB 25) 43 = .ok (.iaload, 1) := by decide +kernel
theorem d25_44 : decode (zB 25) 44 = .ok (.bipush 97, 2) := by decide +kernel
theorem d25_46 : decode (zB 25) 46 = .ok (.isub, 1) := by decide +kernel
theorem d25_47 : decode (zB 25) 47 = .ok (.istore_n 1, 1) := by decide +kernel
theorem d25_48 : decode (zB 25) 48 = .ok (.iload_n 1, 1) := by decide +kernel
theorem d25_49 : decode (zB 25) 49 = .ok (.invokestatic 97, 3) := by decide +kernel
theorem d25_52 : decode (zB 25) 52 = .ok (.ifCond .ne 9, 3) := by decide +kernel
theorem d25_55 : decode (zB 25) 55 = .ok (.aload_n 0, 1) := by decide +kernel
theorem d25_56 : decode (zB 25) 56 = .ok (.invokevirtual 44, 3) := by decide +kernel
theorem d25_59 : decode (zB 25) 59 = .ok (.iconst (-1), 1) := by decide +kernel
theorem d25_60 : decode (zB 25) 60 = .ok (.ireturn, 1) := by decide +kernel
theorem d25_61 : decode (zB 25) 61 = .ok (.aload_n 0, 1) := by decide +kernel
theorem d25_62 : decode (zB 25) 62 = .ok (.invokevirtual 34, 3) := by decide +kernel
theorem d25_65 : decode (zB 25) 65 = .ok (.iload_n 1, 1) := by decide +kernel
theorem d25_66 : decode (zB 25) 66 = .ok (.ireturn, 1) := by decide +kernel
theorem zix_no {x n : Nat} (h : ¬ x < n ∧ x < 2147483648) : zix (nI x) n = none := by
  unfold zix
  rw [nI_toInt h.2]
  exact if_neg (by omega)
theorem c25 {d : Nat} {M : zM} {Q : Option Value → zM → Prop} {c n : Nat} {b : Nat → Nat} {K : yQ} (hG : GR M c n b K) (hv : yQv n b K) (k : ∀ a k1 M', pAc n b K.1 = .ok (a, k1) → GR M' c n b (k1, K.2) → Fi (FG c) M M' → Q (some (.int (nI a))) M') (kb : ∀ M', pAc n b K.1 = .error K.1.2.1 → BR M' c n b K.1.2.1 → Fi (FG c) M M' → Q (some (.int (-1))) M') : qC (d + 3) 25 [.ref 17] M Q := by
  refine qC_of (by decide) (Nat.le_of_ble_eq_true rfl) ?_
  have h120 := hG.2.2.1.1
  have hk1 := hv.1.1.1
  have hk2 := hv.1.1.2.1
  have hk3 := hv.1.1.2.2.1
  by_cases h102 : b K.1.2.1 ≤ 102
  · skip
    refine q_aload_n d25_0 rfl ?_
    refine q_getv (c := 3) (f := 5) d25_1 ⟨rfl, by decide⟩ hG.1.2.1.1 hG.2.2.2.2.1 ?_
    refine q_iconst (x := (-1)) d25_4 rfl ?_
    refine ic_ne 29 d25_5 (by decide) (fun h5 => (False.elim (h5 rfl))) (fun h5 => ?_)
    refine q_aload_n d25_8 rfl ?_
    refine q_getv (c := 3) (f := 3) d25_9 ⟨rfl, by decide⟩ hG.1.2.1.1 hG.2.2.2.1.1 ?_
    refine q_iconstN (z := 1) d25_12 ?_
    refine nc_ne 29 d25_13 (by decide) (by omega) (by omega) (fun h13 => ?_) (fun h13 => ?_)
    · refine q_aload_n d25_29 rfl ?_
      refine q_v0 d25_30 rfl rfl hG.1.2.1.1 (Nat.le_of_ble_eq_true rfl) (c24 hG hv (fun M1 hB f1 => ?_))
      refine q_iconst (x := (-1)) d25_33 rfl ?_
      refine q_iret d25_34 rfl ?_
      exact kb _ (if_neg (fun q => by omega)) hB f1
    · refine q_aload_n d25_16 rfl ?_
      refine q_getv (c := 3) (f := 2) d25_17 ⟨rfl, by decide⟩ hG.1.2.1.1 hG.2.2.2.1.2.2 ?_
      refine q_aload_n d25_20 rfl ?_
      refine q_getv (c := 3) (f := 4) d25_21 ⟨rfl, by decide⟩ hG.1.2.1.1 hG.2.2.2.1.2.1 ?_
      refine n_isub d25_24 (by omega) ?_
      refine q_iconstN (z := 1) d25_25 ?_
      refine nc_eq 35 d25_26 (by decide) (by omega) (by omega) (fun h26 => ?_) (fun h26 => ?_)
      · have hl := hv.1.2.1 (by omega)
        have hbb := (hG.2.2.1.2.2 K.1.2.1 (by omega)).2
        refine q_aload_n d25_35 rfl ?_
        refine q_getr (c := 3) (f := 0) d25_36 ⟨rfl, rfl⟩ hG.1.2.1.1 hG.1.2.1.2.1 ?_
        refine q_aload_n d25_39 rfl ?_
        refine q_getv (c := 3) (f := 4) d25_40 ⟨rfl, by decide⟩ hG.1.2.1.1 hG.2.2.2.1.2.1 ?_
        refine n_iald d25_43 hG.1.2.1.2.2 (by omega) (by decide) (hG.2.2.1.2.2 _ (by omega)).1 ?_
        refine q_bipush (x := nI 97) d25_44 rfl ?_
        refine n_isub d25_46 (by omega) ?_
        refine q_istore_n d25_47 (by decide) rfl ?_
        refine q_iload_n d25_48 rfl ?_
        refine q_s1 d25_49 (Or.inr rfl) rfl (Nat.le_of_ble_eq_true rfl) (c26t (by omega) ?_)
        refine n0_ne 61 d25_52 (by decide) (by decide) (fun _ => ?_) (fun q => absurd q (by decide))
        refine q_aload_n d25_61 rfl ?_
        refine q_v0 d25_62 rfl rfl hG.1.2.1.1 (Nat.le_of_ble_eq_true rfl) (c16 hG.1.2.1 hG.2.2.1 hG.2.2.2.1.2.2 (by omega) (fun M1 hk f1 => ?_))
        refine q_iload_n d25_65 rfl ?_
        refine q_iret d25_66 rfl ?_
        exact k _ _ _ (if_pos ⟨by omega, by omega, by omega⟩) (hG.ad hk f1) (f1.mono FK_G)
      · refine q_aload_n d25_29 rfl ?_
        refine q_v0 d25_30 rfl rfl hG.1.2.1.1 (Nat.le_of_ble_eq_true rfl) (c24 hG hv (fun M1 hB f1 => ?_))
        refine q_iconst (x := (-1)) d25_33 rfl ?_
        refine q_iret d25_34 rfl ?_
        exact kb _ (if_neg (fun q => by omega)) hB f1
  · skip
    refine q_aload_n d25_0 rfl ?_
    refine q_getv (c := 3) (f := 5) d25_1 ⟨rfl, by decide⟩ hG.1.2.1.1 hG.2.2.2.2.1 ?_
    refine q_iconst (x := (-1)) d25_4 rfl ?_
    refine ic_ne 29 d25_5 (by decide) (fun h5 => (False.elim (h5 rfl))) (fun h5 => ?_)
    refine q_aload_n d25_8 rfl ?_
    refine q_getv (c := 3) (f := 3) d25_9 ⟨rfl, by decide⟩ hG.1.2.1.1 hG.2.2.2.1.1 ?_
    refine q_iconstN (z := 1) d25_12 ?_
    refine nc_ne 29 d25_13 (by decide) (by omega) (by omega) (fun h13 => ?_) (fun h13 => ?_)
    · refine q_aload_n d25_29 rfl ?_
      refine q_v0 d25_30 rfl rfl hG.1.2.1.1 (Nat.le_of_ble_eq_true rfl) (c24 hG hv (fun M1 hB f1 => ?_))
      refine q_iconst (x := (-1)) d25_33 rfl ?_
      refine q_iret d25_34 rfl ?_
      exact kb _ (if_neg (fun q => by omega)) hB f1
    · refine q_aload_n d25_16 rfl ?_
      refine q_getv (c := 3) (f := 2) d25_17 ⟨rfl, by decide⟩ hG.1.2.1.1 hG.2.2.2.1.2.2 ?_
      refine q_aload_n d25_20 rfl ?_
      refine q_getv (c := 3) (f := 4) d25_21 ⟨rfl, by decide⟩ hG.1.2.1.1 hG.2.2.2.1.2.1 ?_
      refine n_isub d25_24 (by omega) ?_
      refine q_iconstN (z := 1) d25_25 ?_
      refine nc_eq 35 d25_26 (by decide) (by omega) (by omega) (fun h26 => ?_) (fun h26 => ?_)
      · have hl := hv.1.2.1 (by omega)
        have hbb := (hG.2.2.1.2.2 K.1.2.1 (by omega)).2
        refine q_aload_n d25_35 rfl ?_
        refine q_getr (c := 3) (f := 0) d25_36 ⟨rfl, rfl⟩ hG.1.2.1.1 hG.1.2.1.2.1 ?_
        refine q_aload_n d25_39 rfl ?_
        refine q_getv (c := 3) (f := 4) d25_40 ⟨rfl, by decide⟩ hG.1.2.1.1 hG.2.2.2.1.2.1 ?_
        refine n_iald d25_43 hG.1.2.1.2.2 (by omega) (by decide) (hG.2.2.1.2.2 _ (by omega)).1 ?_
        refine q_bipush (x := nI 97) d25_44 rfl ?_
        refine n_isub d25_46 (by omega) ?_
        refine q_istore_n d25_47 (by decide) rfl ?_
        refine q_iload_n d25_48 rfl ?_
        refine q_s1 d25_49 (Or.inr rfl) rfl (Nat.le_of_ble_eq_true rfl) (c26f (zix_no (by omega)) ?_)
        refine n0_ne 61 d25_52 (by decide) (by decide) (fun q => absurd q (by decide)) (fun _ => ?_)
        refine q_aload_n d25_55 rfl ?_
        refine q_v0 d25_56 rfl rfl hG.1.2.1.1 (Nat.le_of_ble_eq_true rfl) (c24 hG hv (fun M1 hB f1 => ?_))
        refine q_iconst (x := (-1)) d25_59 rfl ?_
        refine q_iret d25_60 rfl ?_
        exact kb _ (if_neg (fun q => by omega)) hB f1
      · refine q_aload_n d25_29 rfl ?_
        refine q_v0 d25_30 rfl rfl hG.1.2.1.1 (Nat.le_of_ble_eq_true rfl) (c24 hG hv (fun M1 hB f1 => ?_))
        refine q_iconst (x := (-1)) d25_33 rfl ?_
        refine q_iret d25_34 rfl ?_
        exact kb _ (if_neg (fun q => by omega)) hB f1
theorem c25f {d : Nat} {M : zM} {Q : Option Value → zM → Prop} {c n f : Nat} {b : Nat → Nat} (hB : BR M c n b f) (hf : f ≤ 120) (k : Q (some (.int (-1))) M) : qC (d + 3) 25 [.ref 17] M Q := by
  refine qC_of (by decide) (Nat.le_of_ble_eq_true rfl) ?_
  refine q_aload_n d25_0 rfl ?_
  refine q_getv (c := 3) (f := 5) d25_1 ⟨rfl, by decide⟩ hB.1.2.1.1 hB.2.2.2.1 ?_
  refine q_iconst (x := (-1)) d25_4 rfl ?_
  refine ic_ne 29 d25_5 (by decide) (fun h5 => ?_) (fun h5 => (False.elim (nI_m1 (by omega) h5)))
  refine q_aload_n d25_29 rfl ?_
  refine q_v0 d25_30 rfl rfl hB.1.2.1.1 (Nat.le_of_ble_eq_true rfl) (c24f hB hf ?_)
  refine q_iconst (x := (-1)) d25_33 rfl ?_
  refine q_iret d25_34 rfl ?_
  exact k
theorem d28_0 : decode (zB 28) 0 = .ok (.aload_n 0, 1) := by decide +kernel
theorem d28_1 : decode (zB 28) 1 = .ok (.getfield 31, 3) := by decide +kernel
theorem d28_4 : decode (zB 28) 4 = .ok (.iconst (-1), 1) := by decide +kernel
theorem d28_5 : decode (zB 28) 5 = .ok (.if_icmp .ne 11, 3) := by decide +kernel
theorem d28_8 : decode (zB 28) 8 = .ok (.aload_n 0, 1) := by decide +kernel
theorem d28_9 : decode (zB 28) 9 = .ok (.getfield 41, 3) := by decide +kernel
theorem d28_12 : decode (zB 28) 12 = .ok (.iconst 2, 1) := by decide +kernel
theorem d28_13 : decode (zB 28) 13 = .ok (.if_icmp .eq 9, 3) := by decide +kernel
theorem d28_16 : decode (zB 28) 16 = .ok (.aload_n 0, 1) := by decide +kernel
theorem d28_17 : decode (zB 28) 17 = .ok (.invokevirtual 44, 3) := by decide +kernel
theorem d28_20 : decode (zB 28) 20 = .ok (.iconst (-1), 1) := by decide +kernel
theorem d28_21 : decode (zB 28) 21 = .ok (.ireturn, 1) := by decide +kernel
theorem d28_22 : decode (zB 28) 22 = .ok (.iconst 0, 1) := by decide +kernel
theorem d28_23 : decode (zB 28) 23 = .ok (.istore_n 1, 1) := by decide +kernel
theorem d28_24 : decode (zB 28) 24 = .ok (.aload_n 0, 1) := by decide +kernel
theorem d28_25 : decode (zB 28) 25 = .ok (.getfield 48, 3) := by decide +kernel
theorem d28_28 : decode (zB 28) 28 = .ok (.istore_n 2, 1) := by decide +kernel
theorem d28_29 : decode (zB 28) 29 = .ok (.iload_n 2, 1) := by decide +kernel
theorem d28_30 : decode (zB 28) 30 = .ok (.aload_n 0, 1) := by decide +kernel
theorem d28_31 : decode (zB 28) 31 = .ok (.getfield 28, 3) := by decide +kernel
theorem d28_34 : decode (zB 28) 34 = .ok (.if_icmp .ge 24, 3) := by decide +kernel
theorem d28_37 : decode (zB 28) 37 = .ok (.iload_n 1, 1) := by decide +kernel
theorem d28_38 : decode (zB 28) 38 = .ok (.bipush 10, 2) := by decide +kernel
theorem d28_40 : decode (zB 28) 40 = .ok (.imul, 1) := by decide +kernel
theorem d28_41 : decode (zB 28) 41 = .ok (.aload_n 0, 1) := by decide +kernel
theorem d28_42 : decode (zB 28) 42 = .ok (.getfield 9, 3) := by decide +kernel
theorem d28_45 : decode (zB 28) 45 = .ok (.iload_n 2, 1) := by decide +kernel
theorem d28_46 : decode (zB 28) 46 = .ok (.iaload, 1) := by decide +kernel
theorem d28_47 : decode (zB 28) 47 = .ok (.iadd, 1) := by decide +kernel
theorem d28_48 : decode (zB 28) 48 = .ok (.bipush 48, 2) := by decide +kernel
theorem d28_50 : decode (zB 28) 50 = .ok (.isub, 1) := by decide +kernel
theorem d28_51 : decode (zB 28) 51 = .ok (.istore_n 1, 1) := by decide +kernel
theorem d28_52 : decode (zB 28) 52 = .ok (.iinc 2 1, 3) := by decide +kernel
theorem d28_55 : decode (zB 28) 55 = .ok (.goto (-26), 3) := by decide +kernel
theorem d28_58 : decode (zB 28) 58 = .ok (.aload_n 0, 1) := by decide +kernel
theorem d28_59 : decode (zB 28) 59 = .ok (.invokevirtual 34, 3) := by decide +kernel
theorem d28_62 : decode (zB 28) 62 = .ok (.iload_n 1, 1) := by decide +kernel
theorem d28_63 : decode (zB 28) 63 = .ok (.ireturn, 1) := by decide +kernel
theorem l28 {d : Nat} {M : zM} {Q : Option Value → zM → Prop} {c n : Nat} {b : Nat → Nat} {K : yQ} (hG : GR M c n b K) (hv : yQv n b K) (htk : K.1.1 = 2) (k : ∀ M', GR M' c n b (pAd n b K.1, K.2) → Fi (FG c) M M' → Q (some (.int (nI (ynd b K.1.2.1 (K.1.2.2 - K.1.2.1))))) M') : ∀ (r i : Nat) (v : Nat), i ≤ K.1.2.2 → K.1.2.2 < i + r → K.1.2.1 ≤ i → v = ynd b K.1.2.1 (i - K.1.2.1) → qW (zEv (d + 2)) 28 Q 29 [(0, .ref 17), (1, .int (nI v)), (2, .int (nI i))] [] M := by
  intro r
  induction r with
  | zero => intros; omega
  | succ r ih =>
    intro i v h1 h2 hi hvv
    have h120 := hG.2.2.1.1
    have hk1 := hv.1.1.1
    have hk2 := hv.1.1.2.1
    have hk3 := hv.1.1.2.2.1
    refine q_iload_n d28_29 rfl ?_
    refine q_aload_n d28_30 rfl ?_
    refine q_getv (c := 3) (f := 2) d28_31 ⟨rfl, by decide⟩ hG.1.2.1.1 hG.2.2.2.1.2.2 ?_
    refine nc_ge 58 d28_34 (by decide) (by omega) (by omega) (fun h34 => ?_) (fun h34 => ?_)
    · refine q_aload_n d28_58 rfl ?_
      refine q_v0 d28_59 rfl rfl hG.1.2.1.1 (Nat.le_of_ble_eq_true rfl) (c16 hG.1.2.1 hG.2.2.1 hG.2.2.2.1.2.2 (by omega) (fun M1 hk f1 => ?_))
      refine q_iload_n d28_62 rfl ?_
      refine q_iret d28_63 rfl ?_
      rw [hvv, show i = K.1.2.2 by omega]; exact k _ (hG.ad hk f1) (f1.mono FK_G)
    · have hdg := hv.1.2.2 htk
      have hd1 := hdg.2 i (by omega) (by omega)
      have hbb := (hG.2.2.1.2.2 i (by omega)).2
      refine q_iload_n d28_37 rfl ?_
      refine q_bipush (x := nI 10) d28_38 rfl ?_
      refine n_imul d28_40 ?_
      refine q_aload_n d28_41 rfl ?_
      refine q_getr (c := 3) (f := 0) d28_42 ⟨rfl, rfl⟩ hG.1.2.1.1 hG.1.2.1.2.1 ?_
      refine q_iload_n d28_45 rfl ?_
      refine n_iald d28_46 hG.1.2.1.2.2 (by omega) (by decide) (hG.2.2.1.2.2 _ (by omega)).1 ?_
      refine n_iadd d28_47 ?_
      refine q_bipush (x := nI 48) d28_48 rfl ?_
      refine n_isub d28_50 (by omega) ?_
      refine q_istore_n d28_51 (by decide) rfl ?_
      refine n_iinc 1 d28_52 (by decide) rfl rfl ?_
      refine q_goto 29 d28_55 (by decide) ?_
      refine qW_srt rfl rfl ?_
      refine ih (i + 1) _ (by omega) (by omega) (by omega) ?_
      rw [show i + 1 - K.1.2.1 = (i - K.1.2.1) + 1 by omega, ynd, show K.1.2.1 + (i - K.1.2.1) = i by omega, hvv]
theorem c28 {d : Nat} {M : zM} {Q : Option Value → zM → Prop} {c n : Nat} {b : Nat → Nat} {K : yQ} (hG : GR M c n b K) (hv : yQv n b K) (htk : K.1.1 = 2) (k : ∀ M', GR M' c n b (pAd n b K.1, K.2) → Fi (FG c) M M' → Q (some (.int (nI (ynd b K.1.2.1 (K.1.2.2 - K.1.2.1))))) M') : qC (d + 3) 28 [.ref 17] M Q := by
  have h120 := hG.2.2.1.1
  have hk1 := hv.1.1.1
  have hk2 := hv.1.1.2.1
  have hk3 := hv.1.1.2.2.1
  refine qC_of (by decide) (Nat.le_of_ble_eq_true rfl) ?_
  refine q_aload_n d28_0 rfl ?_
  refine q_getv (c := 3) (f := 5) d28_1 ⟨rfl, by decide⟩ hG.1.2.1.1 hG.2.2.2.2.1 ?_
  refine q_iconst (x := (-1)) d28_4 rfl ?_
  refine ic_ne 16 d28_5 (by decide) (fun h5 => (False.elim (h5 rfl))) (fun h5 => ?_)
  refine q_aload_n d28_8 rfl ?_
  refine q_getv (c := 3) (f := 3) d28_9 ⟨rfl, by decide⟩ hG.1.2.1.1 hG.2.2.2.1.1 ?_
  refine q_iconstN (z := 2) d28_12 ?_
  refine nc_eq 22 d28_13 (by decide) (by omega) (by omega) (fun h13 => ?_) (fun h13 => (False.elim (h13 htk)))
  refine q_iconstN (z := 0) d28_22 ?_
  refine q_istore_n d28_23 (by decide) rfl ?_
  refine q_aload_n d28_24 rfl ?_
  refine q_getv (c := 3) (f := 4) d28_25 ⟨rfl, by decide⟩ hG.1.2.1.1 hG.2.2.2.1.2.1 ?_
  refine q_istore_n d28_28 (by decide) rfl ?_
  refine qW_srt rfl rfl ?_
  exact l28 hG hv htk k (K.1.2.2 + 1) K.1.2.1 0 (by omega) (by omega) (by omega) (by rw [Nat.sub_self]; rfl)
theorem c28n {d : Nat} {M : zM} {Q : Option Value → zM → Prop} {c n : Nat} {b : Nat → Nat} {K : yQ} (hG : GR M c n b K) (hv : yQv n b K) (htk : ¬ K.1.1 = 2) (kb : ∀ M', BR M' c n b K.1.2.1 → Fi (FG c) M M' → Q (some (.int (-1))) M') : qC (d + 3) 28 [.ref 17] M Q := by
  have h120 := hG.2.2.1.1
  have hk1 := hv.1.1.1
  have hk2 := hv.1.1.2.1
  have hk3 := hv.1.1.2.2.1
  refine qC_of (by decide) (Nat.le_of_ble_eq_true rfl) ?_
  refine q_aload_n d28_0 rfl ?_
  refine q_getv (c := 3) (f := 5) d28_1 ⟨rfl, by decide⟩ hG.1.2.1.1 hG.2.2.2.2.1 ?_
  refine q_iconst (x := (-1)) d28_4 rfl ?_
  refine ic_ne 16 d28_5 (by decide) (fun h5 => (False.elim (h5 rfl))) (fun h5 => ?_)
  refine q_aload_n d28_8 rfl ?_
  refine q_getv (c := 3) (f := 3) d28_9 ⟨rfl, by decide⟩ hG.1.2.1.1 hG.2.2.2.1.1 ?_
  refine q_iconstN (z := 2) d28_12 ?_
  refine nc_eq 22 d28_13 (by decide) (by omega) (by omega) (fun h13 => (False.elim (htk h13))) (fun h13 => ?_)
  refine q_aload_n d28_16 rfl ?_
  refine q_v0 d28_17 rfl rfl hG.1.2.1.1 (Nat.le_of_ble_eq_true rfl) (c24 hG hv (fun M1 hB f1 => ?_))
  refine q_iconst (x := (-1)) d28_20 rfl ?_
  refine q_iret d28_21 rfl ?_
  exact kb _ hB f1
theorem c28f {d : Nat} {M : zM} {Q : Option Value → zM → Prop} {c n f : Nat} {b : Nat → Nat} (hB : BR M c n b f) (hf : f ≤ 120) (k : Q (some (.int (-1))) M) : qC (d + 3) 28 [.ref 17] M Q := by
  refine qC_of (by decide) (Nat.le_of_ble_eq_true rfl) ?_
  refine q_aload_n d28_0 rfl ?_
  refine q_getv (c := 3) (f := 5) d28_1 ⟨rfl, by decide⟩ hB.1.2.1.1 hB.2.2.2.1 ?_
  refine q_iconst (x := (-1)) d28_4 rfl ?_
  refine ic_ne 16 d28_5 (by decide) (fun h5 => ?_) (fun h5 => (False.elim (nI_m1 (by omega) h5)))
  refine q_aload_n d28_16 rfl ?_
  refine q_v0 d28_17 rfl rfl hB.1.2.1.1 (Nat.le_of_ble_eq_true rfl) (c24f hB hf ?_)
  refine q_iconst (x := (-1)) d28_20 rfl ?_
  refine q_iret d28_21 rfl ?_
  exact k
