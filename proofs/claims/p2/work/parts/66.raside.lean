/-! ===== the reference: laid aside, laid back ===== -/
/-! the rows of a saga's steps; what is laid aside -/
theorem xa_row {M : zM} (h : SX M) {a s : Nat} (ha : a < 7) (hs : s < 3) : zk M (178 + 4 * a + s) = (20, 12) := by
  rcases (by omega : a = 0 ∨ a = 1 ∨ a = 2 ∨ a = 3 ∨ a = 4 ∨ a = 5 ∨ a = 6) with e | e | e | e | e | e | e <;> subst e
  · exact xa_stands h hs
  · exact xa_when h hs
  · exact xa_by h hs
  · exact xa_fails h hs
  · exact xa_whys h hs
  · exact xa_plans h hs
  · exact xa_undoPlans h hs
theorem d156_0 : decode (zB 156) 0 = .ok (.iload_n 1, 1) := by decide +kernel
theorem d156_1 : decode (zB 156) 1 = .ok (.ifCond .ne 12, 3) := by decide +kernel
theorem d156_4 : decode (zB 156) 4 = .ok (.aload_n 0, 1) := by decide +kernel
theorem d156_5 : decode (zB 156) 5 = .ok (.getfield 42, 3) := by decide +kernel
theorem d156_8 : decode (zB 156) 8 = .ok (.iload_n 2, 1) := by decide +kernel
theorem d156_9 : decode (zB 156) 9 = .ok (.aaload, 1) := by decide +kernel
theorem d156_10 : decode (zB 156) 10 = .ok (.goto 79, 3) := by decide +kernel
theorem d156_13 : decode (zB 156) 13 = .ok (.iload_n 1, 1) := by decide +kernel
theorem d156_14 : decode (zB 156) 14 = .ok (.iconst 1, 1) := by decide +kernel
theorem d156_15 : decode (zB 156) 15 = .ok (.if_icmp .ne 12, 3) := by decide +kernel
theorem d156_18 : decode (zB 156) 18 = .ok (.aload_n 0, 1) := by decide +kernel
theorem d156_19 : decode (zB 156) 19 = .ok (.getfield 45, 3) := by decide +kernel
theorem d156_22 : decode (zB 156) 22 = .ok (.iload_n 2, 1) := by decide +kernel
theorem d156_23 : decode (zB 156) 23 = .ok (.aaload, 1) := by decide +kernel
theorem d156_24 : decode (zB 156) 24 = .ok (.goto 65, 3) := by decide +kernel
theorem d156_27 : decode (zB 156) 27 = .ok (.iload_n 1, 1) := by decide +kernel
theorem d156_28 : decode (zB 156) 28 = .ok (.iconst 2, 1) := by decide +kernel
theorem d156_29 : decode (zB 156) 29 = .ok (.if_icmp .ne 12, 3) := by decide +kernel
theorem d156_32 : decode (zB 156) 32 = .ok (.aload_n 0, 1) := by decide +kernel
theorem d156_33 : decode (zB 156) 33 = .ok (.getfield 48, 3) := by decide +kernel
theorem d156_36 : decode (zB 156) 36 = .ok (.iload_n 2, 1) := by decide +kernel
theorem d156_37 : decode (zB 156) 37 = .ok (.aaload, 1) := by decide +kernel
theorem d156_38 : decode (zB 156) 38 = .ok (.goto 51, 3) := by decide +kernel
theorem d156_41 : decode (zB 156) 41 = .ok (.iload_n 1, 1) := by decide +kernel
theorem d156_42 : decode (zB 156) 42 = .ok (.iconst 3, 1) := by decide +kernel
theorem d156_43 : decode (zB 156) 43 = .ok (.if_icmp .ne 12, 3) := by decide +kernel
theorem d156_46 : decode (zB 156) 46 = .ok (.aload_n 0, 1) := by decide +kernel
theorem d156_47 : decode (zB 156) 47 = .ok (.getfield 51, 3) := by decide +kernel
theorem d156_50 : decode (zB 156) 50 = .ok (.iload_n 2, 1) := by decide +kernel
theorem d156_51 : decode (zB 156) 51 = .ok (.aaload, 1) := by decide +kernel
theorem d156_52 : decode (zB 156) 52 = .ok (.goto 37, 3) := by decide +kernel
theorem d156_55 : decode (zB 156) 55 = .ok (.iload_n 1, 1) := by decide +kernel
theorem d156_56 : decode (zB 156) 56 = .ok (.iconst 4, 1) := by decide +kernel
theorem d156_57 : decode (zB 156) 57 = .ok (.if_icmp .ne 12, 3) := by decide +kernel
theorem d156_60 : decode (zB 156) 60 = .ok (.aload_n 0, 1) := by decide +kernel
theorem d156_61 : decode (zB 156) 61 = .ok (.getfield 54, 3) := by decide +kernel
theorem d156_64 : decode (zB 156) 64 = .ok (.iload_n 2, 1) := by decide +kernel
theorem d156_65 : decode (zB 156) 65 = .ok (.aaload, 1) := by decide +kernel
theorem d156_66 : decode (zB 156) 66 = .ok (.goto 23, 3) := by decide +kernel
theorem d156_69 : decode (zB 156) 69 = .ok (.iload_n 1, 1) := by decide +kernel
theorem d156_70 : decode (zB 156) 70 = .ok (.iconst 5, 1) := by decide +kernel
theorem d156_71 : decode (zB 156) 71 = .ok (.if_icmp .ne 12, 3) := by decide +kernel
theorem d156_74 : decode (zB 156) 74 = .ok (.aload_n 0, 1) := by decide +kernel
theorem d156_75 : decode (zB 156) 75 = .ok (.getfield 57, 3) := by decide +kernel
theorem d156_78 : decode (zB 156) 78 = .ok (.iload_n 2, 1) := by decide +kernel
theorem d156_79 : decode (zB 156) 79 = .ok (.aaload, 1) := by decide +kernel
theorem d156_80 : decode (zB 156) 80 = .ok (.goto 9, 3) := by decide +kernel
theorem d156_83 : decode (zB 156) 83 = .ok (.aload_n 0, 1) := by decide +kernel
theorem d156_84 : decode (zB 156) 84 = .ok (.getfield 60, 3) := by decide +kernel
theorem d156_87 : decode (zB 156) 87 = .ok (.iload_n 2, 1) := by decide +kernel
theorem d156_88 : decode (zB 156) 88 = .ok (.aaload, 1) := by decide +kernel
theorem d156_89 : decode (zB 156) 89 = .ok (.areturn, 1) := by decide +kernel
theorem c156 {d : Nat} {M : zM} {Q : Option Value → zM → Prop} {a s : Nat} (hX : SX M) (ha : a < 7) (hs : s < 3) (k : Q (some (.ref (178 + 4 * a + s))) M) : qC (d + 1) 156 [.ref 136, .int (nI a), .int (nI s)] M Q := by
  refine qC_of (by decide) (Nat.le_of_ble_eq_true rfl) ?_
  refine q_iload_n d156_0 rfl ?_
  refine n0_ne 13 d156_1 (by decide) (by omega) (fun h1 => ?_) (fun h1 => ?_)
  · refine q_iload_n d156_13 rfl ?_
    refine q_iconstN (z := 1) d156_14 ?_
    refine nc_ne 27 d156_15 (by decide) (by omega) (by omega) (fun h15 => ?_) (fun h15 => ?_)
    · refine q_iload_n d156_27 rfl ?_
      refine q_iconstN (z := 2) d156_28 ?_
      refine nc_ne 41 d156_29 (by decide) (by omega) (by omega) (fun h29 => ?_) (fun h29 => ?_)
      · refine q_iload_n d156_41 rfl ?_
        refine q_iconstN (z := 3) d156_42 ?_
        refine nc_ne 55 d156_43 (by decide) (by omega) (by omega) (fun h43 => ?_) (fun h43 => ?_)
        · refine q_iload_n d156_55 rfl ?_
          refine q_iconstN (z := 4) d156_56 ?_
          refine nc_ne 69 d156_57 (by decide) (by omega) (by omega) (fun h57 => ?_) (fun h57 => ?_)
          · refine q_iload_n d156_69 rfl ?_
            refine q_iconstN (z := 5) d156_70 ?_
            refine nc_ne 83 d156_71 (by decide) (by omega) (by omega) (fun h71 => ?_) (fun h71 => ?_)
            · refine q_aload_n d156_83 rfl ?_
              refine q_getr (c := 8) (f := 19) d156_84 ⟨rfl, rfl⟩ (xk_136 hX) (xf_undoPlans hX) ?_
              refine q_iload_n d156_87 rfl ?_
              refine n_aald d156_88 (xk_undoPlans hX) (by decide) (by omega) (by decide) (xr_undoPlans hX (by omega)) ?_
              refine q_aret (r := some _) d156_89 rfl ?_
              first
              | (have e : a = 0 := by omega
                 subst e
                 exact k)
              | (have e : a = 1 := by omega
                 subst e
                 exact k)
              | (have e : a = 2 := by omega
                 subst e
                 exact k)
              | (have e : a = 3 := by omega
                 subst e
                 exact k)
              | (have e : a = 4 := by omega
                 subst e
                 exact k)
              | (have e : a = 5 := by omega
                 subst e
                 exact k)
              | (have e : a = 6 := by omega
                 subst e
                 exact k)
            · refine q_aload_n d156_74 rfl ?_
              refine q_getr (c := 8) (f := 18) d156_75 ⟨rfl, rfl⟩ (xk_136 hX) (xf_plans hX) ?_
              refine q_iload_n d156_78 rfl ?_
              refine n_aald d156_79 (xk_plans hX) (by decide) (by omega) (by decide) (xr_plans hX (by omega)) ?_
              refine q_goto 89 d156_80 (by decide) ?_
              refine q_aret (r := some _) d156_89 rfl ?_
              first
              | (have e : a = 0 := by omega
                 subst e
                 exact k)
              | (have e : a = 1 := by omega
                 subst e
                 exact k)
              | (have e : a = 2 := by omega
                 subst e
                 exact k)
              | (have e : a = 3 := by omega
                 subst e
                 exact k)
              | (have e : a = 4 := by omega
                 subst e
                 exact k)
              | (have e : a = 5 := by omega
                 subst e
                 exact k)
              | (have e : a = 6 := by omega
                 subst e
                 exact k)
          · refine q_aload_n d156_60 rfl ?_
            refine q_getr (c := 8) (f := 17) d156_61 ⟨rfl, rfl⟩ (xk_136 hX) (xf_whys hX) ?_
            refine q_iload_n d156_64 rfl ?_
            refine n_aald d156_65 (xk_whys hX) (by decide) (by omega) (by decide) (xr_whys hX (by omega)) ?_
            refine q_goto 89 d156_66 (by decide) ?_
            refine q_aret (r := some _) d156_89 rfl ?_
            first
            | (have e : a = 0 := by omega
               subst e
               exact k)
            | (have e : a = 1 := by omega
               subst e
               exact k)
            | (have e : a = 2 := by omega
               subst e
               exact k)
            | (have e : a = 3 := by omega
               subst e
               exact k)
            | (have e : a = 4 := by omega
               subst e
               exact k)
            | (have e : a = 5 := by omega
               subst e
               exact k)
            | (have e : a = 6 := by omega
               subst e
               exact k)
        · refine q_aload_n d156_46 rfl ?_
          refine q_getr (c := 8) (f := 16) d156_47 ⟨rfl, rfl⟩ (xk_136 hX) (xf_fails hX) ?_
          refine q_iload_n d156_50 rfl ?_
          refine n_aald d156_51 (xk_fails hX) (by decide) (by omega) (by decide) (xr_fails hX (by omega)) ?_
          refine q_goto 89 d156_52 (by decide) ?_
          refine q_aret (r := some _) d156_89 rfl ?_
          first
          | (have e : a = 0 := by omega
             subst e
             exact k)
          | (have e : a = 1 := by omega
             subst e
             exact k)
          | (have e : a = 2 := by omega
             subst e
             exact k)
          | (have e : a = 3 := by omega
             subst e
             exact k)
          | (have e : a = 4 := by omega
             subst e
             exact k)
          | (have e : a = 5 := by omega
             subst e
             exact k)
          | (have e : a = 6 := by omega
             subst e
             exact k)
      · refine q_aload_n d156_32 rfl ?_
        refine q_getr (c := 8) (f := 15) d156_33 ⟨rfl, rfl⟩ (xk_136 hX) (xf_by hX) ?_
        refine q_iload_n d156_36 rfl ?_
        refine n_aald d156_37 (xk_by hX) (by decide) (by omega) (by decide) (xr_by hX (by omega)) ?_
        refine q_goto 89 d156_38 (by decide) ?_
        refine q_aret (r := some _) d156_89 rfl ?_
        first
        | (have e : a = 0 := by omega
           subst e
           exact k)
        | (have e : a = 1 := by omega
           subst e
           exact k)
        | (have e : a = 2 := by omega
           subst e
           exact k)
        | (have e : a = 3 := by omega
           subst e
           exact k)
        | (have e : a = 4 := by omega
           subst e
           exact k)
        | (have e : a = 5 := by omega
           subst e
           exact k)
        | (have e : a = 6 := by omega
           subst e
           exact k)
    · refine q_aload_n d156_18 rfl ?_
      refine q_getr (c := 8) (f := 14) d156_19 ⟨rfl, rfl⟩ (xk_136 hX) (xf_when hX) ?_
      refine q_iload_n d156_22 rfl ?_
      refine n_aald d156_23 (xk_when hX) (by decide) (by omega) (by decide) (xr_when hX (by omega)) ?_
      refine q_goto 89 d156_24 (by decide) ?_
      refine q_aret (r := some _) d156_89 rfl ?_
      first
      | (have e : a = 0 := by omega
         subst e
         exact k)
      | (have e : a = 1 := by omega
         subst e
         exact k)
      | (have e : a = 2 := by omega
         subst e
         exact k)
      | (have e : a = 3 := by omega
         subst e
         exact k)
      | (have e : a = 4 := by omega
         subst e
         exact k)
      | (have e : a = 5 := by omega
         subst e
         exact k)
      | (have e : a = 6 := by omega
         subst e
         exact k)
  · refine q_aload_n d156_4 rfl ?_
    refine q_getr (c := 8) (f := 13) d156_5 ⟨rfl, rfl⟩ (xk_136 hX) (xf_stands hX) ?_
    refine q_iload_n d156_8 rfl ?_
    refine n_aald d156_9 (xk_stands hX) (by decide) (by omega) (by decide) (xr_stands hX (by omega)) ?_
    refine q_goto 89 d156_10 (by decide) ?_
    refine q_aret (r := some _) d156_89 rfl ?_
    first
    | (have e : a = 0 := by omega
       subst e
       exact k)
    | (have e : a = 1 := by omega
       subst e
       exact k)
    | (have e : a = 2 := by omega
       subst e
       exact k)
    | (have e : a = 3 := by omega
       subst e
       exact k)
    | (have e : a = 4 := by omega
       subst e
       exact k)
    | (have e : a = 5 := by omega
       subst e
       exact k)
    | (have e : a = 6 := by omega
       subst e
       exact k)
/-- a level's cells -/
def FA (l : Nat) : Nat → Nat → Prop := fun b _ => b = 211 + l ∨ b = 216 + l ∨ b = 221 + l ∨ b = 226 + l ∨ (231 + 22 * l < b ∧ b < 253 + 22 * l)
/-- the world's cells -/
def FB : Nat → Nat → Prop := fun b k => (b = 136 ∧ (k = 9 ∨ k = 10 ∨ k = 20)) ∨ b = 174 ∨ b = 175 ∨ b = 176 ∨ (177 < b ∧ b < 205)
def HA (M0 M : zM) (l : Nat) : Prop := (∀ k, k < 6 → zi M (211 + l) k = zi M0 174 k) ∧ zi M (216 + l) 0 = zi M0 136 9 ∧ zi M (216 + l) 1 = zi M0 136 10 ∧ zi M (216 + l) 2 = zi M0 136 20 ∧ (∀ k, k < 3 → zi M (221 + l) k = zi M0 175 k) ∧ ∀ k, k < 3 → zi M (226 + l) k = zi M0 176 k
def RA (M0 M : zM) (l i j : Nat) : Prop := ∀ a s, a < 7 → s < 3 → (a < i ∨ (a = i ∧ s < j)) → ∀ k, k < 12 → zi M (232 + 22 * l + (3 * a + s)) k = zi M0 (178 + 4 * a + s) k
/-- what is laid aside -/
def KA (M0 M : zM) (l : Nat) : Prop := HA M0 M l ∧ ∀ a s, a < 7 → s < 3 → ∀ k, k < 12 → zi M (232 + 22 * l + (3 * a + s)) k = zi M0 (178 + 4 * a + s) k
def HB (M0 M : zM) : Prop := (∀ k, k < 6 → zi M 174 k = zi M0 174 k) ∧ zi M 136 9 = zi M0 136 9 ∧ zi M 136 10 = zi M0 136 10 ∧ zi M 136 20 = zi M0 136 20 ∧ (∀ k, k < 3 → zi M 175 k = zi M0 175 k) ∧ ∀ k, k < 3 → zi M 176 k = zi M0 176 k
def RB (M0 M : zM) (i j : Nat) : Prop := ∀ a s, a < 7 → s < 3 → (a < i ∨ (a = i ∧ s < j)) → ∀ k, k < 12 → zi M (178 + 4 * a + s) k = zi M0 (178 + 4 * a + s) k
/-- the world as it was -/
def KB (M0 M : zM) : Prop := HB M0 M ∧ ∀ a s, a < 7 → s < 3 → ∀ k, k < 12 → zi M (178 + 4 * a + s) k = zi M0 (178 + 4 * a + s) k
theorem KA.fi {M0 M M' : zM} {F : Nat → Nat → Prop} {l : Nat} (h : KA M0 M l) (f : Fi F M M') (hs : ∀ b k, FA l b k → ¬ F b k) : KA M0 M' l := by
  have e : ∀ b k, FA l b k → zi M' b k = zi M b k := fun b k q => f.1 b k (hs b k q)
  obtain ⟨⟨h1, h2, h3, h4, h5, h6⟩, h7⟩ := h
  refine ⟨⟨fun k hk => (e _ _ (by unfold FA; omega)).trans (h1 k hk), (e _ _ (by unfold FA; omega)).trans h2, (e _ _ (by unfold FA; omega)).trans h3, (e _ _ (by unfold FA; omega)).trans h4, fun k hk => (e _ _ (by unfold FA; omega)).trans (h5 k hk), fun k hk => (e _ _ (by unfold FA; omega)).trans (h6 k hk)⟩, fun a s ha hs k hk => (e _ _ (by unfold FA; omega)).trans (h7 a s ha hs k hk)⟩
theorem HA_cp {M0 M : zM} {l a0 b : Nat} (h : HA M0 M l) (hb : 231 + 22 * l < b ∧ l < 4) (hb2 : 231 < b) : HA M0 (zcp M a0 0 b 0 12) l := by
  obtain ⟨h1, h2, h3, h4, h5, h6⟩ := h
  exact ⟨fun k hk => (cp_n (by omega)).trans (h1 k hk), (cp_n (by omega)).trans h2, (cp_n (by omega)).trans h3, (cp_n (by omega)).trans h4, fun k hk => (cp_n (by omega)).trans (h5 k hk), fun k hk => (cp_n (by omega)).trans (h6 k hk)⟩
theorem RA_cp {M0 M : zM} {l i j : Nat} (h : RA M0 M l i j) (f : Fi (FA l) M0 M) (hl : l < 4) (hi : i < 7) (hj : j < 3) : RA M0 (zcp M (178 + 4 * i + j) 0 (232 + 22 * l + (3 * i + j)) 0 12) l i (j + 1) := by
  intro a s ha hs hq k hk
  by_cases e : a = i ∧ s = j
  · obtain ⟨rfl, rfl⟩ := e
    rw [cp_0 hk]
    exact f.1 _ _ (by unfold FA; omega)
  · rw [cp_n (by omega)]; exact h a s ha hs (by omega) k hk
theorem HB_cp {M0 M : zM} {a0 b : Nat} (h : HB M0 M) (hb : 177 < b) : HB M0 (zcp M a0 0 b 0 12) := by
  obtain ⟨h1, h2, h3, h4, h5, h6⟩ := h
  exact ⟨fun k hk => (cp_n (by omega)).trans (h1 k hk), (cp_n (by omega)).trans h2, (cp_n (by omega)).trans h3, (cp_n (by omega)).trans h4, fun k hk => (cp_n (by omega)).trans (h5 k hk), fun k hk => (cp_n (by omega)).trans (h6 k hk)⟩
theorem RB_cp {M0 M : zM} {l i j : Nat} (h : RB M0 M i j) (hK : KA M0 M l) (hi : i < 7) (hj : j < 3) : RB M0 (zcp M (232 + 22 * l + (3 * i + j)) 0 (178 + 4 * i + j) 0 12) i (j + 1) := by
  intro a s ha hs hq k hk
  by_cases e : a = i ∧ s = j
  · obtain ⟨rfl, rfl⟩ := e
    rw [cp_0 hk]; exact hK.2 _ _ ha hs k hk
  · rw [cp_n (by omega)]; exact h a s ha hs (by omega) k hk
theorem d155_0 : decode (zB 155) 0 = .ok (.aload_n 0, 1) := by decide +kernel
theorem d155_1 : decode (zB 155) 1 = .ok (.getfield 33, 3) := by decide +kernel
theorem d155_4 : decode (zB 155) 4 = .ok (.iconst 0, 1) := by decide +kernel
theorem d155_5 : decode (zB 155) 5 = .ok (.aload_n 0, 1) := by decide +kernel
theorem d155_6 : decode (zB 155) 6 = .ok (.getfield 83, 3) := by decide +kernel
theorem d155_9 : decode (zB 155) 9 = .ok (.iload_n 1, 1) := by decide +kernel
theorem d155_10 : decode (zB 155) 10 = .ok (.aaload, 1) := by decide +kernel
theorem d155_11 : decode (zB 155) 11 = .ok (.iconst 0, 1) := by decide +kernel
theorem d155_12 : decode (zB 155) 12 = .ok (.bipush 6, 2) := by decide +kernel
theorem d155_14 : decode (zB 155) 14 = .ok (.invokestatic 285, 3) := by decide +kernel
theorem d155_17 : decode (zB 155) 17 = .ok (.aload_n 0, 1) := by decide +kernel
theorem d155_18 : decode (zB 155) 18 = .ok (.getfield 86, 3) := by decide +kernel
theorem d155_21 : decode (zB 155) 21 = .ok (.iload_n 1, 1) := by decide +kernel
theorem d155_22 : decode (zB 155) 22 = .ok (.aaload, 1) := by decide +kernel
theorem d155_23 : decode (zB 155) 23 = .ok (.iconst 0, 1) := by decide +kernel
theorem d155_24 : decode (zB 155) 24 = .ok (.aload_n 0, 1) := by decide +kernel
theorem d155_25 : decode (zB 155) 25 = .ok (.getfield 276, 3) := by decide +kernel
theorem d155_28 : decode (zB 155) 28 = .ok (.iastore, 1) := by decide +kernel
theorem d155_29 : decode (zB 155) 29 = .ok (.aload_n 0, 1) := by decide +kernel
theorem d155_30 : decode (zB 155) 30 = .ok (.getfield 86, 3) := by decide +kernel
theorem d155_33 : decode (zB 155) 33 = .ok (.iload_n 1, 1) := by decide +kernel
theorem d155_34 : decode (zB 155) 34 = .ok (.aaload, 1) := by decide +kernel
theorem d155_35 : decode (zB 155) 35 = .ok (.iconst 1, 1) := by decide +kernel
theorem d155_36 : decode (zB 155) 36 = .ok (.aload_n 0, 1) := by decide +kernel
theorem d155_37 : decode (zB 155) 37 = .ok (.getfield 282, 3) := by decide +kernel
theorem d155_40 : decode (zB 155) 40 = .ok (.iastore, 1) := by decide +kernel
theorem d155_41 : decode (zB 155) 41 = .ok (.aload_n 0, 1) := by decide +kernel
theorem d155_42 : decode (zB 155) 42 = .ok (.getfield 86, 3) := by decide +kernel
theorem d155_45 : decode (zB 155) 45 = .ok (.iload_n 1, 1) := by decide +kernel
theorem d155_46 : decode (zB 155) 46 = .ok (.aaload, 1) := by decide +kernel
theorem d155_47 : decode (zB 155) 47 = .ok (.iconst 2, 1) := by decide +kernel
theorem d155_48 : decode (zB 155) 48 = .ok (.aload_n 0, 1) := by decide +kernel
theorem d155_49 : decode (zB 155) 49 = .ok (.getfield 291, 3) := by decide +kernel
theorem d155_52 : decode (zB 155) 52 = .ok (.iastore, 1) := by decide +kernel
theorem d155_53 : decode (zB 155) 53 = .ok (.aload_n 0, 1) := by decide +kernel
theorem d155_54 : decode (zB 155) 54 = .ok (.getfield 36, 3) := by decide +kernel
theorem d155_57 : decode (zB 155) 57 = .ok (.iconst 0, 1) := by decide +kernel
theorem d155_58 : decode (zB 155) 58 = .ok (.aload_n 0, 1) := by decide +kernel
theorem d155_59 : decode (zB 155) 59 = .ok (.getfield 89, 3) := by decide +kernel
theorem d155_62 : decode (zB 155) 62 = .ok (.iload_n 1, 1) := by decide +kernel
theorem d155_63 : decode (zB 155) 63 = .ok (.aaload, 1) := by decide +kernel
theorem d155_64 : decode (zB 155) 64 = .ok (.iconst 0, 1) := by decide +kernel
theorem d155_65 : decode (zB 155) 65 = .ok (.iconst 3, 1) := by decide +kernel
theorem d155_66 : decode (zB 155) 66 = .ok (.invokestatic 285, 3) := by decide +kernel
theorem d155_69 : decode (zB 155) 69 = .ok (.aload_n 0, 1) := by decide +kernel
theorem d155_70 : decode (zB 155) 70 = .ok (.getfield 39, 3) := by decide +kernel
theorem d155_73 : decode (zB 155) 73 = .ok (.iconst 0, 1) := by decide +kernel
theorem d155_74 : decode (zB 155) 74 = .ok (.aload_n 0, 1) := by decide +kernel
theorem d155_75 : decode (zB 155) 75 = .ok (.getfield 92, 3) := by decide +kernel
theorem d155_78 : decode (zB 155) 78 = .ok (.iload_n 1, 1) := by decide +kernel
theorem d155_79 : decode (zB 155) 79 = .ok (.aaload, 1) := by decide +kernel
theorem d155_80 : decode (zB 155) 80 = .ok (.iconst 0, 1) := by decide +kernel
theorem d155_81 : decode (zB 155) 81 = .ok (.iconst 3, 1) := by decide +kernel
theorem d155_82 : decode (zB 155) 82 = .ok (.invokestatic 285, 3) := by decide +kernel
theorem d155_85 : decode (zB 155) 85 = .ok (.iconst 0, 1) := by decide +kernel
theorem d155_86 : decode (zB 155) 86 = .ok (.istore_n 2, 1) := by decide +kernel
theorem d155_87 : decode (zB 155) 87 = .ok (.iload_n 2, 1) := by decide +kernel
theorem d155_88 : decode (zB 155) 88 = .ok (.bipush 7, 2) := by decide +kernel
theorem d155_90 : decode (zB 155) 90 = .ok (.if_icmp .ge 47, 3) := by decide +kernel
theorem d155_93 : decode (zB 155) 93 = .ok (.iconst 0, 1) := by decide +kernel
theorem d155_94 : decode (zB 155) 94 = .ok (.istore_n 3, 1) := by decide +kernel
theorem d155_95 : decode (zB 155) 95 = .ok (.iload_n 3, 1) := by decide +kernel
theorem d155_96 : decode (zB 155) 96 = .ok (.iconst 3, 1) := by decide +kernel
theorem d155_97 : decode (zB 155) 97 = .ok (.if_icmp .ge 34, 3) := by decide +kernel
theorem d155_100 : decode (zB 155) 100 = .ok (.aload_n 0, 1) := by decide +kernel
theorem d155_101 : decode (zB 155) 101 = .ok (.iload_n 2, 1) := by decide +kernel
theorem d155_102 : decode (zB 155) 102 = .ok (.iload_n 3, 1) := by decide +kernel
theorem d155_103 : decode (zB 155) 103 = .ok (.invokevirtual 294, 3) := by decide +kernel
theorem d155_106 : decode (zB 155) 106 = .ok (.iconst 0, 1) := by decide +kernel
theorem d155_107 : decode (zB 155) 107 = .ok (.aload_n 0, 1) := by decide +kernel
theorem d155_108 : decode (zB 155) 108 = .ok (.getfield 97, 3) := by decide +kernel
theorem d155_111 : decode (zB 155) 111 = .ok (.iload_n 1, 1) := by decide +kernel
theorem d155_112 : decode (zB 155) 112 = .ok (.aaload, 1) := by decide +kernel
theorem d155_113 : decode (zB 155) 113 = .ok (.iconst 3, 1) := by decide +kernel
theorem d155_114 : decode (zB 155) 114 = .ok (.iload_n 2, 1) := by decide +kernel
theorem d155_115 : decode (zB 155) 115 = .ok (.imul, 1) := by decide +kernel
theorem d155_116 : decode (zB 155) 116 = .ok (.iload_n 3, 1) := by decide +kernel
theorem d155_117 : decode (zB 155) 117 = .ok (.iadd, 1) := by decide +kernel
theorem d155_118 : decode (zB 155) 118 = .ok (.aaload, 1) := by decide +kernel
theorem d155_119 : decode (zB 155) 119 = .ok (.iconst 0, 1) := by decide +kernel
theorem d155_120 : decode (zB 155) 120 = .ok (.bipush 12, 2) := by decide +kernel
theorem d155_122 : decode (zB 155) 122 = .ok (.invokestatic 285, 3) := by decide +kernel
theorem d155_125 : decode (zB 155) 125 = .ok (.iinc 3 1, 3) := by decide +kernel
theorem d155_128 : decode (zB 155) 128 = .ok (.goto (-33), 3) := by decide +kernel
theorem d155_131 : decode (zB 155) 131 = .ok (.iinc 2 1, 3) := by decide +kernel
theorem d155_134 : decode (zB 155) 134 = .ok (.goto (-47), 3) := by decide +kernel
theorem d155_137 : decode (zB 155) 137 = .ok (.return_, 1) := by decide +kernel
theorem l155b {d : Nat} {Q : Option Value → zM → Prop} {M0 : zM} {l q : Nat} (hl : l < 4) (hq : q < 7) (k : ∀ M1, (SX M1 ∧ Fi (FA l) M0 M1 ∧ HA M0 M1 l ∧ RA M0 M1 l q 3) → qW (zEv (d + 1)) 155 Q 131 [(0, .ref 136), (1, .int (nI l)), (2, .int (nI q)), (3, .int (nI 3))] [] M1) : ∀ (r i : Nat) (M1 : zM), i ≤ 3 → 3 < i + r →  (SX M1 ∧ Fi (FA l) M0 M1 ∧ HA M0 M1 l ∧ RA M0 M1 l q i) → qW (zEv (d + 1)) 155 Q 95 [(0, .ref 136), (1, .int (nI l)), (2, .int (nI q)), (3, .int (nI i))] [] M1 := by
  intro r
  induction r with
  | zero => intros; omega
  | succ r ih =>
    intro i M1 h1 h2 hv
    have hX := hv.1
    refine q_iload_n d155_95 rfl ?_
    refine q_iconstN (z := 3) d155_96 ?_
    refine nc_ge 131 d155_97 (by decide) (by omega) (by omega) (fun h97 => ?_) (fun h97 => ?_)
    · refine qW_srt rfl rfl ?_
      have e3 : i = 3 := by omega
      rw [e3] at hv ⊢
      exact k _ hv
    · refine q_aload_n d155_100 rfl ?_
      refine q_iload_n d155_101 rfl ?_
      refine q_iload_n d155_102 rfl ?_
      refine q_v2 d155_103 rfl rfl (xk_136 hX) (Nat.le_of_ble_eq_true rfl) (c156 hX (by omega) (by omega) ?_)
      refine q_iconstN (z := 0) d155_106 ?_
      refine q_aload_n d155_107 rfl ?_
      refine q_getr (c := 8) (f := 44) d155_108 ⟨rfl, rfl⟩ (xk_136 hX) (xf_asideSteps hX) ?_
      refine q_iload_n d155_111 rfl ?_
      refine n_aald d155_112 (xk_asideSteps hX) (by decide) (by omega) (by decide) (xr_asideSteps hX (by omega)).1 ?_
      refine q_iconstN (z := 3) d155_113 ?_
      refine q_iload_n d155_114 rfl ?_
      refine n_imul d155_115 ?_
      refine q_iload_n d155_116 rfl ?_
      refine n_iadd d155_117 ?_
      refine n_aald d155_118 (xr_asideSteps hX (by omega)).2 (by decide) (by omega) (by decide) (xa_asideSteps hX (by omega) (by omega)).1 ?_
      refine q_iconstN (z := 0) d155_119 ?_
      refine q_bipush (x := nI 12) d155_120 rfl ?_
      refine n_copy d155_122 rfl (xa_row hX (by omega) (by omega)) (xa_asideSteps hX (by omega) (by omega)).2 (by decide) (by decide) (by omega) (by omega) (Nat.le_of_ble_eq_true rfl) ?_
      refine n_iinc 1 d155_125 (by decide) rfl rfl ?_
      refine q_goto 95 d155_128 (by decide) ?_
      refine qW_srt rfl rfl ?_
      exact ih (i + 1) _ (by omega) (by omega) (⟨SX_fi hX ((Fi.refl (FA l) _).cp (fun _ _ _ => by unfold FA; omega)), hv.2.1.cp (fun _ _ _ => by unfold FA; omega), HA_cp hv.2.2.1 (by omega) (by omega), RA_cp hv.2.2.2 hv.2.1 hl hq (by omega)⟩)
theorem l155 {d : Nat} {Q : Option Value → zM → Prop} {M0 : zM} {l : Nat} (hl : l < 4) (k : ∀ M', KA M0 M' l → Fi (FA l) M0 M' → Q none M') : ∀ (r i : Nat) (M1 : zM), i ≤ 7 → 7 < i + r →  (SX M1 ∧ Fi (FA l) M0 M1 ∧ HA M0 M1 l ∧ RA M0 M1 l i 0) → qW (zEv (d + 1)) 155 Q 87 [(0, .ref 136), (1, .int (nI l)), (2, .int (nI i)), (3, .int (nI 3))] [] M1 := by
  intro r
  induction r with
  | zero => intros; omega
  | succ r ih =>
    intro i M1 h1 h2 hv
    have hX := hv.1
    refine q_iload_n d155_87 rfl ?_
    refine q_bipush (x := nI 7) d155_88 rfl ?_
    refine nc_ge 137 d155_90 (by decide) (by omega) (by omega) (fun h90 => ?_) (fun h90 => ?_)
    · refine q_ret d155_137 rfl ?_
      exact k _ ⟨hv.2.2.1, fun a s ha hs k hk => hv.2.2.2 a s ha hs (by omega) k hk⟩ hv.2.1
    · refine q_iconstN (z := 0) d155_93 ?_
      refine q_istore_n d155_94 (by decide) rfl ?_
      refine qW_srt rfl rfl ?_
      exact l155b hl (by omega) (fun M2 hv2 => by
        refine n_iinc 1 d155_131 (by decide) rfl rfl ?_
        refine q_goto 87 d155_134 (by decide) ?_
        refine qW_srt rfl rfl ?_
        exact ih (i + 1) _ (by omega) (by omega) (⟨hv2.1, hv2.2.1, hv2.2.2.1, fun a s ha hs hq k hk => hv2.2.2.2 a s ha hs (by omega) k hk⟩)) 4 0 _ (by omega) (by omega) (hv)
/-- the world is laid aside -/
theorem c155 {d : Nat} {M : zM} {Q : Option Value → zM → Prop} {l : Nat} (hX : SX M) (hl : l < 4) (k : ∀ M', KA M M' l → Fi (FA l) M M' → Q none M') : qC (d + 2) 155 [.ref 136, .int (nI l)] M Q := by
  refine qC_of (by decide) (Nat.le_of_ble_eq_true rfl) ?_
  refine q_aload_n d155_0 rfl ?_
  refine q_getr (c := 8) (f := 8) d155_1 ⟨rfl, rfl⟩ (xk_136 hX) (xf_balances hX) ?_
  refine q_iconstN (z := 0) d155_4 ?_
  refine q_aload_n d155_5 rfl ?_
  refine q_getr (c := 8) (f := 40) d155_6 ⟨rfl, rfl⟩ (xk_136 hX) (xf_asideBalances hX) ?_
  refine q_iload_n d155_9 rfl ?_
  refine n_aald d155_10 (xk_asideBalances hX) (by decide) (by omega) (by decide) (xr_asideBalances hX (by omega)) ?_
  refine q_iconstN (z := 0) d155_11 ?_
  refine q_bipush (x := nI 6) d155_12 rfl ?_
  refine n_copy d155_14 rfl (xk_balances hX) (xa_asideBalances hX (by omega)) (by decide) (by decide) (by omega) (by omega) (Nat.le_of_ble_eq_true rfl) ?_
  refine q_aload_n d155_17 rfl ?_
  refine q_getr (c := 8) (f := 41) d155_18 ⟨rfl, rfl⟩ (xk_136 hX) (xf_asideNumbers hX) ?_
  refine q_iload_n d155_21 rfl ?_
  refine n_aald d155_22 (xk_asideNumbers hX) (by decide) (by omega) (by decide) (xr_asideNumbers hX (by omega)) ?_
  refine q_iconstN (z := 0) d155_23 ?_
  refine q_aload_n d155_24 rfl ?_
  refine q_getv (c := 8) (f := 9) d155_25 ⟨rfl, by decide⟩ (xk_136 hX) (Eq.trans (by (repeat (first | rw [wi_n (Or.inl (by omega))] | rw [wi_n (Or.inr (by omega))] | rw [wi_s] | rw [wr_i] | rw [cp_n (by omega)]))) (rfl : zi M 136 9 = zi M 136 9)) ?_
  refine n_iast d155_28 (xa_asideNumbers hX (by omega)) (by omega) (by decide) ?_
  refine q_aload_n d155_29 rfl ?_
  refine q_getr (c := 8) (f := 41) d155_30 ⟨rfl, rfl⟩ (xk_136 hX) (xf_asideNumbers hX) ?_
  refine q_iload_n d155_33 rfl ?_
  refine n_aald d155_34 (xk_asideNumbers hX) (by decide) (by omega) (by decide) (xr_asideNumbers hX (by omega)) ?_
  refine q_iconstN (z := 1) d155_35 ?_
  refine q_aload_n d155_36 rfl ?_
  refine q_getv (c := 8) (f := 10) d155_37 ⟨rfl, by decide⟩ (xk_136 hX) (Eq.trans (by (repeat (first | rw [wi_n (Or.inl (by omega))] | rw [wi_n (Or.inr (by omega))] | rw [wi_s] | rw [wr_i] | rw [cp_n (by omega)]))) (rfl : zi M 136 10 = zi M 136 10)) ?_
  refine n_iast d155_40 (xa_asideNumbers hX (by omega)) (by omega) (by decide) ?_
  refine q_aload_n d155_41 rfl ?_
  refine q_getr (c := 8) (f := 41) d155_42 ⟨rfl, rfl⟩ (xk_136 hX) (xf_asideNumbers hX) ?_
  refine q_iload_n d155_45 rfl ?_
  refine n_aald d155_46 (xk_asideNumbers hX) (by decide) (by omega) (by decide) (xr_asideNumbers hX (by omega)) ?_
  refine q_iconstN (z := 2) d155_47 ?_
  refine q_aload_n d155_48 rfl ?_
  refine q_getv (c := 8) (f := 20) d155_49 ⟨rfl, by decide⟩ (xk_136 hX) (Eq.trans (by (repeat (first | rw [wi_n (Or.inl (by omega))] | rw [wi_n (Or.inr (by omega))] | rw [wi_s] | rw [wr_i] | rw [cp_n (by omega)]))) (rfl : zi M 136 20 = zi M 136 20)) ?_
  refine n_iast d155_52 (xa_asideNumbers hX (by omega)) (by omega) (by decide) ?_
  refine q_aload_n d155_53 rfl ?_
  refine q_getr (c := 8) (f := 11) d155_54 ⟨rfl, rfl⟩ (xk_136 hX) (xf_states hX) ?_
  refine q_iconstN (z := 0) d155_57 ?_
  refine q_aload_n d155_58 rfl ?_
  refine q_getr (c := 8) (f := 42) d155_59 ⟨rfl, rfl⟩ (xk_136 hX) (xf_asideStates hX) ?_
  refine q_iload_n d155_62 rfl ?_
  refine n_aald d155_63 (xk_asideStates hX) (by decide) (by omega) (by decide) (xr_asideStates hX (by omega)) ?_
  refine q_iconstN (z := 0) d155_64 ?_
  refine q_iconstN (z := 3) d155_65 ?_
  refine n_copy d155_66 rfl (xk_states hX) (xa_asideStates hX (by omega)) (by decide) (by decide) (by omega) (by omega) (Nat.le_of_ble_eq_true rfl) ?_
  refine q_aload_n d155_69 rfl ?_
  refine q_getr (c := 8) (f := 12) d155_70 ⟨rfl, rfl⟩ (xk_136 hX) (xf_textOf hX) ?_
  refine q_iconstN (z := 0) d155_73 ?_
  refine q_aload_n d155_74 rfl ?_
  refine q_getr (c := 8) (f := 43) d155_75 ⟨rfl, rfl⟩ (xk_136 hX) (xf_asideTexts hX) ?_
  refine q_iload_n d155_78 rfl ?_
  refine n_aald d155_79 (xk_asideTexts hX) (by decide) (by omega) (by decide) (xr_asideTexts hX (by omega)) ?_
  refine q_iconstN (z := 0) d155_80 ?_
  refine q_iconstN (z := 3) d155_81 ?_
  refine n_copy d155_82 rfl (xk_textOf hX) (xa_asideTexts hX (by omega)) (by decide) (by decide) (by omega) (by omega) (Nat.le_of_ble_eq_true rfl) ?_
  refine q_iconstN (z := 0) d155_85 ?_
  refine q_istore_n d155_86 (by decide) rfl ?_
  refine q_iload_n d155_87 rfl ?_
  refine q_bipush (x := nI 7) d155_88 rfl ?_
  refine nc_ge 137 d155_90 (by decide) (by decide) (by decide) (fun q => absurd q (by decide)) (fun _ => ?_)
  refine q_iconstN (z := 0) d155_93 ?_
  refine q_istore_n d155_94 (by decide) rfl ?_
  refine qW_srt rfl rfl ?_
  have f : Fi (FA l) M _ := ((((((Fi.refl (FA l) M).cp (a0 := 174) (s := 0) (a := 211 + l) (d := 0) (n := 6) (fun _ _ _ => by unfold FA; omega)).wi (a := 216 + l) (k := 0) (v := zi M 136 9) (by unfold FA; omega)).wi (a := 216 + l) (k := 1) (v := zi M 136 10) (by unfold FA; omega)).wi (a := 216 + l) (k := 2) (v := zi M 136 20) (by unfold FA; omega)).cp (a0 := 175) (s := 0) (a := 221 + l) (d := 0) (n := 3) (fun _ _ _ => by unfold FA; omega)).cp (a0 := 176) (s := 0) (a := 226 + l) (d := 0) (n := 3) (fun _ _ _ => by unfold FA; omega)
  refine l155b hl (by omega) (fun M2 hv2 => by
    refine n_iinc 1 d155_131 (by decide) rfl rfl ?_
    refine q_goto 87 d155_134 (by decide) ?_
    refine qW_srt rfl rfl ?_
    exact l155 hl k 8 1 _ (by omega) (by omega) (⟨hv2.1, hv2.2.1, hv2.2.2.1, fun a s ha hs hq k hk => hv2.2.2.2 a s ha hs (by omega) k hk⟩)) 4 0 _ (by omega) (by omega) ⟨SX_fi hX f, f, ⟨fun k hk => ?_, ?_, ?_, ?_, fun k hk => ?_, fun k hk => ?_⟩, fun a s ha hs hq => by omega⟩
  · rw [cp_n (by omega), cp_n (by omega), wi_n (by omega), wi_n (by omega), wi_n (by omega), cp_0 hk]
  · rw [cp_n (by omega), cp_n (by omega), wi_n (by omega), wi_n (by omega), wi_s]
  · rw [cp_n (by omega), cp_n (by omega), wi_n (by omega), wi_s]
  · rw [cp_n (by omega), cp_n (by omega), wi_s]
  · rw [cp_n (by omega), cp_0 hk, wi_n (by omega), wi_n (by omega), wi_n (by omega), cp_n (by omega)]
  · rw [cp_0 hk, cp_n (by omega), wi_n (by omega), wi_n (by omega), wi_n (by omega), cp_n (by omega)]
theorem d162_0 : decode (zB 162) 0 = .ok (.aload_n 0, 1) := by decide +kernel
theorem d162_1 : decode (zB 162) 1 = .ok (.getfield 83, 3) := by decide +kernel
theorem d162_4 : decode (zB 162) 4 = .ok (.iload_n 1, 1) := by decide +kernel
theorem d162_5 : decode (zB 162) 5 = .ok (.aaload, 1) := by decide +kernel
theorem d162_6 : decode (zB 162) 6 = .ok (.iconst 0, 1) := by decide +kernel
theorem d162_7 : decode (zB 162) 7 = .ok (.aload_n 0, 1) := by decide +kernel
theorem d162_8 : decode (zB 162) 8 = .ok (.getfield 33, 3) := by decide +kernel
theorem d162_11 : decode (zB 162) 11 = .ok (.iconst 0, 1) := by decide +kernel
theorem d162_12 : decode (zB 162) 12 = .ok (.bipush 6, 2) := by decide +kernel
theorem d162_14 : decode (zB 162) 14 = .ok (.invokestatic 285, 3) := by decide +kernel
theorem d162_17 : decode (zB 162) 17 = .ok (.aload_n 0, 1) := by decide +kernel
theorem d162_18 : decode (zB 162) 18 = .ok (.aload_n 0, 1) := by decide +kernel
theorem d162_19 : decode (zB 162) 19 = .ok (.getfield 86, 3) := by decide +kernel
theorem d162_22 : decode (zB 162) 22 = .ok (.iload_n 1, 1) := by decide +kernel
theorem d162_23 : decode (zB 162) 23 = .ok (.aaload, 1) := by decide +kernel
theorem d162_24 : decode (zB 162) 24 = .ok (.iconst 0, 1) := by decide +kernel
theorem d162_25 : decode (zB 162) 25 = .ok (.iaload, 1) := by decide +kernel
theorem d162_26 : decode (zB 162) 26 = .ok (.putfield 276, 3) := by decide +kernel
theorem d162_29 : decode (zB 162) 29 = .ok (.aload_n 0, 1) := by decide +kernel
theorem d162_30 : decode (zB 162) 30 = .ok (.aload_n 0, 1) := by decide +kernel
theorem d162_31 : decode (zB 162) 31 = .ok (.getfield 86, 3) := by decide +kernel
theorem d162_34 : decode (zB 162) 34 = .ok (.iload_n 1, 1) := by decide +kernel
theorem d162_35 : decode (zB 162) 35 = .ok (.aaload, 1) := by decide +kernel
theorem d162_36 : decode (zB 162) 36 = .ok (.iconst 1, 1) := by decide +kernel
theorem d162_37 : decode (zB 162) 37 = .ok (.iaload, 1) := by decide +kernel
theorem d162_38 : decode (zB 162) 38 = .ok (.putfield 282, 3) := by decide +kernel
theorem d162_41 : decode (zB 162) 41 = .ok (.aload_n 0, 1) := by decide +kernel
theorem d162_42 : decode (zB 162) 42 = .ok (.aload_n 0, 1) := by decide +kernel
theorem d162_43 : decode (zB 162) 43 = .ok (.getfield 86, 3) := by decide +kernel
theorem d162_46 : decode (zB 162) 46 = .ok (.iload_n 1, 1) := by decide +kernel
theorem d162_47 : decode (zB 162) 47 = .ok (.aaload, 1) := by decide +kernel
theorem d162_48 : decode (zB 162) 48 = .ok (.iconst 2, 1) := by decide +kernel
theorem d162_49 : decode (zB 162) 49 = .ok (.iaload, 1) := by decide +kernel
theorem d162_50 : decode (zB 162) 50 = .ok (.putfield 291, 3) := by decide +kernel
theorem d162_53 : decode (zB 162) 53 = .ok (.aload_n 0, 1) := by decide +kernel
theorem d162_54 : decode (zB 162) 54 = .ok (.getfield 89, 3) := by decide +kernel
theorem d162_57 : decode (zB 162) 57 = .ok (.iload_n 1, 1) := by decide +kernel
theorem d162_58 : decode (zB 162) 58 = .ok (.aaload, 1) := by decide +kernel
theorem d162_59 : decode (zB 162) 59 = .ok (.iconst 0, 1) := by decide +kernel
theorem d162_60 : decode (zB 162) 60 = .ok (.aload_n 0, 1) := by decide +kernel
theorem d162_61 : decode (zB 162) 61 = .ok (.getfield 36, 3) := by decide +kernel
theorem d162_64 : decode (zB 162) 64 = .ok (.iconst 0, 1) := by decide +kernel
theorem d162_65 : decode (zB 162) 65 = .ok (.iconst 3, 1) := by decide +kernel
theorem d162_66 : decode (zB 162) 66 = .ok (.invokestatic 285, 3) := by decide +kernel
theorem d162_69 : decode (zB 162) 69 = .ok (.aload_n 0, 1) := by decide +kernel
theorem d162_70 : decode (zB 162) 70 = .ok (.getfield 92, 3) := by decide +kernel
theorem d162_73 : decode (zB 162) 73 = .ok (.iload_n 1, 1) := by decide +kernel
theorem d162_74 : decode (zB 162) 74 = .ok (.aaload, 1) := by decide +kernel
theorem d162_75 : decode (zB 162) 75 = .ok (.iconst 0, 1) := by decide +kernel
theorem d162_76 : decode (zB 162) 76 = .ok (.aload_n 0, 1) := by decide +kernel
theorem d162_77 : decode (zB 162) 77 = .ok (.getfield 39, 3) := by decide +kernel
theorem d162_80 : decode (zB 162) 80 = .ok (.iconst 0, 1) := by decide +kernel
theorem d162_81 : decode (zB 162) 81 = .ok (.iconst 3, 1) := by decide +kernel
theorem d162_82 : decode (zB 162) 82 = .ok (.invokestatic 285, 3) := by decide +kernel
theorem d162_85 : decode (zB 162) 85 = .ok (.iconst 0, 1) := by decide +kernel
theorem d162_86 : decode (zB 162) 86 = .ok (.istore_n 2, 1) := by decide +kernel
theorem d162_87 : decode (zB 162) 87 = .ok (.iload_n 2, 1) := by decide +kernel
theorem d162_88 : decode (zB 162) 88 = .ok (.bipush 7, 2) := by decide +kernel
theorem d162_90 : decode (zB 162) 90 = .ok (.if_icmp .ge 47, 3) := by decide +kernel
theorem d162_93 : decode (zB 162) 93 = .ok (.iconst 0, 1) := by decide +kernel
theorem d162_94 : decode (zB 162) 94 = .ok (.istore_n 3, 1) := by decide +kernel
theorem d162_95 : decode (zB 162) 95 = .ok (.iload_n 3, 1) := by decide +kernel
theorem d162_96 : decode (zB 162) 96 = .ok (.iconst 3, 1) := by decide +kernel
theorem d162_97 : decode (zB 162) 97 = .ok (.if_icmp .ge 34, 3) := by decide +kernel
theorem d162_100 : decode (zB 162) 100 = .ok (.aload_n 0, 1) := by decide +kernel
theorem d162_101 : decode (zB 162) 101 = .ok (.getfield 97, 3) := by decide +kernel
theorem d162_104 : decode (zB 162) 104 = .ok (.iload_n 1, 1) := by decide +kernel
theorem d162_105 : decode (zB 162) 105 = .ok (.aaload, 1) := by decide +kernel
theorem d162_106 : decode (zB 162) 106 = .ok (.iconst 3, 1) := by decide +kernel
theorem d162_107 : decode (zB 162) 107 = .ok (.iload_n 2, 1) := by decide +kernel
theorem d162_108 : decode (zB 162) 108 = .ok (.imul, 1) := by decide +kernel
theorem d162_109 : decode (zB 162) 109 = .ok (.iload_n 3, 1) := by decide +kernel
theorem d162_110 : decode (zB 162) 110 = .ok (.iadd, 1) := by decide +kernel
theorem d162_111 : decode (zB 162) 111 = .ok (.aaload, 1) := by decide +kernel
theorem d162_112 : decode (zB 162) 112 = .ok (.iconst 0, 1) := by decide +kernel
theorem d162_113 : decode (zB 162) 113 = .ok (.aload_n 0, 1) := by decide +kernel
theorem d162_114 : decode (zB 162) 114 = .ok (.iload_n 2, 1) := by decide +kernel
theorem d162_115 : decode (zB 162) 115 = .ok (.iload_n 3, 1) := by decide +kernel
theorem d162_116 : decode (zB 162) 116 = .ok (.invokevirtual 294, 3) := by decide +kernel
theorem d162_119 : decode (zB 162) 119 = .ok (.iconst 0, 1) := by decide +kernel
theorem d162_120 : decode (zB 162) 120 = .ok (.bipush 12, 2) := by decide +kernel
theorem d162_122 : decode (zB 162) 122 = .ok (.invokestatic 285, 3) := by decide +kernel
theorem d162_125 : decode (zB 162) 125 = .ok (.iinc 3 1, 3) := by decide +kernel
theorem d162_128 : decode (zB 162) 128 = .ok (.goto (-33), 3) := by decide +kernel
theorem d162_131 : decode (zB 162) 131 = .ok (.iinc 2 1, 3) := by decide +kernel
theorem d162_134 : decode (zB 162) 134 = .ok (.goto (-47), 3) := by decide +kernel
theorem d162_137 : decode (zB 162) 137 = .ok (.return_, 1) := by decide +kernel
theorem l162b {d : Nat} {Q : Option Value → zM → Prop} {M00 M0 : zM} {l q : Nat} (hl : l < 4) (hq : q < 7) (k : ∀ M1, (SX M1 ∧ KA M0 M1 l ∧ Fi FB M00 M1 ∧ HB M0 M1 ∧ RB M0 M1 q 3) → qW (zEv (d + 1)) 162 Q 131 [(0, .ref 136), (1, .int (nI l)), (2, .int (nI q)), (3, .int (nI 3))] [] M1) : ∀ (r i : Nat) (M1 : zM), i ≤ 3 → 3 < i + r →  (SX M1 ∧ KA M0 M1 l ∧ Fi FB M00 M1 ∧ HB M0 M1 ∧ RB M0 M1 q i) → qW (zEv (d + 1)) 162 Q 95 [(0, .ref 136), (1, .int (nI l)), (2, .int (nI q)), (3, .int (nI i))] [] M1 := by
  intro r
  induction r with
  | zero => intros; omega
  | succ r ih =>
    intro i M1 h1 h2 hv
    have hX := hv.1
    refine q_iload_n d162_95 rfl ?_
    refine q_iconstN (z := 3) d162_96 ?_
    refine nc_ge 131 d162_97 (by decide) (by omega) (by omega) (fun h97 => ?_) (fun h97 => ?_)
    · refine qW_srt rfl rfl ?_
      have e3 : i = 3 := by omega
      rw [e3] at hv ⊢
      exact k _ hv
    · refine q_aload_n d162_100 rfl ?_
      refine q_getr (c := 8) (f := 44) d162_101 ⟨rfl, rfl⟩ (xk_136 hX) (xf_asideSteps hX) ?_
      refine q_iload_n d162_104 rfl ?_
      refine n_aald d162_105 (xk_asideSteps hX) (by decide) (by omega) (by decide) (xr_asideSteps hX (by omega)).1 ?_
      refine q_iconstN (z := 3) d162_106 ?_
      refine q_iload_n d162_107 rfl ?_
      refine n_imul d162_108 ?_
      refine q_iload_n d162_109 rfl ?_
      refine n_iadd d162_110 ?_
      refine n_aald d162_111 (xr_asideSteps hX (by omega)).2 (by decide) (by omega) (by decide) (xa_asideSteps hX (by omega) (by omega)).1 ?_
      refine q_iconstN (z := 0) d162_112 ?_
      refine q_aload_n d162_113 rfl ?_
      refine q_iload_n d162_114 rfl ?_
      refine q_iload_n d162_115 rfl ?_
      refine q_v2 d162_116 rfl rfl (xk_136 hX) (Nat.le_of_ble_eq_true rfl) (c156 hX (by omega) (by omega) ?_)
      refine q_iconstN (z := 0) d162_119 ?_
      refine q_bipush (x := nI 12) d162_120 rfl ?_
      refine n_copy d162_122 rfl (xa_asideSteps hX (by omega) (by omega)).2 (xa_row hX (by omega) (by omega)) (by decide) (by decide) (by omega) (by omega) (Nat.le_of_ble_eq_true rfl) ?_
      refine n_iinc 1 d162_125 (by decide) rfl rfl ?_
      refine q_goto 95 d162_128 (by decide) ?_
      refine qW_srt rfl rfl ?_
      exact ih (i + 1) _ (by omega) (by omega) (⟨SX_fi hX ((Fi.refl FB _).cp (fun _ _ _ => by unfold FB; omega)), hv.2.1.fi ((Fi.refl FB _).cp (fun _ _ _ => by unfold FB; omega)) (fun b k q1 q2 => by unfold FA at q1; unfold FB at q2; omega), hv.2.2.1.cp (fun _ _ _ => by unfold FB; omega), HB_cp hv.2.2.2.1 (by omega), RB_cp hv.2.2.2.2 hv.2.1 hq (by omega)⟩)
theorem l162 {d : Nat} {Q : Option Value → zM → Prop} {M00 M0 : zM} {l : Nat} (hl : l < 4) (k : ∀ M', KB M0 M' → Fi FB M00 M' → Q none M') : ∀ (r i : Nat) (M1 : zM), i ≤ 7 → 7 < i + r →  (SX M1 ∧ KA M0 M1 l ∧ Fi FB M00 M1 ∧ HB M0 M1 ∧ RB M0 M1 i 0) → qW (zEv (d + 1)) 162 Q 87 [(0, .ref 136), (1, .int (nI l)), (2, .int (nI i)), (3, .int (nI 3))] [] M1 := by
  intro r
  induction r with
  | zero => intros; omega
  | succ r ih =>
    intro i M1 h1 h2 hv
    have hX := hv.1
    refine q_iload_n d162_87 rfl ?_
    refine q_bipush (x := nI 7) d162_88 rfl ?_
    refine nc_ge 137 d162_90 (by decide) (by omega) (by omega) (fun h90 => ?_) (fun h90 => ?_)
    · refine q_ret d162_137 rfl ?_
      exact k _ ⟨hv.2.2.2.1, fun a s ha hs k hk => hv.2.2.2.2 a s ha hs (by omega) k hk⟩ hv.2.2.1
    · refine q_iconstN (z := 0) d162_93 ?_
      refine q_istore_n d162_94 (by decide) rfl ?_
      refine qW_srt rfl rfl ?_
      exact l162b hl (by omega) (fun M2 hv2 => by
        refine n_iinc 1 d162_131 (by decide) rfl rfl ?_
        refine q_goto 87 d162_134 (by decide) ?_
        refine qW_srt rfl rfl ?_
        exact ih (i + 1) _ (by omega) (by omega) (⟨hv2.1, hv2.2.1, hv2.2.2.1, hv2.2.2.2.1, fun a s ha hs hq k hk => hv2.2.2.2.2 a s ha hs (by omega) k hk⟩)) 4 0 _ (by omega) (by omega) (hv)
/-- the world is laid back -/
theorem c162 {d : Nat} {M : zM} {Q : Option Value → zM → Prop} {M0 : zM} {l : Nat} (hX : SX M) (hl : l < 4) (hK : KA M0 M l) (k : ∀ M', KB M0 M' → Fi FB M M' → Q none M') : qC (d + 2) 162 [.ref 136, .int (nI l)] M Q := by
  refine qC_of (by decide) (Nat.le_of_ble_eq_true rfl) ?_
  refine q_aload_n d162_0 rfl ?_
  refine q_getr (c := 8) (f := 40) d162_1 ⟨rfl, rfl⟩ (xk_136 hX) (xf_asideBalances hX) ?_
  refine q_iload_n d162_4 rfl ?_
  refine n_aald d162_5 (xk_asideBalances hX) (by decide) (by omega) (by decide) (xr_asideBalances hX (by omega)) ?_
  refine q_iconstN (z := 0) d162_6 ?_
  refine q_aload_n d162_7 rfl ?_
  refine q_getr (c := 8) (f := 8) d162_8 ⟨rfl, rfl⟩ (xk_136 hX) (xf_balances hX) ?_
  refine q_iconstN (z := 0) d162_11 ?_
  refine q_bipush (x := nI 6) d162_12 rfl ?_
  refine n_copy d162_14 rfl (xa_asideBalances hX (by omega)) (xk_balances hX) (by decide) (by decide) (by omega) (by omega) (Nat.le_of_ble_eq_true rfl) ?_
  refine q_aload_n d162_17 rfl ?_
  refine q_aload_n d162_18 rfl ?_
  refine q_getr (c := 8) (f := 41) d162_19 ⟨rfl, rfl⟩ (xk_136 hX) (xf_asideNumbers hX) ?_
  refine q_iload_n d162_22 rfl ?_
  refine n_aald d162_23 (xk_asideNumbers hX) (by decide) (by omega) (by decide) (xr_asideNumbers hX (by omega)) ?_
  refine q_iconstN (z := 0) d162_24 ?_
  refine n_iald d162_25 (xa_asideNumbers hX (by omega)) (by omega) (by decide) (Eq.trans (by (repeat (first | rw [wi_n (Or.inl (by omega))] | rw [wi_n (Or.inr (by omega))] | rw [wi_s] | rw [wr_i] | rw [cp_n (by omega)]))) hK.1.2.1) ?_
  refine q_puti (c := 8) (f := 9) d162_26 ⟨rfl, rfl, by decide⟩ (xk_136 hX) ?_
  refine q_aload_n d162_29 rfl ?_
  refine q_aload_n d162_30 rfl ?_
  refine q_getr (c := 8) (f := 41) d162_31 ⟨rfl, rfl⟩ (xk_136 hX) (xf_asideNumbers hX) ?_
  refine q_iload_n d162_34 rfl ?_
  refine n_aald d162_35 (xk_asideNumbers hX) (by decide) (by omega) (by decide) (xr_asideNumbers hX (by omega)) ?_
  refine q_iconstN (z := 1) d162_36 ?_
  refine n_iald d162_37 (xa_asideNumbers hX (by omega)) (by omega) (by decide) (Eq.trans (by (repeat (first | rw [wi_n (Or.inl (by omega))] | rw [wi_n (Or.inr (by omega))] | rw [wi_s] | rw [wr_i] | rw [cp_n (by omega)]))) hK.1.2.2.1) ?_
  refine q_puti (c := 8) (f := 10) d162_38 ⟨rfl, rfl, by decide⟩ (xk_136 hX) ?_
  refine q_aload_n d162_41 rfl ?_
  refine q_aload_n d162_42 rfl ?_
  refine q_getr (c := 8) (f := 41) d162_43 ⟨rfl, rfl⟩ (xk_136 hX) (xf_asideNumbers hX) ?_
  refine q_iload_n d162_46 rfl ?_
  refine n_aald d162_47 (xk_asideNumbers hX) (by decide) (by omega) (by decide) (xr_asideNumbers hX (by omega)) ?_
  refine q_iconstN (z := 2) d162_48 ?_
  refine n_iald d162_49 (xa_asideNumbers hX (by omega)) (by omega) (by decide) (Eq.trans (by (repeat (first | rw [wi_n (Or.inl (by omega))] | rw [wi_n (Or.inr (by omega))] | rw [wi_s] | rw [wr_i] | rw [cp_n (by omega)]))) hK.1.2.2.2.1) ?_
  refine q_puti (c := 8) (f := 20) d162_50 ⟨rfl, rfl, by decide⟩ (xk_136 hX) ?_
  refine q_aload_n d162_53 rfl ?_
  refine q_getr (c := 8) (f := 42) d162_54 ⟨rfl, rfl⟩ (xk_136 hX) (xf_asideStates hX) ?_
  refine q_iload_n d162_57 rfl ?_
  refine n_aald d162_58 (xk_asideStates hX) (by decide) (by omega) (by decide) (xr_asideStates hX (by omega)) ?_
  refine q_iconstN (z := 0) d162_59 ?_
  refine q_aload_n d162_60 rfl ?_
  refine q_getr (c := 8) (f := 11) d162_61 ⟨rfl, rfl⟩ (xk_136 hX) (xf_states hX) ?_
  refine q_iconstN (z := 0) d162_64 ?_
  refine q_iconstN (z := 3) d162_65 ?_
  refine n_copy d162_66 rfl (xa_asideStates hX (by omega)) (xk_states hX) (by decide) (by decide) (by omega) (by omega) (Nat.le_of_ble_eq_true rfl) ?_
  refine q_aload_n d162_69 rfl ?_
  refine q_getr (c := 8) (f := 43) d162_70 ⟨rfl, rfl⟩ (xk_136 hX) (xf_asideTexts hX) ?_
  refine q_iload_n d162_73 rfl ?_
  refine n_aald d162_74 (xk_asideTexts hX) (by decide) (by omega) (by decide) (xr_asideTexts hX (by omega)) ?_
  refine q_iconstN (z := 0) d162_75 ?_
  refine q_aload_n d162_76 rfl ?_
  refine q_getr (c := 8) (f := 12) d162_77 ⟨rfl, rfl⟩ (xk_136 hX) (xf_textOf hX) ?_
  refine q_iconstN (z := 0) d162_80 ?_
  refine q_iconstN (z := 3) d162_81 ?_
  refine n_copy d162_82 rfl (xa_asideTexts hX (by omega)) (xk_textOf hX) (by decide) (by decide) (by omega) (by omega) (Nat.le_of_ble_eq_true rfl) ?_
  refine q_iconstN (z := 0) d162_85 ?_
  refine q_istore_n d162_86 (by decide) rfl ?_
  refine q_iload_n d162_87 rfl ?_
  refine q_bipush (x := nI 7) d162_88 rfl ?_
  refine nc_ge 137 d162_90 (by decide) (by decide) (by decide) (fun q => absurd q (by decide)) (fun _ => ?_)
  refine q_iconstN (z := 0) d162_93 ?_
  refine q_istore_n d162_94 (by decide) rfl ?_
  refine qW_srt rfl rfl ?_
  have f : Fi FB M _ := ((((((Fi.refl FB M).cp (a0 := 211 + l) (s := 0) (a := 174) (d := 0) (n := 6) (fun _ _ _ => by unfold FB; omega)).wi (a := 136) (k := 9) (v := zi M0 136 9) (by unfold FB; omega)).wi (a := 136) (k := 10) (v := zi M0 136 10) (by unfold FB; omega)).wi (a := 136) (k := 20) (v := zi M0 136 20) (by unfold FB; omega)).cp (a0 := 221 + l) (s := 0) (a := 175) (d := 0) (n := 3) (fun _ _ _ => by unfold FB; omega)).cp (a0 := 226 + l) (s := 0) (a := 176) (d := 0) (n := 3) (fun _ _ _ => by unfold FB; omega)
  refine l162b hl (by omega) (fun M2 hv2 => by
    refine n_iinc 1 d162_131 (by decide) rfl rfl ?_
    refine q_goto 87 d162_134 (by decide) ?_
    refine qW_srt rfl rfl ?_
    exact l162 hl k 8 1 _ (by omega) (by omega) (⟨hv2.1, hv2.2.1, hv2.2.2.1, hv2.2.2.2.1, fun a s ha hs hq k hk => hv2.2.2.2.2 a s ha hs (by omega) k hk⟩)) 4 0 _ (by omega) (by omega) ⟨SX_fi hX f, hK.fi f (fun b k q1 q2 => by unfold FA at q1; unfold FB at q2; omega), f, ⟨fun k hk => ?_, ?_, ?_, ?_, fun k hk => ?_, fun k hk => ?_⟩, fun a s ha hs hq => by omega⟩
  · rw [cp_n (by omega), cp_n (by omega), wi_n (by omega), wi_n (by omega), wi_n (by omega), cp_0 hk]; exact hK.1.1 k hk
  · rw [cp_n (by omega), cp_n (by omega), wi_n (by omega), wi_n (by omega), wi_s]
  · rw [cp_n (by omega), cp_n (by omega), wi_n (by omega), wi_s]
  · rw [cp_n (by omega), cp_n (by omega), wi_s]
  · rw [cp_n (by omega), cp_0 hk, wi_n (by omega), wi_n (by omega), wi_n (by omega), cp_n (by omega)]; exact hK.1.2.2.2.2.1 k hk
  · rw [cp_0 hk, cp_n (by omega), wi_n (by omega), wi_n (by omega), wi_n (by omega), cp_n (by omega)]; exact hK.1.2.2.2.2.2 k hk
