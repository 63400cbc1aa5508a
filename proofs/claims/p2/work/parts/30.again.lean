/-! ===== contracts: what happened happens again ===== -/
/-- numbers as the texts have them -/
def yNm (T : Nat → yT) (W : yW) : Nat → Nat → Int32 := fun s k => tu (T (gx (W.2 s))) k
/-- a line that can come here -/
def yle (T : Nat → yT) (c : Nat) (W : yW) (l : yL) : Prop :=
  (l.1 = 0 ∧ l.2.1 < 3 ∧ l.2.2 < c) ∨
  (l.1 = 1 ∧ l.2.1 < 3 ∧ gt (W.2 l.2.1) = 1 ∧ l.2.2 < tn (T (gx (W.2 l.2.1))) ∧ gd (W.2 l.2.1) l.2.2 = 0 ∧ yob (T (gx (W.2 l.2.1))) W.1 l.2.2 (tu (T (gx (W.2 l.2.1))) l.2.2) 1 = 0) ∨
  (l.1 = 2 ∧ l.2.1 < 3 ∧ gt (W.2 l.2.1) = 1 ∧ l.2.2 < tn (T (gx (W.2 l.2.1)))) ∨
  (l.1 = 3 ∧ l.2.1 < 3 ∧ gt (W.2 l.2.1) ≠ 0 ∧ (∃ t, go (W.2 l.2.1) = l.2.2 :: t) ∧ yob (T (gx (W.2 l.2.1))) W.1 l.2.2 (gb (W.2 l.2.1) l.2.2) (-1) = 0) ∨
  (l.1 = 4 ∧ l.2.1 < 3 ∧ gt (W.2 l.2.1) ≠ 0 ∧ ∃ t, go (W.2 l.2.1) = l.2.2 :: t) ∨
  (l.1 = 5 ∧ l.2.1 < 3 ∧ gt (W.2 l.2.1) ≠ 0 ∧ 3 ≤ l.2.2 ∧ l.2.2 ≤ 5) ∨
  (l.1 = 6 ∧ l.2.1 < 6 ∧ l.2.2 ≤ 9999)
/-- no plans, no reasons -/
def yZ (W : yW) : Prop := ∀ s k, gp (W.2 s) k = 0 ∧ gq (W.2 s) k = 0 ∧ gw (W.2 s) k = 0
theorem OKS_St {T : Nat → yT} {c t : Nat} (h : t < c) : OKS T c (ySt t) :=
  ⟨show (1 : Nat) ≤ 5 by omega, fun _ => h, List.nodup_nil, fun i => by
    show i ∈ [] ↔ (0 : Nat) = 1
    simp, fun _ _ => rfl, fun _ => show (0 : Nat) ≤ 3 by omega⟩
theorem OKS_0 {T : Nat → yT} {c : Nat} : OKS T c yS0 :=
  ⟨show (0 : Nat) ≤ 5 by omega, fun h => absurd rfl h, List.nodup_nil, fun i => by
    show i ∈ [] ↔ (0 : Nat) = 1
    simp, fun _ _ => rfl, fun _ => show (0 : Nat) ≤ 3 by omega⟩
theorem OKP_0 : OKP yP0 := fun _ _ => by show 0 ≤ (100 : Int32) ∧ (100 : Int32) ≤ nI 9999; decide
theorem yag_ok {T : Nat → yT} {c : Nat} {W : yW} {l : yL} (h : OKW T c W) (hl : yle T c W l) : OKW T c (yag T W l) := by
  obtain ⟨e, s, i⟩ := l
  have hS : ∀ S, OKS T c S → OKW T c (W.1, yu W.2 s S) := fun S hS => OKW_ss (X := (W, none)) h hS
  rcases hl with ⟨rfl, h1, h2⟩ | ⟨rfl, h1, h2, h3, h4, h5⟩ | ⟨rfl, h1, h2, h3⟩ | ⟨rfl, h1, h2, ⟨t, h3⟩, h5⟩ | ⟨rfl, h1, h2, ⟨t, h3⟩⟩ | ⟨rfl, h1, h2, h3⟩ | ⟨rfl, h1, h2⟩
  · exact hS _ (OKS_St h2)
  · have h2 : gt (W.2 s) = 1 := h2
    have hT := h.1.2 _ ((h.2.2 s h1).2.1 (by omega))
    have hz : gz T (W.2 s) = tn (T (gx (W.2 s))) := by unfold gz; rw [if_neg (by omega)]
    exact OKW_ss (X := ((ych (T (gx (W.2 s))) W.1 i (tu (T (gx (W.2 s))) i) 1, W.2), none)) ⟨h.1, OKP_ch hT h3 h.2.1 h5, h.2.2⟩ (OKS_done (h.2.2 s h1) (by rw [hz]; exact h3) h4)
  · have h2 : gt (W.2 s) = 1 := h2
    exact hS _ (OKS_fS (h.2.2 s h1) (by omega))
  · have hO := h.2.2 s h1
    have hT := h.1.2 _ (hO.2.1 h2)
    have h3 : go (W.2 s) = i :: t := h3
    have hgd : gd (W.2 s) i = 1 := (hO.2.2.2.1 i).mp (by rw [h3]; exact List.mem_cons_self)
    have hz : gz T (W.2 s) = tn (T (gx (W.2 s))) := by unfold gz; rw [if_neg h2]
    have hi : i < tn (T (gx (W.2 s))) := Nat.lt_of_not_le (fun q => by have := hO.2.2.2.2.1 i (by omega); omega)
    have hu := OKS_undo hO h3 (Or.inl rfl)
    have e : (go (W.2 s)).tail = t := by rw [h3]; rfl
    show OKW T c (ych (T (gx (W.2 s))) W.1 i (gb (W.2 s) i) (-1), yu W.2 s (goS (gdS (W.2 s) (yu (gd (W.2 s)) i 2)) (go (W.2 s)).tail))
    rw [e]
    exact OKW_ss (X := ((ych (T (gx (W.2 s))) W.1 i (gb (W.2 s) i) (-1), W.2), none)) ⟨h.1, OKP_ch hT hi h.2.1 h5, h.2.2⟩ hu
  · have hO := h.2.2 s h1
    have h3 : go (W.2 s) = i :: t := h3
    have hu := OKS_undo hO h3 (Or.inr rfl)
    have e : (go (W.2 s)).tail = t := by rw [h3]; rfl
    show OKW T c (W.1, yu W.2 s (gwS (goS (gdS (W.2 s) (yu (gd (W.2 s)) i 3)) (go (W.2 s)).tail) (yu (gw (W.2 s)) i 0)))
    rw [e]
    exact hS _ hu
  · have h3 : 3 ≤ i ∧ i ≤ 5 := h3
    exact hS _ (OKS_st (h.2.2 s h1) h2 (by omega) h3.2)
  · have h2 : i ≤ 9999 := h2
    exact ⟨h.1, OKP_u h.2.1 ⟨nI_pos' (by omega), nI_le h2 (by omega)⟩, h.2.2⟩
theorem yu_z {W : yW} {s : Nat} {S : yS} {P : yP} (h : yZ W) (hS : ∀ k, gp S k = 0 ∧ gq S k = 0 ∧ gw S k = 0) : yZ (P, yu W.2 s S) := by
  intro r k
  show gp (yu W.2 s S r) k = 0 ∧ gq (yu W.2 s S r) k = 0 ∧ gw (yu W.2 s S r) k = 0
  by_cases e : r = s
  · subst e; rw [yu_s]; exact hS k
  · rw [yu_n e]; exact h r k
theorem gw_0 {S : yS} {i : Nat} (h : ∀ k, gw S k = 0) : yu (gw S) i 0 = gw S := by
  funext k
  by_cases e : k = i
  · subst e; rw [yu_s, h]
  · rw [yu_n e]
theorem yag_z {T : Nat → yT} {c : Nat} {W : yW} {l : yL} (h : yZ W) (hl : yle T c W l) : yZ (yag T W l) := by
  obtain ⟨e, s, i⟩ := l
  have hs := h s
  have hw := gw_0 (S := W.2 s) (i := i) (fun k => (hs k).2.2)
  rcases hl with ⟨rfl, -⟩ | ⟨rfl, -⟩ | ⟨rfl, -⟩ | ⟨rfl, -⟩ | ⟨rfl, -⟩ | ⟨rfl, -⟩ | ⟨rfl, -⟩
  · exact yu_z h (fun _ => ⟨rfl, rfl, rfl⟩)
  · exact yu_z h hs
  · refine yu_z (P := W.1) h (fun k => ?_)
    unfold yfS
    simp only []
    rw [hw]
    split <;> exact hs k
  · exact yu_z h hs
  · refine yu_z (P := W.1) h (fun k => ⟨(hs k).1, (hs k).2.1, ?_⟩)
    show yu (gw (W.2 s)) i 0 k = 0
    rw [hw]; exact (hs k).2.2
  · exact yu_z h hs
  · exact h
theorem RS_nm {M : zM} {a : Nat} {T : Nat → yT} {nm nm' : Nat → Int32} {S : yS} (h : RS M a T nm S) (e : ∀ k, k < gz T S → nm' k = nm k) : RS M a T nm' S :=
  ⟨h.1, h.2.1, h.2.2.1, fun k hk => (h.2.2.2.1 k hk).trans (e k hk).symm, h.2.2.2.2⟩
theorem RW_nm {M : zM} {u j : Nat} {T : Nat → yT} {nm nm' : Nat → Nat → Int32} {X : yX} (h : RW M u j T nm X) (e : ∀ s, s < 3 → ∀ k, k < gz T (yxs X s) → nm' s k = nm s k) : RW M u j T nm' X :=
  ⟨h.1, fun s hs => RS_nm (h.2.1 s hs) (e s hs), h.2.2⟩
theorem RW_sg2 {M M' : zM} {lo w u j s : Nat} {T : Nat → yT} {nm : Nat → Nat → Int32} {X : yX} {S : yS} (hw : Wd lo w u j) (h1 : RPu M u X.1.1) (h2 : ∀ r, r < 3 → r ≠ s → RS M (u + 3 + 8 * r) T (nm r) (yxs X r)) (h3 : RJ M j X.2) (hs : s < 3) (hR : RS M' (u + 3 + 8 * s) T (nm s) S) (f : Fr (FS (u + 3 + 8 * s)) M M') : RW M' u j T nm (yss X s S) := by
  have d := hw.d
  refine ⟨RPu_fr h1 f (fun b k h1 h2 q => by have := q.1; omega), fun r hr => ?_, RJ_fr h3 f (fun b k h1 h2 q => by have := q.1; rcases hw with e | e <;> omega)⟩
  show RS M' (u + 3 + 8 * r) T (nm r) (yu X.1.2 s S r)
  by_cases e : r = s
  · subst e; rw [yu_s]; exact hR
  · rw [yu_n e]; exact RS_fr (h2 r hr e) f (fun b k h1 h2 q => by have := q.1; have := q.2; omega)
/-- a world by its texts' numbers -/
def CN (M : zM) (lo w u j : Nat) (T : Nat → yT) (c : Nat) (X : yX) : Prop := CW M lo w u j T c (yNm T X.1) X
def FV (u : Nat) : Nat → Nat → Prop := Fb u (u + 27)
theorem CN.up {M M' : zM} {lo w u j : Nat} {T : Nat → yT} {c : Nat} {X X' : yX} {nm : Nat → Nat → Int32} (h : CN M lo w u j T c X) (hS : SC M') (hR : RW M' u j T nm X') (hO : OKW T c X'.1) (f : Fr (FV u) M M') (e : ∀ s, s < 3 → ∀ k, k < gz T (yxs X' s) → yNm T X'.1 s k = nm s k) : CN M' lo w u j T c X' :=
  ⟨hS, h.2.1, RTx_fr h.2.2.1 h.2.2.2.1.1.1 f (fun b k h1 h2 q => by have := q.1; have := h.2.1.d; omega), hO, RW_nm hR e⟩
theorem yNm_s {T : Nat → yT} {X : yX} {P : yP} {s : Nat} {S : yS} (h : gx S = gx (yxs X s)) : ∀ r, r < 3 → ∀ k, k < gz T (yxs (yss (ysp X P) s S) r) → yNm T (yss (ysp X P) s S).1 r k = yNm T X.1 r k := by
  intro r _ k _
  show tu (T (gx (yu X.1.2 s S r))) k = tu (T (gx (X.1.2 r))) k
  by_cases e : r = s
  · subst e; rw [yu_s, h]; rfl
  · rw [yu_n e]
theorem d97_0 : decode (zB 97) 0 = .ok (.iload_n 2, 1) := by decide +kernel
theorem d97_1 : decode (zB 97) 1 = .ok (.tableswitch 130 0 4 #[35, 58, 85, 94, 121], 35) := by decide +kernel
theorem d97_36 : decode (zB 97) 36 = .ok (.iload_n 3, 1) := by decide +kernel
theorem d97_37 : decode (zB 97) 37 = .ok (.iconst 0, 1) := by decide +kernel
theorem d97_38 : decode (zB 97) 38 = .ok (.iconst 5, 1) := by decide +kernel
theorem d97_39 : decode (zB 97) 39 = .ok (.invokestatic 183, 3) := by decide +kernel
theorem d97_42 : decode (zB 97) 42 = .ok (.ifCond .eq 94, 3) := by decide +kernel
theorem d97_45 : decode (zB 97) 45 = .ok (.aload_n 1, 1) := by decide +kernel
theorem d97_46 : decode (zB 97) 46 = .ok (.aload_n 0, 1) := by decide +kernel
theorem d97_47 : decode (zB 97) 47 = .ok (.getfield 24, 3) := by decide +kernel
theorem d97_50 : decode (zB 97) 50 = .ok (.iload_n 3, 1) := by decide +kernel
theorem d97_51 : decode (zB 97) 51 = .ok (.aaload, 1) := by decide +kernel
theorem d97_52 : decode (zB 97) 52 = .ok (.iload_n 3, 1) := by decide +kernel
theorem d97_53 : decode (zB 97) 53 = .ok (.invokevirtual 187, 3) := by decide +kernel
theorem d97_56 : decode (zB 97) 56 = .ok (.goto 80, 3) := by decide +kernel
theorem d97_59 : decode (zB 97) 59 = .ok (.aload_n 0, 1) := by decide +kernel
theorem d97_60 : decode (zB 97) 60 = .ok (.getfield 12, 3) := by decide +kernel
theorem d97_63 : decode (zB 97) 63 = .ok (.aload_n 1, 1) := by decide +kernel
theorem d97_64 : decode (zB 97) 64 = .ok (.getfield 113, 3) := by decide +kernel
theorem d97_67 : decode (zB 97) 67 = .ok (.iload_n 3, 1) := by decide +kernel
theorem d97_68 : decode (zB 97) 68 = .ok (.aload_n 1, 1) := by decide +kernel
theorem d97_69 : decode (zB 97) 69 = .ok (.iload_n 3, 1) := by decide +kernel
theorem d97_70 : decode (zB 97) 70 = .ok (.iconst 1, 1) := by decide +kernel
theorem d97_71 : decode (zB 97) 71 = .ok (.invokevirtual 102, 3) := by decide +kernel
theorem d97_74 : decode (zB 97) 74 = .ok (.iconst 1, 1) := by decide +kernel
theorem d97_75 : decode (zB 97) 75 = .ok (.invokevirtual 121, 3) := by decide +kernel
theorem d97_78 : decode (zB 97) 78 = .ok (.aload_n 1, 1) := by decide +kernel
theorem d97_79 : decode (zB 97) 79 = .ok (.iload_n 3, 1) := by decide +kernel
theorem d97_80 : decode (zB 97) 80 = .ok (.invokevirtual 125, 3) := by decide +kernel
theorem d97_83 : decode (zB 97) 83 = .ok (.goto 53, 3) := by decide +kernel
theorem d97_86 : decode (zB 97) 86 = .ok (.aload_n 1, 1) := by decide +kernel
theorem d97_87 : decode (zB 97) 87 = .ok (.iload_n 3, 1) := by decide +kernel
theorem d97_88 : decode (zB 97) 88 = .ok (.iconst 0, 1) := by decide +kernel
theorem d97_89 : decode (zB 97) 89 = .ok (.invokevirtual 135, 3) := by decide +kernel
theorem d97_92 : decode (zB 97) 92 = .ok (.goto 44, 3) := by decide +kernel
theorem d97_95 : decode (zB 97) 95 = .ok (.aload_n 0, 1) := by decide +kernel
theorem d97_96 : decode (zB 97) 96 = .ok (.getfield 12, 3) := by decide +kernel
theorem d97_99 : decode (zB 97) 99 = .ok (.aload_n 1, 1) := by decide +kernel
theorem d97_100 : decode (zB 97) 100 = .ok (.getfield 113, 3) := by decide +kernel
theorem d97_103 : decode (zB 97) 103 = .ok (.iload_n 3, 1) := by decide +kernel
theorem d97_104 : decode (zB 97) 104 = .ok (.aload_n 1, 1) := by decide +kernel
theorem d97_105 : decode (zB 97) 105 = .ok (.iload_n 3, 1) := by decide +kernel
theorem d97_106 : decode (zB 97) 106 = .ok (.iconst (-1), 1) := by decide +kernel
theorem d97_107 : decode (zB 97) 107 = .ok (.invokevirtual 102, 3) := by decide +kernel
theorem d97_110 : decode (zB 97) 110 = .ok (.iconst (-1), 1) := by decide +kernel
theorem d97_111 : decode (zB 97) 111 = .ok (.invokevirtual 121, 3) := by decide +kernel
theorem d97_114 : decode (zB 97) 114 = .ok (.aload_n 1, 1) := by decide +kernel
theorem d97_115 : decode (zB 97) 115 = .ok (.iload_n 3, 1) := by decide +kernel
theorem d97_116 : decode (zB 97) 116 = .ok (.invokevirtual 151, 3) := by decide +kernel
theorem d97_119 : decode (zB 97) 119 = .ok (.goto 17, 3) := by decide +kernel
theorem d97_122 : decode (zB 97) 122 = .ok (.aload_n 1, 1) := by decide +kernel
theorem d97_123 : decode (zB 97) 123 = .ok (.iload_n 3, 1) := by decide +kernel
theorem d97_124 : decode (zB 97) 124 = .ok (.iconst 0, 1) := by decide +kernel
theorem d97_125 : decode (zB 97) 125 = .ok (.invokevirtual 154, 3) := by decide +kernel
theorem d97_128 : decode (zB 97) 128 = .ok (.goto 8, 3) := by decide +kernel
theorem d97_131 : decode (zB 97) 131 = .ok (.aload_n 1, 1) := by decide +kernel
theorem d97_132 : decode (zB 97) 132 = .ok (.iload_n 3, 1) := by decide +kernel
theorem d97_133 : decode (zB 97) 133 = .ok (.putfield 65, 3) := by decide +kernel
theorem d97_136 : decode (zB 97) 136 = .ok (.return_, 1) := by decide +kernel
theorem c97_0 {d : Nat} {M : zM} {Q : Option Value → zM → Prop} {lo w u j c : Nat} {T : Nat → yT} {X : yX} {s i : Nat} (hC : CN M lo w u j T c X) (hs3 : s < 3) (hi : i < c) (k : ∀ M', CN M' lo w u j T c (yag T X.1 (0, s, i), X.2) → Fr (FV u) M M' → Q none M') : qC (d + 5) 97 [.ref w, .ref (u + 3 + 8 * s), .int (nI 0), .int (nI i)] M Q := by
  refine qC_of (by decide) (Nat.le_of_ble_eq_true rfl) ?_
  have hC0 := hC
  obtain ⟨hS, hw, hT, hO, hR⟩ := hC
  have hwo := hS.wo hw
  have hd := hw.d
  have hc6 := hO.1.1
  have hsa := hw.sg hs3
  have hs := hS.sg hsa
  have hRs : RS M (u + 3 + 8 * s) T (yNm T X.1 s) (yxs X s) := hR.2.1 s hs3
  have hOs : OKS T c (yxs X s) := hO.2.2 s hs3
  refine q_iload_n d97_0 rfl ?_
  refine n_tsI (35) 36 d97_1 (by decide) (by decide) rfl (by decide) ?_
  refine q_iload_n d97_36 rfl ?_
  refine q_iconstN (z := 0) d97_37 ?_
  refine q_iconstN (z := 5) d97_38 ?_
  refine q_s3 d97_39 (Or.inr rfl) rfl (Nat.le_of_ble_eq_true rfl) (c10t ⟨by omega, by omega⟩ (by decide) ?_)
  refine n0_eq 136 d97_42 (by decide) (by decide) (fun q => absurd q (by decide)) (fun _ => ?_)
  refine q_aload_n d97_45 rfl ?_
  refine q_aload_n d97_46 rfl ?_
  refine q_getr (c := 6) (f := 0) d97_47 ⟨rfl, rfl⟩ hwo.1 hwo.2.1 ?_
  refine q_iload_n d97_50 rfl ?_
  refine n_aald d97_51 hS.1.2.2.2.1 (by decide) (by omega) (by decide) (hS.1.2.2.2.2.1 _ (by omega)) ?_
  refine q_iload_n d97_52 rfl ?_
  refine q_v2 d97_53 rfl rfl hs.1 (Nat.le_of_ble_eq_true rfl) (c62 (nm := fun k => tu (T i) k) hS hsa (by omega) (hT _ hi) (hO.1.2 _ hi).n (fun _ _ => rfl) (fun M1 hR1 f1 hS1 => ?_))
  refine q_goto 136 d97_56 (by decide) ?_
  refine q_ret d97_136 rfl ?_
  refine k _ (hC0.up (X' := yss X s (ySt i)) (nm := yNm T (yss X s (ySt i)).1) hS1 (RW_sg2 hw hR.1 (fun r hr hn => RS_nm (hR.2.1 r hr) (fun q _ => ?_)) hR.2.2 hs3 (RS_nm hR1 (fun q _ => ?_)) f1) (OKW_ss hO (OKS_St hi)) (f1.mono (Fb_m (by omega) (by omega))) (fun _ _ _ _ => rfl)) (f1.mono (Fb_m (by omega) (by omega)))
  · show tu (T (gx (yu X.1.2 s (ySt i) r))) q = _; rw [yu_n hn]; rfl
  · show tu (T (gx (yu X.1.2 s (ySt i) s))) q = _; rw [yu_s]; rfl
theorem c97_1 {d : Nat} {M : zM} {Q : Option Value → zM → Prop} {lo w u j c : Nat} {T : Nat → yT} {X : yX} {s i : Nat} (hC : CN M lo w u j T c X) (hs3 : s < 3) (hg1 : gt (yxs X s) = 1) (hi : i < tn (T (gx (yxs X s)))) (h0 : gd (yxs X s) i = 0) (hob : yob (T (gx (yxs X s))) X.1.1 i (tu (T (gx (yxs X s))) i) 1 = 0) (k : ∀ M', CN M' lo w u j T c (yag T X.1 (1, s, i), X.2) → Fr (FV u) M M' → Q none M') : qC (d + 5) 97 [.ref w, .ref (u + 3 + 8 * s), .int (nI 1), .int (nI i)] M Q := by
  refine qC_of (by decide) (Nat.le_of_ble_eq_true rfl) ?_
  have hC0 := hC
  obtain ⟨hS, hw, hT, hO, hR⟩ := hC
  have hwo := hS.wo hw
  have hd := hw.d
  have hc6 := hO.1.1
  have hsa := hw.sg hs3
  have hs := hS.sg hsa
  have hRs : RS M (u + 3 + 8 * s) T (yNm T X.1 s) (yxs X s) := hR.2.1 s hs3
  have hOs : OKS T c (yxs X s) := hO.2.2 s hs3
  have hg0 : ¬ gt (yxs X s) = 0 := by omega
  have hx : gx (yxs X s) < c := hOs.2.1 hg0
  have ho := hO.1.2 _ hx
  have hn := ho.n
  have hz : gz T (yxs X s) = tn (T (gx (yxs X s))) := by unfold gz; rw [if_neg hg0]
  have hRs' := hRs
  obtain ⟨⟨q0, q1, q2⟩, ⟨q3, q4, q5⟩, ⟨q7, q8⟩, q9, qa, qb⟩ := hRs
  have e2 : zr M (u + 3 + 8 * s) 2 = some (20 + 7 * gx (yxs X s)) := q2.trans (if_neg hg0)
  have hlen : (go (yxs X s)).length < 12 := by
    have h2 := OKS_len (OKS_done (S := yxs X s) (n := 0) hOs (show i < gz T (yxs X s) by omega) h0) (show gz T (yxs X s) ≤ 12 by omega)
    have h3 : (go (yxs X s)).length + 1 ≤ gz T (yxs X s) := h2
    omega
  refine q_iload_n d97_0 rfl ?_
  refine n_tsI (58) 59 d97_1 (by decide) (by decide) rfl (by decide) ?_
  refine q_aload_n d97_59 rfl ?_
  refine q_getr (c := 6) (f := 2) d97_60 ⟨rfl, rfl⟩ hwo.1 hwo.2.2.2.1 ?_
  refine q_aload_n d97_63 rfl ?_
  refine q_getr (c := 5) (f := 2) d97_64 ⟨rfl, rfl⟩ hs.1 e2 ?_
  refine q_iload_n d97_67 rfl ?_
  refine q_aload_n d97_68 rfl ?_
  refine q_iload_n d97_69 rfl ?_
  refine q_iconstN (z := 1) d97_70 ?_
  refine q_v2 d97_71 rfl rfl hs.1 (Nat.le_of_ble_eq_true rfl) (c73 hs (by omega) (q9 i (by omega)) ?_)
  refine q_iconstN (z := 1) d97_74 ?_
  refine q_v4 d97_75 rfl rfl (hS.pu hw).1 (Nat.le_of_ble_eq_true rfl) (c51 (hS.pu hw) hR.1 (hS.pr (by omega)) (hT _ hx) ho hi (by omega) (fun M2 hP2 f2 => ?_))
  have hR2 := RW_pu hw hR hP2 f2.fr
  have hR2s := RS_fr hRs' f2.fr (fun b k h1 h2 q => by have := q.2; omega)
  have hs2 := SSg_fi hs f2
  refine q_aload_n d97_78 rfl ?_
  refine q_iload_n d97_79 rfl ?_
  refine q_v1 d97_80 rfl rfl hs2.1 (Nat.le_of_ble_eq_true rfl) (c75 hs2 hR2s h0 (show i < gz T (yxs X s) by omega) (show gz T (yxs X s) ≤ 12 by omega) hlen (fun M3 hR3s f3 => ?_))
  have hR3 := RW_sg hw hR2 hs3 hR3s f3.fr
  have f23 : Fi (FV u) M M3 := (f2.mono (Fb_m (by omega) (by omega))).trans (f3.mono (Fb_m (by omega) (by omega)))
  refine q_goto 136 d97_83 (by decide) ?_
  refine q_ret d97_136 rfl ?_
  exact k _ (hC0.up (X' := yss (ysp X (ych (T (gx (yxs X s))) X.1.1 i (tu (T (gx (yxs X s))) i) 1)) s (yDn (yxs X s) i (tu (T (gx (yxs X s))) i))) (f23.sc hS (fun a k ha q => by have := q.1; omega)) hR3 (OKW_ss (X := ysp X _) ⟨hO.1, OKP_ch ho hi hO.2.1 hob, hO.2.2⟩ (OKS_done hOs (by omega) h0)) f23.fr (yNm_s rfl)) f23.fr
theorem c97_2 {d : Nat} {M : zM} {Q : Option Value → zM → Prop} {lo w u j c : Nat} {T : Nat → yT} {X : yX} {s i : Nat} (hC : CN M lo w u j T c X) (hs3 : s < 3) (hg1 : gt (yxs X s) = 1) (hi : i < tn (T (gx (yxs X s)))) (k : ∀ M', CN M' lo w u j T c (yag T X.1 (2, s, i), X.2) → Fr (FV u) M M' → Q none M') : qC (d + 5) 97 [.ref w, .ref (u + 3 + 8 * s), .int (nI 2), .int (nI i)] M Q := by
  refine qC_of (by decide) (Nat.le_of_ble_eq_true rfl) ?_
  have hC0 := hC
  obtain ⟨hS, hw, hT, hO, hR⟩ := hC
  have hwo := hS.wo hw
  have hd := hw.d
  have hc6 := hO.1.1
  have hsa := hw.sg hs3
  have hs := hS.sg hsa
  have hRs : RS M (u + 3 + 8 * s) T (yNm T X.1 s) (yxs X s) := hR.2.1 s hs3
  have hOs : OKS T c (yxs X s) := hO.2.2 s hs3
  have hg0 : ¬ gt (yxs X s) = 0 := by omega
  have hx : gx (yxs X s) < c := hOs.2.1 hg0
  have ho := hO.1.2 _ hx
  have hn := ho.n
  have hz : gz T (yxs X s) = tn (T (gx (yxs X s))) := by unfold gz; rw [if_neg hg0]
  have hRs' := hRs
  obtain ⟨⟨q0, q1, q2⟩, ⟨q3, q4, q5⟩, ⟨q7, q8⟩, q9, qa, qb⟩ := hRs
  have e2 : zr M (u + 3 + 8 * s) 2 = some (20 + 7 * gx (yxs X s)) := q2.trans (if_neg hg0)
  refine q_iload_n d97_0 rfl ?_
  refine n_tsI (85) 86 d97_1 (by decide) (by decide) rfl (by decide) ?_
  refine q_aload_n d97_86 rfl ?_
  refine q_iload_n d97_87 rfl ?_
  refine q_iconstN (z := 0) d97_88 ?_
  refine q_v2 d97_89 rfl rfl hs.1 (Nat.le_of_ble_eq_true rfl) (c76 hs hRs' (by omega) hg0 (hS.pr (by omega)) (hT _ hx) (by omega) (fun M1 hR1 f1 => ?_))
  refine q_goto 136 d97_92 (by decide) ?_
  refine q_ret d97_136 rfl ?_
  exact k _ (hC0.up (X' := yss X s (yfS (yxs X s) i 0 (ypa (T (gx (yxs X s))) (gm (yxs X s) 1)))) (f1.sc hS (fun a k ha q => by have := q.1; omega)) (RW_sg hw hR hs3 hR1 f1.fr) (OKW_ss hO (OKS_fS hOs hg0)) (f1.fr.mono (Fb_m (by omega) (by omega))) (yNm_s (P := X.1.1) (yfS_d _ _ _ _).2.1)) (f1.fr.mono (Fb_m (by omega) (by omega)))
theorem c97_3 {d : Nat} {M : zM} {Q : Option Value → zM → Prop} {lo w u j c : Nat} {T : Nat → yT} {X : yX} {s i : Nat} {t : List Nat} (hC : CN M lo w u j T c X) (hs3 : s < 3) (hg0 : ¬ gt (yxs X s) = 0) (hgo : go (yxs X s) = i :: t) (hob : yob (T (gx (yxs X s))) X.1.1 i (gb (yxs X s) i) (-1) = 0) (k : ∀ M', CN M' lo w u j T c (yag T X.1 (3, s, i), X.2) → Fr (FV u) M M' → Q none M') : qC (d + 5) 97 [.ref w, .ref (u + 3 + 8 * s), .int (nI 3), .int (nI i)] M Q := by
  refine qC_of (by decide) (Nat.le_of_ble_eq_true rfl) ?_
  have hC0 := hC
  obtain ⟨hS, hw, hT, hO, hR⟩ := hC
  have hwo := hS.wo hw
  have hd := hw.d
  have hc6 := hO.1.1
  have hsa := hw.sg hs3
  have hs := hS.sg hsa
  have hRs : RS M (u + 3 + 8 * s) T (yNm T X.1 s) (yxs X s) := hR.2.1 s hs3
  have hOs : OKS T c (yxs X s) := hO.2.2 s hs3
  have hx : gx (yxs X s) < c := hOs.2.1 hg0
  have ho := hO.1.2 _ hx
  have hn := ho.n
  have hz : gz T (yxs X s) = tn (T (gx (yxs X s))) := by unfold gz; rw [if_neg hg0]
  have hRs' := hRs
  obtain ⟨⟨q0, q1, q2⟩, ⟨q3, q4, q5⟩, ⟨q7, q8⟩, q9, qa, qb⟩ := hRs
  have e2 : zr M (u + 3 + 8 * s) 2 = some (20 + 7 * gx (yxs X s)) := q2.trans (if_neg hg0)
  have hgd : gd (yxs X s) i = 1 := (hOs.2.2.2.1 i).mp (by rw [hgo]; exact List.mem_cons_self)
  have hi : i < tn (T (gx (yxs X s))) := Nat.lt_of_not_le (fun q => by have := hOs.2.2.2.2.1 i (by omega); omega)
  have hlen : (go (yxs X s)).length ≤ 12 := Nat.le_trans (OKS_len hOs (by omega)) (by omega)
  have et : (go (yxs X s)).tail = t := by rw [hgo]; rfl
  refine q_iload_n d97_0 rfl ?_
  refine n_tsI (94) 95 d97_1 (by decide) (by decide) rfl (by decide) ?_
  refine q_aload_n d97_95 rfl ?_
  refine q_getr (c := 6) (f := 2) d97_96 ⟨rfl, rfl⟩ hwo.1 hwo.2.2.2.1 ?_
  refine q_aload_n d97_99 rfl ?_
  refine q_getr (c := 5) (f := 2) d97_100 ⟨rfl, rfl⟩ hs.1 e2 ?_
  refine q_iload_n d97_103 rfl ?_
  refine q_aload_n d97_104 rfl ?_
  refine q_iload_n d97_105 rfl ?_
  refine q_iconst (x := (-1)) d97_106 rfl ?_
  refine q_v2 d97_107 rfl rfl hs.1 (Nat.le_of_ble_eq_true rfl) (c73b hs (by omega) (qa i (by omega) hgd) ?_)
  refine q_iconst (x := (-1)) d97_110 rfl ?_
  refine q_v4 d97_111 rfl rfl (hS.pu hw).1 (Nat.le_of_ble_eq_true rfl) (c51 (hS.pu hw) hR.1 (hS.pr (by omega)) (hT _ hx) ho hi (by omega) (fun M2 hP2 f2 => ?_))
  have hR2 := RW_pu hw hR hP2 f2.fr
  have hR2s := RS_fr hRs' f2.fr (fun b k h1 h2 q => by have := q.2; omega)
  have hs2 := SSg_fi hs f2
  refine q_aload_n d97_114 rfl ?_
  refine q_iload_n d97_115 rfl ?_
  refine q_v1 d97_116 rfl rfl hs2.1 (Nat.le_of_ble_eq_true rfl) (c84 hs2 hR2s hgo hgd (by omega) hlen (fun M3 hR3s f3 => ?_))
  have hR3 := RW_sg hw hR2 hs3 hR3s f3.fr
  have f23 : Fi (FV u) M M3 := (f2.mono (Fb_m (by omega) (by omega))).trans (f3.mono (Fb_m (by omega) (by omega)))
  refine q_goto 136 d97_119 (by decide) ?_
  refine q_ret d97_136 rfl ?_
  exact k _ (hC0.up (X' := yss (ysp X (ych (T (gx (yxs X s))) X.1.1 i (gb (yxs X s) i) (-1))) s (goS (gdS (yxs X s) (yu (gd (yxs X s)) i 2)) (go (yxs X s)).tail)) (f23.sc hS (fun a k ha q => by have := q.1; omega)) (by rw [et]; exact hR3) (by rw [et]; exact OKW_ss (X := ysp X _) ⟨hO.1, OKP_ch ho hi hO.2.1 hob, hO.2.2⟩ (OKS_undo hOs hgo (Or.inl rfl))) f23.fr (yNm_s rfl)) f23.fr
theorem c97_4 {d : Nat} {M : zM} {Q : Option Value → zM → Prop} {lo w u j c : Nat} {T : Nat → yT} {X : yX} {s i : Nat} {t : List Nat} (hC : CN M lo w u j T c X) (hs3 : s < 3) (hg0 : ¬ gt (yxs X s) = 0) (hgo : go (yxs X s) = i :: t) (k : ∀ M', CN M' lo w u j T c (yag T X.1 (4, s, i), X.2) → Fr (FV u) M M' → Q none M') : qC (d + 5) 97 [.ref w, .ref (u + 3 + 8 * s), .int (nI 4), .int (nI i)] M Q := by
  refine qC_of (by decide) (Nat.le_of_ble_eq_true rfl) ?_
  have hC0 := hC
  obtain ⟨hS, hw, hT, hO, hR⟩ := hC
  have hwo := hS.wo hw
  have hd := hw.d
  have hc6 := hO.1.1
  have hsa := hw.sg hs3
  have hs := hS.sg hsa
  have hRs : RS M (u + 3 + 8 * s) T (yNm T X.1 s) (yxs X s) := hR.2.1 s hs3
  have hOs : OKS T c (yxs X s) := hO.2.2 s hs3
  have hx : gx (yxs X s) < c := hOs.2.1 hg0
  have ho := hO.1.2 _ hx
  have hn := ho.n
  have hz : gz T (yxs X s) = tn (T (gx (yxs X s))) := by unfold gz; rw [if_neg hg0]
  have hRs' := hRs
  obtain ⟨⟨q0, q1, q2⟩, ⟨q3, q4, q5⟩, ⟨q7, q8⟩, q9, qa, qb⟩ := hRs
  have e2 : zr M (u + 3 + 8 * s) 2 = some (20 + 7 * gx (yxs X s)) := q2.trans (if_neg hg0)
  have hgd : gd (yxs X s) i = 1 := (hOs.2.2.2.1 i).mp (by rw [hgo]; exact List.mem_cons_self)
  have hi : i < tn (T (gx (yxs X s))) := Nat.lt_of_not_le (fun q => by have := hOs.2.2.2.2.1 i (by omega); omega)
  have hlen : (go (yxs X s)).length ≤ 12 := Nat.le_trans (OKS_len hOs (by omega)) (by omega)
  have et : (go (yxs X s)).tail = t := by rw [hgo]; rfl
  refine q_iload_n d97_0 rfl ?_
  refine n_tsI (121) 122 d97_1 (by decide) (by decide) rfl (by decide) ?_
  refine q_aload_n d97_122 rfl ?_
  refine q_iload_n d97_123 rfl ?_
  refine q_iconstN (z := 0) d97_124 ?_
  refine q_v2 d97_125 rfl rfl hs.1 (Nat.le_of_ble_eq_true rfl) (c86 hs hRs' hgo hgd (by omega) hlen (fun M1 hR1 f1 => ?_))
  refine q_goto 136 d97_128 (by decide) ?_
  refine q_ret d97_136 rfl ?_
  exact k _ (hC0.up (X' := yss X s (gwS (goS (gdS (yxs X s) (yu (gd (yxs X s)) i 3)) (go (yxs X s)).tail) (yu (gw (yxs X s)) i 0))) (f1.sc hS (fun a k ha q => by have := q.1; omega)) (by rw [et]; exact RW_sg hw hR hs3 hR1 f1.fr) (by rw [et]; exact OKW_ss hO (OKS_undo hOs hgo (Or.inr rfl))) (f1.fr.mono (Fb_m (by omega) (by omega))) (yNm_s (P := X.1.1) rfl)) (f1.fr.mono (Fb_m (by omega) (by omega)))
theorem c97_5 {d : Nat} {M : zM} {Q : Option Value → zM → Prop} {lo w u j c : Nat} {T : Nat → yT} {X : yX} {s i : Nat} (hC : CN M lo w u j T c X) (hs3 : s < 3) (hg0 : ¬ gt (yxs X s) = 0) (h35 : 3 ≤ i ∧ i ≤ 5) (k : ∀ M', CN M' lo w u j T c (yag T X.1 (5, s, i), X.2) → Fr (FV u) M M' → Q none M') : qC (d + 5) 97 [.ref w, .ref (u + 3 + 8 * s), .int (nI 5), .int (nI i)] M Q := by
  refine qC_of (by decide) (Nat.le_of_ble_eq_true rfl) ?_
  have hC0 := hC
  obtain ⟨hS, hw, hT, hO, hR⟩ := hC
  have hwo := hS.wo hw
  have hd := hw.d
  have hc6 := hO.1.1
  have hsa := hw.sg hs3
  have hs := hS.sg hsa
  have hRs : RS M (u + 3 + 8 * s) T (yNm T X.1 s) (yxs X s) := hR.2.1 s hs3
  have hOs : OKS T c (yxs X s) := hO.2.2 s hs3
  refine q_iload_n d97_0 rfl ?_
  refine n_tsO 131 d97_1 (by decide) (Or.inr (by decide)) (by decide) ?_
  refine q_aload_n d97_131 rfl ?_
  refine q_iload_n d97_132 rfl ?_
  refine q_puti (c := 5) (f := 0) d97_133 ⟨rfl, rfl, by decide⟩ hs.1 ?_
  refine q_ret d97_136 rfl ?_
  have f1 : Fi (FS (u + 3 + 8 * s)) M (zwi M (u + 3 + 8 * s) 0 (nI i)) := (Fi.refl _ _).wi FS_0
  exact k _ (hC0.up (X' := yss X s (gtS (yxs X s) i)) (f1.sc hS (fun a k ha q => by have := q.1; omega)) (RW_sg hw hR hs3 (RS_gt hRs hg0 (by omega)) f1.fr) (OKW_ss hO (OKS_st hOs hg0 (by omega) h35.2)) (f1.fr.mono (Fb_m (by omega) (by omega))) (yNm_s (P := X.1.1) rfl)) (f1.fr.mono (Fb_m (by omega) (by omega)))
theorem d96_0 : decode (zB 96) 0 = .ok (.iload_n 1, 1) := by decide +kernel
theorem d96_1 : decode (zB 96) 1 = .ok (.bipush 6, 2) := by decide +kernel
theorem d96_3 : decode (zB 96) 3 = .ok (.if_icmp .ne 23, 3) := by decide +kernel
theorem d96_6 : decode (zB 96) 6 = .ok (.iload_n 2, 1) := by decide +kernel
theorem d96_7 : decode (zB 96) 7 = .ok (.invokestatic 51, 3) := by decide +kernel
theorem d96_10 : decode (zB 96) 10 = .ok (.ifCond .eq 35, 3) := by decide +kernel
theorem d96_13 : decode (zB 96) 13 = .ok (.aload_n 0, 1) := by decide +kernel
theorem d96_14 : decode (zB 96) 14 = .ok (.getfield 12, 3) := by decide +kernel
theorem d96_17 : decode (zB 96) 17 = .ok (.getfield 54, 3) := by decide +kernel
theorem d96_20 : decode (zB 96) 20 = .ok (.iload_n 2, 1) := by decide +kernel
theorem d96_21 : decode (zB 96) 21 = .ok (.iload_n 3, 1) := by decide +kernel
theorem d96_22 : decode (zB 96) 22 = .ok (.iastore, 1) := by decide +kernel
theorem d96_23 : decode (zB 96) 23 = .ok (.goto 22, 3) := by decide +kernel
theorem d96_26 : decode (zB 96) 26 = .ok (.iload_n 2, 1) := by decide +kernel
theorem d96_27 : decode (zB 96) 27 = .ok (.invokestatic 176, 3) := by decide +kernel
theorem d96_30 : decode (zB 96) 30 = .ok (.ifCond .eq 15, 3) := by decide +kernel
theorem d96_33 : decode (zB 96) 33 = .ok (.aload_n 0, 1) := by decide +kernel
theorem d96_34 : decode (zB 96) 34 = .ok (.aload_n 0, 1) := by decide +kernel
theorem d96_35 : decode (zB 96) 35 = .ok (.getfield 20, 3) := by decide +kernel
theorem d96_38 : decode (zB 96) 38 = .ok (.iload_n 2, 1) := by decide +kernel
theorem d96_39 : decode (zB 96) 39 = .ok (.aaload, 1) := by decide +kernel
theorem d96_40 : decode (zB 96) 40 = .ok (.iload_n 1, 1) := by decide +kernel
theorem d96_41 : decode (zB 96) 41 = .ok (.iload_n 3, 1) := by decide +kernel
theorem d96_42 : decode (zB 96) 42 = .ok (.invokevirtual 179, 3) := by decide +kernel
theorem d96_45 : decode (zB 96) 45 = .ok (.return_, 1) := by decide +kernel
theorem c96 {d : Nat} {M : zM} {Q : Option Value → zM → Prop} {lo w u j c : Nat} {T : Nat → yT} {X : yX} {e s i : Nat} (hC : CN M lo w u j T c X) (hl : yle T c X.1 (e, s, i)) (k : ∀ M', CN M' lo w u j T c (yag T X.1 (e, s, i), X.2) → Fr (FV u) M M' → Q none M') : qC (d + 6) 96 [.ref w, .int (nI e), .int (nI s), .int (nI i)] M Q := by
  refine qC_of (by decide) (Nat.le_of_ble_eq_true rfl) ?_
  have hC0 := hC
  obtain ⟨hS, hw, hT, hO, hR⟩ := hC
  have hwo := hS.wo hw
  have hd := hw.d
  have hc6 := hO.1.1
  rcases hl with ⟨rfl, h1, h2⟩ | ⟨rfl, h1, h2, h3, h4, h5⟩ | ⟨rfl, h1, h2, h3⟩ | ⟨rfl, h1, h2, ⟨t, h3⟩, h5⟩ | ⟨rfl, h1, h2, t, h3⟩ | ⟨rfl, h1, h2, h3⟩ | ⟨rfl, h1, h2⟩
  · skip
    refine q_iload_n d96_0 rfl ?_
    refine q_bipush (x := nI 6) d96_1 rfl ?_
    refine nc_ne 26 d96_3 (by decide) (by omega) (by omega) (fun _ => ?_) (fun q => absurd q (by decide))
    refine q_iload_n d96_26 rfl ?_
    refine q_s1 d96_27 (Or.inr rfl) rfl (Nat.le_of_ble_eq_true rfl) (c60t h1 ?_)
    refine n0_eq 45 d96_30 (by decide) (by decide) (fun q => absurd q (by decide)) (fun _ => ?_)
    have hs := hS.sg (hw.sg h1)
    refine q_aload_n d96_33 rfl ?_
    refine q_aload_n d96_34 rfl ?_
    refine q_getr (c := 6) (f := 3) d96_35 ⟨rfl, rfl⟩ hwo.1 hwo.2.2.2.2.1 ?_
    refine q_iload_n d96_38 rfl ?_
    refine n_aald d96_39 hwo.2.2.2.2.2.1 (by decide) (by omega) (by decide) (hwo.2.2.2.2.2.2 _ (by omega)) ?_
    refine q_iload_n d96_40 rfl ?_
    refine q_iload_n d96_41 rfl ?_
    refine q_v3 d96_42 rfl rfl hwo.1 (Nat.le_of_ble_eq_true rfl) (c97_0 hC0 h1 h2 (fun M1 hC1 f1 => ?_))
    refine q_ret d96_45 rfl ?_
    exact k _ hC1 f1
  · skip
    refine q_iload_n d96_0 rfl ?_
    refine q_bipush (x := nI 6) d96_1 rfl ?_
    refine nc_ne 26 d96_3 (by decide) (by omega) (by omega) (fun _ => ?_) (fun q => absurd q (by decide))
    refine q_iload_n d96_26 rfl ?_
    refine q_s1 d96_27 (Or.inr rfl) rfl (Nat.le_of_ble_eq_true rfl) (c60t h1 ?_)
    refine n0_eq 45 d96_30 (by decide) (by decide) (fun q => absurd q (by decide)) (fun _ => ?_)
    have hs := hS.sg (hw.sg h1)
    refine q_aload_n d96_33 rfl ?_
    refine q_aload_n d96_34 rfl ?_
    refine q_getr (c := 6) (f := 3) d96_35 ⟨rfl, rfl⟩ hwo.1 hwo.2.2.2.2.1 ?_
    refine q_iload_n d96_38 rfl ?_
    refine n_aald d96_39 hwo.2.2.2.2.2.1 (by decide) (by omega) (by decide) (hwo.2.2.2.2.2.2 _ (by omega)) ?_
    refine q_iload_n d96_40 rfl ?_
    refine q_iload_n d96_41 rfl ?_
    refine q_v3 d96_42 rfl rfl hwo.1 (Nat.le_of_ble_eq_true rfl) (c97_1 hC0 h1 h2 h3 h4 h5 (fun M1 hC1 f1 => ?_))
    refine q_ret d96_45 rfl ?_
    exact k _ hC1 f1
  · skip
    refine q_iload_n d96_0 rfl ?_
    refine q_bipush (x := nI 6) d96_1 rfl ?_
    refine nc_ne 26 d96_3 (by decide) (by omega) (by omega) (fun _ => ?_) (fun q => absurd q (by decide))
    refine q_iload_n d96_26 rfl ?_
    refine q_s1 d96_27 (Or.inr rfl) rfl (Nat.le_of_ble_eq_true rfl) (c60t h1 ?_)
    refine n0_eq 45 d96_30 (by decide) (by decide) (fun q => absurd q (by decide)) (fun _ => ?_)
    have hs := hS.sg (hw.sg h1)
    refine q_aload_n d96_33 rfl ?_
    refine q_aload_n d96_34 rfl ?_
    refine q_getr (c := 6) (f := 3) d96_35 ⟨rfl, rfl⟩ hwo.1 hwo.2.2.2.2.1 ?_
    refine q_iload_n d96_38 rfl ?_
    refine n_aald d96_39 hwo.2.2.2.2.2.1 (by decide) (by omega) (by decide) (hwo.2.2.2.2.2.2 _ (by omega)) ?_
    refine q_iload_n d96_40 rfl ?_
    refine q_iload_n d96_41 rfl ?_
    refine q_v3 d96_42 rfl rfl hwo.1 (Nat.le_of_ble_eq_true rfl) (c97_2 hC0 h1 h2 h3 (fun M1 hC1 f1 => ?_))
    refine q_ret d96_45 rfl ?_
    exact k _ hC1 f1
  · skip
    refine q_iload_n d96_0 rfl ?_
    refine q_bipush (x := nI 6) d96_1 rfl ?_
    refine nc_ne 26 d96_3 (by decide) (by omega) (by omega) (fun _ => ?_) (fun q => absurd q (by decide))
    refine q_iload_n d96_26 rfl ?_
    refine q_s1 d96_27 (Or.inr rfl) rfl (Nat.le_of_ble_eq_true rfl) (c60t h1 ?_)
    refine n0_eq 45 d96_30 (by decide) (by decide) (fun q => absurd q (by decide)) (fun _ => ?_)
    have hs := hS.sg (hw.sg h1)
    refine q_aload_n d96_33 rfl ?_
    refine q_aload_n d96_34 rfl ?_
    refine q_getr (c := 6) (f := 3) d96_35 ⟨rfl, rfl⟩ hwo.1 hwo.2.2.2.2.1 ?_
    refine q_iload_n d96_38 rfl ?_
    refine n_aald d96_39 hwo.2.2.2.2.2.1 (by decide) (by omega) (by decide) (hwo.2.2.2.2.2.2 _ (by omega)) ?_
    refine q_iload_n d96_40 rfl ?_
    refine q_iload_n d96_41 rfl ?_
    refine q_v3 d96_42 rfl rfl hwo.1 (Nat.le_of_ble_eq_true rfl) (c97_3 hC0 h1 h2 h3 h5 (fun M1 hC1 f1 => ?_))
    refine q_ret d96_45 rfl ?_
    exact k _ hC1 f1
  · skip
    refine q_iload_n d96_0 rfl ?_
    refine q_bipush (x := nI 6) d96_1 rfl ?_
    refine nc_ne 26 d96_3 (by decide) (by omega) (by omega) (fun _ => ?_) (fun q => absurd q (by decide))
    refine q_iload_n d96_26 rfl ?_
    refine q_s1 d96_27 (Or.inr rfl) rfl (Nat.le_of_ble_eq_true rfl) (c60t h1 ?_)
    refine n0_eq 45 d96_30 (by decide) (by decide) (fun q => absurd q (by decide)) (fun _ => ?_)
    have hs := hS.sg (hw.sg h1)
    refine q_aload_n d96_33 rfl ?_
    refine q_aload_n d96_34 rfl ?_
    refine q_getr (c := 6) (f := 3) d96_35 ⟨rfl, rfl⟩ hwo.1 hwo.2.2.2.2.1 ?_
    refine q_iload_n d96_38 rfl ?_
    refine n_aald d96_39 hwo.2.2.2.2.2.1 (by decide) (by omega) (by decide) (hwo.2.2.2.2.2.2 _ (by omega)) ?_
    refine q_iload_n d96_40 rfl ?_
    refine q_iload_n d96_41 rfl ?_
    refine q_v3 d96_42 rfl rfl hwo.1 (Nat.le_of_ble_eq_true rfl) (c97_4 hC0 h1 h2 h3 (fun M1 hC1 f1 => ?_))
    refine q_ret d96_45 rfl ?_
    exact k _ hC1 f1
  · skip
    refine q_iload_n d96_0 rfl ?_
    refine q_bipush (x := nI 6) d96_1 rfl ?_
    refine nc_ne 26 d96_3 (by decide) (by omega) (by omega) (fun _ => ?_) (fun q => absurd q (by decide))
    refine q_iload_n d96_26 rfl ?_
    refine q_s1 d96_27 (Or.inr rfl) rfl (Nat.le_of_ble_eq_true rfl) (c60t h1 ?_)
    refine n0_eq 45 d96_30 (by decide) (by decide) (fun q => absurd q (by decide)) (fun _ => ?_)
    have hs := hS.sg (hw.sg h1)
    refine q_aload_n d96_33 rfl ?_
    refine q_aload_n d96_34 rfl ?_
    refine q_getr (c := 6) (f := 3) d96_35 ⟨rfl, rfl⟩ hwo.1 hwo.2.2.2.2.1 ?_
    refine q_iload_n d96_38 rfl ?_
    refine n_aald d96_39 hwo.2.2.2.2.2.1 (by decide) (by omega) (by decide) (hwo.2.2.2.2.2.2 _ (by omega)) ?_
    refine q_iload_n d96_40 rfl ?_
    refine q_iload_n d96_41 rfl ?_
    refine q_v3 d96_42 rfl rfl hwo.1 (Nat.le_of_ble_eq_true rfl) (c97_5 hC0 h1 h2 h3 (fun M1 hC1 f1 => ?_))
    refine q_ret d96_45 rfl ?_
    exact k _ hC1 f1
  · skip
    have h1 : s < 6 := h1
    have h2 : i ≤ 9999 := h2
    refine q_iload_n d96_0 rfl ?_
    refine q_bipush (x := nI 6) d96_1 rfl ?_
    refine nc_ne 26 d96_3 (by decide) (by omega) (by omega) (fun q => absurd rfl q) (fun _ => ?_)
    refine q_iload_n d96_6 rfl ?_
    refine q_s1 d96_7 (Or.inr rfl) rfl (Nat.le_of_ble_eq_true rfl) (c26t h1 ?_)
    refine n0_eq 45 d96_10 (by decide) (by decide) (fun q => absurd q (by decide)) (fun _ => ?_)
    refine q_aload_n d96_13 rfl ?_
    refine q_getr (c := 6) (f := 2) d96_14 ⟨rfl, rfl⟩ hwo.1 hwo.2.2.2.1 ?_
    refine q_getr (c := 2) (f := 0) d96_17 ⟨rfl, rfl⟩ (hS.pu hw).1 (hS.pu hw).2.1 ?_
    refine q_iload_n d96_20 rfl ?_
    refine q_iload_n d96_21 rfl ?_
    refine n_iast d96_22 (hS.pu hw).2.2 (by omega) (by decide) ?_
    refine q_goto 45 d96_23 (by decide) ?_
    refine q_ret d96_45 rfl ?_
    have f1 : Fi (FU u) M (zwi M (u + 1) s (nI i)) := (Fi.refl _ _).wi (FU_1 _ _)
    exact k _ (hC0.up (X' := ysp X (yu X.1.1.1 s (nI i), X.1.1.2)) (f1.sc hS (fun a k ha q => by have := q.1; omega)) (RW_pu hw hR (RPu_b hR.1) f1.fr) ⟨hO.1, OKP_u hO.2.1 ⟨nI_pos' (by omega), nI_le h2 (by omega)⟩, hO.2.2⟩ (f1.fr.mono (Fb_m (by omega) (by omega))) (fun _ _ _ _ => rfl)) (f1.fr.mono (Fb_m (by omega) (by omega)))
