/-! ===== the reference: the next token ===== -/
/-- the token that is read -/
def TK (M : zM) (b : Nat → Nat) (k : yK) : Prop := (∀ t v, ytx b k = some (t, v) → zi M 136 33 = nI t ∧ (t ≠ 0 → zi M 136 34 = nI v) ∧ zi M 136 38 = nI 0) ∧ (ytx b k = none → zi M 136 38 = nI 1)
theorem TK.s {M : zM} {b : Nat → Nat} {k : yK} {t v : Nat} (e : ytx b k = some (t, v)) (h1 : zi M 136 33 = nI t) (h2 : t ≠ 0 → zi M 136 34 = nI v) (h3 : zi M 136 38 = nI 0) : TK M b k := by
  refine ⟨fun t2 v2 h => ?_, fun h => ?_⟩
  · rw [e] at h
    cases h
    exact ⟨h1, h2, h3⟩
  · rw [e] at h; cases h
theorem TK.n {M : zM} {b : Nat → Nat} {k : yK} (e : ytx b k = none) (h3 : zi M 136 38 = nI 1) : TK M b k := by
  refine ⟨fun t2 v2 h => ?_, fun h => h3⟩
  rw [e] at h; cases h
theorem ytx_s {b : Nat → Nat} {c q e : Nat} (h : c = 59 ∨ c = 123 ∨ c = 124 ∨ c = 125 ∨ c = 33) : ytx b (c, q, e) = some (4, c) := by
  rcases h with rfl | rfl | rfl | rfl | rfl <;> rfl
theorem ytx_1 {b : Nat → Nat} {q e : Nat} (h : e - q = 1 ∧ b q ≤ 102) : ytx b (1, q, e) = some (2, b q - 97) := if_pos h
theorem ytx_2 {b : Nat → Nat} {q e : Nat} (h : ¬ (e - q = 1 ∧ b q ≤ 102)) (h6 : ykw b q e < 6) : ytx b (1, q, e) = some (1, ykw b q e) := (if_neg h).trans (if_pos h6)
theorem ytx_3 {b : Nat → Nat} {q e : Nat} (h : ¬ (e - q = 1 ∧ b q ≤ 102)) (h6 : ¬ ykw b q e < 6) : ytx b (1, q, e) = none := (if_neg h).trans (if_neg h6)
theorem c134 {d : Nat} {M : zM} {Q : Option Value → zM → Prop} {n : Nat} {b : Nat → Nat} {p : Nat} (hX : SX M) (ht : TXp M n b) (hp : zi M 136 31 = nI p) (hpn : p ≤ n) (h38 : zi M 136 38 = nI 0) (k : ∀ M', zi M' 136 31 = nI (ltk n b p).2.2 → zi M' 136 32 = nI (ltk n b p).2.1 → TK M' b (ltk n b p) → Fi FN M M' → Q none M') : qC (d + 10) 134 [.ref 136] M Q := by
  refine qC_of (by decide) (Nat.le_of_ble_eq_true rfl) ?_
  refine q_aload_n d134_0 rfl ?_
  refine q_getv (c := 8) (f := 38) d134_1 ⟨rfl, by decide⟩ (xk_136 hX) h38 ?_
  refine n0_eq 8 d134_4 (by decide) (by decide) (fun _ => ?_) (fun q => absurd q (by decide))
  refine l134a hX ht 120 p M (by have := ht.1; omega) hp (Fi.refl _ _) (fun M1 hp1 f1 => ?_) hpn
  have h120 := ht.1
  have hX1 := SX_fi hX f1
  have ht1 := TXp_fi ht f1 FQ_t
  have h381 : zi M1 136 38 = nI 0 := (f1.1 _ _ (by unfold FQ; omega)).trans h38
  have hq0 := lsk_ge (n := n) (b := b) 120 p
  have hq1 := hq0.2 hpn
  obtain ⟨q, hqe⟩ : ∃ q, lsk n b 120 p = q := ⟨_, rfl⟩
  rw [hqe] at hp1 hq0 hq1
  by_cases hq : n ≤ q
  · skip
    refine q_aload_n d134_47 rfl ?_
    refine q_aload_n d134_48 rfl ?_
    refine q_getv (c := 8) (f := 31) d134_49 ⟨rfl, by decide⟩ (xk_136 hX1) hp1 ?_
    refine q_puti (c := 8) (f := 32) d134_52 ⟨rfl, rfl, by decide⟩ (xk_136 hX1) ?_
    have f2 : Fi FN M (zwi M1 136 32 (nI q)) := (f1.mono (fun a k q => FQ_N q)).wi ⟨rfl, by omega⟩
    have hX2 := SX_fi hX f2
    have ht2 := TXp_fi ht f2 FN_t
    have hp2 : zi (zwi M1 136 32 (nI q)) 136 31 = nI q := (wi_n (by omega)).trans hp1
    have hb2 : zi (zwi M1 136 32 (nI q)) 136 32 = nI q := wi_s _ _ _ _
    have h382 : zi (zwi M1 136 32 (nI q)) 136 38 = nI 0 := (wi_n (by omega)).trans h381
    refine q_aload_n d134_55 rfl ?_
    refine q_aload_n d134_56 rfl ?_
    refine q_getv (c := 8) (f := 31) d134_57 ⟨rfl, by decide⟩ (xk_136 hX2) hp2 ?_
    refine q_v1 d134_60 rfl rfl (xk_136 hX2) (Nat.le_of_ble_eq_true rfl) (c135f hX2 ht2 (by omega) (by omega) ?_)
    refine q_istore_n d134_63 (by decide) rfl ?_
    refine q_iload_n d134_64 rfl ?_
    refine q_iconst (x := (-1)) d134_65 rfl ?_
    refine ic_ne 77 d134_66 (by decide) (fun h66 => (False.elim (h66 rfl))) (fun h66 => ?_)
    refine q_aload_n d134_69 rfl ?_
    refine q_iconstN (z := 0) d134_70 ?_
    refine q_puti (c := 8) (f := 33) d134_71 ⟨rfl, rfl, by decide⟩ (xk_136 hX2) ?_
    refine q_goto 368 d134_74 (by decide) ?_
    refine q_ret d134_368 rfl ?_
    rw [show ltk n b p = (0, q, q) by unfold ltk; simp only []; rw [hqe, if_pos hq]] at k
    exact k _ (by (repeat (first | rw [wi_n (Or.inl (by omega))] | rw [wi_n (Or.inr (by omega))] | rw [wi_s] | rw [wr_i] | rw [cp_n (by omega)] | rw [cp_0 (by omega)])); exact hp2) (by (repeat (first | rw [wi_n (Or.inl (by omega))] | rw [wi_n (Or.inr (by omega))] | rw [wi_s] | rw [wr_i] | rw [cp_n (by omega)] | rw [cp_0 (by omega)]))) (TK.s rfl (by (repeat (first | rw [wi_n (Or.inl (by omega))] | rw [wi_n (Or.inr (by omega))] | rw [wi_s] | rw [wr_i] | rw [cp_n (by omega)] | rw [cp_0 (by omega)]))) (fun h => absurd rfl h) (by (repeat (first | rw [wi_n (Or.inl (by omega))] | rw [wi_n (Or.inr (by omega))] | rw [wi_s] | rw [wr_i] | rw [cp_n (by omega)] | rw [cp_0 (by omega)])); exact h382)) (f2.wi ⟨rfl, by omega⟩)
  · have hbq := (ht.2.2 q (by omega)).2
    by_cases hc : 97 ≤ b q ∧ b q ≤ 122
    · skip
      refine q_aload_n d134_47 rfl ?_
      refine q_aload_n d134_48 rfl ?_
      refine q_getv (c := 8) (f := 31) d134_49 ⟨rfl, by decide⟩ (xk_136 hX1) hp1 ?_
      refine q_puti (c := 8) (f := 32) d134_52 ⟨rfl, rfl, by decide⟩ (xk_136 hX1) ?_
      have f2 : Fi FN M (zwi M1 136 32 (nI q)) := (f1.mono (fun a k q => FQ_N q)).wi ⟨rfl, by omega⟩
      have hX2 := SX_fi hX f2
      have ht2 := TXp_fi ht f2 FN_t
      have hp2 : zi (zwi M1 136 32 (nI q)) 136 31 = nI q := (wi_n (by omega)).trans hp1
      have hb2 : zi (zwi M1 136 32 (nI q)) 136 32 = nI q := wi_s _ _ _ _
      have h382 : zi (zwi M1 136 32 (nI q)) 136 38 = nI 0 := (wi_n (by omega)).trans h381
      refine q_aload_n d134_55 rfl ?_
      refine q_aload_n d134_56 rfl ?_
      refine q_getv (c := 8) (f := 31) d134_57 ⟨rfl, by decide⟩ (xk_136 hX2) hp2 ?_
      refine q_v1 d134_60 rfl rfl (xk_136 hX2) (Nat.le_of_ble_eq_true rfl) (c135t hX2 ht2 (by omega) ?_)
      refine q_istore_n d134_63 (by decide) rfl ?_
      refine q_iload_n d134_64 rfl ?_
      refine q_iconst (x := (-1)) d134_65 rfl ?_
      refine ic_ne 77 d134_66 (by decide) (fun h66 => ?_) (fun h66 => (False.elim (nI_m1 (by omega) h66)))
      refine q_iload_n d134_77 rfl ?_
      refine q_bipush (x := nI 97) d134_78 rfl ?_
      refine q_bipush (x := nI 122) d134_80 rfl ?_
      refine q_s3 d134_82 (Or.inl rfl) rfl (Nat.le_of_ble_eq_true rfl) (c131t hc (by omega) ?_)
      refine n0_eq 196 d134_85 (by decide) (by decide) (fun q => absurd q (by decide)) (fun _ => ?_)
      refine l134b hX2 ht2 120 q _ (by omega) hp2 (Fi.refl _ _) (fun M3 hp3 f3 => ?_) (by omega)
      have f4 : Fi FN M M3 := f2.trans (f3.mono (fun a k q => FQ_N q))
      have hX3 := SX_fi hX f4
      have ht3 := TXp_fi ht f4 FN_t
      have hb3 : zi M3 136 32 = nI q := (f3.1 _ _ (by unfold FQ; omega)).trans hb2
      have h383 : zi M3 136 38 = nI 0 := (f3.1 _ _ (by unfold FQ; omega)).trans h382
      have hle := lrn_ge (n := n) (b := b) (lo := 97) (hi := 122) 120 q
      have hle2 := hle.2 (by omega)
      have eL : ltk n b p = (1, q, lrn n b 97 122 120 q) := by unfold ltk; simp only []; rw [hqe, if_neg (by omega), if_pos hc]
      rw [eL] at k
      obtain ⟨e, hee⟩ : ∃ e, lrn n b 97 122 120 q = e := ⟨_, rfl⟩
      rw [hee] at hp3 hle hle2 k eL
      by_cases hone : e - q = 1 ∧ b q ≤ 102
      · skip
        refine q_aload_n d134_119 rfl ?_
        refine q_getv (c := 8) (f := 31) d134_120 ⟨rfl, by decide⟩ (xk_136 hX3) hp3 ?_
        refine q_aload_n d134_123 rfl ?_
        refine q_getv (c := 8) (f := 32) d134_124 ⟨rfl, by decide⟩ (xk_136 hX3) hb3 ?_
        refine n_isub d134_127 (by omega) ?_
        refine q_iconstN (z := 1) d134_128 ?_
        refine nc_ne 142 d134_129 (by decide) (by omega) (by omega) (fun h129 => (False.elim (h129 hone.1))) (fun h129 => ?_)
        refine q_iload_n d134_132 rfl ?_
        refine q_bipush (x := nI 102) d134_133 rfl ?_
        refine nc_gt 142 d134_135 (by decide) (by omega) (by omega) (fun h135 => (False.elim (by omega))) (fun h135 => ?_)
        refine q_iconstN (z := 1) d134_138 ?_
        refine q_goto 143 d134_139 (by decide) ?_
        refine q_istore_n d134_143 (by decide) rfl ?_
        refine q_aload_n d134_144 rfl ?_
        refine q_iload_n d134_145 rfl ?_
        refine n0_eq 153 d134_146 (by decide) (by decide) (fun q => absurd q (by decide)) (fun _ => ?_)
        refine q_iconstN (z := 2) d134_149 ?_
        refine q_goto 154 d134_150 (by decide) ?_
        refine q_puti (c := 8) (f := 33) d134_154 ⟨rfl, rfl, by decide⟩ (xk_136 hX3) ?_
        refine q_aload_n d134_157 rfl ?_
        refine q_iload_n d134_158 rfl ?_
        refine n0_eq 169 d134_159 (by decide) (by decide) (fun q => absurd q (by decide)) (fun _ => ?_)
        refine q_iload_n d134_162 rfl ?_
        refine q_bipush (x := nI 97) d134_163 rfl ?_
        refine n_isub d134_165 (by omega) ?_
        refine q_goto 173 d134_166 (by decide) ?_
        refine q_puti (c := 8) (f := 34) d134_173 ⟨rfl, rfl, by decide⟩ (xk_136 hX3) ?_
        refine q_aload_n d134_176 rfl ?_
        refine q_aload_n d134_177 rfl ?_
        refine q_getv (c := 8) (f := 34) d134_178 ⟨rfl, by decide⟩ (xk_136 hX3) (wi_s _ _ _ _) ?_
        refine q_iconst (x := (-1)) d134_181 rfl ?_
        refine ic_ne 189 d134_182 (by decide) (fun h182 => ?_) (fun h182 => (False.elim (nI_m1 (by omega) h182)))
        refine q_iconstN (z := 0) d134_189 ?_
        refine q_putz (c := 8) (f := 38) d134_190 ⟨rfl, rfl, by decide⟩ (xk_136 hX3) (Or.inl rfl) ?_
        refine q_goto 368 d134_193 (by decide) ?_
        refine q_ret d134_368 rfl ?_
        exact k _ (by (repeat (first | rw [wi_n (Or.inl (by omega))] | rw [wi_n (Or.inr (by omega))] | rw [wi_s] | rw [wr_i] | rw [cp_n (by omega)] | rw [cp_0 (by omega)])); exact hp3) (by (repeat (first | rw [wi_n (Or.inl (by omega))] | rw [wi_n (Or.inr (by omega))] | rw [wi_s] | rw [wr_i] | rw [cp_n (by omega)] | rw [cp_0 (by omega)])); exact hb3) (TK.s (ytx_1 hone) (by (repeat (first | rw [wi_n (Or.inl (by omega))] | rw [wi_n (Or.inr (by omega))] | rw [wi_s] | rw [wr_i] | rw [cp_n (by omega)] | rw [cp_0 (by omega)]))) (fun _ => by (repeat (first | rw [wi_n (Or.inl (by omega))] | rw [wi_n (Or.inr (by omega))] | rw [wi_s] | rw [wr_i] | rw [cp_n (by omega)] | rw [cp_0 (by omega)]))) (by (repeat (first | rw [wi_n (Or.inl (by omega))] | rw [wi_n (Or.inr (by omega))] | rw [wi_s] | rw [wr_i] | rw [cp_n (by omega)] | rw [cp_0 (by omega)])))) (((f4.wi ⟨rfl, by omega⟩).wi ⟨rfl, by omega⟩).wi ⟨rfl, by omega⟩)
      · by_cases h6 : ykw b q e < 6
        · skip
          refine q_aload_n d134_119 rfl ?_
          refine q_getv (c := 8) (f := 31) d134_120 ⟨rfl, by decide⟩ (xk_136 hX3) hp3 ?_
          refine q_aload_n d134_123 rfl ?_
          refine q_getv (c := 8) (f := 32) d134_124 ⟨rfl, by decide⟩ (xk_136 hX3) hb3 ?_
          refine n_isub d134_127 (by omega) ?_
          refine q_iconstN (z := 1) d134_128 ?_
          refine nc_ne 142 d134_129 (by decide) (by omega) (by omega) (fun h129 => ?_) (fun h129 => ?_)
          · refine q_iconstN (z := 0) d134_142 ?_
            refine q_istore_n d134_143 (by decide) rfl ?_
            refine q_aload_n d134_144 rfl ?_
            refine q_iload_n d134_145 rfl ?_
            refine n0_eq 153 d134_146 (by decide) (by decide) (fun _ => ?_) (fun q => absurd q (by decide))
            refine q_iconstN (z := 1) d134_153 ?_
            refine q_puti (c := 8) (f := 33) d134_154 ⟨rfl, rfl, by decide⟩ (xk_136 hX3) ?_
            refine q_aload_n d134_157 rfl ?_
            refine q_iload_n d134_158 rfl ?_
            refine n0_eq 169 d134_159 (by decide) (by decide) (fun _ => ?_) (fun q => absurd q (by decide))
            have f5 : Fi FN M3 (zwi M3 136 33 (nI 1)) := (Fi.refl _ _).wi ⟨rfl, by omega⟩
            have hX5 := SX_fi hX3 f5
            have ht5 := TXp_fi ht3 f5 FN_t
            have hp5 : zi (zwi M3 136 33 (nI 1)) 136 31 = nI e := (wi_n (by omega)).trans hp3
            have hb5 : zi (zwi M3 136 33 (nI 1)) 136 32 = nI q := (wi_n (by omega)).trans hb3
            refine q_aload_n d134_169 rfl ?_
            refine q_v0 d134_170 rfl rfl (xk_136 hX3) (Nat.le_of_ble_eq_true rfl) (c136t hX5 ht5 hp5 hb5 (by omega) (by omega) rfl h6 ?_)
            refine q_puti (c := 8) (f := 34) d134_173 ⟨rfl, rfl, by decide⟩ (xk_136 hX3) ?_
            refine q_aload_n d134_176 rfl ?_
            refine q_aload_n d134_177 rfl ?_
            refine q_getv (c := 8) (f := 34) d134_178 ⟨rfl, by decide⟩ (xk_136 hX3) (wi_s _ _ _ _) ?_
            refine q_iconst (x := (-1)) d134_181 rfl ?_
            refine ic_ne 189 d134_182 (by decide) (fun h182 => ?_) (fun h182 => (False.elim (nI_m1 (by omega) h182)))
            refine q_iconstN (z := 0) d134_189 ?_
            refine q_putz (c := 8) (f := 38) d134_190 ⟨rfl, rfl, by decide⟩ (xk_136 hX3) (Or.inl rfl) ?_
            refine q_goto 368 d134_193 (by decide) ?_
            refine q_ret d134_368 rfl ?_
            exact k _ (by (repeat (first | rw [wi_n (Or.inl (by omega))] | rw [wi_n (Or.inr (by omega))] | rw [wi_s] | rw [wr_i] | rw [cp_n (by omega)] | rw [cp_0 (by omega)])); exact hp3) (by (repeat (first | rw [wi_n (Or.inl (by omega))] | rw [wi_n (Or.inr (by omega))] | rw [wi_s] | rw [wr_i] | rw [cp_n (by omega)] | rw [cp_0 (by omega)])); exact hb3) (TK.s (ytx_2 hone h6) (by (repeat (first | rw [wi_n (Or.inl (by omega))] | rw [wi_n (Or.inr (by omega))] | rw [wi_s] | rw [wr_i] | rw [cp_n (by omega)] | rw [cp_0 (by omega)]))) (fun _ => by (repeat (first | rw [wi_n (Or.inl (by omega))] | rw [wi_n (Or.inr (by omega))] | rw [wi_s] | rw [wr_i] | rw [cp_n (by omega)] | rw [cp_0 (by omega)]))) (by (repeat (first | rw [wi_n (Or.inl (by omega))] | rw [wi_n (Or.inr (by omega))] | rw [wi_s] | rw [wr_i] | rw [cp_n (by omega)] | rw [cp_0 (by omega)])))) (((f4.wi ⟨rfl, by omega⟩).wi ⟨rfl, by omega⟩).wi ⟨rfl, by omega⟩)
          · refine q_iload_n d134_132 rfl ?_
            refine q_bipush (x := nI 102) d134_133 rfl ?_
            refine nc_gt 142 d134_135 (by decide) (by omega) (by omega) (fun h135 => ?_) (fun h135 => (False.elim (hone ⟨h129, by omega⟩)))
            refine q_iconstN (z := 0) d134_142 ?_
            refine q_istore_n d134_143 (by decide) rfl ?_
            refine q_aload_n d134_144 rfl ?_
            refine q_iload_n d134_145 rfl ?_
            refine n0_eq 153 d134_146 (by decide) (by decide) (fun _ => ?_) (fun q => absurd q (by decide))
            refine q_iconstN (z := 1) d134_153 ?_
            refine q_puti (c := 8) (f := 33) d134_154 ⟨rfl, rfl, by decide⟩ (xk_136 hX3) ?_
            refine q_aload_n d134_157 rfl ?_
            refine q_iload_n d134_158 rfl ?_
            refine n0_eq 169 d134_159 (by decide) (by decide) (fun _ => ?_) (fun q => absurd q (by decide))
            have f5 : Fi FN M3 (zwi M3 136 33 (nI 1)) := (Fi.refl _ _).wi ⟨rfl, by omega⟩
            have hX5 := SX_fi hX3 f5
            have ht5 := TXp_fi ht3 f5 FN_t
            have hp5 : zi (zwi M3 136 33 (nI 1)) 136 31 = nI e := (wi_n (by omega)).trans hp3
            have hb5 : zi (zwi M3 136 33 (nI 1)) 136 32 = nI q := (wi_n (by omega)).trans hb3
            refine q_aload_n d134_169 rfl ?_
            refine q_v0 d134_170 rfl rfl (xk_136 hX3) (Nat.le_of_ble_eq_true rfl) (c136t hX5 ht5 hp5 hb5 (by omega) (by omega) rfl h6 ?_)
            refine q_puti (c := 8) (f := 34) d134_173 ⟨rfl, rfl, by decide⟩ (xk_136 hX3) ?_
            refine q_aload_n d134_176 rfl ?_
            refine q_aload_n d134_177 rfl ?_
            refine q_getv (c := 8) (f := 34) d134_178 ⟨rfl, by decide⟩ (xk_136 hX3) (wi_s _ _ _ _) ?_
            refine q_iconst (x := (-1)) d134_181 rfl ?_
            refine ic_ne 189 d134_182 (by decide) (fun h182 => ?_) (fun h182 => (False.elim (nI_m1 (by omega) h182)))
            refine q_iconstN (z := 0) d134_189 ?_
            refine q_putz (c := 8) (f := 38) d134_190 ⟨rfl, rfl, by decide⟩ (xk_136 hX3) (Or.inl rfl) ?_
            refine q_goto 368 d134_193 (by decide) ?_
            refine q_ret d134_368 rfl ?_
            exact k _ (by (repeat (first | rw [wi_n (Or.inl (by omega))] | rw [wi_n (Or.inr (by omega))] | rw [wi_s] | rw [wr_i] | rw [cp_n (by omega)] | rw [cp_0 (by omega)])); exact hp3) (by (repeat (first | rw [wi_n (Or.inl (by omega))] | rw [wi_n (Or.inr (by omega))] | rw [wi_s] | rw [wr_i] | rw [cp_n (by omega)] | rw [cp_0 (by omega)])); exact hb3) (TK.s (ytx_2 hone h6) (by (repeat (first | rw [wi_n (Or.inl (by omega))] | rw [wi_n (Or.inr (by omega))] | rw [wi_s] | rw [wr_i] | rw [cp_n (by omega)] | rw [cp_0 (by omega)]))) (fun _ => by (repeat (first | rw [wi_n (Or.inl (by omega))] | rw [wi_n (Or.inr (by omega))] | rw [wi_s] | rw [wr_i] | rw [cp_n (by omega)] | rw [cp_0 (by omega)]))) (by (repeat (first | rw [wi_n (Or.inl (by omega))] | rw [wi_n (Or.inr (by omega))] | rw [wi_s] | rw [wr_i] | rw [cp_n (by omega)] | rw [cp_0 (by omega)])))) (((f4.wi ⟨rfl, by omega⟩).wi ⟨rfl, by omega⟩).wi ⟨rfl, by omega⟩)
        · skip
          refine q_aload_n d134_119 rfl ?_
          refine q_getv (c := 8) (f := 31) d134_120 ⟨rfl, by decide⟩ (xk_136 hX3) hp3 ?_
          refine q_aload_n d134_123 rfl ?_
          refine q_getv (c := 8) (f := 32) d134_124 ⟨rfl, by decide⟩ (xk_136 hX3) hb3 ?_
          refine n_isub d134_127 (by omega) ?_
          refine q_iconstN (z := 1) d134_128 ?_
          refine nc_ne 142 d134_129 (by decide) (by omega) (by omega) (fun h129 => ?_) (fun h129 => ?_)
          · refine q_iconstN (z := 0) d134_142 ?_
            refine q_istore_n d134_143 (by decide) rfl ?_
            refine q_aload_n d134_144 rfl ?_
            refine q_iload_n d134_145 rfl ?_
            refine n0_eq 153 d134_146 (by decide) (by decide) (fun _ => ?_) (fun q => absurd q (by decide))
            refine q_iconstN (z := 1) d134_153 ?_
            refine q_puti (c := 8) (f := 33) d134_154 ⟨rfl, rfl, by decide⟩ (xk_136 hX3) ?_
            refine q_aload_n d134_157 rfl ?_
            refine q_iload_n d134_158 rfl ?_
            refine n0_eq 169 d134_159 (by decide) (by decide) (fun _ => ?_) (fun q => absurd q (by decide))
            have f5 : Fi FN M3 (zwi M3 136 33 (nI 1)) := (Fi.refl _ _).wi ⟨rfl, by omega⟩
            have hX5 := SX_fi hX3 f5
            have ht5 := TXp_fi ht3 f5 FN_t
            have hp5 : zi (zwi M3 136 33 (nI 1)) 136 31 = nI e := (wi_n (by omega)).trans hp3
            have hb5 : zi (zwi M3 136 33 (nI 1)) 136 32 = nI q := (wi_n (by omega)).trans hb3
            refine q_aload_n d134_169 rfl ?_
            refine q_v0 d134_170 rfl rfl (xk_136 hX3) (Nat.le_of_ble_eq_true rfl) (c136n hX5 ht5 hp5 hb5 (by omega) (by omega) h6 ?_)
            refine q_puti (c := 8) (f := 34) d134_173 ⟨rfl, rfl, by decide⟩ (xk_136 hX3) ?_
            refine q_aload_n d134_176 rfl ?_
            refine q_aload_n d134_177 rfl ?_
            refine q_getv (c := 8) (f := 34) d134_178 ⟨rfl, by decide⟩ (xk_136 hX3) (wi_s _ _ _ _) ?_
            refine q_iconst (x := (-1)) d134_181 rfl ?_
            refine ic_ne 189 d134_182 (by decide) (fun h182 => (False.elim (h182 rfl))) (fun h182 => ?_)
            refine q_iconstN (z := 1) d134_185 ?_
            refine q_goto 190 d134_186 (by decide) ?_
            refine q_putz (c := 8) (f := 38) d134_190 ⟨rfl, rfl, by decide⟩ (xk_136 hX3) (Or.inr rfl) ?_
            refine q_goto 368 d134_193 (by decide) ?_
            refine q_ret d134_368 rfl ?_
            exact k _ (by (repeat (first | rw [wi_n (Or.inl (by omega))] | rw [wi_n (Or.inr (by omega))] | rw [wi_s] | rw [wr_i] | rw [cp_n (by omega)] | rw [cp_0 (by omega)])); exact hp3) (by (repeat (first | rw [wi_n (Or.inl (by omega))] | rw [wi_n (Or.inr (by omega))] | rw [wi_s] | rw [wr_i] | rw [cp_n (by omega)] | rw [cp_0 (by omega)])); exact hb3) (TK.n (ytx_3 hone h6) (by (repeat (first | rw [wi_n (Or.inl (by omega))] | rw [wi_n (Or.inr (by omega))] | rw [wi_s] | rw [wr_i] | rw [cp_n (by omega)] | rw [cp_0 (by omega)])))) (((f4.wi ⟨rfl, by omega⟩).wi ⟨rfl, by omega⟩).wi ⟨rfl, by omega⟩)
          · refine q_iload_n d134_132 rfl ?_
            refine q_bipush (x := nI 102) d134_133 rfl ?_
            refine nc_gt 142 d134_135 (by decide) (by omega) (by omega) (fun h135 => ?_) (fun h135 => (False.elim (hone ⟨h129, by omega⟩)))
            refine q_iconstN (z := 0) d134_142 ?_
            refine q_istore_n d134_143 (by decide) rfl ?_
            refine q_aload_n d134_144 rfl ?_
            refine q_iload_n d134_145 rfl ?_
            refine n0_eq 153 d134_146 (by decide) (by decide) (fun _ => ?_) (fun q => absurd q (by decide))
            refine q_iconstN (z := 1) d134_153 ?_
            refine q_puti (c := 8) (f := 33) d134_154 ⟨rfl, rfl, by decide⟩ (xk_136 hX3) ?_
            refine q_aload_n d134_157 rfl ?_
            refine q_iload_n d134_158 rfl ?_
            refine n0_eq 169 d134_159 (by decide) (by decide) (fun _ => ?_) (fun q => absurd q (by decide))
            have f5 : Fi FN M3 (zwi M3 136 33 (nI 1)) := (Fi.refl _ _).wi ⟨rfl, by omega⟩
            have hX5 := SX_fi hX3 f5
            have ht5 := TXp_fi ht3 f5 FN_t
            have hp5 : zi (zwi M3 136 33 (nI 1)) 136 31 = nI e := (wi_n (by omega)).trans hp3
            have hb5 : zi (zwi M3 136 33 (nI 1)) 136 32 = nI q := (wi_n (by omega)).trans hb3
            refine q_aload_n d134_169 rfl ?_
            refine q_v0 d134_170 rfl rfl (xk_136 hX3) (Nat.le_of_ble_eq_true rfl) (c136n hX5 ht5 hp5 hb5 (by omega) (by omega) h6 ?_)
            refine q_puti (c := 8) (f := 34) d134_173 ⟨rfl, rfl, by decide⟩ (xk_136 hX3) ?_
            refine q_aload_n d134_176 rfl ?_
            refine q_aload_n d134_177 rfl ?_
            refine q_getv (c := 8) (f := 34) d134_178 ⟨rfl, by decide⟩ (xk_136 hX3) (wi_s _ _ _ _) ?_
            refine q_iconst (x := (-1)) d134_181 rfl ?_
            refine ic_ne 189 d134_182 (by decide) (fun h182 => (False.elim (h182 rfl))) (fun h182 => ?_)
            refine q_iconstN (z := 1) d134_185 ?_
            refine q_goto 190 d134_186 (by decide) ?_
            refine q_putz (c := 8) (f := 38) d134_190 ⟨rfl, rfl, by decide⟩ (xk_136 hX3) (Or.inr rfl) ?_
            refine q_goto 368 d134_193 (by decide) ?_
            refine q_ret d134_368 rfl ?_
            exact k _ (by (repeat (first | rw [wi_n (Or.inl (by omega))] | rw [wi_n (Or.inr (by omega))] | rw [wi_s] | rw [wr_i] | rw [cp_n (by omega)] | rw [cp_0 (by omega)])); exact hp3) (by (repeat (first | rw [wi_n (Or.inl (by omega))] | rw [wi_n (Or.inr (by omega))] | rw [wi_s] | rw [wr_i] | rw [cp_n (by omega)] | rw [cp_0 (by omega)])); exact hb3) (TK.n (ytx_3 hone h6) (by (repeat (first | rw [wi_n (Or.inl (by omega))] | rw [wi_n (Or.inr (by omega))] | rw [wi_s] | rw [wr_i] | rw [cp_n (by omega)] | rw [cp_0 (by omega)])))) (((f4.wi ⟨rfl, by omega⟩).wi ⟨rfl, by omega⟩).wi ⟨rfl, by omega⟩)
    · by_cases hd : 48 ≤ b q ∧ b q ≤ 57
      · skip
        refine q_aload_n d134_47 rfl ?_
        refine q_aload_n d134_48 rfl ?_
        refine q_getv (c := 8) (f := 31) d134_49 ⟨rfl, by decide⟩ (xk_136 hX1) hp1 ?_
        refine q_puti (c := 8) (f := 32) d134_52 ⟨rfl, rfl, by decide⟩ (xk_136 hX1) ?_
        have f2 : Fi FN M (zwi M1 136 32 (nI q)) := (f1.mono (fun a k q => FQ_N q)).wi ⟨rfl, by omega⟩
        have hX2 := SX_fi hX f2
        have ht2 := TXp_fi ht f2 FN_t
        have hp2 : zi (zwi M1 136 32 (nI q)) 136 31 = nI q := (wi_n (by omega)).trans hp1
        have hb2 : zi (zwi M1 136 32 (nI q)) 136 32 = nI q := wi_s _ _ _ _
        have h382 : zi (zwi M1 136 32 (nI q)) 136 38 = nI 0 := (wi_n (by omega)).trans h381
        refine q_aload_n d134_55 rfl ?_
        refine q_aload_n d134_56 rfl ?_
        refine q_getv (c := 8) (f := 31) d134_57 ⟨rfl, by decide⟩ (xk_136 hX2) hp2 ?_
        refine q_v1 d134_60 rfl rfl (xk_136 hX2) (Nat.le_of_ble_eq_true rfl) (c135t hX2 ht2 (by omega) ?_)
        refine q_istore_n d134_63 (by decide) rfl ?_
        refine q_iload_n d134_64 rfl ?_
        refine q_iconst (x := (-1)) d134_65 rfl ?_
        refine ic_ne 77 d134_66 (by decide) (fun h66 => ?_) (fun h66 => (False.elim (nI_m1 (by omega) h66)))
        refine q_iload_n d134_77 rfl ?_
        refine q_bipush (x := nI 97) d134_78 rfl ?_
        refine q_bipush (x := nI 122) d134_80 rfl ?_
        refine q_s3 d134_82 (Or.inl rfl) rfl (Nat.le_of_ble_eq_true rfl) (c131n hc (by omega) (by omega) (by omega) ?_)
        refine n0_eq 196 d134_85 (by decide) (by decide) (fun _ => ?_) (fun q => absurd q (by decide))
        refine q_iload_n d134_196 rfl ?_
        refine q_bipush (x := nI 48) d134_197 rfl ?_
        refine q_bipush (x := nI 57) d134_199 rfl ?_
        refine q_s3 d134_201 (Or.inl rfl) rfl (Nat.le_of_ble_eq_true rfl) (c131t hd (by omega) ?_)
        refine n0_eq 309 d134_204 (by decide) (by decide) (fun q => absurd q (by decide)) (fun _ => ?_)
        refine q_aload_n d134_207 rfl ?_
        refine q_iconstN (z := 3) d134_208 ?_
        refine q_puti (c := 8) (f := 33) d134_209 ⟨rfl, rfl, by decide⟩ (xk_136 hX2) ?_
        refine q_aload_n d134_212 rfl ?_
        refine q_iconstN (z := 0) d134_213 ?_
        refine q_puti (c := 8) (f := 34) d134_214 ⟨rfl, rfl, by decide⟩ (xk_136 hX2) ?_
        refine l134c (q := q) (SX_fi hX ((f2.wi ⟨rfl, by omega⟩).wi ⟨rfl, by omega⟩)) (TXp_fi ht ((f2.wi ⟨rfl, by omega⟩).wi ⟨rfl, by omega⟩) FN_t) (by (repeat (first | rw [wi_n (Or.inl (by omega))] | rw [wi_n (Or.inr (by omega))] | rw [wi_s] | rw [wr_i] | rw [cp_n (by omega)] | rw [cp_0 (by omega)]))) 120 q _ (by omega) (Nat.le_refl _) (by (repeat (first | rw [wi_n (Or.inl (by omega))] | rw [wi_n (Or.inr (by omega))] | rw [wi_s] | rw [wr_i] | rw [cp_n (by omega)] | rw [cp_0 (by omega)])); exact hp2) (by rw [Nat.sub_self]; exact wi_s _ _ _ _) (Fi.refl _ _) (fun M5 hp5 hv5 f5 => ?_) (by omega)
        have f4 : Fi FN M M5 := ((f2.wi ⟨rfl, by omega⟩).wi ⟨rfl, by omega⟩).trans (f5.mono (fun a k q => FVv_N q))
        have hX5 := SX_fi hX f4
        have ht5 := TXp_fi ht f4 FN_t
        have hb5 : zi M5 136 32 = nI q := (f5.1 _ _ (by unfold FVv; omega)).trans (by (repeat (first | rw [wi_n (Or.inl (by omega))] | rw [wi_n (Or.inr (by omega))] | rw [wi_s] | rw [wr_i] | rw [cp_n (by omega)] | rw [cp_0 (by omega)])))
        have h335 : zi M5 136 33 = nI 3 := (f5.1 _ _ (by unfold FVv; omega)).trans (by (repeat (first | rw [wi_n (Or.inl (by omega))] | rw [wi_n (Or.inr (by omega))] | rw [wi_s] | rw [wr_i] | rw [cp_n (by omega)] | rw [cp_0 (by omega)])))
        have h385 : zi M5 136 38 = nI 0 := (f5.1 _ _ (by unfold FVv; omega)).trans (by (repeat (first | rw [wi_n (Or.inl (by omega))] | rw [wi_n (Or.inr (by omega))] | rw [wi_s] | rw [wr_i] | rw [cp_n (by omega)] | rw [cp_0 (by omega)])); exact h382)
        have hle := lrn_ge (n := n) (b := b) (lo := 48) (hi := 57) 120 q
        have hle2 := hle.2 (by omega)
        have eL : ltk n b p = (if lrn n b 48 57 120 q - q ≤ 3 then 2 else 3, q, lrn n b 48 57 120 q) := by unfold ltk; simp only []; rw [hqe, if_neg (by omega), if_neg hc, if_pos hd]
        rw [eL] at k
        obtain ⟨e, hee⟩ : ∃ e, lrn n b 48 57 120 q = e := ⟨_, rfl⟩
        rw [hee] at hp5 hv5 hle hle2 k eL
        by_cases h3 : e - q ≤ 3
        · rw [if_pos h3] at k
          refine q_aload_n d134_284 rfl ?_
          refine q_aload_n d134_285 rfl ?_
          refine q_getv (c := 8) (f := 31) d134_286 ⟨rfl, by decide⟩ (xk_136 hX5) hp5 ?_
          refine q_aload_n d134_289 rfl ?_
          refine q_getv (c := 8) (f := 32) d134_290 ⟨rfl, by decide⟩ (xk_136 hX5) hb5 ?_
          refine n_isub d134_293 (by omega) ?_
          refine q_iconstN (z := 3) d134_294 ?_
          refine nc_le 302 d134_295 (by decide) (by omega) (by omega) (fun h295 => ?_) (fun h295 => (False.elim (by omega)))
          refine q_iconstN (z := 0) d134_302 ?_
          refine q_putz (c := 8) (f := 38) d134_303 ⟨rfl, rfl, by decide⟩ (xk_136 hX5) (Or.inl rfl) ?_
          refine q_goto 368 d134_306 (by decide) ?_
          refine q_ret d134_368 rfl ?_
          exact k _ (by (repeat (first | rw [wi_n (Or.inl (by omega))] | rw [wi_n (Or.inr (by omega))] | rw [wi_s] | rw [wr_i] | rw [cp_n (by omega)] | rw [cp_0 (by omega)])); exact hp5) (by (repeat (first | rw [wi_n (Or.inl (by omega))] | rw [wi_n (Or.inr (by omega))] | rw [wi_s] | rw [wr_i] | rw [cp_n (by omega)] | rw [cp_0 (by omega)])); exact hb5) (TK.s (t := 3) rfl (by (repeat (first | rw [wi_n (Or.inl (by omega))] | rw [wi_n (Or.inr (by omega))] | rw [wi_s] | rw [wr_i] | rw [cp_n (by omega)] | rw [cp_0 (by omega)])); exact h335) (fun _ => by rw [show min (e - q) 3 = e - q by omega] at hv5; (repeat (first | rw [wi_n (Or.inl (by omega))] | rw [wi_n (Or.inr (by omega))] | rw [wi_s] | rw [wr_i] | rw [cp_n (by omega)] | rw [cp_0 (by omega)])); exact hv5) (by (repeat (first | rw [wi_n (Or.inl (by omega))] | rw [wi_n (Or.inr (by omega))] | rw [wi_s] | rw [wr_i] | rw [cp_n (by omega)] | rw [cp_0 (by omega)])))) (f4.wi ⟨rfl, by omega⟩)
        · rw [if_neg h3] at k
          refine q_aload_n d134_284 rfl ?_
          refine q_aload_n d134_285 rfl ?_
          refine q_getv (c := 8) (f := 31) d134_286 ⟨rfl, by decide⟩ (xk_136 hX5) hp5 ?_
          refine q_aload_n d134_289 rfl ?_
          refine q_getv (c := 8) (f := 32) d134_290 ⟨rfl, by decide⟩ (xk_136 hX5) hb5 ?_
          refine n_isub d134_293 (by omega) ?_
          refine q_iconstN (z := 3) d134_294 ?_
          refine nc_le 302 d134_295 (by decide) (by omega) (by omega) (fun h295 => (False.elim (by omega))) (fun h295 => ?_)
          refine q_iconstN (z := 1) d134_298 ?_
          refine q_goto 303 d134_299 (by decide) ?_
          refine q_putz (c := 8) (f := 38) d134_303 ⟨rfl, rfl, by decide⟩ (xk_136 hX5) (Or.inr rfl) ?_
          refine q_goto 368 d134_306 (by decide) ?_
          refine q_ret d134_368 rfl ?_
          exact k _ (by (repeat (first | rw [wi_n (Or.inl (by omega))] | rw [wi_n (Or.inr (by omega))] | rw [wi_s] | rw [wr_i] | rw [cp_n (by omega)] | rw [cp_0 (by omega)])); exact hp5) (by (repeat (first | rw [wi_n (Or.inl (by omega))] | rw [wi_n (Or.inr (by omega))] | rw [wi_s] | rw [wr_i] | rw [cp_n (by omega)] | rw [cp_0 (by omega)])); exact hb5) (TK.n rfl (by (repeat (first | rw [wi_n (Or.inl (by omega))] | rw [wi_n (Or.inr (by omega))] | rw [wi_s] | rw [wr_i] | rw [cp_n (by omega)] | rw [cp_0 (by omega)])))) (f4.wi ⟨rfl, by omega⟩)
      · skip
        refine q_aload_n d134_47 rfl ?_
        refine q_aload_n d134_48 rfl ?_
        refine q_getv (c := 8) (f := 31) d134_49 ⟨rfl, by decide⟩ (xk_136 hX1) hp1 ?_
        refine q_puti (c := 8) (f := 32) d134_52 ⟨rfl, rfl, by decide⟩ (xk_136 hX1) ?_
        have f2 : Fi FN M (zwi M1 136 32 (nI q)) := (f1.mono (fun a k q => FQ_N q)).wi ⟨rfl, by omega⟩
        have hX2 := SX_fi hX f2
        have ht2 := TXp_fi ht f2 FN_t
        have hp2 : zi (zwi M1 136 32 (nI q)) 136 31 = nI q := (wi_n (by omega)).trans hp1
        have hb2 : zi (zwi M1 136 32 (nI q)) 136 32 = nI q := wi_s _ _ _ _
        have h382 : zi (zwi M1 136 32 (nI q)) 136 38 = nI 0 := (wi_n (by omega)).trans h381
        refine q_aload_n d134_55 rfl ?_
        refine q_aload_n d134_56 rfl ?_
        refine q_getv (c := 8) (f := 31) d134_57 ⟨rfl, by decide⟩ (xk_136 hX2) hp2 ?_
        refine q_v1 d134_60 rfl rfl (xk_136 hX2) (Nat.le_of_ble_eq_true rfl) (c135t hX2 ht2 (by omega) ?_)
        refine q_istore_n d134_63 (by decide) rfl ?_
        refine q_iload_n d134_64 rfl ?_
        refine q_iconst (x := (-1)) d134_65 rfl ?_
        refine ic_ne 77 d134_66 (by decide) (fun h66 => ?_) (fun h66 => (False.elim (nI_m1 (by omega) h66)))
        refine q_iload_n d134_77 rfl ?_
        refine q_bipush (x := nI 97) d134_78 rfl ?_
        refine q_bipush (x := nI 122) d134_80 rfl ?_
        refine q_s3 d134_82 (Or.inl rfl) rfl (Nat.le_of_ble_eq_true rfl) (c131n hc (by omega) (by omega) (by omega) ?_)
        refine n0_eq 196 d134_85 (by decide) (by decide) (fun _ => ?_) (fun q => absurd q (by decide))
        refine q_iload_n d134_196 rfl ?_
        refine q_bipush (x := nI 48) d134_197 rfl ?_
        refine q_bipush (x := nI 57) d134_199 rfl ?_
        refine q_s3 d134_201 (Or.inl rfl) rfl (Nat.le_of_ble_eq_true rfl) (c131n hd (by omega) (by omega) (by omega) ?_)
        refine n0_eq 309 d134_204 (by decide) (by decide) (fun _ => ?_) (fun q => absurd q (by decide))
        refine q_aload_n d134_309 rfl ?_
        refine q_iconstN (z := 4) d134_310 ?_
        refine q_puti (c := 8) (f := 33) d134_311 ⟨rfl, rfl, by decide⟩ (xk_136 hX2) ?_
        refine q_aload_n d134_314 rfl ?_
        refine q_iload_n d134_315 rfl ?_
        refine q_puti (c := 8) (f := 34) d134_316 ⟨rfl, rfl, by decide⟩ (xk_136 hX2) ?_
        refine q_aload_n d134_319 rfl ?_
        refine q_dup d134_320 rfl ?_
        refine q_getv (c := 8) (f := 31) d134_321 ⟨rfl, by decide⟩ (xk_136 hX2) (Eq.trans (by (repeat (first | rw [wi_n (Or.inl (by omega))] | rw [wi_n (Or.inr (by omega))] | rw [wi_s] | rw [wr_i] | rw [cp_n (by omega)]))) hp2) ?_
        refine q_iconstN (z := 1) d134_324 ?_
        refine n_iadd d134_325 ?_
        refine q_puti (c := 8) (f := 31) d134_326 ⟨rfl, rfl, by decide⟩ (xk_136 hX2) ?_
        refine q_aload_n d134_329 rfl ?_
        refine q_iload_n d134_330 rfl ?_
        refine q_bipush (x := nI 59) d134_331 rfl ?_
        refine nc_eq 364 d134_333 (by decide) (by omega) (by omega) (fun h333 => ?_) (fun h333 => ?_)
        · refine q_iconstN (z := 0) d134_364 ?_
          refine q_putz (c := 8) (f := 38) d134_365 ⟨rfl, rfl, by decide⟩ (xk_136 hX2) (Or.inl rfl) ?_
          refine q_ret d134_368 rfl ?_
          first
          | (have hs : b q = 59 ∨ b q = 123 ∨ b q = 124 ∨ b q = 125 ∨ b q = 33 := by omega
             rw [show ltk n b p = (b q, q, q + 1) by unfold ltk; simp only []; rw [hqe, if_neg (by omega), if_neg hc, if_neg hd, if_pos (ysg_t hs)]] at k
             exact k _ (by (repeat (first | rw [wi_n (Or.inl (by omega))] | rw [wi_n (Or.inr (by omega))] | rw [wi_s] | rw [wr_i] | rw [cp_n (by omega)] | rw [cp_0 (by omega)]))) (by (repeat (first | rw [wi_n (Or.inl (by omega))] | rw [wi_n (Or.inr (by omega))] | rw [wi_s] | rw [wr_i] | rw [cp_n (by omega)] | rw [cp_0 (by omega)]))) (TK.s (ytx_s hs) (by (repeat (first | rw [wi_n (Or.inl (by omega))] | rw [wi_n (Or.inr (by omega))] | rw [wi_s] | rw [wr_i] | rw [cp_n (by omega)] | rw [cp_0 (by omega)]))) (fun _ => by (repeat (first | rw [wi_n (Or.inl (by omega))] | rw [wi_n (Or.inr (by omega))] | rw [wi_s] | rw [wr_i] | rw [cp_n (by omega)] | rw [cp_0 (by omega)]))) (by (repeat (first | rw [wi_n (Or.inl (by omega))] | rw [wi_n (Or.inr (by omega))] | rw [wi_s] | rw [wr_i] | rw [cp_n (by omega)] | rw [cp_0 (by omega)])))) ((((f2.wi ⟨rfl, by omega⟩).wi ⟨rfl, by omega⟩).wi ⟨rfl, by omega⟩).wi ⟨rfl, by omega⟩))
          | (rw [show ltk n b p = (3, q, q + 1) by unfold ltk; simp only []; rw [hqe, if_neg (by omega), if_neg hc, if_neg hd, if_neg (ysg_f (by omega))]] at k
             exact k _ (by (repeat (first | rw [wi_n (Or.inl (by omega))] | rw [wi_n (Or.inr (by omega))] | rw [wi_s] | rw [wr_i] | rw [cp_n (by omega)] | rw [cp_0 (by omega)]))) (by (repeat (first | rw [wi_n (Or.inl (by omega))] | rw [wi_n (Or.inr (by omega))] | rw [wi_s] | rw [wr_i] | rw [cp_n (by omega)] | rw [cp_0 (by omega)]))) (TK.n rfl (by (repeat (first | rw [wi_n (Or.inl (by omega))] | rw [wi_n (Or.inr (by omega))] | rw [wi_s] | rw [wr_i] | rw [cp_n (by omega)] | rw [cp_0 (by omega)])))) ((((f2.wi ⟨rfl, by omega⟩).wi ⟨rfl, by omega⟩).wi ⟨rfl, by omega⟩).wi ⟨rfl, by omega⟩))
        · refine q_iload_n d134_336 rfl ?_
          refine q_bipush (x := nI 123) d134_337 rfl ?_
          refine nc_eq 364 d134_339 (by decide) (by omega) (by omega) (fun h339 => ?_) (fun h339 => ?_)
          · refine q_iconstN (z := 0) d134_364 ?_
            refine q_putz (c := 8) (f := 38) d134_365 ⟨rfl, rfl, by decide⟩ (xk_136 hX2) (Or.inl rfl) ?_
            refine q_ret d134_368 rfl ?_
            first
            | (have hs : b q = 59 ∨ b q = 123 ∨ b q = 124 ∨ b q = 125 ∨ b q = 33 := by omega
               rw [show ltk n b p = (b q, q, q + 1) by unfold ltk; simp only []; rw [hqe, if_neg (by omega), if_neg hc, if_neg hd, if_pos (ysg_t hs)]] at k
               exact k _ (by (repeat (first | rw [wi_n (Or.inl (by omega))] | rw [wi_n (Or.inr (by omega))] | rw [wi_s] | rw [wr_i] | rw [cp_n (by omega)] | rw [cp_0 (by omega)]))) (by (repeat (first | rw [wi_n (Or.inl (by omega))] | rw [wi_n (Or.inr (by omega))] | rw [wi_s] | rw [wr_i] | rw [cp_n (by omega)] | rw [cp_0 (by omega)]))) (TK.s (ytx_s hs) (by (repeat (first | rw [wi_n (Or.inl (by omega))] | rw [wi_n (Or.inr (by omega))] | rw [wi_s] | rw [wr_i] | rw [cp_n (by omega)] | rw [cp_0 (by omega)]))) (fun _ => by (repeat (first | rw [wi_n (Or.inl (by omega))] | rw [wi_n (Or.inr (by omega))] | rw [wi_s] | rw [wr_i] | rw [cp_n (by omega)] | rw [cp_0 (by omega)]))) (by (repeat (first | rw [wi_n (Or.inl (by omega))] | rw [wi_n (Or.inr (by omega))] | rw [wi_s] | rw [wr_i] | rw [cp_n (by omega)] | rw [cp_0 (by omega)])))) ((((f2.wi ⟨rfl, by omega⟩).wi ⟨rfl, by omega⟩).wi ⟨rfl, by omega⟩).wi ⟨rfl, by omega⟩))
            | (rw [show ltk n b p = (3, q, q + 1) by unfold ltk; simp only []; rw [hqe, if_neg (by omega), if_neg hc, if_neg hd, if_neg (ysg_f (by omega))]] at k
               exact k _ (by (repeat (first | rw [wi_n (Or.inl (by omega))] | rw [wi_n (Or.inr (by omega))] | rw [wi_s] | rw [wr_i] | rw [cp_n (by omega)] | rw [cp_0 (by omega)]))) (by (repeat (first | rw [wi_n (Or.inl (by omega))] | rw [wi_n (Or.inr (by omega))] | rw [wi_s] | rw [wr_i] | rw [cp_n (by omega)] | rw [cp_0 (by omega)]))) (TK.n rfl (by (repeat (first | rw [wi_n (Or.inl (by omega))] | rw [wi_n (Or.inr (by omega))] | rw [wi_s] | rw [wr_i] | rw [cp_n (by omega)] | rw [cp_0 (by omega)])))) ((((f2.wi ⟨rfl, by omega⟩).wi ⟨rfl, by omega⟩).wi ⟨rfl, by omega⟩).wi ⟨rfl, by omega⟩))
          · refine q_iload_n d134_342 rfl ?_
            refine q_bipush (x := nI 124) d134_343 rfl ?_
            refine nc_eq 364 d134_345 (by decide) (by omega) (by omega) (fun h345 => ?_) (fun h345 => ?_)
            · refine q_iconstN (z := 0) d134_364 ?_
              refine q_putz (c := 8) (f := 38) d134_365 ⟨rfl, rfl, by decide⟩ (xk_136 hX2) (Or.inl rfl) ?_
              refine q_ret d134_368 rfl ?_
              first
              | (have hs : b q = 59 ∨ b q = 123 ∨ b q = 124 ∨ b q = 125 ∨ b q = 33 := by omega
                 rw [show ltk n b p = (b q, q, q + 1) by unfold ltk; simp only []; rw [hqe, if_neg (by omega), if_neg hc, if_neg hd, if_pos (ysg_t hs)]] at k
                 exact k _ (by (repeat (first | rw [wi_n (Or.inl (by omega))] | rw [wi_n (Or.inr (by omega))] | rw [wi_s] | rw [wr_i] | rw [cp_n (by omega)] | rw [cp_0 (by omega)]))) (by (repeat (first | rw [wi_n (Or.inl (by omega))] | rw [wi_n (Or.inr (by omega))] | rw [wi_s] | rw [wr_i] | rw [cp_n (by omega)] | rw [cp_0 (by omega)]))) (TK.s (ytx_s hs) (by (repeat (first | rw [wi_n (Or.inl (by omega))] | rw [wi_n (Or.inr (by omega))] | rw [wi_s] | rw [wr_i] | rw [cp_n (by omega)] | rw [cp_0 (by omega)]))) (fun _ => by (repeat (first | rw [wi_n (Or.inl (by omega))] | rw [wi_n (Or.inr (by omega))] | rw [wi_s] | rw [wr_i] | rw [cp_n (by omega)] | rw [cp_0 (by omega)]))) (by (repeat (first | rw [wi_n (Or.inl (by omega))] | rw [wi_n (Or.inr (by omega))] | rw [wi_s] | rw [wr_i] | rw [cp_n (by omega)] | rw [cp_0 (by omega)])))) ((((f2.wi ⟨rfl, by omega⟩).wi ⟨rfl, by omega⟩).wi ⟨rfl, by omega⟩).wi ⟨rfl, by omega⟩))
              | (rw [show ltk n b p = (3, q, q + 1) by unfold ltk; simp only []; rw [hqe, if_neg (by omega), if_neg hc, if_neg hd, if_neg (ysg_f (by omega))]] at k
                 exact k _ (by (repeat (first | rw [wi_n (Or.inl (by omega))] | rw [wi_n (Or.inr (by omega))] | rw [wi_s] | rw [wr_i] | rw [cp_n (by omega)] | rw [cp_0 (by omega)]))) (by (repeat (first | rw [wi_n (Or.inl (by omega))] | rw [wi_n (Or.inr (by omega))] | rw [wi_s] | rw [wr_i] | rw [cp_n (by omega)] | rw [cp_0 (by omega)]))) (TK.n rfl (by (repeat (first | rw [wi_n (Or.inl (by omega))] | rw [wi_n (Or.inr (by omega))] | rw [wi_s] | rw [wr_i] | rw [cp_n (by omega)] | rw [cp_0 (by omega)])))) ((((f2.wi ⟨rfl, by omega⟩).wi ⟨rfl, by omega⟩).wi ⟨rfl, by omega⟩).wi ⟨rfl, by omega⟩))
            · refine q_iload_n d134_348 rfl ?_
              refine q_bipush (x := nI 125) d134_349 rfl ?_
              refine nc_eq 364 d134_351 (by decide) (by omega) (by omega) (fun h351 => ?_) (fun h351 => ?_)
              · refine q_iconstN (z := 0) d134_364 ?_
                refine q_putz (c := 8) (f := 38) d134_365 ⟨rfl, rfl, by decide⟩ (xk_136 hX2) (Or.inl rfl) ?_
                refine q_ret d134_368 rfl ?_
                first
                | (have hs : b q = 59 ∨ b q = 123 ∨ b q = 124 ∨ b q = 125 ∨ b q = 33 := by omega
                   rw [show ltk n b p = (b q, q, q + 1) by unfold ltk; simp only []; rw [hqe, if_neg (by omega), if_neg hc, if_neg hd, if_pos (ysg_t hs)]] at k
                   exact k _ (by (repeat (first | rw [wi_n (Or.inl (by omega))] | rw [wi_n (Or.inr (by omega))] | rw [wi_s] | rw [wr_i] | rw [cp_n (by omega)] | rw [cp_0 (by omega)]))) (by (repeat (first | rw [wi_n (Or.inl (by omega))] | rw [wi_n (Or.inr (by omega))] | rw [wi_s] | rw [wr_i] | rw [cp_n (by omega)] | rw [cp_0 (by omega)]))) (TK.s (ytx_s hs) (by (repeat (first | rw [wi_n (Or.inl (by omega))] | rw [wi_n (Or.inr (by omega))] | rw [wi_s] | rw [wr_i] | rw [cp_n (by omega)] | rw [cp_0 (by omega)]))) (fun _ => by (repeat (first | rw [wi_n (Or.inl (by omega))] | rw [wi_n (Or.inr (by omega))] | rw [wi_s] | rw [wr_i] | rw [cp_n (by omega)] | rw [cp_0 (by omega)]))) (by (repeat (first | rw [wi_n (Or.inl (by omega))] | rw [wi_n (Or.inr (by omega))] | rw [wi_s] | rw [wr_i] | rw [cp_n (by omega)] | rw [cp_0 (by omega)])))) ((((f2.wi ⟨rfl, by omega⟩).wi ⟨rfl, by omega⟩).wi ⟨rfl, by omega⟩).wi ⟨rfl, by omega⟩))
                | (rw [show ltk n b p = (3, q, q + 1) by unfold ltk; simp only []; rw [hqe, if_neg (by omega), if_neg hc, if_neg hd, if_neg (ysg_f (by omega))]] at k
                   exact k _ (by (repeat (first | rw [wi_n (Or.inl (by omega))] | rw [wi_n (Or.inr (by omega))] | rw [wi_s] | rw [wr_i] | rw [cp_n (by omega)] | rw [cp_0 (by omega)]))) (by (repeat (first | rw [wi_n (Or.inl (by omega))] | rw [wi_n (Or.inr (by omega))] | rw [wi_s] | rw [wr_i] | rw [cp_n (by omega)] | rw [cp_0 (by omega)]))) (TK.n rfl (by (repeat (first | rw [wi_n (Or.inl (by omega))] | rw [wi_n (Or.inr (by omega))] | rw [wi_s] | rw [wr_i] | rw [cp_n (by omega)] | rw [cp_0 (by omega)])))) ((((f2.wi ⟨rfl, by omega⟩).wi ⟨rfl, by omega⟩).wi ⟨rfl, by omega⟩).wi ⟨rfl, by omega⟩))
              · refine q_iload_n d134_354 rfl ?_
                refine q_bipush (x := nI 33) d134_355 rfl ?_
                refine nc_eq 364 d134_357 (by decide) (by omega) (by omega) (fun h357 => ?_) (fun h357 => ?_)
                · refine q_iconstN (z := 0) d134_364 ?_
                  refine q_putz (c := 8) (f := 38) d134_365 ⟨rfl, rfl, by decide⟩ (xk_136 hX2) (Or.inl rfl) ?_
                  refine q_ret d134_368 rfl ?_
                  first
                  | (have hs : b q = 59 ∨ b q = 123 ∨ b q = 124 ∨ b q = 125 ∨ b q = 33 := by omega
                     rw [show ltk n b p = (b q, q, q + 1) by unfold ltk; simp only []; rw [hqe, if_neg (by omega), if_neg hc, if_neg hd, if_pos (ysg_t hs)]] at k
                     exact k _ (by (repeat (first | rw [wi_n (Or.inl (by omega))] | rw [wi_n (Or.inr (by omega))] | rw [wi_s] | rw [wr_i] | rw [cp_n (by omega)] | rw [cp_0 (by omega)]))) (by (repeat (first | rw [wi_n (Or.inl (by omega))] | rw [wi_n (Or.inr (by omega))] | rw [wi_s] | rw [wr_i] | rw [cp_n (by omega)] | rw [cp_0 (by omega)]))) (TK.s (ytx_s hs) (by (repeat (first | rw [wi_n (Or.inl (by omega))] | rw [wi_n (Or.inr (by omega))] | rw [wi_s] | rw [wr_i] | rw [cp_n (by omega)] | rw [cp_0 (by omega)]))) (fun _ => by (repeat (first | rw [wi_n (Or.inl (by omega))] | rw [wi_n (Or.inr (by omega))] | rw [wi_s] | rw [wr_i] | rw [cp_n (by omega)] | rw [cp_0 (by omega)]))) (by (repeat (first | rw [wi_n (Or.inl (by omega))] | rw [wi_n (Or.inr (by omega))] | rw [wi_s] | rw [wr_i] | rw [cp_n (by omega)] | rw [cp_0 (by omega)])))) ((((f2.wi ⟨rfl, by omega⟩).wi ⟨rfl, by omega⟩).wi ⟨rfl, by omega⟩).wi ⟨rfl, by omega⟩))
                  | (rw [show ltk n b p = (3, q, q + 1) by unfold ltk; simp only []; rw [hqe, if_neg (by omega), if_neg hc, if_neg hd, if_neg (ysg_f (by omega))]] at k
                     exact k _ (by (repeat (first | rw [wi_n (Or.inl (by omega))] | rw [wi_n (Or.inr (by omega))] | rw [wi_s] | rw [wr_i] | rw [cp_n (by omega)] | rw [cp_0 (by omega)]))) (by (repeat (first | rw [wi_n (Or.inl (by omega))] | rw [wi_n (Or.inr (by omega))] | rw [wi_s] | rw [wr_i] | rw [cp_n (by omega)] | rw [cp_0 (by omega)]))) (TK.n rfl (by (repeat (first | rw [wi_n (Or.inl (by omega))] | rw [wi_n (Or.inr (by omega))] | rw [wi_s] | rw [wr_i] | rw [cp_n (by omega)] | rw [cp_0 (by omega)])))) ((((f2.wi ⟨rfl, by omega⟩).wi ⟨rfl, by omega⟩).wi ⟨rfl, by omega⟩).wi ⟨rfl, by omega⟩))
                · refine q_iconstN (z := 1) d134_360 ?_
                  refine q_goto 365 d134_361 (by decide) ?_
                  refine q_putz (c := 8) (f := 38) d134_365 ⟨rfl, rfl, by decide⟩ (xk_136 hX2) (Or.inr rfl) ?_
                  refine q_ret d134_368 rfl ?_
                  first
                  | (have hs : b q = 59 ∨ b q = 123 ∨ b q = 124 ∨ b q = 125 ∨ b q = 33 := by omega
                     rw [show ltk n b p = (b q, q, q + 1) by unfold ltk; simp only []; rw [hqe, if_neg (by omega), if_neg hc, if_neg hd, if_pos (ysg_t hs)]] at k
                     exact k _ (by (repeat (first | rw [wi_n (Or.inl (by omega))] | rw [wi_n (Or.inr (by omega))] | rw [wi_s] | rw [wr_i] | rw [cp_n (by omega)] | rw [cp_0 (by omega)]))) (by (repeat (first | rw [wi_n (Or.inl (by omega))] | rw [wi_n (Or.inr (by omega))] | rw [wi_s] | rw [wr_i] | rw [cp_n (by omega)] | rw [cp_0 (by omega)]))) (TK.s (ytx_s hs) (by (repeat (first | rw [wi_n (Or.inl (by omega))] | rw [wi_n (Or.inr (by omega))] | rw [wi_s] | rw [wr_i] | rw [cp_n (by omega)] | rw [cp_0 (by omega)]))) (fun _ => by (repeat (first | rw [wi_n (Or.inl (by omega))] | rw [wi_n (Or.inr (by omega))] | rw [wi_s] | rw [wr_i] | rw [cp_n (by omega)] | rw [cp_0 (by omega)]))) (by (repeat (first | rw [wi_n (Or.inl (by omega))] | rw [wi_n (Or.inr (by omega))] | rw [wi_s] | rw [wr_i] | rw [cp_n (by omega)] | rw [cp_0 (by omega)])))) ((((f2.wi ⟨rfl, by omega⟩).wi ⟨rfl, by omega⟩).wi ⟨rfl, by omega⟩).wi ⟨rfl, by omega⟩))
                  | (rw [show ltk n b p = (3, q, q + 1) by unfold ltk; simp only []; rw [hqe, if_neg (by omega), if_neg hc, if_neg hd, if_neg (ysg_f (by omega))]] at k
                     exact k _ (by (repeat (first | rw [wi_n (Or.inl (by omega))] | rw [wi_n (Or.inr (by omega))] | rw [wi_s] | rw [wr_i] | rw [cp_n (by omega)] | rw [cp_0 (by omega)]))) (by (repeat (first | rw [wi_n (Or.inl (by omega))] | rw [wi_n (Or.inr (by omega))] | rw [wi_s] | rw [wr_i] | rw [cp_n (by omega)] | rw [cp_0 (by omega)]))) (TK.n rfl (by (repeat (first | rw [wi_n (Or.inl (by omega))] | rw [wi_n (Or.inr (by omega))] | rw [wi_s] | rw [wr_i] | rw [cp_n (by omega)] | rw [cp_0 (by omega)])))) ((((f2.wi ⟨rfl, by omega⟩).wi ⟨rfl, by omega⟩).wi ⟨rfl, by omega⟩).wi ⟨rfl, by omega⟩))
theorem c134f {d : Nat} {M : zM} {Q : Option Value → zM → Prop} (hX : SX M) (h38 : zi M 136 38 = nI 1) (k : Q none M) : qC (d + 10) 134 [.ref 136] M Q := by
  refine qC_of (by decide) (Nat.le_of_ble_eq_true rfl) ?_
  refine q_aload_n d134_0 rfl ?_
  refine q_getv (c := 8) (f := 38) d134_1 ⟨rfl, by decide⟩ (xk_136 hX) h38 ?_
  refine n0_eq 8 d134_4 (by decide) (by decide) (fun q => absurd q (by decide)) (fun _ => ?_)
  refine q_ret d134_7 rfl ?_
  exact k
