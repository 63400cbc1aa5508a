/-! ===== a run of the small machine is a contract ===== -/
theorem zlm_args (Z : zX) : ∀ (as : List Value) (i : Nat), lv_args i (as.map (zτ Z)) = zlm Z (lv_args i as)
  | [], _ => rfl
  | v :: vs, i => by
    show (i, zτ Z v) :: lv_args (if (zτ Z v).category = 2 then i + 2 else i + 1) (vs.map (zτ Z)) = (i, zτ Z v) :: zlm Z (lv_args (if v.category = 2 then i + 2 else i + 1) vs)
    rw [zτ_cat, zlm_args Z vs]
theorem zsl_len : ∀ (as : List Value), (lg_sl as).length = zct as
  | [] => rfl
  | v :: vs => by
    have ih := zsl_len vs
    unfold lg_sl at ih ⊢
    rw [List.flatMap_cons, List.length_append, ih]
    show _ = v.category + zct vs
    rcases lv_cat v with h | h <;> rw [h] <;> rfl
theorem z_end {p : Program} {lc : Launch} {e : Env} {R0 : Room} {s : State} {mm : MethodId} {args : Array Value} {below : List Frame} {meth : Method} {c : Code} {Z : zX} {M' : zM} {y mc ms : Nat} {v : Option Value}
    (hx : p.tables.exec = Jvm.exec) (hb : c.code = zB y) (hr : meth.sig.returnType = zRt y) (hlocks : meth.locks = false) (hy : y < 216)
    (pc : Nat) (H : Heap) (locs : List Loc) (cells slots : Nat) (ls : Array Slot) (st : List Value) (i : Instr) (hd : decode (zB y) pc = .ok (i, 1)) (h : zEnd y i st v) (hI : zInv Z s M' H locs cells) (hc : cells ≤ mc) (hs : slots ≤ ms) :
    W p lc e R0 s mm args below meth c H locs cells slots (MQ below (zQc Z v M') args s mc ms (zAd Z)) (F0 mm pc ls (st.map (zτ Z))) := by
  refine W.widen hc hs ?_
  obtain ⟨hcore, hcs, hS, hbs⟩ := hI
  have hk := (zM_ok hy).2.2.2.2.2.2
  have hq : ∀ (w : Option Value), v = w → ∀ t : State, t.heap = H → s.WarmedH t.vm → zQc Z v M' args s (.returned (w.map (zτ Z))) t := fun w hw t ht hW => ⟨by rw [hw], by rw [ht]; exact hcore, hS.F ht⟩
  cases i with
  | ireturn =>
    obtain ⟨x, rfl, h1, h2⟩ := h
    rcases h1 with h1 | ⟨h1, h3⟩
    · rw [h1] at hk
      have ert : zRt y = some .int := of_decide_eq_true hk
      exact W.zret hx hb (hr.trans ert) rfl (hq _ h2) hS.2.2 hd (hlocks := hlocks)
    · rw [h1] at hk
      have ert : zRt y = some .boolean := of_decide_eq_true hk
      exact W.zret hx hb (hr.trans ert) (by rcases h3 with rfl | rfl <;> decide) (hq _ h2) hS.2.2 hd (hlocks := hlocks)
  | lreturn =>
    obtain ⟨x, rfl, h1, h2⟩ := h
    rw [h1] at hk
    have ert : zRt y = some .long := of_decide_eq_true hk
    exact W.lret hx hb (hr.trans ert) (hq _ h2) hS.2.2 hd (hlocks := hlocks)
  | areturn =>
    obtain ⟨r, rfl, h1, h2⟩ := h
    rw [h1] at hk
    have ert : ∃ rt, zRt y = some rt ∧ ((∃ n, rt = .object n) ∨ ∃ t, rt = .array t) := by
      cases e : zRt y with
      | none => rw [e] at hk; cases hk
      | some rt =>
        cases rt with
        | object n => exact ⟨_, rfl, Or.inl ⟨_, rfl⟩⟩
        | array t => exact ⟨_, rfl, Or.inr ⟨_, rfl⟩⟩
        | _ => rw [e] at hk; cases hk
    obtain ⟨rt, ert, hrt⟩ := ert
    have hvr : zτ Z (va_rf r) = .null ∨ ∃ a, zτ Z (va_rf r) = .ref a := by cases r with
      | none => exact Or.inl rfl
      | some a => exact Or.inr ⟨_, rfl⟩
    exact W.aret hx hb (hr.trans ert) hrt hvr (hq _ h2) hS.2.2 hd (hlocks := hlocks)
  | return_ =>
    obtain ⟨rfl, h1, h2⟩ := h
    exact W.vret hx hb (hr.trans (zRt_none hy h1)) (hq _ h2) hS.2.2 hd (hlocks := hlocks)
  | _ => exact h.elim
theorem z_len (Z : zX) (lc : Launch) {d i : Nat} {M : zM} (hd : 6 ≤ d) (hi : i < 6) : Met lc (zNm 900) (zWs 900) (zRm (d + 1) (zn M - zn M) (zs M - zs M)) (zPc Z [.ref (3 + i)] M) (zQc Z (some (.int (Int32.ofNat (zTx i).length))) M) (zn M - zn M) (zs M - zs M) (zAd Z) := by
  rw [Nat.sub_self, Nat.sub_self]
  have e3 : zρ Z (3 + i) = zsp Z (3 + i) := if_pos (by omega)
  have ea : [.ref (3 + i)].map (zτ Z) = [.ref (zsp Z (3 + i))] := by show [Value.ref (zρ Z (3 + i))] = _; rw [e3]
  unfold zPc
  rw [ea]
  refine zj_of (y := zjL) (code := prog_13_method_54_code) (maxL := 1) (ret := some .int) zj_plain.1 (Nat.le_of_ble_eq_true rfl) ?_
  intro p e s m below meth c hx hb hml hr hlocks hown hts hT hSp hI ls hl
  have hS := hI.2.2.1
  obtain ⟨hO, hcd, hvl, hbt⟩ := hSp.2.2.2.2.2.1.1 i hi
  obtain ⟨e1, e2, e4, e5, -⟩ := zj_ch i hi
  refine lv_aload_n hx hb (show decode _ _ = .ok (.aload_n 0, 1) by decide +kernel) rfl (lv_at hl 0 rfl) ?_
  refine vk_getf (index := 9) hx hb hvl hS hown (hts _ (zjwW (zjw _ (by simp)))) (fun x hx => hx) (by decide +kernel) ?_
  refine va_tlen hx hb hbt hS rfl (by decide +kernel) ?_
  refine lv_aload_n hx hb (show decode _ _ = .ok (.aload_n 0, 1) by decide +kernel) rfl (lv_at hl 0 rfl) ?_
  refine z_call (M := M) (M1 := M) (w := some (.int 0)) (rest := [.int (Int32.ofNat (zLen.getD i 0))]) (aa := ([.ref (zsp Z (3 + i))] : List Value).toArray) hI (Nat.le_refl _) ?_ (fun H1 locs1 hI1 => ?_)
  · rw [Nat.sub_self, Nat.sub_self]
    exact va_runV (index := 335) (As := []) (C := "java/lang/String") (rest := [.int (Int32.ofNat (zLen.getD i 0))]) (n := 0) ⟨hx, hb, hml, hown, hts⟩ (zj_coder (d := d) hi)
      ⟨zj_B hts (zW_in _ zjcO rfl) (hts _ (zjwW (zjw _ (by simp)))) (hts _ (zjwW (zjw _ (by simp)))) (by decide +kernel) ⟨Nat.le_refl _, by show 8 + (1 + 11) + 60 * d ≤ 60 * (d + 1); omega⟩, hts _ (zjwW (zjw _ (by simp))), hts _ (zjwW (zjw _ (by simp)))⟩
      ⟨zj_blind _, vk_recv (adK := fun i => zsp Z (3 + i)) (i := i) hSp.2.2.2.2.2.1 hi hS, zj_pre hT hSp hI⟩ rfl rfl hl.1 rfl (lv_room (Nat.le_of_ble_eq_true rfl)) (show decode _ 6 = .ok (.invokevirtual 335, 3) by decide +kernel) ⟨Nat.zero_le _, Nat.zero_le _⟩
  · refine lv_ishr hx hb (by decide +kernel) ?_
    rw [Nat.sub_self, Nat.sub_self] at *
    rw [← e1, e4]
    exact W.zret hx hb hr rfl (fun t ht hW => zj_q (some (.int (Int32.ofNat (zTx i).length))) hI1 ht) hI1.2.2.1.2.2 (by decide +kernel) (hlocks := hlocks)
theorem z_chr (Z : zX) (lc : Launch) {d i j : Nat} {M : zM} (hd : 6 ≤ d) (hi : i < 6) (hj : j < (zTx i).length) : Met lc (zNm 901) (zWs 901) (zRm (d + 1) (zn M - zn M) (zs M - zs M)) (zPc Z [.ref (3 + i), .int (Int32.ofNat j)] M) (zQc Z (some (.int ((zTx i).getD j 0))) M) (zn M - zn M) (zs M - zs M) (zAd Z) := by
  rw [Nat.sub_self, Nat.sub_self]
  obtain ⟨d, rfl⟩ : ∃ d', d = d' + 2 := ⟨d - 2, by omega⟩
  have e3 : zρ Z (3 + i) = zsp Z (3 + i) := if_pos (by omega)
  have ea : [.ref (3 + i), .int (Int32.ofNat j)].map (zτ Z) = [.ref (zsp Z (3 + i)), .int (Int32.ofNat j)] := by show [Value.ref (zρ Z (3 + i)), _] = _; rw [e3]; rfl
  unfold zPc
  rw [ea]
  refine zj_of (y := zjC) (code := prog_13_method_56_code) (maxL := 2) (ret := some .char) zj_plain.1 (Nat.le_of_ble_eq_true rfl) ?_
  intro p e s m below meth c hx hb hml hr hlocks hown hts hT hSp hI ls hl
  have hS := hI.2.2.1
  obtain ⟨hO, hcd, hvl, hbt⟩ := hSp.2.2.2.2.2.1.1 i hi
  obtain ⟨e1, e2, e4, e5, e6⟩ := zj_ch i hi
  refine lv_aload_n hx hb (show decode _ _ = .ok (.aload_n 0, 1) by decide +kernel) rfl (lv_at hl 0 rfl) ?_
  refine z_call (M := M) (M1 := M) (w := some (.int 1)) (rest := []) (aa := ([.ref (zsp Z (3 + i))] : List Value).toArray) hI (Nat.le_refl _) ?_ (fun H1 locs1 hI1 => ?_)
  · rw [Nat.sub_self, Nat.sub_self]
    exact va_runV (index := 492) (As := []) (C := "java/lang/String") (rest := []) (n := 0) ⟨hx, hb, hml, hown, hts⟩ (zj_isL (d := d) hi)
      ⟨zj_B hts (zW_in _ zjcI rfl) (hts _ (zjwW (zjw _ (by simp)))) (hts _ (zjwW (zjw _ (by simp)))) (by decide +kernel) ⟨by show d + 1 ≤ d + 2 + 1; omega, by show 8 + (1 + 11) + 60 * d ≤ 60 * (d + 2 + 1); omega⟩, hts _ (zjwW (zjw _ (by simp))), hts _ (zjwW (zjw _ (by simp)))⟩
      ⟨zj_blind _, vk_recv (adK := fun i => zsp Z (3 + i)) (i := i) hSp.2.2.2.2.2.1 hi hS, zj_pre hT hSp hI⟩ rfl rfl hl.1 rfl (lv_room (Nat.le_of_ble_eq_true rfl)) (show decode _ 1 = .ok (.invokevirtual 492, 3) by decide +kernel) ⟨Nat.zero_le _, Nat.zero_le _⟩
  · have hS1 := hI1.2.2.1
    refine lv_if_eq (off := 12) (tgt := 16) hx hb (by decide +kernel) (by decide) (fun q => absurd q (by decide)) (fun _ => ?_)
    refine lv_aload_n hx hb (show decode _ _ = .ok (.aload_n 0, 1) by decide +kernel) rfl (lv_at hl 0 rfl) ?_
    refine vk_getf (index := 9) hx hb hvl hS1 hown (hts _ (zjwW (zjw _ (by simp)))) (fun x hx => hx) (by decide +kernel) ?_
    refine lv_iload_n hx hb (show decode _ _ = .ok (.iload_n 1, 1) by decide +kernel) rfl (lv_at hl 1 rfl) ?_
    rw [Nat.sub_self] at hI1
    rw [Nat.sub_self, Nat.sub_self]
    refine z_call (M := M) (M1 := M) (w := some (.int ((zTx i).getD j 0))) (rest := []) (aa := ([.ref (zav Z i), .int (Int32.ofNat j)] : List Value).toArray) hI1 (Nat.le_refl _) ?_ (fun H2 locs2 hI2 => ?_)
    · rw [Nat.sub_self, Nat.sub_self]
      exact va_runS (index := 495) (As := [.ref (zav Z i), .int (Int32.ofNat j)]) (rest := []) (n := 2) ⟨hx, hb, hml, hown, hts⟩ (zj_B1 (d := d) hi hj)
        ⟨zj_B hts (zW_in _ zjcB rfl) (hts _ (zjwW (zjw _ (by simp)))) (hts _ (zjwW (zjw _ (by simp)))) (by decide +kernel) ⟨Nat.le_refl _, by show 8 + (2 + 11) + 60 * (d + 2) ≤ 60 * (d + 2 + 1); omega⟩, hts _ (zjwW (zjw _ (by simp)))⟩
        ⟨zj_blind _, zj_pre hT hSp hI1⟩ rfl rfl hl.1 rfl (lv_room (Nat.le_of_ble_eq_true rfl)) (show decode _ 12 = .ok (.invokestatic 495, 3) by decide +kernel) ⟨Nat.zero_le _, Nat.zero_le _⟩
    · rw [Nat.sub_self, Nat.sub_self] at *
      exact W.zret hx hb hr (e6 j hj).2 (fun t ht hW => zj_q (some (.int ((zTx i).getD j 0))) hI2 ht) hI2.2.2.1.2.2 (by decide +kernel) (hlocks := hlocks)
theorem z_met (Z : zX) (lc : Launch) : ∀ (d y : Nat) (as : List Value) (M : zM) (v : Option Value) (M' : zM), zEv d y as M v M' → Met lc (zNm y) (zWs y) (zRm d (zn M' - zn M) (zs M' - zs M)) (zPc Z as M) (zQc Z v M') (zn M' - zn M) (zs M' - zs M) (zAd Z) := by
  intro d
  induction d with
  | zero => intro _ _ _ _ _ h; exact h.elim
  | succ d ih =>
    intro y as M v M' h
    rcases h with ⟨rfl, hd6, rfl, i, hi, rfl, rfl⟩ | ⟨rfl, hd6, rfl, i, j, hi, hj, rfl, rfl⟩ | ⟨hy, hct, f, h⟩
    · exact z_len Z lc hd6 hi
    · exact z_chr Z lc hd6 hi hj
    · refine Met.ofW (cc := zB y) (maxL := zML y) (ret := zRt y) (zM_ok hy).1 rfl ?_
      intro p e s m args below meth c s₁ B hml hv
      obtain ⟨rfl, hcore, hT, hSp⟩ := hv
      have hts0 := atoms_spec (ws := zWs y) B.pre
      have hts : ∀ w ∈ zW, w.before ((as.map (zτ Z)).toArray) s = true := fun w hw => hts0 w (List.mem_cons_of_mem _ hw)
      have hown : s.vm.findClass (zRn (zO y)) = some m.cls := by rw [← (zM_ok hy).2.2.2.2.2.1]; exact findClass_of_methodNamed B.named
      have hnm : meth.name = (zNm y).name := (name_of_methodNamed B.named B.method).1
      have hl := lv_entry (as.map (zτ Z)) (n := zML y) (by rw [zsl_len]; unfold zct; rw [zct_map]; exact hct)
      rw [zlm_args] at hl
      rw [lg_entry_eq]
      have hH := hcore.2.1
      have hI : zInv Z s M s.heap [] 0 := ⟨hcore, by omega, va_S.rf, by omega⟩
      exact z_run (d := d) (m := y) (v := v) (M' := M') B.exec B.bytes hml hown hts hT hSp (fun hq => by rw [hnm]; exact hq) (Nat.le_refl _) (Nat.le_refl _) ih (fun pc H locs cells slots ls st i hd he hI hc hs => z_end B.exec B.bytes B.returns B.notSynchronized hy pc H locs cells slots ls st i hd he hI hc hs) f 0 _ [] M s.heap [] 0 0 _ h hl hI (by show 0 + _ ≤ zn M' - zn M; omega) (by show 0 + _ ≤ zs M' - zs M; omega)
