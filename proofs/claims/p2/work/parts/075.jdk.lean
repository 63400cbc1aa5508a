/-! ===== String's length() and charAt() over the texts ===== -/
theorem zj_plain : plainName "java/lang/String" = true ∧ plainName "java/lang/StringLatin1" = true ∧ plainName "jdk/internal/util/Preconditions" = true := by decide +kernel
abbrev zjL : MethodName := ⟨"java/lang/String", "length", "()I"⟩
abbrev zjO : MethodName := ⟨"java/lang/String", "coder", "()B"⟩
abbrev zjC : MethodName := ⟨"java/lang/String", "charAt", "(I)C"⟩
abbrev zjI : MethodName := ⟨"java/lang/String", "isLatin1", "()Z"⟩
abbrev zjB : MethodName := ⟨"java/lang/StringLatin1", "charAt", "([BI)C"⟩
abbrev zjK : MethodName := ⟨"java/lang/String", "checkIndex", "(II)V"⟩
abbrev zjP : MethodName := ⟨"jdk/internal/util/Preconditions", "checkIndex", "(IILjava/util/function/BiFunction;)I"⟩
theorem zjw : ∀ w ∈ ([.fieldLink "java/lang/String" 9 "java/lang/String" "value" "[B", .fieldLink "java/lang/String" 15 "java/lang/String" "coder" "B", .fieldLink "java/lang/String" 38 "java/lang/String" "COMPACT_STRINGS" "Z",
    .methodLink "java/lang/String" 335 zjO, .instanceMethod zjO, .selects "java/lang/String" zjO zjO, .initialized "java/lang/String", .methodLink "java/lang/String" 492 zjI, .instanceMethod zjI, .selects "java/lang/String" zjI zjI,
    .methodLink "java/lang/String" 495 zjB, .static zjB, .initialized "java/lang/StringLatin1", .methodLink "java/lang/StringLatin1" 9 zjK, .static zjK, .methodLink "java/lang/String" 1059 zjP, .static zjP, .initialized "jdk/internal/util/Preconditions",
    .fieldLink "java/lang/String" 1053 "jdk/internal/util/Preconditions" "SIOOBE_FORMATTER" "Ljava/util/function/BiFunction;"] : List Cond), w ∈ lw_tbl ∧ goodWord w = true := by decide +kernel
theorem zjwW {w : Cond} (h : w ∈ lw_tbl ∧ goodWord w = true) : w ∈ zW := List.mem_filter.mpr h
section ZJ
variable {lc : Launch} {Z : zX} {M : zM}
theorem zj_of {y : MethodName} {code : ByteArray} {maxL d : Nat} {ret : Option FieldType} {av : List Value} {v : Option Value} (hp : plainName y.cls = true) (hlen : (lg_sl av).length ≤ maxL)
    (body : ∀ (p : Program) (e : Env) (s : State) (m : MethodId) (below : List Frame) (meth : Method) (c : Code), p.tables.exec = Jvm.exec → c.code = code → c.maxLocals = maxL → meth.sig.returnType = ret → meth.locks = false → s.vm.findClass y.cls = some m.cls → (∀ w ∈ zW, w.before av.toArray s = true) → zTab Z s → zSpc Z s s.heap → zInv Z s M s.heap [] 0 →
      ∀ ls, lv_has ls maxL (lv_args 0 av) → W p lc e (zRm d 0 0) s m av.toArray below meth c s.heap [] 0 0 (MQ below (zQc Z v M) av.toArray s 0 0 (zAd Z)) (F0 m 0 ls [])) :
    Met lc y (.code y code maxL ret :: zW) (zRm d 0 0) (va_Pc av (zRep Z M)) (zQc Z v M) 0 0 (zAd Z) := by
  refine Met.ofW (cc := code) (maxL := maxL) (ret := ret) hp rfl ?_
  intro p e s m args below meth c s₁ B hml hv
  obtain ⟨rfl, hcore, hT, hSp⟩ := hv
  have hts0 := atoms_spec (ws := .code y code maxL ret :: zW) B.pre
  have hts : ∀ w ∈ zW, w.before av.toArray s = true := fun w hw => hts0 w (List.mem_cons_of_mem _ hw)
  have hl := lv_entry av (n := maxL) hlen
  rw [lg_entry_eq]
  have hH := hcore.2.1
  exact body p e s m below meth c B.exec B.bytes hml B.returns B.notSynchronized (findClass_of_methodNamed B.named) hts hT hSp ⟨hcore, by omega, va_S.rf, by omega⟩ _ hl
theorem zj_blind (av : List Value) : FrameBlind (va_Pc av (zRep Z M)) := fun a U g mk h => by
  obtain ⟨h1, h2, h3, h4⟩ := h
  exact ⟨h1, h2, zTab.same (s := U) (U := U.calling g mk a) rfl h3, zSpc.moved (u := U) (U := U.calling g mk a) (Vm.Alike.refl U.vm) h4⟩
theorem zj_pre {s : State} {H : Heap} {locs : List Loc} {cells : Nat} {av : List Value} (hT : zTab Z s) (hSp : zSpc Z s s.heap) (hI : zInv Z s M H locs cells) : ∀ U : State, U.heap = H → s.WarmedH U.vm → va_Pc av (zRep Z M) av.toArray U := by
  intro U hU hW
  obtain ⟨hcore, hcs, hS, hbs⟩ := hI
  exact ⟨rfl, by rw [hU]; exact hcore, hT.warm hW, by rw [hU]; exact (zSpc_now hSp hS).moved hW.alike⟩
theorem zj_B {s : State} {args : Array Value} {R0 : Room} {own : String} {ix n d maxL : Nat} {y : MethodName} {code : ByteArray} {ret : Option FieldType} (hts : ∀ w ∈ zW, w.before args s = true) (hc : Cond.code y code maxL ret ∈ zW)
    (hini : (Cond.initialized y.cls).before args s = true) (hl : (Cond.methodLink own ix y).before args s = true) (hd : y.cls ≠ "java/lang/invoke/MethodHandle" ∧ y.cls ≠ "java/lang/invoke/VarHandle" ∧ (parseMethodDescriptor y.desc).map (fun d => d.parameters.length) = some n) (hR : d + 1 ≤ R0.frames ∧ 8 + (maxL + 11) + 60 * d ≤ R0.locals) :
    CallB R0 s args own ix y code maxL ret (.code y code maxL ret :: zW) (zRm d 0 0) 0 0 n :=
  callB_of n hts (fun w hw => by
    rcases List.mem_cons.mp hw with h | h
    · subst h; exact zW_good _ hc
    · exact zW_good _ h) rfl rfl rfl hini hl hd hR
theorem zj_q {s t : State} {H : Heap} {locs : List Loc} {cells : Nat} {a : Array Value} (w : Option Value) (hI : zInv Z s M H locs cells) (ht : t.heap = H) : zQc Z w M a s (.returned (w.map (zτ Z))) t := ⟨rfl, by rw [ht]; exact hI.1, hI.2.2.1.F ht⟩
/-- coder() -/
theorem zj_coder {d i : Nat} (hi : i < 6) : Met lc zjO (.code zjO zjbO 1 (some .byte) :: zW) (zRm d 0 0) (va_Pc [.ref (zsp Z (3 + i))] (zRep Z M)) (zQc Z (some (.int 0)) M) 0 0 (zAd Z) := by
  refine zj_of zj_plain.1 (Nat.le_of_ble_eq_true rfl) ?_
  intro p e s m below meth c hx hb hml hr hlocks hown hts hT hSp hI ls hl
  have hS := hI.2.2.1
  obtain ⟨hO, hcd, hvl, hbt⟩ := hSp.2.2.2.2.2.1.1 i hi
  refine va_gets (index := 38) hx hb hSp.2.2.2.2.2.2.1 hS hown (hts _ (zjwW (zjw _ (by simp)))) (fun x hx => hx) (by decide +kernel) ?_
  refine lv_if_eq (off := 10) (tgt := 13) hx hb (by decide +kernel) (by decide) (fun q => absurd q (by decide)) (fun _ => ?_)
  refine lv_aload_n hx hb (show decode _ _ = .ok (.aload_n 0, 1) by decide +kernel) rfl (lv_at hl 0 rfl) ?_
  refine vk_getf (index := 15) hx hb hcd hS hown (hts _ (zjwW (zjw _ (by simp)))) (fun x hx => hx) (by decide +kernel) ?_
  refine lv_goto (off := 4) (tgt := 14) hx hb (by decide +kernel) (by decide) ?_
  exact W.zret hx hb hr (by decide) (fun t ht hW => zj_q (some (.int 0)) hI ht) hS.2.2 (by decide +kernel) (hlocks := hlocks)
/-- isLatin1() -/
theorem zj_isL {d i : Nat} (hi : i < 6) : Met lc zjI (.code zjI zjbI 1 (some .boolean) :: zW) (zRm d 0 0) (va_Pc [.ref (zsp Z (3 + i))] (zRep Z M)) (zQc Z (some (.int 1)) M) 0 0 (zAd Z) := by
  refine zj_of zj_plain.1 (Nat.le_of_ble_eq_true rfl) ?_
  intro p e s m below meth c hx hb hml hr hlocks hown hts hT hSp hI ls hl
  have hS := hI.2.2.1
  obtain ⟨hO, hcd, hvl, hbt⟩ := hSp.2.2.2.2.2.1.1 i hi
  refine va_gets (index := 38) hx hb hSp.2.2.2.2.2.2.1 hS hown (hts _ (zjwW (zjw _ (by simp)))) (fun x hx => hx) (by decide +kernel) ?_
  refine lv_if_eq (off := 14) (tgt := 17) hx hb (by decide +kernel) (by decide) (fun q => absurd q (by decide)) (fun _ => ?_)
  refine lv_aload_n hx hb (show decode _ _ = .ok (.aload_n 0, 1) by decide +kernel) rfl (lv_at hl 0 rfl) ?_
  refine vk_getf (index := 15) hx hb hcd hS hown (hts _ (zjwW (zjw _ (by simp)))) (fun x hx => hx) (by decide +kernel) ?_
  refine lv_if_ne (off := 7) (tgt := 17) hx hb (by decide +kernel) (by decide) (fun q => absurd rfl q) (fun _ => ?_)
  refine lv_iconst (n := 1) hx hb (by decide +kernel) rfl ?_
  refine lv_goto (off := 4) (tgt := 18) hx hb (by decide +kernel) (by decide) ?_
  exact W.zret hx hb hr (by decide) (fun t ht hW => zj_q (some (.int 1)) hI ht) hS.2.2 (by decide +kernel) (hlocks := hlocks)
/-- Preconditions.checkIndex() -/
theorem zj_P {d : Nat} {k n : Int32} {r : Option Nat} (h0 : ¬ k < 0) (hkn : k < n) : Met lc zjP (.code zjP zjbP 3 (some .int) :: zW) (zRm d 0 0) (va_Pc [.int k, .int n, va_rf r] (zRep Z M)) (zQc Z (some (.int k)) M) 0 0 (zAd Z) := by
  refine zj_of zj_plain.2.2 (by cases r <;> exact Nat.le_of_ble_eq_true rfl) ?_
  intro p e s m below meth c hx hb hml hr hlocks hown hts hT hSp hI ls hl
  have hS := hI.2.2.1
  have hl : lv_has ls 3 [(0, .int k), (1, .int n)] := lv_sub hl [0, 1] rfl
  refine lv_iload_n hx hb (show decode _ _ = .ok (.iload_n 0, 1) by decide +kernel) rfl (lv_at hl 0 rfl) ?_
  refine lv_if_lt (off := 8) (tgt := 9) hx hb (by decide +kernel) (by decide) (fun q => absurd q h0) (fun _ => ?_)
  refine lv_iload_n hx hb (show decode _ _ = .ok (.iload_n 0, 1) by decide +kernel) rfl (lv_at hl 0 rfl) ?_
  refine lv_iload_n hx hb (show decode _ _ = .ok (.iload_n 1, 1) by decide +kernel) rfl (lv_at hl 1 rfl) ?_
  refine lv_icmp_lt (off := 10) (tgt := 16) hx hb (by decide +kernel) (by decide) (fun _ => ?_) (fun q => absurd hkn q)
  refine lv_iload_n hx hb (show decode _ _ = .ok (.iload_n 0, 1) by decide +kernel) rfl (lv_at hl 0 rfl) ?_
  exact W.zret hx hb hr rfl (fun t ht hW => zj_q (some (.int k)) hI ht) hS.2.2 (by decide +kernel) (hlocks := hlocks)
/-- String.checkIndex() -/
theorem zj_K {d : Nat} {k n : Int32} (h0 : ¬ k < 0) (hkn : k < n) : Met lc zjK (.code zjK zjbK 2 none :: zW) (zRm (d + 1) 0 0) (va_Pc [.int k, .int n] (zRep Z M)) (zQc Z none M) 0 0 (zAd Z) := by
  refine zj_of zj_plain.1 (Nat.le_of_ble_eq_true rfl) ?_
  intro p e s m below meth c hx hb hml hr hlocks hown hts hT hSp hI ls hl
  have hS := hI.2.2.1
  refine lv_iload_n hx hb (show decode _ _ = .ok (.iload_n 0, 1) by decide +kernel) rfl (lv_at hl 0 rfl) ?_
  refine lv_iload_n hx hb (show decode _ _ = .ok (.iload_n 1, 1) by decide +kernel) rfl (lv_at hl 1 rfl) ?_
  have hlk := hts _ (zjwW (zjw (.fieldLink "java/lang/String" 1053 "jdk/internal/util/Preconditions" "SIOOBE_FORMATTER" "Ljava/util/function/BiFunction;") (by simp)))
  have go : ∀ r : Option Nat, W p lc e (zRm (d + 1) 0 0) s m (List.toArray [.int k, .int n]) below meth c s.heap [] 0 0 (MQ below (zQc Z none M) (List.toArray [.int k, .int n]) s 0 0 (zAd Z)) (F0 m 5 ls [va_rf r, .int n, .int k]) := by
    intro r
    refine z_call (M := M) (M1 := M) (w := some (.int k)) (rest := []) (aa := ([.int k, .int n, va_rf r] : List Value).toArray) hI (Nat.le_refl _) ?_ (fun H1 locs1 hI1 => ?_)
    · rw [Nat.sub_self, Nat.sub_self]
      exact va_runS (index := 1059) (As := [.int k, .int n, va_rf r]) (rest := []) (n := 3) ⟨hx, hb, hml, hown, hts⟩ (zj_P (d := d) h0 hkn)
        ⟨zj_B hts (zW_in _ zjcP rfl) (hts _ (zjwW (zjw _ (by simp)))) (hts _ (zjwW (zjw _ (by simp)))) (by decide +kernel) ⟨Nat.le_refl _, by show 8 + (3 + 11) + 60 * d ≤ 60 * (d + 1); omega⟩, hts _ (zjwW (zjw _ (by simp)))⟩
        ⟨zj_blind _, zj_pre hT hSp hI⟩ rfl rfl hl.1 (by cases r <;> rfl) (lv_room (Nat.le_of_ble_eq_true rfl)) (show decode _ 5 = .ok (.invokestatic 1059, 3) by decide +kernel) ⟨Nat.le_refl _, Nat.le_refl _⟩
    · refine lv_pop hx hb (by decide +kernel) rfl ?_
      rw [Nat.sub_self, Nat.sub_self] at *
      exact W.vret hx hb hr (fun t ht hW => zj_q none hI1 ht) hI1.2.2.1.2.2 (by decide +kernel) (hlocks := hlocks)
  rcases hSp.2.2.2.2.2.2.2 with hz | ⟨t, hz⟩
  · exact va_gets (index := 1053) hx hb hz hS hown hlk (fun x hx => hx) (by decide +kernel) (go none)
  · exact va_gets (index := 1053) hx hb hz hS hown hlk (fun x hx => hx) (by decide +kernel) (go (some t))
theorem zj_ch : ∀ i, i < 6 → (zTx i).length = zLen.getD i 0 ∧ zByt.getD i [] = zTx i ∧ Int32.ofNat (zTx i).length >>> ((0 : Int32) &&& 31) = Int32.ofNat (zTx i).length ∧ (zTx i).length < 100 ∧ ∀ j, j < (zTx i).length → (((zTx i).getD j 0 &&& (Int16.ofInt 255).toInt32).toUInt32 % 65536).toInt32 = (zTx i).getD j 0 ∧ narrow .char (.int ((zTx i).getD j 0)) = .int ((zTx i).getD j 0) := by decide +kernel
/-- StringLatin1.charAt() -/
theorem zj_B1 {d i j : Nat} (hi : i < 6) (hj : j < (zTx i).length) : Met lc zjB (.code zjB zjbB 2 (some .char) :: zW) (zRm (d + 2) 0 0) (va_Pc [.ref (zav Z i), .int (Int32.ofNat j)] (zRep Z M)) (zQc Z (some (.int ((zTx i).getD j 0))) M) 0 0 (zAd Z) := by
  refine zj_of zj_plain.2.1 (Nat.le_of_ble_eq_true rfl) ?_
  intro p e s m below meth c hx hb hml hr hlocks hown hts hT hSp hI ls hl
  have hS := hI.2.2.1
  obtain ⟨hO, hcd, hvl, hbt⟩ := hSp.2.2.2.2.2.1.1 i hi
  obtain ⟨e1, e2, e3, e4, e5⟩ := zj_ch i hi
  obtain ⟨e6, e7⟩ := e5 j hj
  refine lv_iload_n hx hb (show decode _ _ = .ok (.iload_n 1, 1) by decide +kernel) rfl (lv_at hl 1 rfl) ?_
  refine lv_aload_n hx hb (show decode _ _ = .ok (.aload_n 0, 1) by decide +kernel) rfl (lv_at hl 0 rfl) ?_
  refine va_tlen hx hb hbt hS rfl (by decide +kernel) ?_
  have h0 : ¬ Int32.ofNat j < 0 := nI_pos (n := j) (by omega)
  have hkn : Int32.ofNat j < Int32.ofNat (zLen.getD i 0) := nI_lt (by omega) (by omega)
  refine z_call (M := M) (M1 := M) (w := none) (rest := []) (aa := ([.int (Int32.ofNat j), .int (Int32.ofNat (zLen.getD i 0))] : List Value).toArray) hI (Nat.le_refl _) ?_ (fun H1 locs1 hI1 => ?_)
  · rw [Nat.sub_self, Nat.sub_self]
    exact va_runS (index := 9) (As := [.int (Int32.ofNat j), .int (Int32.ofNat (zLen.getD i 0))]) (rest := []) (n := 2) ⟨hx, hb, hml, hown, hts⟩ (zj_K (d := d) h0 hkn)
      ⟨zj_B hts (zW_in _ zjcK rfl) (hts _ (zjwW (zjw _ (by simp)))) (hts _ (zjwW (zjw _ (by simp)))) (by decide +kernel) ⟨Nat.le_refl _, by show 8 + (2 + 11) + 60 * (d + 1) ≤ 60 * (d + 2); omega⟩, hts _ (zjwW (zjw _ (by simp)))⟩
      ⟨zj_blind _, zj_pre hT hSp hI⟩ rfl rfl hl.1 rfl (lv_room (Nat.le_of_ble_eq_true rfl)) (show decode _ 3 = .ok (.invokestatic 9, 3) by decide +kernel) ⟨Nat.le_refl _, Nat.le_refl _⟩
  · have hS1 := hI1.2.2.1
    refine lv_aload_n hx hb (show decode _ _ = .ok (.aload_n 0, 1) by decide +kernel) rfl (lv_at hl 0 rfl) ?_
    refine lv_iload_n hx hb (show decode _ _ = .ok (.iload_n 1, 1) by decide +kernel) rfl (lv_at hl 1 rfl) ?_
    have hcl : (Int32.ofNat j).toNatClampNeg = j := nI_clamp (n := j) (by omega)
    refine va_tb (v := .int ((zTx i).getD j 0)) hx hb hbt hS1 (vp_in_nI (n := j) (by omega) (by omega)) (by rw [hcl, e2]) (by decide +kernel) ?_
    refine lv_sipush (n := 255) hx hb (by decide +kernel) rfl ?_
    refine lv_iand hx hb (by decide +kernel) ?_
    refine lv_i2c hx hb (by decide +kernel) e6 ?_
    rw [Nat.sub_self, Nat.sub_self] at *
    exact W.zret hx hb hr e7 (fun t ht hW => zj_q (some (.int ((zTx i).getD j 0))) hI1 ht) hS1.2.2 (by decide +kernel) (hlocks := hlocks)
end ZJ
