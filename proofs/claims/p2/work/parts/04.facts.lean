/-! ===== what the tables say, checked by the kernel ===== -/
def zW : List Cond := lw_tbl.filter goodWord
theorem zW_in {w : Cond} (i : Nat) (h : lw_tbl[i]? = some w) (g : goodWord w = true) : w ∈ zW := List.mem_filter.mpr ⟨List.mem_of_getElem? h, g⟩
theorem zW_good : GoodIn zW zW := fun w h => ⟨h, good_of_word (List.mem_filter.mp h).2⟩
theorem zW_sub : ∀ w ∈ zW, w ∈ lw_tbl := fun _ h => (List.mem_filter.mp h).1
def zSw (q : zST) : List Cond := match q.2.1 with
  | 0 => [.methodLink (zRn q.1.1) q.1.2 (zNm q.2.2.1), .instanceMethod (zNm q.2.2.1), .selects (zNm q.2.2.1).cls (zNm q.2.2.1) (zNm q.2.2.1), .initialized (zNm q.2.2.1).cls]
  | 1 => [.methodLink (zRn q.1.1) q.1.2 (zNm q.2.2.1), .static (zNm q.2.2.1), .initialized (zNm q.2.2.1).cls]
  | 2 => [.methodLink (zRn q.1.1) q.1.2 (zNm q.2.2.1), .instanceMethod (zNm q.2.2.1), .initialized (zNm q.2.2.1).cls]
  | 4 => [.static (zNm q.2.2.1), .initialized (zNm q.2.2.1).cls]
  | 5 => [.instanceMethod (zNm q.2.2.1), .initialized (zNm q.2.2.1).cls]
  | 6 => [.methodLink (zRn q.1.1) q.1.2 objectInit, .instanceMethod objectInit, .code objectInit object_method_1_code 1 none]
  | 7 => [.methodLink (zRn q.1.1) q.1.2 arraycopyName, .native arraycopyName, .static arraycopyName, .initialized "java/lang/System"]
  | 10 => [.methodLink (zRn q.1.1) q.1.2 Lib.Math.max.name, .static Lib.Math.max.name, .initialized "java/lang/Math"]
  | 11 => [.methodLink (zRn q.1.1) q.1.2 Lib.Math.min.name, .static Lib.Math.min.name, .initialized "java/lang/Math"]
  | _ => [.methodLink (zRn q.1.1) q.1.2 (zNm q.2.2.1), .instanceMethod (zNm q.2.2.1), .selects (zNm q.2.2.1).cls (zNm q.2.2.1) (zNm q.2.2.1), .initialized (zNm q.2.2.1).cls]
def zSwOk (o : Nat) (q : zST) : Bool := decide (zSw q = q.2.2.2.filterMap (fun i => lw_tbl[i]?)) && (zSw q).all goodWord && decide (q.1.1 = o) && decide (q.2.1 = 8 → q.2.2.1 = 900) && decide (q.2.1 = 9 → q.2.2.1 = 901) && decide (q.2.1 < 6 → q.2.2.1 < 216) && decide (q.2.1 = 0 → zO q.2.2.1 < 9) && decide ((q.2.1 = 2 ∨ q.2.1 = 5) → (zNm q.2.2.1).name = "<init>") && decide ((q.2.1 = 4 ∨ q.2.1 = 5) → zNs.any (fun r => decide (r.1 = q.1 ∧ r.2.1 = q.2.2.1)) = true)
theorem zS_0 : zSs0.all (zSwOk 0) = true := by decide +kernel
theorem zS_1 : zSs1.all (zSwOk 1) = true := by decide +kernel
theorem zS_2 : zSs2.all (zSwOk 2) = true := by decide +kernel
theorem zS_3 : zSs3.all (zSwOk 3) = true := by decide +kernel
theorem zS_4 : zSs4.all (zSwOk 4) = true := by decide +kernel
theorem zS_5 : zSs5.all (zSwOk 5) = true := by decide +kernel
theorem zS_6 : zSs6.all (zSwOk 6) = true := by decide +kernel
theorem zS_7 : zSs7.all (zSwOk 7) = true := by decide +kernel
theorem zS_8 : zSs8.all (zSwOk 8) = true := by decide +kernel
theorem zS_9 : zSs9.all (zSwOk 9) = true := by decide +kernel
theorem zS_10 : zSs10.all (zSwOk 10) = true := by decide +kernel
theorem zS_11 : zSs11.all (zSwOk 11) = true := by decide +kernel
theorem zS_12 : zSs12.all (zSwOk 12) = true := by decide +kernel
theorem zS_13 : zSs13.all (zSwOk 13) = true := by decide +kernel
theorem zS_14 : zSs14.all (zSwOk 14) = true := by decide +kernel
theorem zS_15 : zSs15.all (zSwOk 15) = true := by decide +kernel
theorem zS_all (o : Nat) : ∀ q ∈ zSs o, zSwOk o q = true := by
  intro q hq
  unfold zSs at hq
  split at hq
  · exact List.all_eq_true.mp zS_0 q hq
  · exact List.all_eq_true.mp zS_1 q hq
  · exact List.all_eq_true.mp zS_2 q hq
  · exact List.all_eq_true.mp zS_3 q hq
  · exact List.all_eq_true.mp zS_4 q hq
  · exact List.all_eq_true.mp zS_5 q hq
  · exact List.all_eq_true.mp zS_6 q hq
  · exact List.all_eq_true.mp zS_7 q hq
  · exact List.all_eq_true.mp zS_8 q hq
  · exact List.all_eq_true.mp zS_9 q hq
  · exact List.all_eq_true.mp zS_10 q hq
  · exact List.all_eq_true.mp zS_11 q hq
  · exact List.all_eq_true.mp zS_12 q hq
  · exact List.all_eq_true.mp zS_13 q hq
  · exact List.all_eq_true.mp zS_14 q hq
  · exact List.all_eq_true.mp zS_15 q hq
  · cases hq
/-- a call site's words -/
theorem zCall_w {o i kd y : Nat} (h : zCall o i = some (kd, y)) : (∀ w ∈ zSw ((o, i), kd, y, []), w ∈ zW) ∧ (kd = 8 → y = 900) ∧ (kd = 9 → y = 901) ∧ (kd < 6 → y < 216) ∧ (kd = 0 → zO y < 9) ∧ ((kd = 2 ∨ kd = 5) → (zNm y).name = "<init>") ∧ ((kd = 4 ∨ kd = 5) → ∃ r ∈ zNs, r.1 = (o, i) ∧ r.2.1 = y) := by
  unfold zCall at h
  cases hf : (zSs o).find? (fun q => q.1 == (o, i)) with
  | none => rw [hf] at h; cases h
  | some q =>
    rw [hf] at h
    simp only [Option.map_some, Option.some.injEq, Prod.mk.injEq] at h
    obtain ⟨rfl, rfl⟩ := h
    have hm := List.mem_of_find?_eq_some hf
    have he := List.find?_some hf
    have e1 : q.1 = (o, i) := by simpa using he
    have hk := zS_all o q hm
    simp only [zSwOk, Bool.and_eq_true, decide_eq_true_eq] at hk
    obtain ⟨⟨⟨⟨⟨⟨⟨⟨k1, k2⟩, k3⟩, k4⟩, k5⟩, k6⟩, k7⟩, k8⟩, k9⟩ := hk
    obtain ⟨q1, q2, q3, q4⟩ := q
    simp only at e1
    subst e1
    refine ⟨fun w hw => ?_, k4, k5, k6, k7, k8, fun hq => ?_⟩
    · have hw : w ∈ zSw ((o, i), q2, q3, q4) := hw
      have g := List.all_eq_true.mp k2 w hw
      rw [k1] at hw
      obtain ⟨j, -, hj⟩ := List.mem_filterMap.mp hw
      exact zW_in j hj g
    · have h2 := k9 hq
      obtain ⟨r, h3, h4⟩ := List.any_eq_true.mp h2
      exact ⟨r, h3, of_decide_eq_true h4⟩
def zRkOk (r : Option FieldType) (k : Nat) : Bool := match k with
  | 0 => decide (r = none)
  | 1 => decide (r = some .int)
  | 2 => decide (r = some .boolean)
  | 3 => decide (r = some .long)
  | _ => match r with
    | some (.object _) => true
    | some (.array _) => true
    | _ => false
def zMok (q : zMT) : Bool := plainName q.1.cls && decide (q.1.cls ≠ "java/lang/invoke/MethodHandle") && decide (q.1.cls ≠ "java/lang/invoke/VarHandle") && decide ((parseMethodDescriptor q.1.desc).map (fun d => d.parameters.length) = some q.2.2.2.2.2.1) &&
  goodWord (.code q.1 q.2.1 q.2.2.1 q.2.2.2.1) && decide (q.2.2.1 ≤ 30) && decide (q.1.cls = zRn q.2.2.2.2.1) && zRkOk q.2.2.2.1 q.2.2.2.2.2.2.1
theorem zM_all : zMs.all zMok = true := by decide +kernel
theorem zMs_len : zMs.length = 216 := by decide +kernel
theorem zMt_mem {y : Nat} (h : y < 216) : zMt y ∈ zMs := by
  unfold zMt
  rw [if_pos (by omega), List.getD_eq_getElem?_getD, List.getElem?_eq_getElem (by rw [zMs_len]; exact h)]
  exact List.getElem_mem _
theorem zM_ok {y : Nat} (h : y < 216) : plainName (zNm y).cls = true ∧ ((zNm y).cls ≠ "java/lang/invoke/MethodHandle" ∧ (zNm y).cls ≠ "java/lang/invoke/VarHandle") ∧ (parseMethodDescriptor (zNm y).desc).map (fun d => d.parameters.length) = some (zA y) ∧
    Cond.code (zNm y) (zB y) (zML y) (zRt y) ∈ zW ∧ zML y ≤ 30 ∧ (zNm y).cls = zRn (zO y) ∧ zRkOk (zRt y) (zRk y) = true := by
  have hk := List.all_eq_true.mp zM_all _ (zMt_mem h)
  have hw := zMw_all _ (zMt_mem h)
  unfold zNm
  simp only [zMok, Bool.and_eq_true, decide_eq_true_eq] at hk
  obtain ⟨⟨⟨⟨⟨⟨⟨k1, k2⟩, k3⟩, k4⟩, k6⟩, k7⟩, k8⟩, k9⟩ := hk
  exact ⟨k1, ⟨k2, k3⟩, k4, zW_in _ hw k6, k7, k8, k9⟩
/-- the words of nest mates: they go through the contracts' starts -/
def zNw : List Cond := (zNs.map fun q => Cond.methodLinkNest (zRn q.1.1) q.1.2 (zNm q.2.1) "SagaDesk") ++ [.fieldLinkNest "SagaDesk$Reader" 80 "SagaDesk" "ACCOUNTS_OF" "[I" "SagaDesk"]
theorem zNw_in : ∀ w ∈ zNw, w ∈ lw_tbl := by decide +kernel
def zClT (c : Nat) : u_T := (zCl.getD c ("", zT0, 0)).2.1
def zClN (c : Nat) : String := (zCl.getD c ("", zT0, 0)).1
def zYT (c : Nat) : Nat → FieldType := [zY0, zY1, zY2, zY3, zY4, zY5, zY6, zY7, zY8].getD c zY0
def zGok (o : Nat) (q : zGT) : Bool := decide (lw_tbl[q.2.2.2]? = some (.fieldLink (zRn q.1.1) q.1.2 (zClT q.2.1 q.2.2.1).1 (zClT q.2.1 q.2.2.1).2.1 (zClT q.2.1 q.2.2.1).2.2.1)) && goodWord (.fieldLink (zRn q.1.1) q.1.2 (zClT q.2.1 q.2.2.1).1 (zClT q.2.1 q.2.2.1).2.1 (zClT q.2.1 q.2.2.1).2.2.1) && decide (q.1.1 = o) && decide (q.2.1 < 9) && decide (q.2.2.1 < zN q.2.1)
theorem zG_0 : zGs0.all (zGok 0) = true := by decide +kernel
theorem zG_1 : zGs1.all (zGok 1) = true := by decide +kernel
theorem zG_2 : zGs2.all (zGok 2) = true := by decide +kernel
theorem zG_3 : zGs3.all (zGok 3) = true := by decide +kernel
theorem zG_4 : zGs4.all (zGok 4) = true := by decide +kernel
theorem zG_5 : zGs5.all (zGok 5) = true := by decide +kernel
theorem zG_6 : zGs6.all (zGok 6) = true := by decide +kernel
theorem zG_7 : zGs7.all (zGok 7) = true := by decide +kernel
theorem zG_8 : zGs8.all (zGok 8) = true := by decide +kernel
theorem zG_all (o : Nat) : ∀ q ∈ zGs o, zGok o q = true := by
  intro q hq
  unfold zGs at hq
  split at hq
  · exact List.all_eq_true.mp zG_0 q hq
  · exact List.all_eq_true.mp zG_1 q hq
  · exact List.all_eq_true.mp zG_2 q hq
  · exact List.all_eq_true.mp zG_3 q hq
  · exact List.all_eq_true.mp zG_4 q hq
  · exact List.all_eq_true.mp zG_5 q hq
  · exact List.all_eq_true.mp zG_6 q hq
  · exact List.all_eq_true.mp zG_7 q hq
  · exact List.all_eq_true.mp zG_8 q hq
  all_goals cases hq
/-- a field site's word -/
theorem zFld_w {o i c f : Nat} (h : zFld o i = some (c, f)) : Cond.fieldLink (zRn o) i (zClT c f).1 (zClT c f).2.1 (zClT c f).2.2.1 ∈ zW ∧ c < 9 ∧ f < zN c := by
  unfold zFld at h
  cases hf : (zGs o).find? (fun q => q.1 == (o, i)) with
  | none => rw [hf] at h; cases h
  | some q =>
    rw [hf] at h
    simp only [Option.map_some, Option.some.injEq, Prod.mk.injEq] at h
    obtain ⟨rfl, rfl⟩ := h
    have hm := List.mem_of_find?_eq_some hf
    have he := List.find?_some hf
    have e1 : q.1 = (o, i) := by simpa using he
    have hk := zG_all o q hm
    simp only [zGok, Bool.and_eq_true, decide_eq_true_eq] at hk
    obtain ⟨⟨⟨⟨k1, k2⟩, k3⟩, k4⟩, k5⟩ := hk
    rw [e1] at k1 k2
    exact ⟨zW_in _ k1 k2, k4, k5⟩
def zHok (q : (Nat × Nat) × Nat × Nat) : Bool := if q.2.1 < 9 then decide (lw_tbl[q.2.2]? = some (.classLink (zRn q.1.1) q.1.2 (zClN q.2.1))) && goodWord (.classLink (zRn q.1.1) q.1.2 (zClN q.2.1)) else if q.2.1 = 25 then decide (lw_tbl[q.2.2]? = some (.classLink (zRn q.1.1) q.1.2 "[[I")) && goodWord (.classLink (zRn q.1.1) q.1.2 "[[I") else decide (q.2.1 = 26) && decide (lw_tbl[q.2.2]? = some (.classLink (zRn q.1.1) q.1.2 "[[[I")) && goodWord (.classLink (zRn q.1.1) q.1.2 "[[[I")
theorem zH_all : zHs.all zHok = true := by decide +kernel
def zHw (c : Nat) : String := if c < 9 then zClN c else if c = 25 then "[[I" else "[[[I"
theorem zCls_w {o i c : Nat} (h : zCls o i = some c) : Cond.classLink (zRn o) i (zHw c) ∈ zW := by
  unfold zCls at h
  cases hf : zHs.find? (fun q => q.1 == (o, i)) with
  | none => rw [hf] at h; cases h
  | some q =>
    rw [hf] at h
    simp only [Option.map_some, Option.some.injEq] at h
    subst h
    have hm := List.mem_of_find?_eq_some hf
    have he := List.find?_some hf
    have e1 : q.1 = (o, i) := by simpa using he
    have hk := List.all_eq_true.mp zH_all q hm
    unfold zHok at hk
    unfold zHw
    rw [e1] at hk
    split at hk
    · rename_i h9
      rw [if_pos h9]
      simp only [Bool.and_eq_true, decide_eq_true_eq] at hk
      exact zW_in _ hk.1 hk.2
    · rename_i h9
      rw [if_neg h9]
      split at hk
      · rename_i h5
        rw [if_pos h5]
        simp only [Bool.and_eq_true, decide_eq_true_eq] at hk
        exact zW_in _ hk.1 hk.2
      · rename_i h5
        rw [if_neg h5]
        simp only [Bool.and_eq_true, decide_eq_true_eq] at hk
        exact zW_in _ hk.1.2 hk.2
theorem zK_all : zKs.all (fun q => decide (lw_tbl[q.2.2]? = some (.constant (zRn q.1.1) q.1.2 q.2.1)) && goodWord (.constant (zRn q.1.1) q.1.2 q.2.1)) = true := by decide +kernel
theorem zKi_w {o i : Nat} {x : Int32} (h : zKi o i = some x) : Cond.constant (zRn o) i x ∈ zW := by
  unfold zKi at h
  cases hf : zKs.find? (fun q => q.1 == (o, i)) with
  | none => rw [hf] at h; cases h
  | some q =>
    rw [hf] at h
    simp only [Option.map_some, Option.some.injEq] at h
    subst h
    have hm := List.mem_of_find?_eq_some hf
    have he := List.find?_some hf
    have e1 : q.1 = (o, i) := by simpa using he
    have hk := List.all_eq_true.mp zK_all q hm
    simp only [Bool.and_eq_true, decide_eq_true_eq] at hk
    rw [e1] at hk
    exact zW_in _ hk.1 hk.2
theorem zL_all : zLs.all (fun q => decide (lw_tbl[q.2.2]? = some (.constantLong (zRn q.1.1) q.1.2 q.2.1)) && goodWord (.constantLong (zRn q.1.1) q.1.2 q.2.1)) = true := by decide +kernel
theorem zKl_w {o i : Nat} {x : Int64} (h : zKl o i = some x) : Cond.constantLong (zRn o) i x ∈ zW := by
  unfold zKl at h
  cases hf : zLs.find? (fun q => q.1 == (o, i)) with
  | none => rw [hf] at h; cases h
  | some q =>
    rw [hf] at h
    simp only [Option.map_some, Option.some.injEq] at h
    subst h
    have hm := List.mem_of_find?_eq_some hf
    have he := List.find?_some hf
    have e1 : q.1 = (o, i) := by simpa using he
    have hk := List.all_eq_true.mp zL_all q hm
    simp only [Bool.and_eq_true, decide_eq_true_eq] at hk
    rw [e1] at hk
    exact zW_in _ hk.1 hk.2
/-- the classes: their words, the kinds of their fields -/
theorem zC_lay : (List.range 9).all (fun c => (u_ws (zClN c) (zClT c) (zN c)).all (fun w => goodWord w && decide (w ∈ lw_tbl))) = true := by decide +kernel
theorem zC_cl : ∀ c, c < 9 → zCl[c]? = some (zClN c, zClT c, zN c)
  | 0, _ | 1, _ | 2, _ | 3, _ | 4, _ | 5, _ | 6, _ | 7, _ | 8, _ => rfl
  | _ + 9, h => absurd h (by omega)
theorem zC_new : (List.range 9).all (fun c => goodWord (.instantiable (zClN c) (zN c)) && decide (Cond.instantiable (zClN c) (zN c) ∈ lw_tbl) && goodWord (.initialized (zClN c)) && decide (Cond.initialized (zClN c) ∈ lw_tbl)) = true := by decide +kernel
theorem zC_ty : ∀ c, c < 9 → ∀ f, f < zN c → parseFieldDescriptor (zClT c f).2.2.1 = some (zYT c f) ∧ ((zF c f = 0 ∧ zYT c f = .int) ∨ (zF c f = 2 ∧ zYT c f = .boolean) ∨ (zF c f = 1 ∧ (zYT c f).isReference = true)) ∧ (zClT c f).1 = zClN c := by decide +kernel
theorem zC_nm : ∀ c, c < 9 → ∀ a, a < zN c → ∀ b, b < zN c → a ≠ b → (zClT c a).2.1 ≠ (zClT c b).2.1 := by decide +kernel
theorem zC_nr : ∀ c, c < 9 → zClN c = zRn c := by decide +kernel
theorem zC_ok {c : Nat} (h : c < 9) : zCl[c]? = some (zClN c, zClT c, zN c) ∧ (∀ w ∈ u_ws (zClN c) (zClT c) (zN c), w ∈ zW) ∧ Cond.instantiable (zClN c) (zN c) ∈ zW ∧ Cond.initialized (zClN c) ∈ zW := by
  have h1 := List.all_eq_true.mp zC_lay c (List.mem_range.mpr h)
  have h2 := List.all_eq_true.mp zC_new c (List.mem_range.mpr h)
  simp only [Bool.and_eq_true, decide_eq_true_eq] at h2
  refine ⟨zC_cl c h, fun w hw => ?_, List.mem_filter.mpr ⟨h2.1.1.2, h2.1.1.1⟩, List.mem_filter.mpr ⟨h2.2, h2.1.2⟩⟩
  have h3 := List.all_eq_true.mp h1 w hw
  simp only [Bool.and_eq_true, decide_eq_true_eq] at h3
  exact List.mem_filter.mpr ⟨h3.2, h3.1⟩
theorem zAw_i : Cond.arrayClass (newarray.typeOf .int) ∈ zW := List.mem_filter.mpr ⟨by decide +kernel, by decide⟩
theorem zAw_l : Cond.arrayClass (newarray.typeOf .long) ∈ zW := List.mem_filter.mpr ⟨by decide +kernel, by decide⟩
