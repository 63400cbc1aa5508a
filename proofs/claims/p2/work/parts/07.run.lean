/-! ===== one instruction after another ===== -/
section ZR
variable {p : Program} {lc : Launch} {e : Env} {R0 : Room} {s : State} {mm : MethodId} {args : Array Value} {below : List Frame} {meth : Method} {c : Code} {Q : State → Prop} {Z : zX} {M' : zM} {d m : Nat} {v : Option Value}
theorem zUpd_rf {f : Nat → Option Nat} {k b : Nat} {Z : zX} : (fun j => (va_up f k (some b) j).map (zρ Z)) = va_up (fun j => (f j).map (zρ Z)) k (some (zρ Z b)) := by
  funext j
  unfold va_up
  by_cases h : j = k
  · rw [if_pos h, if_pos h]; rfl
  · rw [if_neg h, if_neg h]
theorem zi_wi_self {M : zM} {a k : Nat} {x : Int32} : zi (zwi M a k x) a = upd (zi M a) k x := by
  funext j
  show (if a = a ∧ j = k then x else zi M a j) = upd (zi M a) k x j
  unfold upd
  by_cases h : j = k
  · rw [if_pos ⟨rfl, h⟩, if_pos h]
  · rw [if_neg (fun q => h q.2), if_neg h]
theorem zl_wl_self {M : zM} {a k : Nat} {x : Int64} : zl (zwl M a k x) a = vp_updL (zl M a) k x := by
  funext j
  show (if a = a ∧ j = k then x else zl M a j) = vp_updL (zl M a) k x j
  unfold vp_updL
  by_cases h : j = k
  · rw [if_pos ⟨rfl, h⟩, if_pos h]
  · rw [if_neg (fun q => h q.2), if_neg h]
theorem zr_wr_self {M : zM} {a k : Nat} {x : Option Nat} : zr (zwr M a k x) a = va_up (zr M a) k x := by
  funext j
  show (if a = a ∧ j = k then x else zr M a j) = va_up (zr M a) k x j
  unfold va_up
  by_cases h : j = k
  · rw [if_pos ⟨rfl, h⟩, if_pos h]
  · rw [if_neg (fun q => h q.2), if_neg h]
theorem zi_cp_self {M : zM} {a0 s0 a dd n : Nat} : zi (zcp M a0 s0 a dd n) a = va_cpy (zi M a0) (zi M a) s0 dd n := by
  funext j
  show (if a = a ∧ dd ≤ j ∧ j < dd + n then zi M a0 (s0 + (j - dd)) else zi M a j) = va_cpy (zi M a0) (zi M a) s0 dd n j
  unfold va_cpy
  by_cases h : dd ≤ j ∧ j < dd + n
  · rw [if_pos ⟨rfl, h⟩, if_pos h]
  · rw [if_neg (fun q => h q.2), if_neg h]
/-- an int row that stands beside the machine's own -/
theorem z_tld {H : Heap} {locs : List Loc} {cells slots pc t N : Nat} {ls : Array Slot} {rest : List Value} {f : Nat → Int32} {A : Nat → Prop} {i : Int32} (hexec : p.tables.exec = Jvm.exec) {cc : ByteArray} (hb : c.code = cc) (hT : va_T .int t N (fun j => .int (f j)) A s s.heap) (hS : va_S A s.heap H locs) (hin : vp_in i N) (hdg : decode cc pc = .ok (.iaload, 1))
    (kk : W p lc e R0 s mm args below meth c H locs cells slots Q (F0 mm (pc + 1) ls (.int (f i.toNatClampNeg) :: rest))) : W p lc e R0 s mm args below meth c H locs cells slots Q (F0 mm pc ls (.int i :: .ref t :: rest)) := by
  obtain ⟨cell, h1, h2, h3, h4, h5, h6, h7⟩ := hT
  have hlt : t < s.heap.size := (Array.getElem?_eq_some_iff.mp h1).1
  have hj : i.toNatClampNeg < N := Nat.not_le.mp fun q => hin (Or.inr q)
  exact W.iald hexec hb (by rw [hS.2.1 t hlt h7]; exact h1) h2 h3 (fun q => q.elim (fun q => hin (Or.inl q)) (fun q => by omega)) (h6 _ hj) rfl rfl hdg kk
theorem z_tlen {H : Heap} {locs : List Loc} {cells slots pc t N : Nat} {ls : Array Slot} {rest : List Value} {f : Nat → Int32} {A : Nat → Prop} (hexec : p.tables.exec = Jvm.exec) {cc : ByteArray} (hb : c.code = cc) (hT : va_T .int t N (fun j => .int (f j)) A s s.heap) (hS : va_S A s.heap H locs) (hdg : decode cc pc = .ok (.arraylength, 1))
    (kk : W p lc e R0 s mm args below meth c H locs cells slots Q (F0 mm (pc + 1) ls (.int (Int32.ofNat N) :: rest))) : W p lc e R0 s mm args below meth c H locs cells slots Q (F0 mm pc ls (.ref t :: rest)) := by
  obtain ⟨cell, h1, h2, h3, h4, h5, h6, h7⟩ := hT
  have hlt : t < s.heap.size := (Array.getElem?_eq_some_iff.mp h1).1
  exact W.alen hexec hb (by rw [hS.2.1 t hlt h7]; exact h1) h2 h5 rfl rfl hdg kk
theorem zSp_at {M : zM} {a N : Nat} (h : zSk Z M) (ha : a < 3) (hk : zk M a = (30, N)) (hs : zSpc Z s s.heap) : va_T .int (zρ Z a) N (fun j => .int (zi M a j)) (zAd Z) s s.heap := by
  have e : zρ Z a = zsp Z a := if_pos (by omega)
  rw [e]
  rcases (show a = 0 ∨ a = 1 ∨ a = 2 by omega) with rfl | rfl | rfl
  · have hN : N = zLn Z := by have := hk.symm.trans h.1; simpa using this
    rw [hN, h.2.2.2.2.1]
    exact hs.1
  · have hN : N = 6 := by have := hk.symm.trans h.2.1; simpa using this
    rw [hN, h.2.2.2.2.2.1]
    exact hs.2.1
  · have hN : N = 6 := by have := hk.symm.trans h.2.2.1; simpa using this
    rw [hN, h.2.2.2.2.2.2]
    exact hs.2.2.1
theorem z_aald {H : Heap} {locs : List Loc} {cells slots pc a n : Nat} {ls : Array Slot} {rest : List Value} {f : Nat → Option Nat} {cA : ClassId} {ty : FieldType} {i : Int32} (hexec : p.tables.exec = Jvm.exec) {cc : ByteArray} (hb : c.code = cc) (hA : ArrOfT s cA ty) (hty : ty.isReference = true)
    (ha : H[a]? = some (vp_cell cA (n, .inr (.inr (.inr (.inr f)))))) (hin : vp_in i n) (hdg : decode cc pc = .ok (.aaload, 1))
    (kk : W p lc e R0 s mm args below meth c H locs cells slots Q (F0 mm (pc + 1) ls (va_rf (f i.toNatClampNeg) :: rest))) : W p lc e R0 s mm args below meth c H locs cells slots Q (F0 mm pc ls (.int i :: .ref a :: rest)) := by
  have hlt : i.toNatClampNeg < n := Nat.not_le.mp fun q => hin (Or.inr q)
  exact W.aald (v := va_rf (f i.toNatClampNeg)) (ty := ty) hexec hb ha (hA n (fun j => va_rf (f j))) hty (fun q => by cases q) (by show ¬ (i < 0 ∨ (arrV _ _ _).slots.size ≤ _); rw [arrV_size]; exact hin) (by show (arrV _ _ _).slots[_]? = _; rw [arrV_read _ _ hlt]) rfl rfl hdg kk
theorem zTy_at (t : Nat) (h1 : 20 ≤ t) (h2 : t < 27) : ∃ ty, (zTy Z)[t - 20]? = some (zcy Z t, ty) ∧ (22 ≤ t → ty.isReference = true) := by
  rcases (show t = 20 ∨ t = 21 ∨ t = 22 ∨ t = 23 ∨ t = 24 ∨ t = 25 ∨ t = 26 by omega) with rfl | rfl | rfl | rfl | rfl | rfl | rfl
  · exact ⟨_, rfl, fun h => absurd h (by decide)⟩
  · exact ⟨_, rfl, fun h => absurd h (by decide)⟩
  all_goals exact ⟨_, rfl, fun _ => rfl⟩
/-- a call that comes back: the worlds of before and behind -/
theorem z_call {H : Heap} {locs : List Loc} {cells slots pc : Nat} {ls : Array Slot} {st0 rest : List Value} {M M1 : zM} {w : Option Value} {aa : Array Value} (hI : zInv Z s M H locs cells) (hm1 : zn M ≤ zn M1)
    (hr : va_Run p lc e R0 s mm args below meth c H locs cells slots (zn M1 - zn M) (zs M1 - zs M) (F0 mm pc ls st0) (rest.map (zτ Z)) (zQc Z w M1 aa) (zAd Z))
    (kk : ∀ (H1 : Heap) (locs1 : List Loc), zInv Z s M1 H1 locs1 (cells + (zn M1 - zn M)) → W p lc e R0 s mm args below meth c H1 locs1 (cells + (zn M1 - zn M)) (slots + (zs M1 - zs M)) Q (F0 mm (pc + 3) ls ((w.toList ++ rest).map (zτ Z)))) :
    W p lc e R0 s mm args below meth c H locs cells slots Q (F0 mm pc ls st0) := by
  refine z_back hr (fun v st1 t L h0 hW hq hL => ?_)
  obtain ⟨hv, hcore1, hF⟩ := hq
  obtain ⟨hcore, hcs, hS, hbs⟩ := hI
  have hv : v = w.map (zτ Z) := by cases hv; rfl
  have e : v.toList ++ rest.map (zτ Z) = (w.toList ++ rest).map (zτ Z) := by
    rw [hv, List.map_append]
    cases w <;> rfl
  rw [e]
  rw [show va_F (zAd Z) st1 t = (st1.heap.size ≤ t.heap.size ∧ ∀ q : Nat, q < st1.heap.size → ¬ zAd Z q → t.heap[q]? = st1.heap[q]?) from rfl, h0] at hF
  have h16 := hcore.1
  exact kk t.heap (locs ++ L) ⟨hcore1, by omega, ⟨Nat.le_trans hS.1 hF.1, fun q h1 h2 => (hF.2 q (Nat.lt_of_lt_of_le h1 hS.1) h2).trans (hS.2.1 q h1 h2), fun q hq => by
    rcases List.mem_append.mp hq with h | h
    · exact hS.2.2 q h
    · exact hL q h⟩, hbs⟩
theorem zSpc_now {H : Heap} {locs : List Loc} (hSp : zSpc Z s s.heap) (hS : va_S (zAd Z) s.heap H locs) : zSpc Z s H := hSp.kept (fun a h1 h2 => hS.2.1 a h1 h2)
/-- a callee's start at a call -/
theorem z_pre {H : Heap} {locs : List Loc} {cells : Nat} {M : zM} {as : List Value} (hT : zTab Z s) (hSp : zSpc Z s s.heap) (hI : zInv Z s M H locs cells) : ∀ U : State, U.heap = H → s.WarmedH U.vm → zPc Z as M (as.map (zτ Z)).toArray U := by
  intro U hU hW
  obtain ⟨hcore, hcs, hS, hbs⟩ := hI
  exact ⟨rfl, by rw [hU]; exact hcore, hT.warm hW, by rw [hU]; exact (zSpc_now hSp hS).moved hW.alike⟩
theorem zWs_in {y : Nat} (hy : y < 216) : GoodIn zW (zWs y) := by
  intro w hw
  rcases List.mem_cons.mp hw with h | h
  · subst h
    exact zW_good _ (zM_ok hy).2.2.2.1
  · exact zW_good _ h
theorem zCB {R0 : Room} {y ix mc ms o : Nat} (hts : ∀ w ∈ zW, w.before args s = true) (hfr : d + 1 ≤ R0.frames) (hlo : 60 * (d + 1) ≤ R0.locals) (hy : y < 216) (hini : (Cond.initialized (zNm y).cls).before args s = true) (hl : (Cond.methodLink (zRn o) ix (zNm y)).before args s = true) :
    CallB R0 s args (zRn o) ix (zNm y) (zB y) (zML y) (zRt y) (zWs y) (zRm d mc ms) mc ms (zA y) := by
  obtain ⟨k1, k2, k3, k4, k5, k6, k7⟩ := zM_ok hy
  exact callB_of (zA y) hts (zWs_in hy) rfl rfl rfl hini hl ⟨k2.1, k2.2, k3⟩ ⟨hfr, by show 8 + (zML y + 11) + 60 * d ≤ R0.locals; omega⟩
theorem zct_room {rest : List Value} {pc : Nat} {ls : Array Slot} {st0 : List Value} (h : zct rest ≤ 8) : 2 * (F0 mm pc ls st0).monitorRoom + ((rest.map (zτ Z)).map fun v => v.category).sum ≤ 8 := by
  refine lv_room ?_
  rw [zct_map]
  exact h
theorem zmap_stack {as rest : List Value} {b : Nat} : (as.reverse ++ .ref b :: rest).map (zτ Z) = (as.map (zτ Z)).reverse ++ .ref (zρ Z b) :: rest.map (zτ Z) := by
  rw [List.map_append, List.map_reverse]
  rfl
/-- a call, whatever its kind -/
theorem z_callX {f pc y : Nat} {l : List (Nat × Value)} {as rest st0 : List Value} {M : zM} {H : Heap} {locs : List Loc} {cells slots : Nat} {ls : Array Slot}
    (hI : zInv Z s M H locs cells)
    (hmono : ∀ (M1 : zM) (pc : Nat) (l : List (Nat × Value)) (st : List Value), zLoop (zEv d) m v M' f pc l st M1 → zn M1 ≤ zn M' ∧ zs M1 ≤ zs M')
    (h : zCallS (zEv d) (zLoop (zEv d) m v M' f) pc l M y as rest) (hc : cells + (zn M' - zn M) ≤ R0.cells) (hs : slots + (zs M' - zs M) ≤ R0.slots)
    (hrun : ∀ (w : Option Value) (M1 : zM), zEv d y as M w M1 → zct rest ≤ 8 → cells + (zn M1 - zn M) ≤ R0.cells ∧ slots + (zs M1 - zs M) ≤ R0.slots → va_Run p lc e R0 s mm args below meth c H locs cells slots (zn M1 - zn M) (zs M1 - zs M) (F0 mm pc ls st0) (rest.map (zτ Z)) (zQc Z w M1 (as.map (zτ Z)).toArray) (zAd Z))
    (kk : ∀ (M1 : zM) (w : Option Value) (H1 : Heap) (locs1 : List Loc) (cells1 slots1 : Nat), zInv Z s M1 H1 locs1 cells1 → cells1 + (zn M' - zn M1) ≤ R0.cells → slots1 + (zs M' - zs M1) ≤ R0.slots → zLoop (zEv d) m v M' f (pc + 3) l (w.toList ++ rest) M1 → W p lc e R0 s mm args below meth c H1 locs1 cells1 slots1 Q (F0 mm (pc + 3) ls ((w.toList ++ rest).map (zτ Z)))) :
    W p lc e R0 s mm args below meth c H locs cells slots Q (F0 mm pc ls st0) := by
  obtain ⟨hct, w, M1, hev, hlp⟩ := h
  have m1 := zEv_mono d y _ M w M1 hev
  have m2 := hmono M1 _ _ _ hlp
  exact z_call hI m1.1 (hrun w M1 hev hct ⟨by omega, by omega⟩) (fun H1 locs1 hI1 => kk M1 w H1 locs1 _ _ hI1 (by omega) (by omega) hlp)
theorem zNs_w {o ix y : Nat} (hT : zTab Z s) (h : ∃ r ∈ zNs, r.1 = (o, ix) ∧ r.2.1 = y) : va_Nw (.methodLinkNest (zRn o) ix (zNm y) "SagaDesk") s := by
  obtain ⟨r, h1, h2, h3⟩ := h
  have := hT.2.2.1 _ (List.mem_append_left _ (List.mem_map.mpr ⟨r, h1, rfl⟩))
  rw [h2, h3] at this
  exact this
theorem zRt_none {y : Nat} (hy : y < 216) (h : zRk y = 0) : zRt y = none := by
  have := (zM_ok hy).2.2.2.2.2.2
  rw [h] at this
  exact of_decide_eq_true this
set_option maxHeartbeats 4000000 in
set_option maxRecDepth 20000 in
theorem z_run (hx : p.tables.exec = Jvm.exec) (hb : c.code = zB m) (hml : c.maxLocals = zML m) (hown : s.vm.findClass (zRn (zO m)) = some mm.cls) (hts : ∀ w ∈ zW, w.before args s = true) (hT : zTab Z s) (hSp : zSpc Z s s.heap) (hin : (zNm m).name = "<init>" → meth.name = "<init>")
    (hfr : d + 1 ≤ R0.frames) (hlo : 60 * (d + 1) ≤ R0.locals)
    (hM : ∀ y as M w M1, zEv d y as M w M1 → Met lc (zNm y) (zWs y) (zRm d (zn M1 - zn M) (zs M1 - zs M)) (zPc Z as M) (zQc Z w M1) (zn M1 - zn M) (zs M1 - zs M) (zAd Z))
    (hend : ∀ (pc : Nat) (H : Heap) (locs : List Loc) (cells slots : Nat) (ls : Array Slot) (st : List Value) (i : Instr), decode (zB m) pc = .ok (i, 1) → zEnd m i st v → zInv Z s M' H locs cells → cells ≤ R0.cells → slots ≤ R0.slots → W p lc e R0 s mm args below meth c H locs cells slots Q (F0 mm pc ls (st.map (zτ Z)))) :
    ∀ (f pc : Nat) (l : List (Nat × Value)) (st : List Value) (M : zM) (H : Heap) (locs : List Loc) (cells slots : Nat) (ls : Array Slot), zLoop (zEv d) m v M' f pc l st M → lv_has ls (zML m) (zlm Z l) → zInv Z s M H locs cells → cells + (zn M' - zn M) ≤ R0.cells → slots + (zs M' - zs M) ≤ R0.slots →
      W p lc e R0 s mm args below meth c H locs cells slots Q (F0 mm pc ls (st.map (zτ Z))) := by
  intro f
  induction f with
  | zero => intro _ _ _ _ _ _ _ _ _ h; exact h.elim
  | succ f ih =>
    intro pc l st M H locs cells slots ls h hl hI hc hs
    obtain ⟨i, n, hd, h⟩ := h
    have hmono := fun (M1 : zM) (pc : Nat) (l : List (Nat × Value)) (st : List Value) (h : zLoop (zEv d) m v M' f pc l st M1) => z_mono (fun y as M w M1 h => zEv_mono d y as M w M1 h) f pc l st M1 h
    cases i with
    | aconst_null => obtain ⟨rfl, h⟩ := h; exact lv_null hx hb hd (ih _ _ _ _ _ _ _ _ _ h hl hI hc hs)
    | iconst z => obtain ⟨rfl, h⟩ := h; exact lv_iconst hx hb hd rfl (ih _ _ _ _ _ _ _ _ _ h hl hI hc hs)
    | bipush z => obtain ⟨rfl, h⟩ := h; exact lv_bipush hx hb hd rfl (ih _ _ _ _ _ _ _ _ _ h hl hI hc hs)
    | sipush z => obtain ⟨rfl, h⟩ := h; exact lv_sipush hx hb hd rfl (ih _ _ _ _ _ _ _ _ _ h hl hI hc hs)
    | lconst z => obtain ⟨rfl, h⟩ := h; exact lv_lconst hx hb hd rfl (ih _ _ _ _ _ _ _ _ _ h hl hI hc hs)
    | ldc ix =>
      obtain ⟨rfl, h⟩ := h
      rcases h with ⟨x, hk, h⟩ | ⟨x, hk, h⟩
      · exact lv_ldc hx hb hown (hts _ (zKi_w hk)) hd (ih _ _ _ _ _ _ _ _ _ h hl hI hc hs)
      · unfold zKx at hk
        cases hf : zXs.find? (fun q => q.1 == (zO m, ix)) with
        | none => rw [hf] at hk; cases hk
        | some q =>
          rw [hf] at hk
          have hm := List.mem_of_find?_eq_some hf
          have he := List.find?_some hf
          have e1 : q.1 = (zO m, ix) := by simpa using he
          have e2 : q.2 = x := by simpa using hk
          have hz := hT.2.1 q hm
          rw [e1, e2] at hz
          have hx6 : x < 6 := by
            have : ∀ q ∈ zXs, q.2 < 6 := by decide
            rw [← e2]; exact this q hm
          have e3 : zρ Z (3 + x) = zsp Z (3 + x) := if_pos (by omega)
          refine va_ldcS hx hb hown hz hd ?_
          have := ih _ _ _ _ _ _ _ _ _ h hl hI hc hs
          rw [List.map_cons] at this
          rw [← e3]
          exact this
    | ldc_w ix =>
      obtain ⟨rfl, x, hk, h⟩ := h
      exact lv_ldcw hx hb hown (hts _ (zKi_w hk)) hd (ih _ _ _ _ _ _ _ _ _ h hl hI hc hs)
    | ldc2_w ix =>
      obtain ⟨rfl, x, hk, h⟩ := h
      exact lv_ldc2 hx hb hown (hts _ (zKl_w hk)) hd (ih _ _ _ _ _ _ _ _ _ h hl hI hc hs)
    | iload_n j => obtain ⟨rfl, x, hk, h⟩ := h; exact lv_iload_n hx hb hd rfl (zlm_ld hl hk) (ih _ _ _ _ _ _ _ _ _ h hl hI hc hs)
    | iload j => obtain ⟨rfl, x, hk, h⟩ := h; exact lv_iload hx hb hd (zlm_ld hl hk) (ih _ _ _ _ _ _ _ _ _ h hl hI hc hs)
    | aload_n j =>
      obtain ⟨rfl, r, hk, h⟩ := h
      cases r with
      | none => exact lv_aload_nN hx hb hd rfl (zlm_ld hl hk) (ih _ _ _ _ _ _ _ _ _ h hl hI hc hs)
      | some a => exact lv_aload_n hx hb hd rfl (zlm_ld hl hk) (ih _ _ _ _ _ _ _ _ _ h hl hI hc hs)
    | aload j =>
      obtain ⟨rfl, r, hk, h⟩ := h
      cases r with
      | none => exact lv_aloadN hx hb hd (zlm_ld hl hk) (ih _ _ _ _ _ _ _ _ _ h hl hI hc hs)
      | some a => exact lv_aload hx hb hd (zlm_ld hl hk) (ih _ _ _ _ _ _ _ _ _ h hl hI hc hs)
    | istore_n j => obtain ⟨rfl, hj, x, st', rfl, h⟩ := h; exact lv_istore_n hx hb hd rfl hl hj (zlm_st (w := .int x)) (fun ls' hl' => ih _ _ _ _ _ _ _ _ _ h hl' hI hc hs)
    | istore j => obtain ⟨rfl, hj, x, st', rfl, h⟩ := h; exact lv_istore hx hb hd hl hj (zlm_st (w := .int x)) (fun ls' hl' => ih _ _ _ _ _ _ _ _ _ h hl' hI hc hs)
    | astore_n j =>
      obtain ⟨rfl, hj, r, st', rfl, h⟩ := h
      cases r with
      | none => exact lv_astore_nN hx hb hd rfl hl hj (zlm_st (w := va_rf none)) (fun ls' hl' => ih _ _ _ _ _ _ _ _ _ h hl' hI hc hs)
      | some a => exact lv_astore_n hx hb hd rfl hl hj (zlm_st (w := va_rf (some a))) (fun ls' hl' => ih _ _ _ _ _ _ _ _ _ h hl' hI hc hs)
    | astore j =>
      obtain ⟨rfl, hj, r, st', rfl, h⟩ := h
      cases r with
      | none => exact lv_astoreN hx hb hd hl hj (zlm_st (w := va_rf none)) (fun ls' hl' => ih _ _ _ _ _ _ _ _ _ h hl' hI hc hs)
      | some a => exact lv_astore hx hb hd hl hj (zlm_st (w := va_rf (some a))) (fun ls' hl' => ih _ _ _ _ _ _ _ _ _ h hl' hI hc hs)
    | iinc j z =>
      obtain ⟨rfl, hj, x, hk, h⟩ := h
      obtain ⟨k, hk⟩ := zlm_ix (Z := Z) hk
      exact lv_iinc (k := k) hx hb hd hl hk rfl hj (zlm_st (w := .int (x + Int32.ofInt z))) (fun ls' hl' => ih _ _ _ _ _ _ _ _ _ h hl' hI hc hs)
    | iadd => obtain ⟨rfl, x, y, st', rfl, h⟩ := h; exact lv_iadd hx hb hd (ih _ _ _ _ _ _ _ _ _ h hl hI hc hs)
    | isub => obtain ⟨rfl, x, y, st', rfl, h⟩ := h; exact lv_isub hx hb hd (ih _ _ _ _ _ _ _ _ _ h hl hI hc hs)
    | imul => obtain ⟨rfl, x, y, st', rfl, h⟩ := h; exact lv_imul hx hb hd (ih _ _ _ _ _ _ _ _ _ h hl hI hc hs)
    | iand => obtain ⟨rfl, x, y, st', rfl, h⟩ := h; exact lv_iand hx hb hd (ih _ _ _ _ _ _ _ _ _ h hl hI hc hs)
    | ior => obtain ⟨rfl, x, y, st', rfl, h⟩ := h; exact lv_ior hx hb hd (ih _ _ _ _ _ _ _ _ _ h hl hI hc hs)
    | ixor => obtain ⟨rfl, x, y, st', rfl, h⟩ := h; exact lv_ixor hx hb hd (ih _ _ _ _ _ _ _ _ _ h hl hI hc hs)
    | ishl => obtain ⟨rfl, x, y, st', rfl, h⟩ := h; exact lv_ishl hx hb hd (ih _ _ _ _ _ _ _ _ _ h hl hI hc hs)
    | ishr => obtain ⟨rfl, x, y, st', rfl, h⟩ := h; exact lv_ishr hx hb hd (ih _ _ _ _ _ _ _ _ _ h hl hI hc hs)
    | iushr => obtain ⟨rfl, x, y, st', rfl, h⟩ := h; exact lv_iushr hx hb hd rfl (ih _ _ _ _ _ _ _ _ _ h hl hI hc hs)
    | idiv => obtain ⟨rfl, x, y, st', rfl, hy, h⟩ := h; exact lv_idiv hx hb hd hy (ih _ _ _ _ _ _ _ _ _ h hl hI hc hs)
    | irem => obtain ⟨rfl, x, y, st', rfl, hy, h⟩ := h; exact lv_irem hx hb hd hy (ih _ _ _ _ _ _ _ _ _ h hl hI hc hs)
    | ineg => obtain ⟨rfl, x, st', rfl, h⟩ := h; exact lv_ineg hx hb hd (ih _ _ _ _ _ _ _ _ _ h hl hI hc hs)
    | i2b => obtain ⟨rfl, x, st', rfl, h⟩ := h; exact lv_i2b hx hb hd rfl (ih _ _ _ _ _ _ _ _ _ h hl hI hc hs)
    | ladd => obtain ⟨rfl, x, y, st', rfl, h⟩ := h; exact lv_ladd hx hb hd (ih _ _ _ _ _ _ _ _ _ h hl hI hc hs)
    | lcmp => obtain ⟨rfl, x, y, st', rfl, h⟩ := h; exact W.lcmp hx hb hd (ih _ _ _ _ _ _ _ _ _ h hl hI hc hs)
    | dup => obtain ⟨rfl, a, st', rfl, ha, h⟩ := h; exact lv_dup hx hb hd (by rw [zτ_cat]; exact ha) (ih _ _ _ _ _ _ _ _ _ h hl hI hc hs)
    | dup2 => obtain ⟨rfl, a, b, st', rfl, ha, hb2, h⟩ := h; exact lv_dup2_11 hx hb hd (by rw [zτ_cat]; exact ha) (by rw [zτ_cat]; exact hb2) (ih _ _ _ _ _ _ _ _ _ h hl hI hc hs)
    | pop => obtain ⟨rfl, a, st', rfl, ha, h⟩ := h; exact lv_pop hx hb hd (by rw [zτ_cat]; exact ha) (ih _ _ _ _ _ _ _ _ _ h hl hI hc hs)
    | pop2 => obtain ⟨rfl, a, st', rfl, ha, h⟩ := h; exact lv_pop2_2 hx hb hd (by rw [zτ_cat]; exact ha) (ih _ _ _ _ _ _ _ _ _ h hl hI hc hs)
    | goto off => obtain ⟨rfl, tgt, ht, h⟩ := h; exact lv_goto hx hb hd ht (ih _ _ _ _ _ _ _ _ _ h hl hI hc hs)
    | ifCond cd off =>
      obtain ⟨rfl, x, st', tgt, rfl, ht, h⟩ := h
      have kt := fun q => ih _ _ _ _ _ _ _ _ _ (h.1 q) hl hI hc hs
      have kf := fun q => ih _ _ _ _ _ _ _ _ _ (h.2 q) hl hI hc hs
      cases cd with
      | eq => exact lv_if_eq hx hb hd ht kt kf
      | ne => exact lv_if_ne hx hb hd ht kt (fun q => kf (fun z => z q))
      | lt => exact lv_if_lt hx hb hd ht kt kf
      | ge => exact lv_if_ge hx hb hd ht kt kf
      | gt => exact lv_if_gt hx hb hd ht kt kf
      | le => exact lv_if_le hx hb hd ht kt kf
    | if_icmp cd off =>
      obtain ⟨rfl, x, y, st', tgt, rfl, ht, h⟩ := h
      have kt := fun q => ih _ _ _ _ _ _ _ _ _ (h.1 q) hl hI hc hs
      have kf := fun q => ih _ _ _ _ _ _ _ _ _ (h.2 q) hl hI hc hs
      cases cd with
      | eq => exact lv_icmp_eq hx hb hd ht kt kf
      | ne => exact lv_icmp_ne hx hb hd ht kt (fun q => kf (fun z => z q))
      | lt => exact lv_icmp_lt hx hb hd ht kt kf
      | ge => exact lv_icmp_ge hx hb hd ht kt kf
      | gt => exact lv_icmp_gt hx hb hd ht kt kf
      | le => exact lv_icmp_le hx hb hd ht kt kf
    | ifnull off =>
      obtain ⟨rfl, r, st', tgt, rfl, ht, h⟩ := h
      cases r with
      | none => exact lv_ifnullN hx hb hd ht (ih _ _ _ _ _ _ _ _ _ (h.1 rfl) hl hI hc hs)
      | some a => exact lv_ifnull hx hb hd (ih _ _ _ _ _ _ _ _ _ (h.2 (fun q => by cases q)) hl hI hc hs)
    | ifnonnull off =>
      obtain ⟨rfl, r, st', tgt, rfl, ht, h⟩ := h
      cases r with
      | none => exact lv_ifnonnullN hx hb hd (ih _ _ _ _ _ _ _ _ _ (h.1 rfl) hl hI hc hs)
      | some a => exact lv_ifnonnull hx hb hd ht (ih _ _ _ _ _ _ _ _ _ (h.2 (fun q => by cases q)) hl hI hc hs)
    | tableswitch df lo hi offs =>
      obtain ⟨x, st', rfl, h⟩ := h
      by_cases hq : x.toInt < lo ∨ hi < x.toInt
      · obtain ⟨tgt, ht, h⟩ := h.1 hq
        exact lv_tableOut hx hb hd hq ht (ih _ _ _ _ _ _ _ _ _ h hl hI hc hs)
      · obtain ⟨off, tgt, ho, ht, h⟩ := h.2 hq
        exact lv_tableIn hx hb hd (fun z => hq (Or.inl z)) (fun z => hq (Or.inr z)) ho ht (ih _ _ _ _ _ _ _ _ _ h hl hI hc hs)
    | getstatic ix =>
      obtain ⟨rfl, a, ha, h⟩ := h
      unfold zSt at ha
      have hS := hI.2.2.1
      by_cases h1 : zO m = 7 ∧ ix = 300
      · rw [if_pos h1] at ha
        obtain ⟨ho, rfl⟩ := h1
        cases ha
        have hz := hSp.2.2.2.1
        have hlk : Cond.fieldLink (zRn (zO m)) 300 "SagaDesk" "UNDER" "[I" ∈ zW := by rw [ho]; exact zW_in zUnP zUnW rfl
        exact va_gets hx hb hz hS hown (hts _ hlk) (fun x hx => hx) hd (ih _ _ _ _ _ _ _ _ _ h hl hI hc hs)
      · rw [if_neg h1] at ha
        by_cases h2 : zO m = 3 ∧ ix = 80
        · rw [if_pos h2] at ha
          obtain ⟨ho, rfl⟩ := h2
          cases ha
          have hz := hSp.2.2.2.2.1
          have hlk : va_Nw (.fieldLinkNest (zRn (zO m)) 80 "SagaDesk" "ACCOUNTS_OF" "[I" "SagaDesk") s := by
            rw [ho]
            exact hT.2.2.1 _ (List.mem_append_right _ (List.mem_singleton.mpr rfl))
          exact va_getsN hx hb hz hS hown (hlk.use rfl) (fun x hx => hx) hd (ih _ _ _ _ _ _ _ _ _ h hl hI hc hs)
        · rw [if_neg h2] at ha; cases ha
    | getfield ix =>
      obtain ⟨rfl, a, st', cc, fl, rfl, hf, hk, h⟩ := h
      obtain ⟨hlk, hc9, hfl⟩ := zFld_w hf
      obtain ⟨hcore, hcs, hS, hbs⟩ := id hI
      obtain ⟨ha1, ha2⟩ := zSk_own (a := a) hcore.2.2.2.2 hcore.2.2.2.1 (by rw [hk]; show cc < 30; omega)
      have hws := zws_get (Z := Z) ha1 ha2
      rw [zent_o hk hc9] at hws
      obtain ⟨k1, k2, k3, k4⟩ := zC_ok hc9
      have hty := zC_ty cc hc9 fl hfl
      exact va_get (ref := (zClT cc fl).1) hx hb hts k2 hown hT.1 hcore.2.2.1 (a - 16) hws k1 fl hfl (hts _ hlk) (fun x hx => hx) (zfs_get hfl) hd (ih _ _ _ _ _ _ _ _ _ h hl hI hc hs)
    | putfield ix =>
      obtain ⟨rfl, w, a, st', cc, fl, rfl, hf, hk, hfin, h⟩ := h
      obtain ⟨hlk, hc9, hfl⟩ := zFld_w hf
      obtain ⟨hcore, hcs, hS, hbs⟩ := id hI
      obtain ⟨ha1, ha2⟩ := zSk_own (a := a) hcore.2.2.2.2 hcore.2.2.2.1 (by rw [hk]; show cc < 30; omega)
      have hws := zws_get (Z := Z) ha1 ha2
      rw [zent_o hk hc9] at hws
      obtain ⟨k1, k2, k3, k4⟩ := zC_ok hc9
      have hty := zC_ty cc hc9 fl hfl
      have hlen : fl < ((List.range (zN cc)).map fun j => zτ Z (zgv M (zF cc j) a j)).length := by rw [List.length_map, List.length_range]; exact hfl
      have hyt : ∀ k, k < zN cc → parseFieldDescriptor (zClT cc k).2.2.1 = some (zYT cc k) := fun k hk => (zC_ty cc hc9 k hk).1
      have put : ∀ (wv : Value), narrow (zYT cc fl) wv = wv → fits (zYT cc fl) wv = true → (∀ (H1 : Heap) (locs1 : List Loc), va_P (zD Z) zCl ((zws Z M).set (a - 16) (zρ Z a, .inr (cc, ((List.range (zN cc)).map fun j => zτ Z (zgv M (zF cc j) a j)).set fl wv))) H1 → va_S (zAd Z) H H1 locs1 → W p lc e R0 s mm args below meth c H1 locs1 cells slots Q (F0 mm (pc + 3) ls (st'.map (zτ Z)))) →
          W p lc e R0 s mm args below meth c H locs cells slots Q (F0 mm pc ls (wv :: .ref (zρ Z a) :: st'.map (zτ Z))) := by
        intro wv hn hfi kk
        by_cases hq : (zClT cc fl).2.2.2 = true
        · obtain ⟨hi1, hi2⟩ := hfin hq
          exact va_putF (ref := (zClT cc fl).1) hx hb hts k2 (zYT cc) hyt (zC_nm cc hc9) hown hT.1 hcore.2.2.1 (zws_D Z M) hI.self (a - 16) hws k1 fl hfl (hts _ hlk) (fun x hx => hx) hq (hin hi1) (by rw [hty.2.2, hi2]; exact zC_nr cc hc9) hty.1 hn hfi hlen hd (fun H1 locs1 h1 _ h3 => kk H1 locs1 h1 h3)
        · have hq : (zClT cc fl).2.2.2 = false := by simpa using hq
          exact va_put (ref := (zClT cc fl).1) hx hb hts k2 (zYT cc) hyt (zC_nm cc hc9) hown hT.1 hcore.2.2.1 (zws_D Z M) hI.self (a - 16) hws k1 fl hfl (hts _ hlk) (fun x hx => hx) hq hty.1 hn hfi hlen hd (fun H1 locs1 h1 _ h3 => kk H1 locs1 h1 h3)
      have wi : ∀ (x : Int32), zF cc fl ≠ 1 → narrow (zYT cc fl) (.int x) = .int x → fits (zYT cc fl) (.int x) = true → zLoop (zEv d) m v M' f (pc + 3) l st' (zwi M a fl x) → W p lc e R0 s mm args below meth c H locs cells slots Q (F0 mm pc ls (.int x :: .ref (zρ Z a) :: st'.map (zτ Z))) := by
        intro x hF hn hfi h
        refine put (.int x) hn hfi fun H1 locs1 h1 h3 => ?_
        have e : zws Z (zwi M a fl x) = (zws Z M).set (a - 16) (zρ Z a, .inr (cc, ((List.range (zN cc)).map fun j => zτ Z (zgv M (zF cc j) a j)).set fl (.int x))) := by
          rw [zws_upd (M := M) (M2 := zwi M a fl x) ha1 rfl (fun b hb => zent_wi hb), zent_o (M := zwi M a fl x) hk hc9]
          congr 3
          refine congrArg (Prod.mk cc) (zfs_set hfl ?_ ?_)
          · unfold zgv
            rw [if_neg hF]
            show Value.int (if a = a ∧ fl = fl then x else _) = _
            rw [if_pos ⟨rfl, rfl⟩]
          · intro j hj
            unfold zgv
            split
            · rfl
            · show Value.int (if a = a ∧ j = fl then x else _) = _
              rw [if_neg (fun q => hj q.2)]
              rfl
        rw [← e] at h1
        exact z_wr (M2 := zwi M a fl x) hI rfl h1 h3 (zFr_wi hcore.2.2.2.1 ha2) (zSk_wi hcore.2.2.2.2 ha1) (fun hI2 => ih _ _ _ _ _ _ _ _ _ h hl hI2 hc hs)
      rcases h with ⟨hF, x, rfl, h⟩ | ⟨hF, x, rfl, hx01, h⟩ | ⟨hF, r, rfl, h⟩
      · have hy : zYT cc fl = .int := by
          rcases hty.2.1 with q | q | q
          · exact q.2
          · rw [hF] at q; exact absurd q.1 (by decide)
          · rw [hF] at q; exact absurd q.1 (by decide)
        exact wi x (by rw [hF]; decide) (by rw [hy]; rfl) (by rw [hy]; rfl) h
      · have hy : zYT cc fl = .boolean := by
          rcases hty.2.1 with q | q | q
          · rw [hF] at q; exact absurd q.1 (by decide)
          · exact q.2
          · rw [hF] at q; exact absurd q.1 (by decide)
        exact wi x (by rw [hF]; decide) (by rw [hy]; rcases hx01 with rfl | rfl <;> decide) (by rw [hy]; rcases hx01 with rfl | rfl <;> decide) h
      · have hy : (zYT cc fl).isReference = true := by
          rcases hty.2.1 with q | q | q
          · rw [hF] at q; exact absurd q.1 (by decide)
          · rw [hF] at q; exact absurd q.1 (by decide)
          · exact q.2
        have hnf : ∀ r : Option Nat, narrow (zYT cc fl) (va_rf r) = va_rf r ∧ fits (zYT cc fl) (va_rf r) = true := by
          intro r
          cases hq : zYT cc fl with
          | object C => cases r <;> exact ⟨rfl, rfl⟩
          | array t => cases r <;> exact ⟨rfl, rfl⟩
          | _ => rw [hq] at hy; cases hy
        rw [List.map_cons, List.map_cons, zτ_rf]
        refine put (va_rf (r.map (zρ Z))) (hnf _).1 (hnf _).2 fun H1 locs1 h1 h3 => ?_
        have e : zws Z (zwr M a fl r) = (zws Z M).set (a - 16) (zρ Z a, .inr (cc, ((List.range (zN cc)).map fun j => zτ Z (zgv M (zF cc j) a j)).set fl (va_rf (r.map (zρ Z))))) := by
          rw [zws_upd (M := M) (M2 := zwr M a fl r) ha1 rfl (fun b hb => zent_wr hb), zent_o (M := zwr M a fl r) hk hc9]
          congr 3
          refine congrArg (Prod.mk cc) (zfs_set hfl ?_ ?_)
          · unfold zgv
            rw [if_pos hF, zτ_rf]
            show va_rf ((if a = a ∧ fl = fl then r else _).map _) = _
            rw [if_pos ⟨rfl, rfl⟩]
          · intro j hj
            unfold zgv
            split
            · show va_rf (if a = a ∧ j = fl then r else _) = _
              rw [if_neg (fun q => hj q.2)]
              rfl
            · rfl
        rw [← e] at h1
        exact z_wr (M2 := zwr M a fl r) hI rfl h1 h3 (zFr_wr hcore.2.2.2.1 ha2) hcore.2.2.2.2 (fun hI2 => ih _ _ _ _ _ _ _ _ _ h hl hI2 hc hs)
    | arraylength =>
      obtain ⟨rfl, a, st', N, rfl, hk, h⟩ := h
      obtain ⟨hcore, hcs, hS, hbs⟩ := id hI
      rcases hk with hk | hk | ⟨ha3, hk⟩
      · obtain ⟨ha1, ha2⟩ := zSk_own (a := a) hcore.2.2.2.2 hcore.2.2.2.1 (by rw [hk]; show 20 < 30; omega)
        have hws := zws_get (Z := Z) ha1 ha2
        rw [zent_i hk] at hws
        exact va_alen hx hb hT.1 hcore.2.2.1 (a - 16) 0 hws rfl rfl hd (ih _ _ _ _ _ _ _ _ _ h hl hI hc hs)
      · obtain ⟨ha1, ha2⟩ := zSk_own (a := a) hcore.2.2.2.2 hcore.2.2.2.1 (by rw [hk]; show 21 < 30; omega)
        have hws := zws_get (Z := Z) ha1 ha2
        rw [zent_l hk] at hws
        exact va_alen hx hb hT.1 hcore.2.2.1 (a - 16) 1 hws rfl rfl hd (ih _ _ _ _ _ _ _ _ _ h hl hI hc hs)
      · exact z_tlen hx hb (zSp_at hcore.2.2.2.2 ha3 hk hSp) hS hd (ih _ _ _ _ _ _ _ _ _ h hl hI hc hs)
    | iaload =>
      obtain ⟨rfl, j, a, st', N, rfl, hk, hj, h⟩ := h
      obtain ⟨hcore, hcs, hS, hbs⟩ := id hI
      rcases hk with hk | ⟨ha3, hk⟩
      · obtain ⟨ha1, ha2⟩ := zSk_own (a := a) hcore.2.2.2.2 hcore.2.2.2.1 (by rw [hk]; show 20 < 30; omega)
        have hws := zws_get (Z := Z) ha1 ha2
        rw [zent_i hk] at hws
        exact va_iald hx hb hT.1 hcore.2.2.1 (a - 16) 0 hws rfl hj hd (ih _ _ _ _ _ _ _ _ _ h hl hI hc hs)
      · exact z_tld hx hb (zSp_at hcore.2.2.2.2 ha3 hk hSp) hS hj hd (ih _ _ _ _ _ _ _ _ _ h hl hI hc hs)
    | laload =>
      obtain ⟨rfl, j, a, st', N, rfl, hk, hj, h⟩ := h
      obtain ⟨hcore, hcs, hS, hbs⟩ := id hI
      obtain ⟨ha1, ha2⟩ := zSk_own (a := a) hcore.2.2.2.2 hcore.2.2.2.1 (by rw [hk]; show 21 < 30; omega)
      have hws := zws_get (Z := Z) ha1 ha2
      rw [zent_l hk] at hws
      exact va_lald hx hb hT.1 hcore.2.2.1 (a - 16) 1 hws rfl hj hd (ih _ _ _ _ _ _ _ _ _ h hl hI hc hs)
    | aaload =>
      obtain ⟨rfl, j, a, st', t, N, rfl, hk, ht1, ht2, hj, h⟩ := h
      obtain ⟨hcore, hcs, hS, hbs⟩ := id hI
      obtain ⟨ha1, ha2⟩ := zSk_own (a := a) hcore.2.2.2.2 hcore.2.2.2.1 (by rw [hk]; show t < 30; omega)
      have hws := zws_get (Z := Z) ha1 ha2
      rw [zent_r hk ht1] at hws
      obtain ⟨ty, hty, hrf⟩ := zTy_at (Z := Z) t (by omega) ht2
      have hat := hcore.2.2.1 _ _ hws
      refine z_aald hx hb (hT.1.2 _ _ hty).1 (hrf ht1) hat hj hd ?_
      rw [← zτ_rf]
      exact ih _ _ _ _ _ _ _ _ _ h hl hI hc hs
    | iastore =>
      obtain ⟨rfl, x, j, a, st', N, rfl, hk, hj, h⟩ := h
      obtain ⟨hcore, hcs, hS, hbs⟩ := id hI
      obtain ⟨ha1, ha2⟩ := zSk_own (a := a) hcore.2.2.2.2 hcore.2.2.2.1 (by rw [hk]; show 20 < 30; omega)
      have hws := zws_get (Z := Z) ha1 ha2
      rw [zent_i hk] at hws
      refine va_iast hx hb hT.1 hcore.2.2.1 (zws_D Z M) hI.self (a - 16) 0 hws rfl hj hd (fun H1 locs1 h1 _ h3 => ?_)
      have e : zws Z (zwi M a j.toNatClampNeg x) = (zws Z M).set (a - 16) (zρ Z a, .inl (zcy Z 20, N, .inl (upd (zi M a) j.toNatClampNeg x))) := by
        rw [zws_upd (M := M) (M2 := zwi M a j.toNatClampNeg x) ha1 rfl (fun b hb => zent_wi hb), zent_i (M := zwi M a j.toNatClampNeg x) hk, zi_wi_self]
      rw [← e] at h1
      exact z_wr (M2 := zwi M a j.toNatClampNeg x) hI rfl h1 h3 (zFr_wi hcore.2.2.2.1 ha2) (zSk_wi hcore.2.2.2.2 ha1) (fun hI2 => ih _ _ _ _ _ _ _ _ _ h hl hI2 hc hs)
    | lastore =>
      obtain ⟨rfl, x, j, a, st', N, rfl, hk, hj, h⟩ := h
      obtain ⟨hcore, hcs, hS, hbs⟩ := id hI
      obtain ⟨ha1, ha2⟩ := zSk_own (a := a) hcore.2.2.2.2 hcore.2.2.2.1 (by rw [hk]; show 21 < 30; omega)
      have hws := zws_get (Z := Z) ha1 ha2
      rw [zent_l hk] at hws
      refine va_last hx hb hT.1 hcore.2.2.1 (zws_D Z M) hI.self (a - 16) 1 hws rfl hj hd (fun H1 locs1 h1 _ h3 => ?_)
      have e : zws Z (zwl M a j.toNatClampNeg x) = (zws Z M).set (a - 16) (zρ Z a, .inl (zcy Z 21, N, .inr (.inl (vp_updL (zl M a) j.toNatClampNeg x)))) := by
        rw [zws_upd (M := M) (M2 := zwl M a j.toNatClampNeg x) ha1 rfl (fun b hb => zent_wl hb), zent_l (M := zwl M a j.toNatClampNeg x) hk, zl_wl_self]
      rw [← e] at h1
      exact z_wr (M2 := zwl M a j.toNatClampNeg x) hI rfl h1 h3 (zFr_wl hcore.2.2.2.1 ha2) hcore.2.2.2.2 (fun hI2 => ih _ _ _ _ _ _ _ _ _ h hl hI2 hc hs)
    | aastore =>
      obtain ⟨rfl, b, j, a, st', t, N, rfl, hk, hb3, hj, h⟩ := h
      obtain ⟨hcore, hcs, hS, hbs⟩ := id hI
      have ht : 22 ≤ t ∧ t < 25 := by rcases hb3 with q | q | q <;> omega
      obtain ⟨ha1, ha2⟩ := zSk_own (a := a) hcore.2.2.2.2 hcore.2.2.2.1 (by rw [hk]; show t < 30; omega)
      have hws := zws_get (Z := Z) ha1 ha2
      rw [zent_r hk ht.1] at hws
      have key : ∀ (ci : Nat) (hc9 : ci < 9), zk M b = (ci, 0) → (zTy Z)[t - 20]? = some (zcy Z t, .object (zClN ci)) → W p lc e R0 s mm args below meth c H locs cells slots Q (F0 mm pc ls (.ref (zρ Z b) :: .int j :: .ref (zρ Z a) :: st'.map (zτ Z))) := by
        intro ci hc9 hkb hty
        obtain ⟨hb1, hb2⟩ := zSk_own (a := b) hcore.2.2.2.2 hcore.2.2.2.1 (by rw [hkb]; show ci < 30; omega)
        have hwb := zws_get (Z := Z) hb1 hb2
        rw [zent_o hkb hc9] at hwb
        refine va_astq (r := (zClN ci, zClT ci, zN ci)) hx hb hT.1 hcore.2.2.1 (zws_D Z M) hI.self (a - 16) (t - 20) (b - 16) ci hws hty hwb (zC_cl ci hc9) hj hd (fun H1 locs1 h1 _ h3 => ?_)
        have e : zws Z (zwr M a j.toNatClampNeg (some b)) = (zws Z M).set (a - 16) (zρ Z a, .inl (zcy Z t, N, .inr (.inr (.inr (.inr (va_up (fun j => (zr M a j).map (zρ Z)) j.toNatClampNeg (some (zρ Z b)))))))) := by
          rw [zws_upd (M := M) (M2 := zwr M a j.toNatClampNeg (some b)) ha1 rfl (fun b hb => zent_wr hb), zent_r (M := zwr M a j.toNatClampNeg (some b)) hk ht.1, zr_wr_self, zUpd_rf]
        rw [← e] at h1
        exact z_wr (M2 := zwr M a j.toNatClampNeg (some b)) hI rfl h1 h3 (zFr_wr hcore.2.2.2.1 ha2) hcore.2.2.2.2 (fun hI2 => ih _ _ _ _ _ _ _ _ _ h hl hI2 hc hs)
      rcases hb3 with ⟨rfl, hkb⟩ | ⟨rfl, hkb⟩ | ⟨rfl, hkb⟩
      · exact key 1 (by decide) hkb rfl
      · exact key 5 (by decide) hkb rfl
      · exact key 4 (by decide) hkb rfl
    | new ix =>
      obtain ⟨rfl, cc, hcl, hc9, h⟩ := h
      obtain ⟨hcore, hcs, hS, hbs⟩ := id hI
      obtain ⟨k1, k2, k3, k4⟩ := zC_ok hc9
      have hcw := zCls_w hcl
      unfold zHw at hcw
      rw [if_pos hc9] at hcw
      have hm := hmono _ _ _ _ h
      have hm1 : zn M + 1 ≤ zn M' := hm.1
      have hm2 : zs M + zN cc ≤ zs M' := hm.2
      have hyt : ∀ k, k < zN cc → parseFieldDescriptor (zClT cc k).2.2.1 = some (zYT cc k) := fun k hk => (zC_ty cc hc9 k hk).1
      refine va_new (fs := (List.range (zN cc)).map fun j => zτ Z (zgv (znw M cc 0 (zN cc)) (zF cc j) (zn M) j)) hx hb hts k2 (zYT cc) hyt hown (hts _ hcw) (hts _ k3) (hts _ k4) hT.1 hcore.2.2.1 (zws_D Z M) hI.self (fun q hq => by have hH := hcore.2.1; show zb Z ≤ q; omega) k1 ?_ (by omega) (by omega) hd (fun q H1 h1 h2 h3 => ?_)
      · intro j hj
        have hfr := (hcore.2.2.2.1 (zn M) (Nat.le_refl _)).2 j
        have e : vp_V ((List.range (zN cc)).map fun j => zτ Z (zgv (znw M cc 0 (zN cc)) (zF cc j) (zn M) j)) j = zτ Z (zgv (znw M cc 0 (zN cc)) (zF cc j) (zn M) j) := by
          unfold vp_V
          rw [List.getD_eq_getElem?_getD, zfs_get hj]
          rfl
        rw [e]
        rcases (zC_ty cc hc9 j hj).2.1 with ⟨q1, q2⟩ | ⟨q1, q2⟩ | ⟨q1, q2⟩
        · rw [q1, q2]
          show _ = Value.int (zi M (zn M) j)
          rw [hfr.1]
          rfl
        · rw [q1, q2]
          show _ = Value.int (zi M (zn M) j)
          rw [hfr.1]
          rfl
        · rw [q1]
          show _ = zτ Z (va_rf (zr M (zn M) j))
          rw [hfr.2.1]
          cases hq : zYT cc j with
          | object C => rfl
          | array t => rfl
          | _ => rw [hq] at q2; cases q2
      · have e : zent Z (znw M cc 0 (zN cc)) (zn M) = .inr (cc, (List.range (zN cc)).map fun j => zτ Z (zgv (znw M cc 0 (zN cc)) (zF cc j) (zn M) j)) := zent_o zk_new hc9
        rw [← e] at h1 h2
        refine z_nw hI h1 h2 h3 (fun hq hI2 => ?_)
        rw [hq]
        exact ih _ _ _ _ _ _ _ _ _ h hl hI2 (by show cells + 1 + (zn M' - (zn M + 1)) ≤ _; omega) (by show slots + zN cc + (zs M' - (zs M + zN cc)) ≤ _; omega)
    | newarray t =>
      obtain ⟨rfl, z, st', N, rfl, hz, hN, hN6, h⟩ := h
      obtain ⟨hcore, hcs, hS, hbs⟩ := id hI
      have hfr := (hcore.2.2.2.1 (zn M) (Nat.le_refl _)).2
      rcases h with ⟨rfl, h⟩ | ⟨rfl, h⟩
      · have hm := hmono _ _ _ _ h
        have hm1 : zn M + 1 ≤ zn M' := hm.1
        have hm2 : zs M + N ≤ zs M' := hm.2
        refine va_newa (a0 := (N, .inl (zi M (zn M)))) hx hb (hts _ zAw_i) rfl hT.1 hcore.2.2.1 (zws_D Z M) hI.self (fun q hq => by have hH := hcore.2.1; show zb Z ≤ q; omega) (fun cA => by rw [vp_cell_i]; congr 1; funext j; rw [(hfr j).1]; rfl) hz hN (by show N * 4 ≤ _; omega) (by omega) (by omega) hd (fun q cA H1 hK1 h1 h2 h3 => ?_)
        have ec : cA = zcy Z 20 := by
          have a1 := (hK1.2 7 (cA, .int) rfl).2
          have a2 := (hT.1.2 0 (zcy Z 20, .int) rfl).2
          exact Option.some.inj (a1.symm.trans a2)
        have e : zent Z (znw M 20 N N) (zn M) = .inl (zcy Z 20, N, .inl (zi M (zn M))) := zent_i zk_new
        rw [ec, ← e] at h1 h2
        refine z_nw hI h1 h2 h3 (fun hq hI2 => ?_)
        rw [hq]
        exact ih _ _ _ _ _ _ _ _ _ h hl hI2 (by show cells + 1 + (zn M' - (zn M + 1)) ≤ _; omega) (by show slots + N + (zs M' - (zs M + N)) ≤ _; omega)
      · have hm := hmono _ _ _ _ h
        have hm1 : zn M + 1 ≤ zn M' := hm.1
        have hm2 : zs M + N ≤ zs M' := hm.2
        refine va_newa (a0 := (N, .inr (.inl (zl M (zn M))))) hx hb (hts _ zAw_l) rfl hT.1 hcore.2.2.1 (zws_D Z M) hI.self (fun q hq => by have hH := hcore.2.1; show zb Z ≤ q; omega) (fun cA => by rw [vp_cell_l]; congr 1; funext j; rw [(hfr j).2.2]; rfl) hz hN (by show N * 8 ≤ _; omega) (by omega) (by omega) hd (fun q cA H1 hK1 h1 h2 h3 => ?_)
        have ec : cA = zcy Z 21 := by
          have a1 := (hK1.2 7 (cA, .long) rfl).2
          have a2 := (hT.1.2 1 (zcy Z 21, .long) rfl).2
          exact Option.some.inj (a1.symm.trans a2)
        have e : zent Z (znw M 21 N N) (zn M) = .inl (zcy Z 21, N, .inr (.inl (zl M (zn M)))) := zent_l zk_new
        rw [ec, ← e] at h1 h2
        refine z_nw hI h1 h2 h3 (fun hq hI2 => ?_)
        rw [hq]
        exact ih _ _ _ _ _ _ _ _ _ h hl hI2 (by show cells + 1 + (zn M' - (zn M + 1)) ≤ _; omega) (by show slots + N + (zs M' - (zs M + N)) ≤ _; omega)
    | anewarray ix =>
      obtain ⟨rfl, z, st', N, cc, t, rfl, hz, hN, hN6, hcl, hct, h⟩ := h
      obtain ⟨hcore, hcs, hS, hbs⟩ := id hI
      have hfr := (hcore.2.2.2.1 (zn M) (Nat.le_refl _)).2
      have hm := hmono _ _ _ _ h
      have hm1 : zn M + 1 ≤ zn M' := hm.1
      have hm2 : zs M + N ≤ zs M' := hm.2
      have hcw := zCls_w hcl
      have key : ∀ (C : String) (j : Nat), zHw cc = C → va_AO C s → (zTy Z)[j]? = some (zcy Z t, .object C) → 22 ≤ t → W p lc e R0 s mm args below meth c H locs cells slots Q (F0 mm pc ls (.int z :: st'.map (zτ Z))) := by
        intro C j hC hao hty ht
        rw [hC] at hcw
        refine va_newq hx hb hown (hts _ hcw) hao hT.1 hcore.2.2.1 (zws_D Z M) hI.self (fun q hq => by have hH := hcore.2.1; show zb Z ≤ q; omega) hz hN (by omega) (by omega) (by omega) hd (fun q cA H1 hK1 h1 h2 h3 => ?_)
        have ec : cA = zcy Z t := by
          obtain ⟨kA, comp, -, -, -, a1⟩ := (hK1.2 7 (cA, .object C) rfl).2
          obtain ⟨kA2, comp2, -, -, -, a2⟩ := (hT.1.2 j (zcy Z t, .object C) hty).2
          exact Option.some.inj (a1.symm.trans a2)
        have e : zent Z (znw M t N N) (zn M) = .inl (zcy Z t, N, .inr (.inr (.inr (.inr (fun _ => none))))) := by
          rw [zent_r (M := znw M t N N) zk_new ht]
          have : (fun j => (zr (znw M t N N) (zn M) j).map (zρ Z)) = (fun _ => none) := by
            funext j
            show (zr M (zn M) j).map (zρ Z) = none
            rw [(hfr j).2.1]
            rfl
          rw [this]
        rw [ec, ← e] at h1 h2
        refine z_nw hI h1 h2 h3 (fun hq hI2 => ?_)
        rw [hq]
        exact ih _ _ _ _ _ _ _ _ _ h hl hI2 (by show cells + 1 + (zn M' - (zn M + 1)) ≤ _; omega) (by show slots + N + (zs M' - (zs M + N)) ≤ _; omega)
      rcases hct with ⟨rfl, rfl⟩ | ⟨rfl, rfl⟩ | ⟨rfl, rfl⟩
      · exact key "SagaDesk$Program" 2 (by decide) hT.2.2.2.1 rfl (by decide)
      · exact key "SagaDesk$Saga" 3 (by decide) hT.2.2.2.2.1 rfl (by decide)
      · exact key "SagaDesk$Row" 4 (by decide) hT.2.2.2.2.2.1 rfl (by decide)
    | multianewarray ix dd =>
      obtain ⟨rfl, z, j, st', N, J, hz, hj, hN, hJ, hN4, hJ4, h⟩ := h
      obtain ⟨hcore, hcs, hS, hbs⟩ := id hI
      have hBH : zb Z ≤ H.size := by have := hcore.2.1; omega
      rcases h with ⟨rfl, hcl, rfl, h⟩ | ⟨rfl, hcl, y, K, hy, hK, hK4, rfl, h⟩
      · have hcw := zCls_w hcl
        have hm := hmono _ _ _ _ h
        have hm1 : zn M + 1 + N ≤ zn M' := hm.1
        have hm2 : zs M + N + N * J ≤ zs M' := hm.2
        have hfc : s.vm.findClass "[[I" = some (zcy Z 25) := (hT.1.2 5 (zcy Z 25, .array .int) rfl).2
        refine z_multi (ns := [z, j]) (rest := st'.map (zτ Z)) hx hb hown (hts _ hcw) hfc hBH hS.2.2 rfl (Or.inl rfl) (fun had V g hV => zMk_d2 had (hT.2.2.2.2.2.2.moved hV) hz hj hN hJ hN4 hJ4) (by omega) (by omega) hd (fun H1 locs1 h1 h2 h3 h4 => ?_)
        have hI2 := z_m2 hI h1 h2 h3 h4
        have e : zρ Z (zn M) = H.size := by have := hcore.1; rw [zρ_own (by omega), hcore.2.1]
        rw [← e]
        exact ih _ _ _ _ _ _ _ _ _ h hl hI2 (by show cells + (1 + N * 1) + (zn M' - (zn M + 1 + N)) ≤ _; omega) (by show slots + (N + N * J) + (zs M' - (zs M + N + N * J)) ≤ _; omega)
      · have hcw := zCls_w hcl
        have hm := hmono _ _ _ _ h
        have hm1 : zn M + 1 + N * (1 + K) ≤ zn M' := hm.1
        have hm2 : zs M + N + N * (K + K * J) ≤ zs M' := hm.2
        have hfc : s.vm.findClass "[[[I" = some (zcy Z 26) := (hT.1.2 6 (zcy Z 26, .array (.array .int)) rfl).2
        have e1 : 1 + N * (1 + K * 1) = 1 + N * (1 + K) := by rw [Nat.mul_one]
        refine z_multi (ns := [z, y, j]) (rest := st'.map (zτ Z)) hx hb hown (hts _ hcw) hfc hBH hS.2.2 rfl (Or.inr rfl) (fun had V g hV => zMk_d3 had (hT.2.2.2.2.2.2.moved hV) hz hy hj hN hK hJ hN4 hK4 hJ4) (by omega) (by omega) hd (fun H1 locs1 h1 h2 h3 h4 => ?_)
        have hI2 := z_m3 hI h1 h2 h3 h4
        have e : zρ Z (zn M) = H.size := by have := hcore.1; rw [zρ_own (by omega), hcore.2.1]
        rw [← e]
        exact ih _ _ _ _ _ _ _ _ _ h hl hI2 (by show cells + (1 + N * (1 + K * 1)) + (zn M' - (zn M + 1 + N * (1 + K))) ≤ _; omega) (by show slots + (N + N * (K + K * J)) + (zs M' - (zs M + N + N * (K + K * J))) ≤ _; omega)
    | invokevirtual ix =>
      obtain ⟨rfl, kd, y, b, as, rest, hcl, rfl, h⟩ := h
      obtain ⟨hw, h8, h9, hy6, hO, hnm, hns⟩ := zCall_w hcl
      obtain ⟨hcore, hcs, hS, hbs⟩ := id hI
      rcases h with ⟨rfl, hlen, hkb, h⟩ | ⟨hkd8, h⟩
      · have hy := hy6 (by decide)
        have hO9 := hO rfl
        have hw0 : ∀ w ∈ zSw ((zO m, ix), 0, y, []), w.before args s = true := fun w hw2 => hts w (hw w hw2)
        refine z_callX hI hmono h hc hs (fun w M1 hev hct hroom => ?_) (fun M1 w H1 locs1 cells1 slots1 hI1 hc1 hs1 h1 => ih _ _ _ _ _ _ _ _ _ h1 hl hI1 hc1 hs1)
        obtain ⟨k1, k2, k3, k4, k5, k6, k7⟩ := zM_ok hy
        obtain ⟨ha1, ha2⟩ := zSk_own (a := b) hcore.2.2.2.2 hcore.2.2.2.1 (by rw [hkb]; show zO y < 30; omega)
        have hws := zws_get (Z := Z) ha1 ha2
        rw [zent_o hkb hO9] at hws
        refine va_runV (As := as.map (zτ Z)) (C := (zNm y).cls) (n := zA y) (cc := zB m) (nL := zML m) ⟨hx, hb, hml, hown, hts⟩ (hM _ _ _ _ _ hev)
          ⟨zCB hts hfr hlo hy (hw0 _ (by simp [zSw])) (hw0 _ (by simp [zSw])), hw0 _ (by simp [zSw]), hw0 _ (by simp [zSw])⟩
          ⟨zPc_blind Z _ M, ?_, ?_⟩ rfl (by rw [List.length_map]; exact hlen) hl.1 zmap_stack (zct_room hct) hd hroom
        · rw [k6, ← zC_nr _ hO9]
          exact va_recv (q := (zClN (zO y), zClT (zO y), zN (zO y))) hT.1 hcore.2.2.1 (zC_cl _ hO9) hws
        · exact z_pre hT hSp hI
      · have hy : y = 900 ∨ y = 901 := hkd8.elim (fun q => Or.inl (h8 q)) (fun q => Or.inr (h9 q))
        have hw0 : ∀ w ∈ zSw ((zO m, ix), kd, y, []), w.before args s = true := fun w hw2 => hts w (hw w hw2)
        refine z_callX hI hmono h hc hs (fun w M1 hev hct hroom => ?_) (fun M1 w H1 locs1 cells1 slots1 hI1 hc1 hs1 h1 => ih _ _ _ _ _ _ _ _ _ h1 hl hI1 hc1 hs1)
        have hre : (∃ i, i < 6 ∧ b = 3 + i) ∧ as.length = zA y := by
          cases d with
          | zero => exact hev.elim
          | succ d =>
            rcases hev with ⟨rfl, -, -, i, h1, h2, -⟩ | ⟨rfl, -, -, i, j, h1, -, h2, -⟩ | ⟨h1, -⟩
            · simp only [List.cons.injEq, Value.ref.injEq] at h2
              obtain ⟨rfl, rfl⟩ := h2
              exact ⟨⟨i, h1, rfl⟩, rfl⟩
            · simp only [List.cons.injEq, Value.ref.injEq] at h2
              obtain ⟨rfl, rfl⟩ := h2
              exact ⟨⟨i, h1, rfl⟩, rfl⟩
            · rcases hy with rfl | rfl <;> omega
        obtain ⟨⟨i, hi6, rfl⟩, hlen⟩ := hre
        have hrec := vk_recv hSp.2.2.2.2.2.1 hi6 hS
        have e3 : zρ Z (3 + i) = zsp Z (3 + i) := if_pos (by omega)
        have hcB : CallB R0 s args (zRn (zO m)) ix (zNm y) (zB y) (zML y) (zRt y) (zWs y) (zRm d (zn M1 - zn M) (zs M1 - zs M)) (zn M1 - zn M) (zs M1 - zs M) (zA y) ∧ (Cond.instanceMethod (zNm y)).before args s = true ∧ (Cond.selects "java/lang/String" (zNm y) (zNm y)).before args s = true := by
          have e8 : zSw ((zO m, ix), kd, y, []) = [.methodLink (zRn (zO m)) ix (zNm y), .instanceMethod (zNm y), .selects (zNm y).cls (zNm y) (zNm y), .initialized (zNm y).cls] := by
            rcases hkd8 with rfl | rfl <;> rfl
          rw [e8] at hw0
          have hG : GoodIn zW (zWs y) := by
            intro w hw
            rcases List.mem_cons.mp hw with h | h
            · subst h
              rcases hy with rfl | rfl
              · exact zW_good _ (zW_in _ zMtL_c rfl)
              · exact zW_good _ (zW_in _ zMtC_c rfl)
            · exact zW_good _ h
          have hcls : (zNm y).cls = "java/lang/String" := by rcases hy with rfl | rfl <;> rfl
          refine ⟨callB_of (zA y) hts hG rfl rfl rfl (hw0 _ (by simp)) (hw0 _ (by simp)) ?_ ⟨hfr, ?_⟩, hw0 _ (by simp), ?_⟩
          · rcases hy with rfl | rfl <;> decide +kernel
          · have : zML y ≤ 2 := by rcases hy with rfl | rfl <;> decide
            show 8 + (zML y + 11) + 60 * d ≤ R0.locals
            omega
          · have := hw0 _ (show Cond.selects (zNm y).cls (zNm y) (zNm y) ∈ _ by simp)
            rw [hcls] at this
            exact this
        refine va_runV (As := as.map (zτ Z)) (C := "java/lang/String") (n := zA y) (cc := zB m) (nL := zML m) ⟨hx, hb, hml, hown, hts⟩ (hM _ _ _ _ _ hev)
          ⟨hcB.1, hcB.2.1, hcB.2.2⟩
          ⟨zPc_blind Z _ M, ?_, ?_⟩ rfl (by rw [List.length_map]; exact hlen) hl.1 zmap_stack (zct_room hct) hd hroom
        · rw [e3]
          exact hrec
        · exact z_pre hT hSp hI
    | invokestatic ix =>
      obtain ⟨rfl, kd, y, hcl, h⟩ := h
      obtain ⟨hw, h8, h9, hy6, hO, hnm, hns⟩ := zCall_w hcl
      obtain ⟨hcore, hcs, hS, hbs⟩ := id hI
      have hw0 : ∀ w ∈ zSw ((zO m, ix), kd, y, []), w.before args s = true := fun w hw2 => hts w (hw w hw2)
      rcases h with ⟨hkd, as, rest, rfl, hlen, h⟩ | ⟨rfl, N, dp, sp, a, a0, rest, n0, n1, rfl, hk0, hk1, hsp, hdp, hN, hn0, hn1, hct, h⟩ | ⟨rfl, x1, y1, rest, rfl, hct, h⟩ | ⟨rfl, x1, y1, rest, rfl, hct, h⟩
      · have hy : y < 216 := hy6 (by rcases hkd with rfl | rfl <;> decide)
        refine z_callX hI hmono h hc hs (fun w M1 hev hct hroom => ?_) (fun M1 w H1 locs1 cells1 slots1 hI1 hc1 hs1 h1 => ih _ _ _ _ _ _ _ _ _ h1 hl hI1 hc1 hs1)
        have hst : (as.reverse ++ rest).map (zτ Z) = (as.map (zτ Z)).reverse ++ rest.map (zτ Z) := by rw [List.map_append, List.map_reverse]
        rcases hkd with rfl | rfl
        · exact va_runS (As := as.map (zτ Z)) (n := zA y) (cc := zB m) (nL := zML m) ⟨hx, hb, hml, hown, hts⟩ (hM _ _ _ _ _ hev)
            ⟨zCB hts hfr hlo hy (hw0 _ (by simp [zSw])) (hw0 _ (by simp [zSw])), hw0 _ (by simp [zSw])⟩
            ⟨zPc_blind Z _ M, z_pre hT hSp hI⟩ rfl (by rw [List.length_map]; exact hlen) hl.1 hst (zct_room hct) hd hroom
        · obtain ⟨k1, k2, k3, k4, k5, k6, k7⟩ := zM_ok hy
          exact va_runSN (As := as.map (zτ Z)) (n := zA y) (cc := zB m) (nL := zML m) (host := "SagaDesk") ⟨hx, hb, hml, hown, hts⟩ (hM _ _ _ _ _ hev)
            ⟨va_cnB (zA y) hts (zWs_in hy) rfl rfl rfl (zNs_w hT (hns (by decide))) (hw0 _ (by simp [zSw])) ⟨k2.1, k2.2, k3⟩ ⟨hfr, by show 8 + (zML y + 11) + 60 * d ≤ R0.locals; omega⟩, hw0 _ (by simp [zSw]), trivial⟩
            ⟨zPc_blind Z _ M, z_pre hT hSp hI⟩ rfl (by rw [List.length_map]; exact hlen) hl.1 hst (zct_room hct) hd hroom
      · obtain ⟨ha1, ha2⟩ := zSk_own (a := a) hcore.2.2.2.2 hcore.2.2.2.1 (by rw [hk1]; show 20 < 30; omega)
        obtain ⟨hb1, hb2⟩ := zSk_own (a := a0) hcore.2.2.2.2 hcore.2.2.2.1 (by rw [hk0]; show 20 < 30; omega)
        have hws := zws_get (Z := Z) ha1 ha2
        rw [zent_i hk1] at hws
        have hws0 := zws_get (Z := Z) hb1 hb2
        rw [zent_i hk0] at hws0
        refine va_copyi hx hb (hml.trans hl.1.symm) hown (hw0 _ (by simp [zSw])) (hw0 _ (by simp [zSw])) (hw0 _ (by simp [zSw])) (hw0 _ (by simp [zSw])) hT.1 hcore.2.2.1 (zws_D Z M) hI.self (a0 - 16) (a - 16) 0 0 hws0 hws rfl rfl rfl hsp hdp hN hn0 hn1 (fun _ _ => rfl) (by omega) (by
          rw [zct_map]
          have : nativeFrameWords "java/lang/System" "arraycopy" 5 ≤ 30 := by decide
          omega) hd (fun H1 locs1 h1 _ h3 => ?_)
        have e : zws Z (zcp M a0 sp.toNatClampNeg a dp.toNatClampNeg N.toNatClampNeg) = (zws Z M).set (a - 16) (zρ Z a, .inl (zcy Z 20, n1, .inl (va_cpy (zi M a0) (zi M a) sp.toNatClampNeg dp.toNatClampNeg N.toNatClampNeg))) := by
          rw [zws_upd (M := M) (M2 := zcp M a0 sp.toNatClampNeg a dp.toNatClampNeg N.toNatClampNeg) ha1 rfl (fun b hb => zent_cp hb), zent_i (M := zcp M a0 sp.toNatClampNeg a dp.toNatClampNeg N.toNatClampNeg) hk1, zi_cp_self]
        rw [← e] at h1
        exact z_wr (M2 := zcp M a0 sp.toNatClampNeg a dp.toNatClampNeg N.toNatClampNeg) hI rfl h1 h3 (zFr_cp hcore.2.2.2.1 ha2) (zSk_cp hcore.2.2.2.2 ha1) (fun hI2 => ih _ _ _ _ _ _ _ _ _ h hl hI2 hc hs)
      · have hcm : (Cond.code Lib.Math.max.name Lib.Math.max.code 2 (some .int)).before args s = true := hts _ (zW_in _ zmx rfl)
        exact va_mmax hx hb (hml.trans hl.1.symm) hown (hw0 _ (by simp [zSw])) (hw0 _ (by simp [zSw])) (hw0 _ (by simp [zSw])) hcm (by omega) (by rw [zct_map]; omega) (by omega) (by omega) hd (ih _ _ _ _ _ _ _ _ _ h hl hI hc hs)
      · have hcm : (Cond.code Lib.Math.min.name Lib.Math.min.code 2 (some .int)).before args s = true := hts _ (zW_in _ zmn rfl)
        exact va_mmin hx hb (hml.trans hl.1.symm) hown (hw0 _ (by simp [zSw])) (hw0 _ (by simp [zSw])) (hw0 _ (by simp [zSw])) hcm (by omega) (by rw [zct_map]; omega) (by omega) (by omega) hd (ih _ _ _ _ _ _ _ _ _ h hl hI hc hs)
    | invokespecial ix =>
      obtain ⟨rfl, kd, y, b, as, rest, hcl, rfl, h⟩ := h
      obtain ⟨hw, h8, h9, hy6, hO, hnm, hns⟩ := zCall_w hcl
      have hw0 : ∀ w ∈ zSw ((zO m, ix), kd, y, []), w.before args s = true := fun w hw2 => hts w (hw w hw2)
      rcases h with ⟨rfl, rfl, hct, h⟩ | ⟨hkd, hlen, hrk, h⟩
      · have := zct_room (mm := mm) (pc := pc) (ls := ls) (st0 := []) (Z := Z) hct
        exact W.objInit hx hb hown (hw0 _ (by simp [zSw])) (hw0 _ (by simp [zSw])) (hw0 _ (by simp [zSw]; rfl)) rfl (hl.1.trans hml.symm) rfl hd (by omega) (by rw [zct_map]; show 2 * 0 + _ + 12 ≤ _; omega) (ih _ _ _ _ _ _ _ _ _ h hl hI hc hs)
      · have hy : y < 216 := hy6 (by rcases hkd with rfl | rfl <;> decide)
        have ert := zRt_none hy hrk
        refine z_callX hI hmono h hc hs (fun w M1 hev hct hroom => ?_) (fun M1 w H1 locs1 cells1 slots1 hI1 hc1 hs1 h1 => ih _ _ _ _ _ _ _ _ _ h1 hl hI1 hc1 hs1)
        obtain ⟨k1, k2, k3, k4, k5, k6, k7⟩ := zM_ok hy
        rcases hkd with rfl | rfl
        · have cb := zCB (o := zO m) (ix := ix) (d := d) (mc := zn M1 - zn M) (ms := zs M1 - zs M) hts hfr hlo hy (hw0 _ (by simp [zSw])) (hw0 _ (by simp [zSw]))
          rw [ert] at cb
          exact va_runI (As := as.map (zτ Z)) (n := zA y) (cc := zB m) (nL := zML m) (b := zρ Z b) ⟨hx, hb, hml, hown, hts⟩ (hM _ _ _ _ _ hev)
            ⟨cb, hnm (by decide), hw0 _ (by simp [zSw])⟩
            ⟨zPc_blind Z _ M, z_pre hT hSp hI⟩ rfl (by rw [List.length_map]; exact hlen) hl.1 zmap_stack (zct_room hct) hd hroom
        · have cb := va_cnB (own := zRn (zO m)) (index := ix) (R := R0) (args := args) (rm := zRm d (zn M1 - zn M) (zs M1 - zs M)) (mc := zn M1 - zn M) (ms := zs M1 - zs M) (zA y) hts (zWs_in hy) rfl rfl rfl (zNs_w hT (hns (by decide))) (hw0 _ (by simp [zSw])) ⟨k2.1, k2.2, k3⟩ ⟨hfr, by show 8 + (zML y + 11) + 60 * d ≤ R0.locals; omega⟩
          rw [ert] at cb
          exact va_runIN (As := as.map (zτ Z)) (n := zA y) (cc := zB m) (nL := zML m) (b := zρ Z b) (host := "SagaDesk") ⟨hx, hb, hml, hown, hts⟩ (hM _ _ _ _ _ hev)
            ⟨cb, hnm (by decide), hw0 _ (by simp [zSw])⟩
            ⟨zPc_blind Z _ M, z_pre hT hSp hI⟩ rfl (by rw [List.length_map]; exact hlen) hl.1 zmap_stack (zct_room hct) hd hroom
    | ireturn =>
      obtain ⟨rfl, x, hst, hk, hv, rfl⟩ := h
      exact hend _ _ _ _ _ _ _ _ hd ⟨x, hst, hk, hv⟩ hI (by omega) (by omega)
    | lreturn =>
      obtain ⟨rfl, x, hst, hk, hv, rfl⟩ := h
      exact hend _ _ _ _ _ _ _ _ hd ⟨x, hst, hk, hv⟩ hI (by omega) (by omega)
    | areturn =>
      obtain ⟨rfl, x, hst, hk, hv, rfl⟩ := h
      exact hend _ _ _ _ _ _ _ _ hd ⟨x, hst, hk, hv⟩ hI (by omega) (by omega)
    | return_ =>
      obtain ⟨rfl, hst, hk, hv, rfl⟩ := h
      exact hend _ _ _ _ _ _ _ _ hd ⟨hst, hk, hv⟩ hI (by omega) (by omega)
    | _ => exact h.elim
end ZR
