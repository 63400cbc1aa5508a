/-! ===== new T[n][m] and new T[n][m][k] ===== -/
section ZMW
variable {E : CtlPost} {e : Env} {d : Bool} {acts : List Action} {s : State}
theorem zm_new {c comp : ClassId} {k : Class} {ty : FieldType} {n : Nat} {v : Value} (hk : s.vm.classes[c]? = some k) (hkind : k.kind = .array comp ty)
    (hl : ¬ n > e.platform.arrayLengthLimit) (hb : ¬ n * componentBytes ty > e.platform.maxHeapBytes) (hf : fits ty v = true) (hv : v.isDefault = true) {Q : Addr → Pre}
    (h1 : s.heap.size < e.platform.maxCells) (h2 : s.slotsUsed + n ≤ e.platform.maxSlots) (hq : Q s.heap.size d acts (s.pushCell (arrV c n (fun _ => v)))) : wp (Jvm.newArray c n v) Q E e d acts s := by
  rw [← arrV_new] at hq
  have hfit : ∀ i w, (Array.replicate n v)[i]? = some w → s.fitsSlot c .none i w = true := by
    intro i w hw
    rw [Array.getElem?_replicate] at hw
    by_cases hi : i < n
    · rw [if_pos hi] at hw
      cases hw
      simp [State.fitsSlot, State.slotType?, hk, hkind, hf]
    · rw [if_neg hi] at hw
      cases hw
  have hact : allocActs (Array.replicate n v) s.heap.size acts = acts := by
    unfold allocActs
    rw [if_pos]
    rw [Array.all_replicate]
    split <;> simp [hv]
  simp only [Jvm.newArray, Jvm.arrayFits, wp_bind', W.ask, W.ite, hl, if_false, wp_pure', W.theClass, hk, hkind, hb, W.alloc, W.stop, Option.some.injEq, exists_eq_left', Array.size_replicate, hact]
  rw [if_neg (by omega)]
  exact ⟨h1, h2, hfit, hq⟩
/-- what a 'make' of a row of some shape does: 'a' cells of 'b' slots, laid as L says -/
def zMk (P : State → Nat → Nat → Prop) (V : Vm) (e : Env) (Rc Rs : Nat) (c : ClassId) (ns : List Int32) (a b : Nat) (L : Nat → Heap → Prop) : Prop :=
  ∀ (E : CtlPost) (s : State) (x y : Nat) (d : Bool) (acts : List Action) (Q : Addr → Pre), P s x y → s.vm = V → x + a ≤ Rc → y + b ≤ Rs →
    (∀ s' d' acts', P s' (x + a) (y + b) → s'.vm = V → s'.heap.size = s.heap.size + a → (∀ q, q < s.heap.size → s'.heap[q]? = s.heap[q]?) → L s.heap.size s'.heap → Q s.heap.size d' acts' s') → wp (multianewarray.make c ns) Q E e d acts s
theorem zMk_1 {P : State → Nat → Nat → Prop} {V : Vm} {Rc Rs : Nat} {c comp : ClassId} {k : Class} {n : Int32} {N : Nat} (hroom : ∀ s x y a b, P s x y → x + a ≤ Rc → y + b ≤ Rs → s.heap.size + a ≤ e.platform.maxCells ∧ s.slotsUsed + b ≤ e.platform.maxSlots)
    (hpush : ∀ s x y cell, P s x y → P (s.pushCell cell) (x + 1) (y + cell.slots.size)) (hk : V.classes[c]? = some k) (hkind : k.kind = .array comp .int) (hn : ¬ n < 0) (hN : n.toNatClampNeg = N) (hl : ¬ N > e.platform.arrayLengthLimit) (hb : ¬ N * 4 > e.platform.maxHeapBytes) :
    zMk P V e Rc Rs c [n] 1 N (fun h H => H[h]? = some (arrV c N (fun _ => .int 0))) := by
  subst hN
  intro E s x y d acts Q hP hV hx hy hq
  obtain ⟨r1, r2⟩ := hroom s x y 1 n.toNatClampNeg hP hx hy
  have hk' : s.vm.classes[c]? = some k := by rw [hV]; exact hk
  rw [multianewarray.make]
  simp only [wp_bind', W.ite, hn, if_false, wp_pure', W.theClass, hk', hkind, Option.some.injEq, exists_eq_left']
  refine zm_new hk' hkind hl hb rfl rfl (by omega) r2 ?_
  have hs := hpush s x y (arrV c n.toNatClampNeg (fun _ => .int 0)) hP
  rw [arrV_size] at hs
  exact hq _ _ _ hs hV (size_pushCell _ _) (fun q hq => State.heap_pushCell_of_lt _ _ hq) (State.heap_pushCell_size _ _)
theorem zMk_S {P : State → Nat → Nat → Prop} {V : Vm} {Rc Rs : Nat} {c comp : ClassId} {k : Class} {t : FieldType} {n m : Int32} {ms : List Int32} {N a b B : Nat} {L : Nat → Heap → Prop} (hroom : ∀ s x y a b, P s x y → x + a ≤ Rc → y + b ≤ Rs → s.heap.size + a ≤ e.platform.maxCells ∧ s.slotsUsed + b ≤ e.platform.maxSlots)
    (hpush : ∀ s x y cell, P s x y → P (s.pushCell cell) (x + 1) (y + cell.slots.size)) (hset : ∀ s x y q cell i v, P s x y → s.heap[q]? = some cell → B ≤ q → P (s.setCell q (cell.setSlot i v)) x y) (hB : ∀ s x y, P s x y → B ≤ s.heap.size)
    (hk : V.classes[c]? = some k) (hkind : k.kind = .array comp t) (href : t.isReference = true) (hn : ¬ n < 0) (hN : n.toNatClampNeg = N) (hl : ¬ N > e.platform.arrayLengthLimit) (hb : ¬ N * componentBytes t > e.platform.maxHeapBytes) (hneg : (m :: ms).find? (· < 0) = none)
    (hL : ∀ h H H', L h H → (∀ q, h ≤ q → q < h + a → H'[q]? = H[q]?) → L h H') (sub : zMk P V e Rc Rs comp (m :: ms) a b L) :
    zMk P V e Rc Rs c (n :: m :: ms) (1 + N * a) (N + N * b) (fun h H => H[h]? = some (arrV c N (fun j => .ref (h + 1 + j * a))) ∧ ∀ j, j < N → L (h + 1 + j * a) H) := by
  subst hN
  intro E s x y d acts Q hP hV hx hy hq
  generalize hNN : n.toNatClampNeg = N at *
  obtain ⟨r1, r2⟩ := hroom s x y (1 + N * a) (N + N * b) hP hx hy
  have hk' : s.vm.classes[c]? = some k := by rw [hV]; exact hk
  have hrf : ∀ v, v = .null ∨ (∃ q, v = .ref q) → fits t v = true := by
    intro v hv
    rcases hv with rfl | ⟨q, rfl⟩ <;> cases t <;> simp [FieldType.isReference] at href <;> rfl
  rw [multianewarray.make]
  simp only [wp_bind', W.ite, hn, if_false, wp_pure', W.theClass, hk', hkind, Option.some.injEq, exists_eq_left', hNN]
  refine zm_new hk' hkind hl hb (hrf _ (Or.inl rfl)) rfl (by omega) (by have := Nat.zero_le (N * b); omega) ?_
  simp only [hneg]
  rw [ite_self, wp_bind', Std.Legacy.Range.forIn_eq_forIn_range']
  have hsz : ([:N] : Std.Legacy.Range).size = N := by simp [Std.Legacy.Range.size]
  rw [hsz]
  show wp (forIn (List.range' 0 N 1) PUnit.unit _) _ E e d acts _
  have hP0 := hpush s x y (arrV c N (fun _ => .null)) hP
  rw [arrV_size] at hP0
  refine wp_forIn_inv (fun rest s' => ∃ i, i ≤ N ∧ rest = List.range' i (N - i) ∧ P s' (x + 1 + i * a) (y + N + i * b) ∧ s'.vm = V ∧ s'.heap.size = s.heap.size + 1 + i * a ∧ (∀ q, q < s.heap.size → s'.heap[q]? = s.heap[q]?) ∧
    s'.heap[s.heap.size]? = some (arrV c N (fun j => if j < i then .ref (s.heap.size + 1 + j * a) else .null)) ∧ ∀ j, j < i → L (s.heap.size + 1 + j * a) s'.heap) _ _ ?_ ?_ ?_
  · refine ⟨0, Nat.zero_le _, rfl, by simpa using hP0, hV, by rw [size_pushCell]; simp, fun q hq => State.heap_pushCell_of_lt _ _ hq, ?_, fun j hj => absurd hj (Nat.not_lt_zero _)⟩
    rw [State.heap_pushCell_size]
    congr 2
  · rintro z rest s' d' acts' Q' ⟨i, hi, hl2, hPi, hVi, hsi, hold, hout, hin⟩ hnext
    have hlt : i < N := by
      rcases Nat.lt_or_ge i N with h | h
      · exact h
      · rw [show N - i = 0 from by omega] at hl2; simp at hl2
    obtain ⟨rfl, hrest⟩ : z = i ∧ rest = List.range' (i + 1) (N - (i + 1)) := by
      rw [show N - i = (N - (i + 1)) + 1 from by omega, List.range'_succ] at hl2
      exact ⟨(List.cons.inj hl2).1, (List.cons.inj hl2).2⟩
    have m1 : z * a + a ≤ N * a := by
      have := Nat.mul_le_mul_right a (show z + 1 ≤ N from hlt)
      rw [Nat.succ_mul] at this; exact this
    have m2 : z * b + b ≤ N * b := by
      have := Nat.mul_le_mul_right b (show z + 1 ≤ N from hlt)
      rw [Nat.succ_mul] at this; exact this
    simp only [wp_bind']
    refine sub E s' _ _ d' acts' _ hPi hVi (by omega) (by omega) (fun s2 d2 acts2 hP2 hV2 hs2 hold2 hL2 => ?_)
    have hlt0 : s.heap.size < s'.heap.size := by omega
    have hcell : s2.heap[s.heap.size]? = some (arrV c N (fun j => if j < z then .ref (s.heap.size + 1 + j * a) else .null)) := by rw [hold2 _ hlt0]; exact hout
    simp only [wp_bind', W.writeLoc, wp_pure']
    have hst : (arrV c N (fun j => if j < z then Value.ref (s.heap.size + 1 + j * a) else .null)).setSlot z (.ref s'.heap.size) = arrV c N (fun j => if j < z + 1 then .ref (s.heap.size + 1 + j * a) else .null) := by
      rw [arrV_store]
      congr 1
      funext j
      unfold updV
      by_cases hj : j = z
      · subst hj
        rw [if_pos rfl, if_pos (Nat.lt_succ_self _), hsi]
      · rw [if_neg hj]
        dsimp only
        by_cases hj2 : j < z
        · rw [if_pos hj2, if_pos (by omega)]
        · rw [if_neg hj2, if_neg (by omega)]
    have hk2 : s2.vm.classes[c]? = some k := by rw [hV2]; exact hk
    have hlt2 : s.heap.size < s2.heap.size := by omega
    refine ⟨_, hcell, fun q => (by cases q), by rw [arrV_size]; exact hlt, ?_, ?_⟩
    · show s2.fitsSlot c .none z _ = true
      simp [State.fitsSlot, State.slotType?, hk2, hkind, hrf _ (Or.inr ⟨_, rfl⟩)]
    · rw [hst]
      have hP3 := hset s2 _ _ s.heap.size _ z (.ref s'.heap.size) hP2 hcell (hB s x y hP)
      rw [hst] at hP3
      have hne : ∀ q, q ≠ s.heap.size → (s2.setCell s.heap.size (arrV c N (fun j => if j < z + 1 then .ref (s.heap.size + 1 + j * a) else .null))).heap[q]? = s2.heap[q]? := fun q hq => heapAt_setCell_ne _ (Ne.symm hq)
      refine hnext _ _ _ ⟨z + 1, hlt, hrest, ?_, hV2, ?_, ?_, heapAt_setCell_self _ hlt2, ?_⟩
      · rw [Nat.succ_mul, Nat.succ_mul]
        rw [show x + 1 + (z * a + a) = x + 1 + z * a + a by omega, show y + N + (z * b + b) = y + N + z * b + b by omega]
        exact hP3
      · rw [size_setCell, hs2, hsi, Nat.succ_mul]; omega
      · intro q hq
        rw [hne q (by omega), hold2 q (by omega), hold q hq]
      · intro j hj
        rcases Nat.lt_or_ge j z with h | h
        · refine hL _ s'.heap _ (hin j h) (fun q h1 h2 => ?_)
          have m3 : j * a + a ≤ z * a := by
            have := Nat.mul_le_mul_right a (show j + 1 ≤ z from h)
            rw [Nat.succ_mul] at this; exact this
          rw [hne q (by omega), hold2 q (by omega)]
        · obtain rfl : j = z := by omega
          refine hL _ s2.heap _ (by rw [← hsi]; exact hL2) (fun q h1 h2 => ?_)
          rw [hne q (by omega)]
  · rintro s' d' acts' ⟨i, hi, hl2, hPi, hVi, hsi, hold, hout, hin⟩
    have hiN : i = N := by
      rcases Nat.lt_or_ge i N with h | h
      · rw [show N - i = (N - (i + 1)) + 1 from by omega, List.range'_succ] at hl2; cases hl2
      · omega
    subst hiN
    simp only [wp_pure']
    refine hq _ _ _ (by rw [← Nat.add_assoc, ← Nat.add_assoc]; exact hPi) hVi (by omega) hold ⟨?_, hin⟩
    rw [hout]
    congr 1
    unfold arrV
    congr 1
    apply Array.ext_getElem?
    intro j
    by_cases hj : j < i
    · simp [Array.getElem?_ofFn, hj]
    · simp [Array.getElem?_ofFn, hj]
end ZMW
section ZMX
variable {p : Program} {lc : Launch} {e : Env} {R0 : Room} {s : State} {mm : MethodId} {args : Array Value} {below : List Frame} {meth : Method} {c : Code} {H : Heap} {locs : List Loc} {cells slots : Nat} {Q : State → Prop} {Z : zX}
/-- the machine stands there, nothing written below B -/
def zMP (p : Program) (lc : Launch) (e : Env) (R0 : Room) (s : State) (mm : MethodId) (args : Array Value) (below : List Frame) (meth : Method) (c : Code) (g : JFrame) (B : Nat) (u : State) (x y : Nat) : Prop :=
  ∃ (T : State) (locs : List Loc), u = T.setTop g ∧ Stand p lc e R0 s mm args below meth c T locs x y ∧ (∀ q ∈ locs, B ≤ q.base) ∧ B ≤ T.heap.size
theorem zMP_room {g : JFrame} {B : Nat} : ∀ u x y a b, zMP p lc e R0 s mm args below meth c g B u x y → x + a ≤ R0.cells → y + b ≤ R0.slots → u.heap.size + a ≤ e.platform.maxCells ∧ u.slotsUsed + b ≤ e.platform.maxSlots := by
  rintro u x y a b ⟨T, locs, rfl, X, -, -⟩ h1 h2
  exact X.roomAbove h1 h2
theorem zMP_push {g : JFrame} {B : Nat} : ∀ u x y cell, zMP p lc e R0 s mm args below meth c g B u x y → zMP p lc e R0 s mm args below meth c g B (u.pushCell cell) (x + 1) (y + cell.slots.size) := by
  rintro u x y cell ⟨T, locs, rfl, X, hl, hB⟩
  exact ⟨T.pushCell cell, locs, rfl, X.pushed cell, hl, by rw [size_pushCell]; omega⟩
theorem zMP_set {g : JFrame} {B : Nat} : ∀ u x y q cell i v, zMP p lc e R0 s mm args below meth c g B u x y → u.heap[q]? = some cell → B ≤ q → zMP p lc e R0 s mm args below meth c g B (u.setCell q (cell.setSlot i v)) x y := by
  rintro u x y q cell i v ⟨T, locs, rfl, X, hl, hB⟩ hc hq
  have hc : T.heap[q]? = some cell := hc
  refine ⟨T.setCell q (cell.setSlot i v), locs ++ [⟨q, i⟩], rfl, X.stored hc i v, ?_, by rw [size_setCell]; exact hB⟩
  intro r hr
  rcases List.mem_append.mp hr with h | h
  · exact hl r h
  · rw [List.mem_singleton] at h
    subst h
    exact hq
/-- one instruction, to the state behind it, whichever that is -/
theorem z_instrE {s : State} {f : JFrame} (h : At s f.method c below) {P : State → Prop} {i : Instr} {len : Nat} (hd : decode c.code f.pc = .ok (i, len))
    (hw : wpRun (p.tables.exec i) (fun _ s₁ _ => ∀ acts, P (afterInstr e len (.ok () s₁ acts)).1) (fun x s₁ _ => ∀ acts, P (afterInstr e len (.ctl x s₁ acts)).1) e (s.setTop f)) : ∃ s', P s' ∧ Steps p.tables e below (s.setTop f) s' := by
  have hw := (wpRun_iff_run _ _ _ _ _).mp hw
  refine ⟨(stepThread p.tables e (s.setTop f)).1, ?_, Steps.head ⟨h.running, by rw [State.curStatus?_setTop]; exact h.runnable, by rw [State.alone_setTop]; exact h.alone⟩ (h.within f) (Steps.refl _)⟩
  rw [stepThread_java (State.frames_setTop' f h.top) h.plain h.code hd]
  cases hr : (p.tables.exec i).run e (s.setTop f) with
  | ok a s₁ acts => rw [hr] at hw; exact hw acts
  | ctl x s₁ acts => rw [hr] at hw; cases x <;> first | exact hw acts | exact hw.elim
set_option maxHeartbeats 2000000 in
/-- the instruction, over what its 'make' does -/
theorem z_multiE {T : State} {own cn : String} {ix dm a b B : Nat} {ns : List Int32} {rest : List Value} {cA : ClassId} {L : Nat → Heap → Prop} {g : JFrame} (X : Stand p lc e R0 s mm args below meth c T locs cells slots) (hx : p.tables.exec = Jvm.exec) (hown : s.vm.findClass own = some mm.cls)
    (hcl : (Cond.classLink own ix cn).before args s = true) (hcA : s.vm.findClass cn = some cA) (hB : B ≤ T.heap.size) (hlo : ∀ q ∈ locs, B ≤ q.base) (hg : g.method = mm) (hstack : g.stack = (ns.map Value.int).reverse ++ rest) (hlen : ns.length = dm) (hdm : dm = 2 ∨ dm = 3)
    (mk : lc.admits e → ∀ (V : Vm) (g : JFrame), s.vm.Alike V → zMk (zMP p lc e R0 s mm args below meth c g B) V e R0.cells R0.slots cA ns a b L) (hc : cells + a ≤ R0.cells) (hs : slots + b ≤ R0.slots) (hd : decode c.code g.pc = .ok (.multianewarray ix dm, 4))
    {G : State → Prop} (kk : ∀ (T' : State) (locs' : List Loc), Stand p lc e R0 s mm args below meth c T' locs' (cells + a) (slots + b) → T'.heap.size = T.heap.size + a → (∀ q, q < T.heap.size → T'.heap[q]? = T.heap[q]?) → L T.heap.size T'.heap → (∀ q ∈ locs', B ≤ q.base) → G (T'.setTop { g with pc := g.pc + 4, stack := .ref T.heap.size :: rest })) :
    ∃ s', G s' ∧ Steps p.tables e below (T.setTop g) s' := by
  subst hg
  have hpl : e.platform.magicAccessors = ({} : Platform).magicAccessors := by rw [X.admits.platform]
  obtain ⟨c0, hfc0, hcl0⟩ := Cond.classLink_spec hown hcl e.platform hpl
  cases hcA.symm.trans hfc0
  obtain ⟨hg₁, hwarm₁, hready₁⟩ := State.classEntry (e := e) X.warmed hcl0
  generalize T.vm.noted g.method.cls ix (.cls cA) = vm₁ at hg₁ hwarm₁ hready₁
  have X₁ := X.noted hwarm₁
  have hgo : ∀ (Q' : Addr → Pre) (d' : Bool) (acts' : List Action), (∀ (T' : State) (locs' : List Loc) d2 acts2, Stand p lc e R0 s g.method args below meth c T' locs' (cells + a) (slots + b) → T'.heap.size = T.heap.size + a → (∀ q, q < T.heap.size → T'.heap[q]? = T.heap[q]?) → L T.heap.size T'.heap → (∀ q ∈ locs', B ≤ q.base) → Q' T.heap.size d2 acts2 (T'.setTop { g with stack := rest })) →
      ∀ E : CtlPost, wp (multianewarray.make cA ns) Q' E e d' acts' ((T.setVm vm₁).setTop { g with stack := rest }) := by
    intro Q' d' acts' hq E
    refine mk X.admits vm₁ { g with stack := rest } hwarm₁.alike E _ cells slots d' acts' Q' ⟨T.setVm vm₁, locs, rfl, X₁, hlo, hB⟩ rfl hc hs ?_
    rintro s' d2 acts2 ⟨T', locs', rfl, X', h1, h2⟩ h3 h4 h5 h6
    exact hq T' locs' d2 acts2 X' h4 h5 h6 h1
  refine z_instrE (P := G) X.here hd ?_
  rw [hx]
  simp only [wpRun, exec, multianewarray.sem, wp_bind', W.resolveClassAt_links (State.method?_setTop g X.here.top) hg₁]
  have eS : ((T.setTop g).setVm vm₁).setTop { g with stack := rest } = (T.setVm vm₁).setTop { g with stack := rest } := by
    show ((T.setVm vm₁).setTop g).setTop _ = _
    rw [State.setTop_setTop]
  have fin : ∀ (T' : State) (locs' : List Loc) (d2 : Bool) (acts2 : List Action), Stand p lc e R0 s g.method args below meth c T' locs' (cells + a) (slots + b) → T'.heap.size = T.heap.size + a → (∀ q, q < T.heap.size → T'.heap[q]? = T.heap[q]?) → L T.heap.size T'.heap → (∀ q ∈ locs', B ≤ q.base) →
      wp (do mark "op.multianewarray"; pushRef T.heap.size) (fun _ _ acts s₁ => ∀ acts, G (afterInstr e 4 (.ok () s₁ acts)).1) (fun x acts s₁ => ∀ acts, G (afterInstr e 4 (.ctl x s₁ acts)).1) e d2 acts2 (T'.setTop { g with stack := rest }) := by
    intro T' locs' d2 acts2 X' h1 h2 h3 h4
    simp only [wp_bind', W.mark, W.pushRef, State.topJava?_setTop' _ X'.here.top, Option.some.injEq, exists_eq_left', State.setTop_setTop]
    intro acts
    have := kk T' locs' X' h1 h2 h3 h4
    simpa [jvm, X'.here.top] using this
  rcases hdm with rfl | rfl
  · match ns, hlen with
    | [n, m], _ =>
      rw [W.popN, if_neg (by decide)]
      refine ⟨g, State.topJava?_setTop' (s := T.setVm vm₁) g X.here.top, [.int n, .int m], rest, rfl, hstack, ?_⟩
      simp only [List.mapM_cons, List.mapM_nil, wp_bind', wp_pure']
      rw [eS]
      exact hgo _ _ _ (fun T' locs' d2 acts2 X' h1 h2 h3 h4 => by have := fin T' locs' d2 acts2 X' h1 h2 h3 h4; simpa only [wp_bind'] using this) _
  · match ns, hlen with
    | [n, m, k], _ =>
      rw [W.popN, if_neg (by decide)]
      refine ⟨g, State.topJava?_setTop' (s := T.setVm vm₁) g X.here.top, [.int n, .int m, .int k], rest, rfl, hstack, ?_⟩
      simp only [List.mapM_cons, List.mapM_nil, wp_bind', wp_pure']
      rw [eS]
      exact hgo _ _ _ (fun T' locs' d2 acts2 X' h1 h2 h3 h4 => by have := fin T' locs' d2 acts2 X' h1 h2 h3 h4; simpa only [wp_bind'] using this) _
theorem z_multi {cc : ByteArray} {own cn : String} {ix pc dm a b B : Nat} {ns : List Int32} {rest : List Value} {ls : Array Slot} {cA : ClassId} {L : Nat → Heap → Prop} (hx : p.tables.exec = Jvm.exec) (hb : c.code = cc) (hown : s.vm.findClass own = some mm.cls)
    (hcl : (Cond.classLink own ix cn).before args s = true) (hcA : s.vm.findClass cn = some cA) (hB : B ≤ H.size) (hlo : ∀ q ∈ locs, B ≤ q.base) (hlen : ns.length = dm) (hdm : dm = 2 ∨ dm = 3)
    (mk : lc.admits e → ∀ (V : Vm) (g : JFrame), s.vm.Alike V → zMk (zMP p lc e R0 s mm args below meth c g B) V e R0.cells R0.slots cA ns a b L) (hc : cells + a ≤ R0.cells) (hs : slots + b ≤ R0.slots) (hd : decode cc pc = .ok (.multianewarray ix dm, 4))
    (kk : ∀ (H1 : Heap) (locs1 : List Loc), H1.size = H.size + a → (∀ q, q < H.size → H1[q]? = H[q]?) → L H.size H1 → (∀ q ∈ locs1, B ≤ q.base) → W p lc e R0 s mm args below meth c H1 locs1 (cells + a) (slots + b) Q (F0 mm (pc + 4) ls (.ref H.size :: rest))) :
    W p lc e R0 s mm args below meth c H locs cells slots Q (F0 mm pc ls ((ns.map Value.int).reverse ++ rest)) := by
  intro T hT X
  subst hT
  obtain ⟨s', ⟨t, h1, h2⟩, h3⟩ := z_multiE (g := F0 mm pc ls ((ns.map Value.int).reverse ++ rest)) X hx hown hcl hcA hB hlo rfl rfl hlen hdm mk hc hs (by rw [hb]; exact hd)
    (G := fun u => ∃ t, Steps p.tables e below u t ∧ Q t) (fun T' locs' X' h1 h2 h3 h4 => kk T'.heap locs' h1 h2 h3 h4 T' rfl X')
  exact ⟨t, h3.trans h1, h2⟩
theorem zm_lim (h : lc.admits e) {n k : Nat} (hn : n ≤ 4096) (hk : k ≤ 8) : ¬ n > e.platform.arrayLengthLimit ∧ ¬ n * k > e.platform.maxHeapBytes := by
  have h8 : n * k ≤ 4096 * 8 := Nat.mul_le_mul hn hk
  rw [Launch.admits_arrayLengthLimit h, Launch.admits_maxHeapBytes h]
  exact ⟨by omega, by omega⟩
theorem arrV_cg {cA : ClassId} {N : Nat} {f g : Nat → Value} (h : ∀ j, j < N → f j = g j) : arrV cA N f = arrV cA N g := by
  unfold arrV
  congr 1
  apply Array.ext_getElem?
  intro j
  by_cases hj : j < N
  · simp [Array.getElem?_ofFn, hj, h j hj]
  · simp [Array.getElem?_ofFn, hj]
theorem zm_neg {m : Int32} {ms : List Int32} (h : ¬ m < 0) (h2 : ms.find? (· < 0) = none) : (m :: ms).find? (· < 0) = none := by
  rw [List.find?_cons]
  have : decide (m < 0) = false := by simpa using h
  rw [this]
  exact h2
def zL1 (Z : zX) (J : Nat) : Nat → Heap → Prop := fun h H => H[h]? = some (arrV (zcy Z 20) J (fun _ => .int 0))
def zL2 (Z : zX) (N J : Nat) : Nat → Heap → Prop := fun h H => H[h]? = some (arrV (zcy Z 25) N (fun j => .ref (h + 1 + j * 1))) ∧ ∀ j, j < N → zL1 Z J (h + 1 + j * 1) H
def zL3 (Z : zX) (N K J : Nat) : Nat → Heap → Prop := fun h H => H[h]? = some (arrV (zcy Z 26) N (fun j => .ref (h + 1 + j * (1 + K * 1)))) ∧ ∀ j, j < N → zL2 Z K J (h + 1 + j * (1 + K * 1)) H
theorem zMk_d2 {V : Vm} {g : JFrame} {B : Nat} {n j : Int32} {N J : Nat} (had : lc.admits e) (hA : zAA Z V) (hn : ¬ n < 0) (hj : ¬ j < 0) (hN : n.toNatClampNeg = N) (hJ : j.toNatClampNeg = J) (hN4 : N ≤ 4096) (hJ4 : J ≤ 4096) :
    zMk (zMP p lc e R0 s mm args below meth c g B) V e R0.cells R0.slots (zcy Z 25) [n, j] (1 + N * 1) (N + N * J) (zL2 Z N J) := by
  obtain ⟨⟨k1, co, h1, h2⟩, ⟨k2, h3, h4⟩, -⟩ := hA
  obtain ⟨q1, q2⟩ := zm_lim (k := 4) had hN4 (by decide)
  obtain ⟨q3, q4⟩ := zm_lim (k := 4) had hJ4 (by decide)
  refine zMk_S (P := zMP p lc e R0 s mm args below meth c g B) (B := B) zMP_room zMP_push zMP_set (fun s x y ⟨T, l, e, _, _, hB⟩ => by rw [e]; exact hB) h3 h4 rfl hn hN q1 q2 (zm_neg hj rfl) (fun h H H' hl hq => ?_) (zMk_1 zMP_room zMP_push h1 h2 hj hJ q3 q4)
  show H'[h]? = _
  rw [hq h (Nat.le_refl _) (by omega)]
  exact hl
theorem zMk_d3 {V : Vm} {g : JFrame} {B : Nat} {n y j : Int32} {N K J : Nat} (had : lc.admits e) (hA : zAA Z V) (hn : ¬ n < 0) (hy : ¬ y < 0) (hj : ¬ j < 0) (hN : n.toNatClampNeg = N) (hK : y.toNatClampNeg = K) (hJ : j.toNatClampNeg = J) (hN4 : N ≤ 4096) (hK4 : K ≤ 4096) (hJ4 : J ≤ 4096) :
    zMk (zMP p lc e R0 s mm args below meth c g B) V e R0.cells R0.slots (zcy Z 26) [n, y, j] (1 + N * (1 + K * 1)) (N + N * (K + K * J)) (zL3 Z N K J) := by
  obtain ⟨-, -, ⟨k3, h5, h6⟩⟩ := id hA
  obtain ⟨q1, q2⟩ := zm_lim (k := 4) had hN4 (by decide)
  refine zMk_S (P := zMP p lc e R0 s mm args below meth c g B) (B := B) zMP_room zMP_push zMP_set (fun s x y ⟨T, l, e, _, _, hB⟩ => by rw [e]; exact hB) h5 h6 rfl hn hN q1 q2 (zm_neg hy (zm_neg hj rfl)) (fun h H H' hl hq => ?_) (zMk_d2 had hA hy hj hK hJ hK4 hJ4)
  refine ⟨?_, fun i hi => ?_⟩
  · rw [hq h (Nat.le_refl _) (by omega)]
    exact hl.1
  · show H'[_]? = _
    rw [hq _ (by omega) (by omega)]
    exact hl.2 i hi
theorem znm2_k (M : zM) (t N J a : Nat) : zk (znm2 M t N J) a = if a = zn M then (t, N) else if zn M < a ∧ a ≤ zn M + N then (20, J) else zk M a := rfl
theorem znm2_r (M : zM) (t N J a i : Nat) : zr (znm2 M t N J) a i = if a = zn M ∧ i < N then some (zn M + 1 + i) else zr M a i := rfl
theorem znm3_k (M : zM) (N K J a : Nat) : zk (znm3 M N K J) a = if a = zn M then (26, N) else if zn M < a ∧ a ≤ zn M + N * (1 + K) then (if (a - zn M - 1) % (1 + K) = 0 then (25, K) else (20, J)) else zk M a := rfl
theorem znm3_r (M : zM) (N K J a i : Nat) : zr (znm3 M N K J) a i = if a = zn M ∧ i < N then some (zn M + 1 + i * (1 + K)) else if zn M < a ∧ a ≤ zn M + N * (1 + K) ∧ (a - zn M - 1) % (1 + K) = 0 ∧ i < K then some (a + 1 + i) else zr M a i := rfl
theorem zent_eq {M M2 : zM} {b : Nat} (h1 : zk M2 b = zk M b) (h2 : zi M2 b = zi M b) (h3 : zr M2 b = zr M b) (h4 : zl M2 b = zl M b) : zent Z M2 b = zent Z M b := by
  have e2 : ∀ t j, zgv M2 t b j = zgv M t b j := fun t j => by
    unfold zgv
    rw [h2, h3]
  unfold zent
  simp only [e2, h1, h2, h3, h4]
/-- behind new cells -/
theorem z_nws {M M2 : zM} {H1 : Heap} {locs1 : List Loc} {k : Nat} (hI : zInv Z s M H locs cells) (hn : zn M2 = zn M + k) (hsz : H1.size = H.size + k) (hold : ∀ q, q < H.size → H1[q]? = H[q]?) (hlo : ∀ q ∈ locs1, zb Z ≤ q.base)
    (he : ∀ b, b < zn M → zent Z M2 b = zent Z M b) (hnew : ∀ i, i < k → va_at (zD Z) zCl (H.size + i, zent Z M2 (zn M + i)) H1) (hf : zFr M2) (hk : zSk Z M2) : zInv Z s M2 H1 locs1 (cells + k) := by
  obtain ⟨⟨h16, hH, hP, hfr, hsk⟩, hc, hS, hb⟩ := hI
  refine ⟨⟨by omega, by omega, fun i q hq => ?_, hf, hk⟩, by omega, ⟨by have := hS.1; omega, fun q h1 h2 => (hold q (Nat.lt_of_lt_of_le h1 hS.1)).trans (hS.2.1 q h1 h2), hlo⟩, hb⟩
  obtain ⟨hi, rfl⟩ := zws_at hq
  rcases Nat.lt_or_ge i (zn M - 16) with h | h
  · have h2 := zws_get (Z := Z) (M := M) (a := 16 + i) (by omega) (by omega)
    rw [show 16 + i - 16 = i by omega, zρ_own (by omega), show 16 + i - 16 = i by omega] at h2
    have h3 := hP i _ h2
    rw [he _ (by omega)]
    exact h3.kept (hold _ h3.lt)
  · have h4 := hnew (i - (zn M - 16)) (by omega)
    rw [show H.size + (i - (zn M - 16)) = zb Z + i by omega, show zn M + (i - (zn M - 16)) = 16 + i by omega] at h4
    exact h4
theorem z_m2 {M : zM} {H1 : Heap} {locs1 : List Loc} {N J : Nat} (hI : zInv Z s M H locs cells) (hsz : H1.size = H.size + (1 + N * 1)) (hold : ∀ q, q < H.size → H1[q]? = H[q]?) (hL : zL2 Z N J H.size H1) (hlo : ∀ q ∈ locs1, zb Z ≤ q.base) :
    zInv Z s (znm2 M 25 N J) H1 locs1 (cells + (1 + N * 1)) := by
  obtain ⟨h16, hH, hP, hfr, hsk⟩ := hI.1
  have kold : ∀ b, b < zn M → zk (znm2 M 25 N J) b = zk M b ∧ zr (znm2 M 25 N J) b = zr M b := by
    intro b hb
    refine ⟨?_, funext fun i => ?_⟩
    · rw [znm2_k, if_neg (by omega), if_neg (by omega)]
    · rw [znm2_r, if_neg (by omega)]
  refine z_nws (k := 1 + N * 1) hI (by show zn M + 1 + N = _; omega) hsz hold hlo (fun b hb => zent_eq (kold b hb).1 rfl (kold b hb).2 rfl) (fun i hi => ?_) (fun b hb => ?_) ?_
  · have f0 := hfr (zn M + i) (by omega)
    rcases Nat.eq_zero_or_pos i with h | h
    · subst h
      have hk : zk (znm2 M 25 N J) (zn M) = (25, N) := if_pos rfl
      show va_at _ _ (H.size, zent Z (znm2 M 25 N J) (zn M)) H1
      rw [zent_r hk (by decide)]
      show H1[H.size]? = some (vp_cell _ _)
      rw [vp_cell_q, hL.1]
      congr 1
      refine arrV_cg fun j hj => ?_
      rw [znm2_r, if_pos ⟨rfl, hj⟩]
      show _ = Value.ref (zρ Z (zn M + 1 + j))
      rw [zρ_own (by omega), hH]
      exact congrArg Value.ref (show zb Z + (zn M - 16) + 1 + j * 1 = zb Z + (zn M + 1 + j - 16) by omega)
    · have hk : zk (znm2 M 25 N J) (zn M + i) = (20, J) := by
        rw [znm2_k, if_neg (by omega), if_pos (by omega)]
      rw [zent_i hk]
      show H1[H.size + i]? = some (vp_cell _ _)
      rw [vp_cell_i]
      have h2 := hL.2 (i - 1) (by omega)
      unfold zL1 at h2
      rw [show H.size + 1 + (i - 1) * 1 = H.size + i by omega] at h2
      rw [h2]
      congr 1
      refine arrV_cg fun j hj => ?_
      show _ = Value.int (zi M (zn M + i) j)
      rw [(f0.2 j).1]
  · have hb : zn M + 1 + N ≤ b := hb
    have f0 := hfr b (by omega)
    refine ⟨?_, fun j => ⟨(f0.2 j).1, ?_, (f0.2 j).2.2⟩⟩
    · rw [znm2_k, if_neg (by omega), if_neg (by omega)]
      exact f0.1
    · rw [znm2_r, if_neg (by omega)]
      exact (f0.2 j).2.1
  · exact ⟨(kold 0 (by omega)).1.trans hsk.1, (kold 1 (by omega)).1.trans hsk.2.1, (kold 2 (by omega)).1.trans hsk.2.2.1, fun a h1 h2 => (kold a (by omega)).1.trans (hsk.2.2.2.1 a h1 h2), hsk.2.2.2.2⟩
theorem z_m3 {M : zM} {H1 : Heap} {locs1 : List Loc} {N K J : Nat} (hI : zInv Z s M H locs cells) (hsz : H1.size = H.size + (1 + N * (1 + K * 1))) (hold : ∀ q, q < H.size → H1[q]? = H[q]?) (hL : zL3 Z N K J H.size H1) (hlo : ∀ q ∈ locs1, zb Z ≤ q.base) :
    zInv Z s (znm3 M N K J) H1 locs1 (cells + (1 + N * (1 + K * 1))) := by
  obtain ⟨h16, hH, hP, hfr, hsk⟩ := hI.1
  rw [Nat.mul_one] at hsz ⊢
  have kold : ∀ b, b < zn M → zk (znm3 M N K J) b = zk M b ∧ zr (znm3 M N K J) b = zr M b := by
    intro b hb
    refine ⟨?_, funext fun i => ?_⟩
    · rw [znm3_k, if_neg (by omega), if_neg (by omega)]
    · rw [znm3_r, if_neg (by omega), if_neg (fun q => by omega)]
  refine z_nws (k := 1 + N * (1 + K)) hI (by show zn M + 1 + N * (1 + K) = _; omega) hsz hold hlo (fun b hb => zent_eq (kold b hb).1 rfl (kold b hb).2 rfl) (fun i hi => ?_) (fun b hb => ?_) ?_
  · have f0 := hfr (zn M + i) (by omega)
    rcases Nat.eq_zero_or_pos i with h | h
    · subst h
      have hk : zk (znm3 M N K J) (zn M) = (26, N) := if_pos rfl
      show va_at _ _ (H.size, zent Z (znm3 M N K J) (zn M)) H1
      rw [zent_r hk (by decide)]
      show H1[H.size]? = some (vp_cell _ _)
      rw [vp_cell_q, hL.1]
      congr 1
      refine arrV_cg fun j hj => ?_
      rw [znm3_r, if_pos ⟨rfl, hj⟩]
      show _ = Value.ref (zρ Z (zn M + 1 + j * (1 + K)))
      rw [zρ_own (by omega), hH, Nat.mul_one]
      exact congrArg Value.ref (show zb Z + (zn M - 16) + 1 + j * (1 + K) = zb Z + (zn M + 1 + j * (1 + K) - 16) by omega)
    · have hdm := Nat.div_add_mod (i - 1) (1 + K)
      have hml := Nat.mod_lt (i - 1) (show 1 + K > 0 by omega)
      have hdl : (i - 1) / (1 + K) < N := Nat.div_lt_of_lt_mul (by rw [Nat.mul_comm]; omega)
      generalize (i - 1) / (1 + K) = t at hdm hdl
      have hmc : (1 + K) * t = t * (1 + K) := Nat.mul_comm _ _
      have h3 := hL.2 t hdl
      rw [Nat.mul_one] at h3
      have hmod : (zn M + i - zn M - 1) % (1 + K) = (i - 1) % (1 + K) := by congr 1; omega
      by_cases hr : (i - 1) % (1 + K) = 0
      · have hk : zk (znm3 M N K J) (zn M + i) = (25, K) := by
          rw [znm3_k, if_neg (by omega), if_pos (by omega), hmod, if_pos hr]
        rw [zent_r hk (by decide)]
        show H1[H.size + i]? = some (vp_cell _ _)
        rw [vp_cell_q]
        have h4 := h3.1
        rw [show H.size + 1 + t * (1 + K) = H.size + i by omega] at h4
        rw [h4]
        congr 1
        refine arrV_cg fun j hj => ?_
        rw [znm3_r, if_neg (by omega), if_pos ⟨by omega, by omega, by rw [hmod]; exact hr, hj⟩]
        show _ = Value.ref (zρ Z (zn M + i + 1 + j))
        rw [zρ_own (by omega), hH]
        exact congrArg Value.ref (show zb Z + (zn M - 16) + i + 1 + j * 1 = zb Z + (zn M + i + 1 + j - 16) by omega)
      · have hk : zk (znm3 M N K J) (zn M + i) = (20, J) := by
          rw [znm3_k, if_neg (by omega), if_pos (by omega), hmod, if_neg hr]
        rw [zent_i hk]
        show H1[H.size + i]? = some (vp_cell _ _)
        rw [vp_cell_i]
        have h4 := h3.2 ((i - 1) % (1 + K) - 1) (by omega)
        unfold zL1 at h4
        rw [show H.size + 1 + t * (1 + K) + 1 + ((i - 1) % (1 + K) - 1) * 1 = H.size + i by omega] at h4
        rw [h4]
        congr 1
        refine arrV_cg fun j hj => ?_
        show _ = Value.int (zi M (zn M + i) j)
        rw [(f0.2 j).1]
  · have hb : zn M + 1 + N * (1 + K) ≤ b := hb
    have f0 := hfr b (by omega)
    refine ⟨?_, fun j => ⟨(f0.2 j).1, ?_, (f0.2 j).2.2⟩⟩
    · rw [znm3_k, if_neg (by omega), if_neg (by omega)]
      exact f0.1
    · rw [znm3_r, if_neg (by omega), if_neg (fun q => by omega)]
      exact (f0.2 j).2.1
  · exact ⟨(kold 0 (by omega)).1.trans hsk.1, (kold 1 (by omega)).1.trans hsk.2.1, (kold 2 (by omega)).1.trans hsk.2.2.1, fun a h1 h2 => (kold a (by omega)).1.trans (hsk.2.2.2.1 a h1 h2), hsk.2.2.2.2⟩
end ZMX
