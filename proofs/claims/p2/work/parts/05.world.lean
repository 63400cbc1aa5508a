/-! ===== the small machine's cells as the machine's ===== -/
abbrev zX : Type := Nat × (Nat → Nat) × (Nat → ClassId) × va_G × Nat × (Nat → Int32) × (Nat → Nat)
def zb (Z : zX) : Nat := Z.1
def zsp (Z : zX) : Nat → Nat := Z.2.1
def zcy (Z : zX) : Nat → ClassId := Z.2.2.1
def zD (Z : zX) : va_G := Z.2.2.2.1
def zLn (Z : zX) : Nat := Z.2.2.2.2.1
def zxs (Z : zX) : Nat → Int32 := Z.2.2.2.2.2.1
def zav (Z : zX) : Nat → Nat := Z.2.2.2.2.2.2
def zρ (Z : zX) (a : Nat) : Nat := if a < 16 then zsp Z a else zb Z + (a - 16)
def zAd (Z : zX) : Nat → Prop := fun q => zb Z ≤ q
def zτ (Z : zX) (v : Value) : Value := match v with
  | .ref a => .ref (zρ Z a)
  | w => w
theorem zτ_cat (Z : zX) (v : Value) : (zτ Z v).category = v.category := by cases v <;> rfl
theorem zτ_rf (Z : zX) (r : Option Nat) : zτ Z (va_rf r) = va_rf (r.map (zρ Z)) := by cases r <;> rfl
def zlm (Z : zX) (l : List (Nat × Value)) : List (Nat × Value) := l.map fun q => (q.1, zτ Z q.2)
def zent (Z : zX) (M : zM) (a : Nat) : va_E :=
  if (zk M a).1 < 20 then .inr ((zk M a).1, (List.range (zN (zk M a).1)).map fun j => zτ Z (zgv M (zF (zk M a).1 j) a j))
  else if (zk M a).1 = 20 then .inl (zcy Z 20, (zk M a).2, .inl (zi M a))
  else if (zk M a).1 = 21 then .inl (zcy Z 21, (zk M a).2, .inr (.inl (zl M a)))
  else .inl (zcy Z (zk M a).1, (zk M a).2, .inr (.inr (.inr (.inr fun j => (zr M a j).map (zρ Z)))))
def zws (Z : zX) (M : zM) : va_W := (List.range (zn M - 16)).map fun i => (zρ Z (16 + i), zent Z M (16 + i))
def zTy (Z : zX) : List (ClassId × FieldType) := [(zcy Z 20, .int), (zcy Z 21, .long), (zcy Z 22, .object "SagaDesk$Program"), (zcy Z 23, .object "SagaDesk$Saga"), (zcy Z 24, .object "SagaDesk$Row"), (zcy Z 25, .array .int), (zcy Z 26, .array (.array .int))]
theorem zρ_own {Z : zX} {a : Nat} (h : 16 ≤ a) : zρ Z a = zb Z + (a - 16) := if_neg (by omega)
theorem zws_get {Z : zX} {M : zM} {a : Nat} (h1 : 16 ≤ a) (h2 : a < zn M) : (zws Z M)[a - 16]? = some (zρ Z a, zent Z M a) := by
  unfold zws
  rw [List.getElem?_map, List.getElem?_range (by omega)]
  show some (zρ Z (16 + (a - 16)), zent Z M (16 + (a - 16))) = _
  rw [show 16 + (a - 16) = a by omega]
theorem zws_len (Z : zX) (M : zM) : (zws Z M).length = zn M - 16 := by unfold zws; rw [List.length_map, List.length_range]
theorem zws_at {Z : zX} {M : zM} {i : Nat} {q : Nat × va_E} (h : (zws Z M)[i]? = some q) : i < zn M - 16 ∧ q = (zb Z + i, zent Z M (16 + i)) := by
  have hl : i < zn M - 16 := by rw [← zws_len Z M]; exact (List.getElem?_eq_some_iff.mp h).1
  have h2 := zws_get (Z := Z) (M := M) (a := 16 + i) (by omega) (by omega)
  rw [show 16 + i - 16 = i by omega] at h2
  rw [h2] at h
  refine ⟨hl, ?_⟩
  rw [← Option.some.inj h, zρ_own (by omega), show 16 + i - 16 = i by omega]
theorem zws_D (Z : zX) (M : zM) : va_D (zAd Z) (zws Z M) := by
  refine ⟨fun i j p q hi hj e => ?_, fun k q hk => ?_⟩
  · rw [(zws_at hi).2, (zws_at hj).2] at e
    have e : zb Z + i = zb Z + j := e
    omega
  · rw [(zws_at hk).2]
    exact Nat.le_add_right _ _
theorem zws_upd {Z : zX} {M M2 : zM} {a : Nat} (h1 : 16 ≤ a) (hn : zn M2 = zn M) (he : ∀ b, b ≠ a → zent Z M2 b = zent Z M b) : zws Z M2 = (zws Z M).set (a - 16) (zρ Z a, zent Z M2 a) := by
  apply List.ext_getElem?
  intro i
  rcases Nat.lt_or_ge i (zn M - 16) with hi | hi
  · have e2 := zws_get (Z := Z) (M := M2) (a := 16 + i) (by omega) (by omega)
    have e1 := zws_get (Z := Z) (M := M) (a := 16 + i) (by omega) (by omega)
    rw [show 16 + i - 16 = i by omega] at e1 e2
    rw [e2]
    by_cases hia : i = a - 16
    · subst hia
      rw [List.getElem?_set_self (by rw [zws_len]; exact hi), show 16 + (a - 16) = a by omega]
    · rw [List.getElem?_set_ne (Ne.symm hia), e1, he _ (by omega)]
  · rw [List.getElem?_eq_none (by rw [zws_len]; omega), List.getElem?_eq_none (by rw [List.length_set, zws_len]; omega)]
theorem zws_new {Z : zX} {M M2 : zM} (h1 : 16 ≤ zn M) (hn : zn M2 = zn M + 1) (he : ∀ b, b < zn M → zent Z M2 b = zent Z M b) : zws Z M2 = zws Z M ++ [(zρ Z (zn M), zent Z M2 (zn M))] := by
  unfold zws
  rw [hn, show zn M + 1 - 16 = (zn M - 16) + 1 by omega, List.range_succ, List.map_append]
  congr 1
  · apply List.map_congr_left
    intro i hi
    rw [he _ (by have := List.mem_range.mp hi; omega)]
  · rw [List.map_singleton, show 16 + (zn M - 16) = zn M by omega]
def zFr (M : zM) : Prop := ∀ a, zn M ≤ a → zk M a = (99, 0) ∧ ∀ j, zi M a j = 0 ∧ zr M a j = none ∧ zl M a j = 0
def zUn (j : Nat) : Int32 := [-1, 0, 0, 1, 2, 0].getD j 0
def zAo (j : Nat) : Int32 := [1, 1, 2, 1, 2, 0].getD j 0
def zSk (Z : zX) (M : zM) : Prop := zk M 0 = (30, zLn Z) ∧ zk M 1 = (30, 6) ∧ zk M 2 = (30, 6) ∧ (∀ a, 3 ≤ a → a < 16 → zk M a = (98, 0)) ∧ zi M 0 = zxs Z ∧ zi M 1 = zUn ∧ zi M 2 = zAo
theorem zSk_own {Z : zX} {M : zM} {a : Nat} (h : zSk Z M) (hf : zFr M) (hk : (zk M a).1 < 30) : 16 ≤ a ∧ a < zn M := by
  refine ⟨?_, ?_⟩
  · rcases Nat.lt_or_ge a 16 with q | q
    · exfalso
      rcases Nat.lt_or_ge a 3 with q3 | q3
      · rcases (show a = 0 ∨ a = 1 ∨ a = 2 by omega) with rfl | rfl | rfl
        · rw [h.1] at hk; exact absurd hk (Nat.lt_irrefl 30)
        · rw [h.2.1] at hk; exact absurd hk (by decide)
        · rw [h.2.2.1] at hk; exact absurd hk (by decide)
      · rw [h.2.2.2.1 a q3 q] at hk; exact absurd hk (by decide)
    · exact q
  · rcases Nat.lt_or_ge a (zn M) with q | q
    · exact q
    · rw [(hf a q).1] at hk; exact absurd hk (by decide)
/-- entries under writes -/
theorem zent_wi {Z : zX} {M : zM} {a k b : Nat} {x : Int32} (h : b ≠ a) : zent Z (zwi M a k x) b = zent Z M b := by
  have e : zi (zwi M a k x) b = zi M b := funext fun j => if_neg (fun q => h q.1)
  have e2 : ∀ t j, zgv (zwi M a k x) t b j = zgv M t b j := fun t j => by
    unfold zgv
    rw [e]
    rfl
  unfold zent
  simp only [e2, e]
  rfl
theorem zent_wr {Z : zX} {M : zM} {a k b : Nat} {x : Option Nat} (h : b ≠ a) : zent Z (zwr M a k x) b = zent Z M b := by
  have e : zr (zwr M a k x) b = zr M b := funext fun j => if_neg (fun q => h q.1)
  have e2 : ∀ t j, zgv (zwr M a k x) t b j = zgv M t b j := fun t j => by
    unfold zgv
    rw [e]
    rfl
  unfold zent
  simp only [e2, e]
  rfl
theorem zent_wl {Z : zX} {M : zM} {a k b : Nat} {x : Int64} (h : b ≠ a) : zent Z (zwl M a k x) b = zent Z M b := by
  have e : zl (zwl M a k x) b = zl M b := funext fun j => if_neg (fun q => h q.1)
  have e2 : ∀ t j, zgv (zwl M a k x) t b j = zgv M t b j := fun t j => rfl
  unfold zent
  simp only [e2, e]
  rfl
theorem zent_cp {Z : zX} {M : zM} {a0 s a d n b : Nat} (h : b ≠ a) : zent Z (zcp M a0 s a d n) b = zent Z M b := by
  have e : zi (zcp M a0 s a d n) b = zi M b := funext fun j => if_neg (fun q => h q.1)
  have e2 : ∀ t j, zgv (zcp M a0 s a d n) t b j = zgv M t b j := fun t j => by
    unfold zgv
    rw [e]
    rfl
  unfold zent
  simp only [e2, e]
  rfl
theorem zent_o {Z : zX} {M : zM} {a c : Nat} (h : zk M a = (c, 0)) (hc : c < 9) : zent Z M a = .inr (c, (List.range (zN c)).map fun j => zτ Z (zgv M (zF c j) a j)) := by
  unfold zent
  rw [h, if_pos (show c < 20 by omega)]
theorem zent_i {Z : zX} {M : zM} {a n : Nat} (h : zk M a = (20, n)) : zent Z M a = .inl (zcy Z 20, n, .inl (zi M a)) := by
  unfold zent
  rw [h, if_neg (show ¬ (20 : Nat) < 20 by decide), if_pos rfl]
theorem zent_l {Z : zX} {M : zM} {a n : Nat} (h : zk M a = (21, n)) : zent Z M a = .inl (zcy Z 21, n, .inr (.inl (zl M a))) := by
  unfold zent
  rw [h, if_neg (show ¬ (21 : Nat) < 20 by decide), if_neg (show ¬ (21 : Nat) = 20 by decide), if_pos rfl]
theorem zent_r {Z : zX} {M : zM} {a t n : Nat} (h : zk M a = (t, n)) (ht : 22 ≤ t) : zent Z M a = .inl (zcy Z t, n, .inr (.inr (.inr (.inr fun j => (zr M a j).map (zρ Z))))) := by
  unfold zent
  rw [h, if_neg (show ¬ t < 20 by omega), if_neg (show ¬ t = 20 by omega), if_neg (show ¬ t = 21 by omega)]
theorem zfs_get {Z : zX} {M : zM} {a c f : Nat} (hf : f < zN c) : ((List.range (zN c)).map fun j => zτ Z (zgv M (zF c j) a j))[f]? = some (zτ Z (zgv M (zF c f) a f)) := by
  rw [List.getElem?_map, List.getElem?_range hf]
  rfl
theorem zfs_set {Z : zX} {M M2 : zM} {a c f : Nat} {v : Value} (hf : f < zN c) (hv : zτ Z (zgv M2 (zF c f) a f) = v) (he : ∀ j, j ≠ f → zgv M2 (zF c j) a j = zgv M (zF c j) a j) :
    ((List.range (zN c)).map fun j => zτ Z (zgv M2 (zF c j) a j)) = ((List.range (zN c)).map fun j => zτ Z (zgv M (zF c j) a j)).set f v := by
  apply List.ext_getElem?
  intro i
  rcases Nat.lt_or_ge i (zN c) with hi | hi
  · by_cases e : i = f
    · subst e
      rw [List.getElem?_set_self (by rw [List.length_map, List.length_range]; exact hi), zfs_get hi, hv]
    · rw [List.getElem?_set_ne (Ne.symm e), zfs_get hi, zfs_get hi, he i e]
  · rw [List.getElem?_eq_none (by rw [List.length_map, List.length_range]; exact hi), List.getElem?_eq_none (by rw [List.length_set, List.length_map, List.length_range]; exact hi)]
/-- what is there beside the small machine's own cells: the script, the class's static rows, the texts -/
def zLen : List Nat := [3, 4, 4, 4, 4, 4]
def zByt : List (List Int32) := [zTx 0, zTx 1, zTx 2, zTx 3, zTx 4, zTx 5]
def zSpc (Z : zX) (U : State) (H : Heap) : Prop :=
  va_T .int (zsp Z 0) (zLn Z) (fun j => .int (zxs Z j)) (zAd Z) U H ∧ va_T .int (zsp Z 1) 6 (fun j => .int (zUn j)) (zAd Z) U H ∧ va_T .int (zsp Z 2) 6 (fun j => .int (zAo j)) (zAd Z) U H ∧
  va_Z "SagaDesk" "UNDER" "[I" (.ref (zsp Z 1)) (zAd Z) U H ∧ va_Z "SagaDesk" "ACCOUNTS_OF" "[I" (.ref (zsp Z 2)) (zAd Z) U H ∧
  vk_S 6 zLen zByt (fun i => zsp Z (3 + i)) (zav Z) (zAd Z) U H ∧ va_Z "java/lang/String" "COMPACT_STRINGS" "Z" (.int 1) (zAd Z) U H ∧ va_Zq "jdk/internal/util/Preconditions" "SIOOBE_FORMATTER" "Ljava/util/function/BiFunction;" (zAd Z) U H
/-- the tables on rows of rows -/
def zAA (Z : zX) (V : Vm) : Prop := (∃ k co, V.classes[zcy Z 20]? = some k ∧ k.kind = .array co .int) ∧ (∃ k, V.classes[zcy Z 25]? = some k ∧ k.kind = .array (zcy Z 20) (.array .int)) ∧ (∃ k, V.classes[zcy Z 26]? = some k ∧ k.kind = .array (zcy Z 25) (.array (.array .int)))
theorem zAA.moved {Z : zX} {V W : Vm} (hvm : V.Alike W) (h : zAA Z V) : zAA Z W := by
  obtain ⟨⟨k1, co, h1, h2⟩, ⟨k2, h3, h4⟩, ⟨k3, h5, h6⟩⟩ := h
  obtain ⟨k1', g1, e1⟩ := hvm.2.2 _ _ h1
  obtain ⟨k2', g2, e2⟩ := hvm.2.2 _ _ h3
  obtain ⟨k3', g3, e3⟩ := hvm.2.2 _ _ h5
  exact ⟨⟨k1', co, g1, by rw [e1]; exact h2⟩, ⟨k2', g2, by rw [e2]; exact h4⟩, ⟨k3', g3, by rw [e3]; exact h6⟩⟩
def zTab (Z : zX) (U : State) : Prop :=
  va_K (zD Z) zCl (zTy Z) U ∧ (∀ q ∈ zXs, vk_R (zRn q.1.1) q.1.2 (zXt.getD q.2 "") (zsp Z (3 + q.2)) U) ∧ (∀ w ∈ zNw, va_Nw w U) ∧ va_AO "SagaDesk$Program" U ∧ va_AO "SagaDesk$Saga" U ∧ va_AO "SagaDesk$Row" U ∧ zAA Z U.vm
theorem zSpc.kept {Z : zX} {U : State} {H H1 : Heap} (h : zSpc Z U H) (hq : ∀ a : Nat, a < H.size → ¬ zAd Z a → H1[a]? = H[a]?) : zSpc Z U H1 :=
  ⟨h.1.kept hq, h.2.1.kept hq, h.2.2.1.kept hq, h.2.2.2.1.kept hq, h.2.2.2.2.1.kept hq, h.2.2.2.2.2.1.kept hq, h.2.2.2.2.2.2.1.kept hq, h.2.2.2.2.2.2.2.kept hq⟩
theorem zSpc.moved {Z : zX} {u U : State} {H : Heap} (hvm : u.vm.Alike U.vm) (h : zSpc Z u H) : zSpc Z U H :=
  ⟨h.1.moved hvm, h.2.1.moved hvm, h.2.2.1.moved hvm, h.2.2.2.1.moved hvm, h.2.2.2.2.1.moved hvm, h.2.2.2.2.2.1.moved hvm, h.2.2.2.2.2.2.1.moved hvm, h.2.2.2.2.2.2.2.moved hvm⟩
theorem zNw_warm {s U : State} (hW : s.WarmedH U.vm) (h : ∀ w ∈ zNw, va_Nw w s) : ∀ w ∈ zNw, va_Nw w U := by
  intro w hw
  have h1 := h w hw
  unfold zNw at hw
  rcases List.mem_append.mp hw with h2 | h2
  · obtain ⟨q, -, rfl⟩ := List.mem_map.mp h2
    exact h1.warmM hW
  · rw [List.mem_singleton] at h2
    subst h2
    exact h1.warmF hW
theorem zTab.warm {Z : zX} {s U : State} (hW : s.WarmedH U.vm) (h : zTab Z s) : zTab Z U :=
  ⟨h.1.moved hW.alike, fun q hq => (h.2.1 q hq).warm hW, zNw_warm hW h.2.2.1, h.2.2.2.1.moved hW.alike, h.2.2.2.2.1.moved hW.alike, h.2.2.2.2.2.1.moved hW.alike, h.2.2.2.2.2.2.moved hW.alike⟩
theorem zNw_same {s U : State} (hW : U.vm = s.vm) (h : ∀ w ∈ zNw, va_Nw w s) : ∀ w ∈ zNw, va_Nw w U := by
  intro w hw
  have h1 := h w hw
  unfold zNw at hw
  rcases List.mem_append.mp hw with h2 | h2
  · obtain ⟨q, -, rfl⟩ := List.mem_map.mp h2
    exact h1.same rfl hW.symm
  · rw [List.mem_singleton] at h2
    subst h2
    exact h1.same rfl hW.symm
theorem zTab.same {Z : zX} {s U : State} (hW : U.vm = s.vm) (h : zTab Z s) : zTab Z U := by
  have ha : s.vm.Alike U.vm := by rw [hW]; exact Vm.Alike.refl _
  exact ⟨h.1.moved ha, fun q hq => (h.2.1 q hq).same hW, zNw_same hW h.2.2.1, h.2.2.2.1.moved ha, h.2.2.2.2.1.moved ha, h.2.2.2.2.2.1.moved ha, h.2.2.2.2.2.2.moved ha⟩
/-- a heap that holds the small machine's cells -/
def zCore (Z : zX) (M : zM) (H : Heap) : Prop := 16 ≤ zn M ∧ H.size = zb Z + (zn M - 16) ∧ va_P (zD Z) zCl (zws Z M) H ∧ zFr M ∧ zSk Z M
def zRep (Z : zX) (M : zM) (U : State) : Prop := zCore Z M U.heap ∧ zTab Z U ∧ zSpc Z U U.heap
def zPc (Z : zX) (as : List Value) (M : zM) : Array Value → State → Prop := va_Pc (as.map (zτ Z)) (zRep Z M)
def zQc (Z : zX) (v : Option Value) (M' : zM) : Array Value → State → Outcome → State → Prop := fun _ st o t => o = .returned (v.map (zτ Z)) ∧ zCore Z M' t.heap ∧ va_F (zAd Z) st t
theorem zPc_blind (Z : zX) (as : List Value) (M : zM) : FrameBlind (zPc Z as M) := fun a U g mk h => by
  obtain ⟨h1, h2, h3, h4⟩ := h
  exact ⟨h1, h2, zTab.same (s := U) (U := U.calling g mk a) rfl h3, zSpc.moved (u := U) (U := U.calling g mk a) (Vm.Alike.refl U.vm) h4⟩
def zRm (d c n : Nat) : Room := { frames := d, cells := c, slots := n, locals := 60 * d }
def zWs (y : Nat) : List Cond := .code (zNm y) (zB y) (zML y) (zRt y) :: zW
