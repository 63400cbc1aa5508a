/-! ===== what the small machine does the machine does ===== -/
theorem z_mono {R : zRT} {m : Nat} {v : Option Value} {M' : zM} (hR : ∀ y as M w M1, R y as M w M1 → zn M ≤ zn M1 ∧ zs M ≤ zs M1) : ∀ (f pc : Nat) (l : List (Nat × Value)) (st : List Value) (M : zM), zLoop R m v M' f pc l st M → zn M ≤ zn M' ∧ zs M ≤ zs M' := by
  intro f
  induction f with
  | zero => intro _ _ _ _ h; exact h.elim
  | succ f ih =>
    intro pc l st M h
    obtain ⟨i, n, -, h⟩ := h
    have hcs : ∀ y as rest pc l, zCallS R (zLoop R m v M' f) pc l M y as rest → zn M ≤ zn M' ∧ zs M ≤ zs M' := by
      intro y as rest pc l h
      obtain ⟨-, w, M1, h1, h2⟩ := h
      have a := hR _ _ _ _ _ h1
      have b := ih _ _ _ _ h2
      exact ⟨Nat.le_trans a.1 b.1, Nat.le_trans a.2 b.2⟩
    have hbr : ∀ (p A B : Prop), (A → zn M ≤ zn M' ∧ zs M ≤ zs M') → (B → zn M ≤ zn M' ∧ zs M ≤ zs M') → zbr p A B → zn M ≤ zn M' ∧ zs M ≤ zs M' := by
      intro p A B hA hB h
      by_cases hp : p
      · exact hA (h.1 hp)
      · exact hB (h.2 hp)
    cases i with
    | ldc ix =>
      obtain ⟨-, h⟩ := h
      rcases h with ⟨x, -, h⟩ | ⟨x, -, h⟩
      · have b := ih _ _ _ _ h; exact b
      · have b := ih _ _ _ _ h; exact b
    | ifCond c off =>
      obtain ⟨-, x, st', tgt, -, -, h⟩ := h
      exact hbr _ _ _ (ih _ _ _ _) (ih _ _ _ _) h
    | if_icmp c off =>
      obtain ⟨-, x, y, st', tgt, -, -, h⟩ := h
      exact hbr _ _ _ (ih _ _ _ _) (ih _ _ _ _) h
    | ifnull off =>
      obtain ⟨-, r, st', tgt, -, -, h⟩ := h
      exact hbr _ _ _ (ih _ _ _ _) (ih _ _ _ _) h
    | ifnonnull off =>
      obtain ⟨-, r, st', tgt, -, -, h⟩ := h
      exact hbr _ _ _ (ih _ _ _ _) (ih _ _ _ _) h
    | tableswitch d lo hi offs =>
      obtain ⟨x, st', -, h⟩ := h
      exact hbr _ _ _ (fun ⟨_, _, h⟩ => ih _ _ _ _ h) (fun ⟨_, _, _, _, h⟩ => ih _ _ _ _ h) h
    | putfield ix =>
      obtain ⟨-, w, a, st', c, f', -, -, -, -, h⟩ := h
      rcases h with ⟨-, x, -, h⟩ | ⟨-, x, -, -, h⟩ | ⟨-, x, -, h⟩
      · have b := ih _ _ _ _ h; exact b
      · have b := ih _ _ _ _ h; exact b
      · have b := ih _ _ _ _ h; exact b
    | new ix =>
      obtain ⟨-, c, -, -, h⟩ := h
      have b := ih _ _ _ _ h
      exact ⟨Nat.le_trans (Nat.le_succ _) b.1, Nat.le_trans (Nat.le_add_right _ _) b.2⟩
    | newarray t =>
      obtain ⟨-, z, st', N, -, -, -, -, h⟩ := h
      rcases h with ⟨-, h⟩ | ⟨-, h⟩
      · have b := ih _ _ _ _ h
        exact ⟨Nat.le_trans (Nat.le_succ _) b.1, Nat.le_trans (Nat.le_add_right _ _) b.2⟩
      · have b := ih _ _ _ _ h
        exact ⟨Nat.le_trans (Nat.le_succ _) b.1, Nat.le_trans (Nat.le_add_right _ _) b.2⟩
    | anewarray ix =>
      obtain ⟨-, z, st', N, c, t, -, -, -, -, -, -, h⟩ := h
      have b := ih _ _ _ _ h
      exact ⟨Nat.le_trans (Nat.le_succ _) b.1, Nat.le_trans (Nat.le_add_right _ _) b.2⟩
    | multianewarray ix d =>
      obtain ⟨-, z, j, st', N, J, -, -, -, -, -, -, h⟩ := h
      rcases h with ⟨-, -, -, h⟩ | ⟨-, -, y, K, -, -, -, -, h⟩
      · have b := ih _ _ _ _ h
        refine ⟨Nat.le_trans ?_ b.1, Nat.le_trans ?_ b.2⟩
        · show zn M ≤ zn M + 1 + N; omega
        · show zs M ≤ zs M + N + N * J; omega
      · have b := ih _ _ _ _ h
        refine ⟨Nat.le_trans ?_ b.1, Nat.le_trans ?_ b.2⟩
        · show zn M ≤ zn M + 1 + N * (1 + K); omega
        · show zs M ≤ zs M + N + N * (K + K * J); omega
    | invokevirtual ix =>
      obtain ⟨-, kd, y, b, as, rest, -, -, h⟩ := h
      rcases h with ⟨-, -, -, h⟩ | ⟨-, h⟩
      · exact hcs _ _ _ _ _ h
      · exact hcs _ _ _ _ _ h
    | invokestatic ix =>
      obtain ⟨-, kd, y, -, h⟩ := h
      rcases h with ⟨-, as, rest, -, -, h⟩ | ⟨-, N, dp, sp, a, a0, rest, n0, n1, -, -, -, -, -, -, -, -, -, h⟩ | ⟨-, a, b, rest, -, -, h⟩ | ⟨-, a, b, rest, -, -, h⟩
      · exact hcs _ _ _ _ _ h
      · have b := ih _ _ _ _ h; exact b
      · have b := ih _ _ _ _ h; exact b
      · have b := ih _ _ _ _ h; exact b
    | invokespecial ix =>
      obtain ⟨-, kd, y, b, as, rest, -, -, h⟩ := h
      rcases h with ⟨-, -, -, h⟩ | ⟨-, -, -, h⟩
      · have b := ih _ _ _ _ h; exact b
      · exact hcs _ _ _ _ _ h
    | ireturn => obtain ⟨-, x, -, -, -, h⟩ := h; subst h; exact ⟨Nat.le_refl _, Nat.le_refl _⟩
    | lreturn => obtain ⟨-, x, -, -, -, h⟩ := h; subst h; exact ⟨Nat.le_refl _, Nat.le_refl _⟩
    | areturn => obtain ⟨-, x, -, -, -, h⟩ := h; subst h; exact ⟨Nat.le_refl _, Nat.le_refl _⟩
    | return_ => obtain ⟨-, -, -, -, h⟩ := h; subst h; exact ⟨Nat.le_refl _, Nat.le_refl _⟩
    | _ => first
      | exact h.elim
      | (obtain ⟨-, h⟩ := h; have b := ih _ _ _ _ h; exact b)
      | (obtain ⟨-, _, h⟩ := h; have b := ih _ _ _ _ h; exact b)
      | (obtain ⟨-, _, _, h⟩ := h; have b := ih _ _ _ _ h; exact b)
      | (obtain ⟨-, _, _, _, h⟩ := h; have b := ih _ _ _ _ h; exact b)
      | (obtain ⟨-, _, _, _, _, h⟩ := h; have b := ih _ _ _ _ h; exact b)
      | (obtain ⟨-, _, _, _, _, _, h⟩ := h; have b := ih _ _ _ _ h; exact b)
      | (obtain ⟨-, _, _, _, _, _, _, h⟩ := h; have b := ih _ _ _ _ h; exact b)
      | (obtain ⟨-, _, _, _, _, _, _, _, h⟩ := h; have b := ih _ _ _ _ h; exact b)
      | (obtain ⟨-, _, _, _, _, _, _, _, _, h⟩ := h; have b := ih _ _ _ _ h; exact b)
      | (obtain ⟨-, _, _, _, _, _, _, _, _, _, h⟩ := h; have b := ih _ _ _ _ h; exact b)
      | (obtain ⟨-, _, _, _, _, _, _, _, _, _, _, h⟩ := h; have b := ih _ _ _ _ h; exact b)
theorem zEv_mono : ∀ (d y : Nat) (as : List Value) (M : zM) (v : Option Value) (M' : zM), zEv d y as M v M' → zn M ≤ zn M' ∧ zs M ≤ zs M' := by
  intro d
  induction d with
  | zero => intro _ _ _ _ _ h; exact h.elim
  | succ d ih =>
    intro y as M v M' h
    rcases h with ⟨-, -, rfl, -⟩ | ⟨-, -, rfl, -⟩ | ⟨-, -, f, h⟩
    · exact ⟨Nat.le_refl _, Nat.le_refl _⟩
    · exact ⟨Nat.le_refl _, Nat.le_refl _⟩
    · exact z_mono ih _ _ _ _ _ h
def zInv (Z : zX) (s : State) (M : zM) (H : Heap) (locs : List Loc) (cells : Nat) : Prop := zCore Z M H ∧ s.heap.size + cells = zb Z + (zn M - 16) ∧ va_S (zAd Z) s.heap H locs ∧ zb Z ≤ s.heap.size
def zEnd (m : Nat) (i : Instr) (st : List Value) (v : Option Value) : Prop := match i with
  | .ireturn => ∃ x : Int32, st = [.int x] ∧ (zRk m = 1 ∨ (zRk m = 2 ∧ (x = 0 ∨ x = 1))) ∧ v = some (.int x)
  | .lreturn => ∃ x : Int64, st = [.long x] ∧ zRk m = 3 ∧ v = some (.long x)
  | .areturn => ∃ r : Option Nat, st = [va_rf r] ∧ zRk m = 4 ∧ v = some (va_rf r)
  | .return_ => st = [] ∧ zRk m = 0 ∧ v = none
  | _ => False
theorem zlm_ld {Z : zX} {ls : Array Slot} {nL : Nat} {l : List (Nat × Value)} {i : Nat} {w : Value} (hl : lv_has ls nL (zlm Z l)) (h : zld l i = some w) : ls[i]? = some (.val (zτ Z w)) := by
  unfold zld at h
  cases hf : l.find? (fun q => q.1 == i) with
  | none => rw [hf] at h; cases h
  | some q =>
    rw [hf] at h
    have hm := List.mem_of_find?_eq_some hf
    have he := List.find?_some hf
    have e1 : q.1 = i := by simpa using he
    have e2 : q.2 = w := by simpa using h
    have := hl.2.2 (q.1, zτ Z q.2) (List.mem_map.mpr ⟨q, hm, rfl⟩)
    rw [e1, e2] at this
    exact this
theorem zlm_ix {Z : zX} {l : List (Nat × Value)} {i : Nat} {w : Value} (h : zld l i = some w) : ∃ k : Nat, (zlm Z l)[k]? = some (i, zτ Z w) := by
  unfold zld at h
  cases hf : l.find? (fun q => q.1 == i) with
  | none => rw [hf] at h; cases h
  | some q =>
    rw [hf] at h
    have hm := List.mem_of_find?_eq_some hf
    have he := List.find?_some hf
    have e1 : q.1 = i := by simpa using he
    have e2 : q.2 = w := by simpa using h
    have h3 : (i, zτ Z w) ∈ zlm Z l := List.mem_map.mpr ⟨q, hm, by rw [e1, e2]⟩
    exact List.getElem?_of_mem h3
theorem zlm_st {Z : zX} {l : List (Nat × Value)} {i : Nat} {w : Value} : (i, zτ Z w) :: (zlm Z l).filter (fun q => !(q.1 == i) && !(q.1 + 1 == i && q.2.category == 2)) = zlm Z (zst l i w) := by
  unfold zst zlm
  rw [List.map_cons]
  congr 1
  rw [List.filter_map]
  congr 1
  apply List.filter_congr
  intro q _
  simp [Function.comp, zτ_cat]
theorem zct_map (Z : zX) (st : List Value) : ((st.map (zτ Z)).map fun v => v.category).sum = zct st := by
  unfold zct
  rw [List.map_map]
  congr 1
  apply List.map_congr_left
  intro v _
  exact zτ_cat Z v
section ZS
variable {p : Program} {lc : Launch} {e : Env} {R0 : Room} {s : State} {mm : MethodId} {args : Array Value} {below : List Frame} {meth : Method} {c : Code} {H : Heap} {locs : List Loc} {cells slots : Nat} {Q : State → Prop} {Z : zX} {M M2 : zM} {g : JFrame}
theorem z_size (h : H.size ≤ s.heap.size + cells → W p lc e R0 s mm args below meth c H locs cells slots Q g) : W p lc e R0 s mm args below meth c H locs cells slots Q g := by
  intro T hT X
  exact h (by rw [← hT]; exact X.heapSize) T hT X
theorem zInv.self (h : zInv Z s M H locs cells) : va_S (zAd Z) H H locs := ⟨Nat.le_refl _, fun _ _ _ => rfl, h.2.2.1.2.2⟩
theorem zS_tr {H1 : Heap} {locs1 : List Loc} (h : va_S (zAd Z) s.heap H locs) (h1 : va_S (zAd Z) H H1 locs1) : va_S (zAd Z) s.heap H1 locs1 :=
  ⟨Nat.le_trans h.1 h1.1, fun q hq ha => (h1.2.1 q (Nat.lt_of_lt_of_le hq h.1) ha).trans (h.2.1 q hq ha), h1.2.2⟩
/-- behind a write -/
theorem z_wr {H1 : Heap} {locs1 : List Loc} (hI : zInv Z s M H locs cells) (hn : zn M2 = zn M) (hP1 : va_P (zD Z) zCl (zws Z M2) H1) (hS1 : va_S (zAd Z) H H1 locs1) (hf : zFr M2) (hk : zSk Z M2)
    (kk : zInv Z s M2 H1 locs1 cells → W p lc e R0 s mm args below meth c H1 locs1 cells slots Q g) : W p lc e R0 s mm args below meth c H1 locs1 cells slots Q g := by
  refine z_size fun hz => kk ?_
  obtain ⟨⟨h16, hH, hP, hfr, hsk⟩, hc, hS, hb⟩ := hI
  have h1 := hS1.1
  exact ⟨⟨by rw [hn]; exact h16, by rw [hn]; omega, hP1, hf, hk⟩, by rw [hn]; exact hc, zS_tr hS hS1, hb⟩
theorem zFr_wi {a k : Nat} {x : Int32} (h : zFr M) (ha : a < zn M) : zFr (zwi M a k x) := fun b hb => by
  have hb : zn M ≤ b := hb
  refine ⟨(h b hb).1, fun j => ⟨?_, ((h b hb).2 j).2⟩⟩
  show (if b = a ∧ j = k then x else zi M b j) = 0
  rw [if_neg (fun q => by omega)]
  exact ((h b hb).2 j).1
theorem zFr_wr {a k : Nat} {x : Option Nat} (h : zFr M) (ha : a < zn M) : zFr (zwr M a k x) := fun b hb => by
  have hb : zn M ≤ b := hb
  refine ⟨(h b hb).1, fun j => ⟨((h b hb).2 j).1, ?_, ((h b hb).2 j).2.2⟩⟩
  show (if b = a ∧ j = k then x else zr M b j) = none
  rw [if_neg (fun q => by omega)]
  exact ((h b hb).2 j).2.1
theorem zFr_wl {a k : Nat} {x : Int64} (h : zFr M) (ha : a < zn M) : zFr (zwl M a k x) := fun b hb => by
  have hb : zn M ≤ b := hb
  refine ⟨(h b hb).1, fun j => ⟨((h b hb).2 j).1, ((h b hb).2 j).2.1, ?_⟩⟩
  show (if b = a ∧ j = k then x else zl M b j) = 0
  rw [if_neg (fun q => by omega)]
  exact ((h b hb).2 j).2.2
theorem zFr_cp {a0 s0 a d n : Nat} (h : zFr M) (ha : a < zn M) : zFr (zcp M a0 s0 a d n) := fun b hb => by
  have hb : zn M ≤ b := hb
  refine ⟨(h b hb).1, fun j => ⟨?_, ((h b hb).2 j).2⟩⟩
  show (if b = a ∧ d ≤ j ∧ j < d + n then zi M a0 (s0 + (j - d)) else zi M b j) = 0
  rw [if_neg (fun q => by omega)]
  exact ((h b hb).2 j).1
theorem zSk_wi {a k : Nat} {x : Int32} (h : zSk Z M) (ha : 16 ≤ a) : zSk Z (zwi M a k x) := by
  have e : ∀ b, b < 16 → zi (zwi M a k x) b = zi M b := fun b hb => funext fun j => if_neg (fun q => by omega)
  exact ⟨h.1, h.2.1, h.2.2.1, h.2.2.2.1, (e 0 (by omega)).trans h.2.2.2.2.1, (e 1 (by omega)).trans h.2.2.2.2.2.1, (e 2 (by omega)).trans h.2.2.2.2.2.2⟩
theorem zSk_cp {a0 s0 a d n : Nat} (h : zSk Z M) (ha : 16 ≤ a) : zSk Z (zcp M a0 s0 a d n) := by
  have e : ∀ b, b < 16 → zi (zcp M a0 s0 a d n) b = zi M b := fun b hb => funext fun j => if_neg (fun q => by omega)
  exact ⟨h.1, h.2.1, h.2.2.1, h.2.2.2.1, (e 0 (by omega)).trans h.2.2.2.2.1, (e 1 (by omega)).trans h.2.2.2.2.2.1, (e 2 (by omega)).trans h.2.2.2.2.2.2⟩
theorem zSk_wr {a k : Nat} {x : Option Nat} (h : zSk Z M) : zSk Z (zwr M a k x) := h
theorem zSk_wl {a k : Nat} {x : Int64} (h : zSk Z M) : zSk Z (zwl M a k x) := h
theorem zSk_new {t n k : Nat} (h : zSk Z M) (h16 : 16 ≤ zn M) : zSk Z (znw M t n k) := by
  have e : ∀ b, b < 16 → zk (znw M t n k) b = zk M b := fun b hb => if_neg (show ¬ b = zn M by omega)
  exact ⟨(e 0 (by omega)).trans h.1, (e 1 (by omega)).trans h.2.1, (e 2 (by omega)).trans h.2.2.1, fun a h1 h2 => (e a h2).trans (h.2.2.2.1 a h1 h2), h.2.2.2.2⟩
theorem zFr_new {t n k : Nat} (h : zFr M) : zFr (znw M t n k) := fun b hb => by
  have hb : zn M + 1 ≤ b := hb
  refine ⟨?_, (h b (by omega)).2⟩
  show (if b = zn M then (t, n) else zk M b) = (99, 0)
  rw [if_neg (by omega)]
  exact (h b (by omega)).1
theorem zk_new {t n k : Nat} : zk (znw M t n k) (zn M) = (t, n) := if_pos rfl
theorem zent_new {t n k b : Nat} (h : b < zn M) : zent Z (znw M t n k) b = zent Z M b := by
  have e : zk (znw M t n k) b = zk M b := if_neg (show ¬ b = zn M by omega)
  unfold zent
  rw [e]
  rfl
/-- behind a new cell: its address is the next -/
theorem z_nw {H1 : Heap} {t n k q : Nat} (hI : zInv Z s M H locs cells) (hP1 : va_P (zD Z) zCl (zws Z M ++ [(q, zent Z (znw M t n k) (zn M))]) H1) (hD1 : va_D (zAd Z) (zws Z M ++ [(q, zent Z (znw M t n k) (zn M))])) (hS1 : va_S (zAd Z) H H1 locs)
    (kk : q = zρ Z (zn M) → zInv Z s (znw M t n k) H1 locs (cells + 1) → W p lc e R0 s mm args below meth c H1 locs (cells + 1) slots Q g) : W p lc e R0 s mm args below meth c H1 locs (cells + 1) slots Q g := by
  refine z_size fun hz => ?_
  obtain ⟨⟨h16, hH, hP, hfr, hsk⟩, hc, hS, hb⟩ := hI
  have hlen := zws_len Z M
  have hl : (zws Z M ++ [(q, zent Z (znw M t n k) (zn M))])[(zws Z M).length]? = some (q, zent Z (znw M t n k) (zn M)) := by
    rw [List.getElem?_append_right (Nat.le_refl _), Nat.sub_self]
    rfl
  have hlt := (hP1 _ _ hl).lt
  have hq : q = zb Z + (zn M - 16) := by
    have hA : zb Z ≤ q := hD1.2 _ _ hl
    rcases Nat.lt_or_ge q (zb Z + (zn M - 16)) with h1 | h1
    · exfalso
      have h2 := zws_get (Z := Z) (M := M) (a := q - zb Z + 16) (by omega) (by omega)
      rw [zρ_own (by omega), show q - zb Z + 16 - 16 = q - zb Z by omega, show zb Z + (q - zb Z) = q by omega] at h2
      have h3 : (zws Z M ++ [(q, zent Z (znw M t n k) (zn M))])[q - zb Z]? = some (q, zent Z M (q - zb Z + 16)) := by
        rw [List.getElem?_append_left (by rw [hlen]; omega)]
        exact h2
      have := hD1.1 _ _ _ _ h3 hl rfl
      omega
    · have h1' := hS1.1
      have hlt : q < H1.size := hlt
      omega
  have hq2 : q = zρ Z (zn M) := by rw [hq, zρ_own h16]
  have h1' := hS1.1
  have hlt : q < H1.size := hlt
  refine kk hq2 ⟨⟨?_, ?_, ?_, zFr_new hfr, zSk_new hsk h16⟩, ?_, zS_tr hS hS1, hb⟩
  · show 16 ≤ zn M + 1; omega
  · show H1.size = zb Z + (zn M + 1 - 16); omega
  · rw [zws_new h16 rfl (fun b hb => zent_new hb), ← hq2]
    exact hP1
  · show s.heap.size + (cells + 1) = zb Z + (zn M + 1 - 16); omega
theorem z_back {mc ms pc : Nat} {ls : Array Slot} {st0 rest : List Value} {Qa : State → Outcome → State → Prop} {free : Addr → Prop} (hr : va_Run p lc e R0 s mm args below meth c H locs cells slots mc ms (F0 mm pc ls st0) rest Qa free)
    (kk : ∀ (v : Option Value) (st1 t : State) (L : List Loc), st1.heap = H → s.WarmedH t.vm → Qa st1 (.returned v) t → (∀ q ∈ L, free q.base) → W p lc e R0 s mm args below meth c t.heap (locs ++ L) (cells + mc) (slots + ms) Q (F0 mm (pc + 3) ls (v.toList ++ rest))) :
    W p lc e R0 s mm args below meth c H locs cells slots Q (F0 mm pc ls st0) := by
  intro T hT X
  obtain ⟨v, st₀, t, T', L, h0, X', hL, e1, e2, hq, st⟩ := hr T hT X
  obtain ⟨t2, a1, b1⟩ := kk v st₀ t L h0 (by rw [← e2]; exact X'.warmed) hq hL T' e1 X'
  exact ⟨t2, st t2 a1, b1⟩
end ZS
