/-! ===== the law's entry: the small machine begins ===== -/
def zM0 (L : Nat) (xs : Nat → Int32) : zM := ((fun a j => if a = 0 then xs j else if a = 1 then zUn j else if a = 2 then zAo j else 0), (fun _ _ => none), (fun _ _ => 0), (fun a => if a = 0 then (30, L) else if a = 1 ∨ a = 2 then (30, 6) else if a < 16 then (98, 0) else (99, 0)), 16, 0)
def zTm (i : Nat) : Term := .string "SagaDesk$Reader" (117 + 2 * i)
def zFl : List Cond := flatC (Jvm.Cond.and given_1 narrow_1)
theorem zfl_str : ∀ i, i < 6 → Cond.exactly (zTm i) "java/lang/String" ∈ zFl ∧ Cond.eq (.field (zTm i) "java/lang/String" "coder" "B") (.int 0) ∈ zFl ∧ Cond.arrayOf (.field (zTm i) "java/lang/String" "value" "[B") .byte ∈ zFl ∧
    Cond.eq (.length (.field (zTm i) "java/lang/String" "value" "[B")) (.int (Int32.ofNat (zLen.getD i 0))) ∈ zFl ∧ ∀ j, j < zLen.getD i 0 → Cond.eq (.elem (.field (zTm i) "java/lang/String" "value" "[B") (.int (Int32.ofNat j))) (.int ((zByt.getD i []).getD j 0)) ∈ zFl := by decide +kernel
theorem zfl_ne : ∀ i, i < 6 → ∀ j, j < 6 → i ≠ j → (Cond.not (Cond.eq (zTm i) (zTm j)) ∈ zFl ∨ Cond.not (Cond.eq (zTm j) (zTm i)) ∈ zFl) := by decide +kernel
theorem zfl_sts : Cond.arrayOf (.static "SagaDesk" "UNDER" "[I") .int ∈ zFl ∧ Cond.eq (.length (.static "SagaDesk" "UNDER" "[I")) (.int 6) ∈ zFl ∧ (∀ j, j < 6 → Cond.eq (.elem (.static "SagaDesk" "UNDER" "[I") (.int (Int32.ofNat j))) (.int (zUn j)) ∈ zFl) ∧
    Cond.arrayOf (.static "SagaDesk" "ACCOUNTS_OF" "[I") .int ∈ zFl ∧ Cond.eq (.length (.static "SagaDesk" "ACCOUNTS_OF" "[I")) (.int 6) ∈ zFl ∧ (∀ j, j < 6 → Cond.eq (.elem (.static "SagaDesk" "ACCOUNTS_OF" "[I") (.int (Int32.ofNat j))) (.int (zAo j)) ∈ zFl) ∧
    Cond.eq (.static "java/lang/String" "COMPACT_STRINGS" "Z") (.int 1) ∈ zFl ∧ Cond.isRef (.static "jdk/internal/util/Preconditions" "SIOOBE_FORMATTER" "Ljava/util/function/BiFunction;") ∈ zFl := by decide +kernel
theorem zfl_same : ∀ q ∈ zXs, (zRn q.1.1 = "SagaDesk$Reader" ∧ q.1.2 = 117 + 2 * q.2) ∨ Cond.eq (.string (zRn q.1.1) q.1.2) (zTm q.2) ∈ zFl ∨ Cond.eq (zTm q.2) (.string (zRn q.1.1) q.1.2) ∈ zFl := by decide +kernel
theorem zfl_lay : ∀ w ∈ ([.laysStatic "SagaDesk" "UNDER" "[I", .laysStatic "SagaDesk" "ACCOUNTS_OF" "[I", .laysStatic "java/lang/String" "COMPACT_STRINGS" "Z", .laysStatic "jdk/internal/util/Preconditions" "SIOOBE_FORMATTER" "Ljava/util/function/BiFunction;",
    .initialized "SagaDesk", .initialized "java/lang/String", .initialized "jdk/internal/util/Preconditions", .arrayClass .int, .arrayClass .long, .arrayOver (.object "SagaDesk$Program"), .arrayOver (.object "SagaDesk$Saga"), .arrayOver (.object "SagaDesk$Row"), .arrayOver (.array .int), .arrayOver (.array (.array .int))] : List Cond), w ∈ lw_tbl := by decide +kernel
theorem zfl_xs : ∀ q ∈ zXs, Cond.stringRef (zRn q.1.1) q.1.2 (zXt.getD q.2 "") ∈ lw_tbl ∧ q.2 < 6 := by decide +kernel
theorem z_ev {args : Array Value} {s : State} {a b : Term} {v : Value} (h : (Cond.eq a b).before args s = true) (hb : b.eval args s none [] s = some v) : a.eval args s none [] s = some v := by
  cases ha : a.eval args s none [] s with
  | none => simp [Cond.before, Cond.holds, Cond.value, ha, hb] at h
  | some w =>
    simp [Cond.before, Cond.holds, Cond.value, ha, hb] at h
    first
      | exact congrArg some h
      | (cases w <;> cases v <;> simp_all)
theorem z_ev2 {args : Array Value} {s : State} {a b : Term} {v : Value} (h : (Cond.eq a b).before args s = true) (ha : a.eval args s none [] s = some v) : b.eval args s none [] s = some v := by
  cases hb : b.eval args s none [] s with
  | none => simp [Cond.before, Cond.holds, Cond.value, ha, hb] at h
  | some w =>
    simp [Cond.before, Cond.holds, Cond.value, ha, hb] at h
    first
      | exact congrArg some h.symm
      | (cases w <;> cases v <;> simp_all)
theorem z_overA {args : Array Value} {s : State} {t : FieldType} (h : (Cond.arrayOver (.array t)).before args s = true) :
    ∃ comp c k, s.vm.findClass (FieldType.array t).toString = some comp ∧ s.vm.classes[c]? = some k ∧ k.kind = .array comp (.array t) ∧ s.vm.findClass ("[" ++ (FieldType.array t).toString) = some c := by
  simp only [Cond.before, Cond.holds, Cond.value, beq_iff_eq] at h
  cases hc : s.vm.findClass (FieldType.array t).toString with
  | none => simp [hc] at h
  | some comp =>
    simp only [hc, Option.bind_some, Option.bind_eq_some_iff, Option.map_eq_some_iff] at h
    obtain ⟨c, hi, k, hk, hb⟩ := h
    obtain ⟨hlt, hp, -⟩ := Array.findIdx?_eq_some_iff_getElem.mp hi
    have hkk : s.vm.classes[c] = k := (Array.getElem?_eq_some_iff.mp hk).2
    rw [hkk] at hp
    cases hkind : k.kind with
    | array component ty =>
      rw [hkind] at hb hp
      simp at hb hp
      exact ⟨comp, c, k, rfl, hk, by rw [hkind, hp, hb.1], hb.2⟩
    | _ => rw [hkind] at hb; simp at hb
theorem zM0_fr (L : Nat) (xs : Nat → Int32) : zFr (zM0 L xs) := by
  intro a h
  have h : 16 ≤ a := h
  refine ⟨?_, fun j => ⟨?_, rfl, rfl⟩⟩
  · show (if a = 0 then ((30, L) : Nat × Nat) else if a = 1 ∨ a = 2 then (30, 6) else if a < 16 then (98, 0) else (99, 0)) = (99, 0)
    rw [if_neg (by omega), if_neg (by omega), if_neg (by omega)]
  · show (if a = 0 then xs j else if a = 1 then zUn j else if a = 2 then zAo j else 0) = 0
    rw [if_neg (by omega), if_neg (by omega), if_neg (by omega)]
theorem zM0_sk {Z : zX} {L : Nat} {xs : Nat → Int32} (h : zLn Z = L) (hx : zxs Z = xs) : zSk Z (zM0 L xs) := by
  subst h; subst hx
  refine ⟨rfl, rfl, rfl, fun a h1 h2 => ?_, rfl, rfl, rfl⟩
  show (if a = 0 then ((30, zLn Z) : Nat × Nat) else if a = 1 ∨ a = 2 then (30, 6) else if a < 16 then (98, 0) else (99, 0)) = (98, 0)
  rw [if_neg (by omega), if_neg (by omega), if_pos h2]
set_option maxHeartbeats 2000000 in
theorem z_rep0 {p : Program} {s : State} {m : MethodId} {meth : Method} {c : Code} {b L : Nat} {xs : Nat → Int32} (hL : L ≤ 3584) (C0 : lw_At p s m meth c b L xs) : ∃ Z : zX, zb Z = s.heap.size ∧ zsp Z 0 = b ∧ zRep Z (zM0 L xs) s := by
  obtain ⟨hx, hb, hr, hml, hown, hts, hX, hbl, hlocks, hgv⟩ := id C0
  have hf := flat_of_before _ hgv
  have hA : ∀ a : Nat, a < s.heap.size → ¬ (fun q : Nat => s.heap.size ≤ q) a := fun a h h2 => Nat.not_le.mpr h h2
  -- the classes
  have hkn : ∀ k, k < 9 → ∃ (cC : ClassId) (iS : Nat → Nat), u_Kn s (zClN k) (zClT k) (zN k) cC iS := fun k hk => u_known hts (fun w hw => zW_sub w ((zC_ok hk).2.1 w hw)) (hts _ (zW_sub _ (zC_ok hk).2.2.1))
  have hkn2 : ∀ k, ∃ (q : ClassId × (Nat → Nat)), k < 9 → u_Kn s (zClN k) (zClT k) (zN k) q.1 q.2 := fun k => by
    by_cases h : k < 9
    · obtain ⟨a, b, h2⟩ := hkn k h
      exact ⟨(a, b), fun _ => h2⟩
    · exact ⟨(0, fun _ => 0), fun h2 => absurd h2 h⟩
  let D : va_G := (fun k => (Classical.choose (hkn2 k)).1, fun k => (Classical.choose (hkn2 k)).2)
  have hD : ∀ k, k < 9 → u_Kn s (zClN k) (zClT k) (zN k) (D.1 k) (D.2 k) := fun k hk => Classical.choose_spec (hkn2 k) hk
  -- the rows' classes
  obtain ⟨c20, k20, o20, n20, g20, t20⟩ := Cond.arrayClass_spec (hts _ (zfl_lay (.arrayClass .int) (by simp)))
  obtain ⟨c21, k21, o21, n21, g21, t21⟩ := Cond.arrayClass_spec (hts _ (zfl_lay (.arrayClass .long) (by simp)))
  obtain ⟨o22, c22, k22, n22, -, g22, t22, m22⟩ := Cond.arrayOver_spec (hts _ (zfl_lay (.arrayOver (.object "SagaDesk$Program")) (by simp)))
  obtain ⟨o23, c23, k23, n23, -, g23, t23, m23⟩ := Cond.arrayOver_spec (hts _ (zfl_lay (.arrayOver (.object "SagaDesk$Saga")) (by simp)))
  obtain ⟨o24, c24, k24, n24, -, g24, t24, m24⟩ := Cond.arrayOver_spec (hts _ (zfl_lay (.arrayOver (.object "SagaDesk$Row")) (by simp)))
  obtain ⟨o25, c25, k25, n25, g25, t25, m25⟩ := z_overA (hts _ (zfl_lay (.arrayOver (.array .int)) (by simp)))
  obtain ⟨o26, c26, k26, n26, g26, t26, m26⟩ := z_overA (hts _ (zfl_lay (.arrayOver (.array (.array .int))) (by simp)))
  have e25 : o25 = c20 := Option.some.inj (n25.symm.trans n20)
  have e26 : o26 = c25 := Option.some.inj (n26.symm.trans m25)
  -- the static rows
  have hev : ∀ (a : Term) (z : Int32), (Cond.eq a (.int z)).before #[Value.ref b] s = true → a.eval #[Value.ref b] s none [] s = some (.int z) := fun a z h => z_ev h rfl
  obtain ⟨u1, u2, u3, u4, u5, u6, u7, u8⟩ := zfl_sts
  obtain ⟨tU, vU, TU⟩ := va_Tof (f := fun j => .int (zUn j)) (by decide) (hf _ u1) (hev _ _ (hf _ u2)) (fun j hj => hev _ _ (hf _ (u3 j hj))) hA
  obtain ⟨tA, vA, TA⟩ := va_Tof (f := fun j => .int (zAo j)) (by decide) (hf _ u4) (hev _ _ (hf _ u5)) (fun j hj => hev _ _ (hf _ (u6 j hj))) hA
  have ZU := va_Zof (hts _ (zfl_lay (.laysStatic "SagaDesk" "UNDER" "[I") (by simp))) (hts _ (zfl_lay (.initialized "SagaDesk") (by simp))) vU hA
  have ZA := va_Zof (hts _ (zfl_lay (.laysStatic "SagaDesk" "ACCOUNTS_OF" "[I") (by simp))) (hts _ (zfl_lay (.initialized "SagaDesk") (by simp))) vA hA
  have ZC := va_Zof (hts _ (zfl_lay (.laysStatic "java/lang/String" "COMPACT_STRINGS" "Z") (by simp))) (hts _ (zfl_lay (.initialized "java/lang/String") (by simp))) (hev _ _ (hf _ u7)) hA
  have ZQ := va_Zqof (hts _ (zfl_lay (.laysStatic "jdk/internal/util/Preconditions" "SIOOBE_FORMATTER" "Ljava/util/function/BiFunction;") (by simp))) (hts _ (zfl_lay (.initialized "jdk/internal/util/Preconditions") (by simp))) (hf _ u8) hA
  -- the texts
  obtain ⟨adK, adV, hS, hSe⟩ := vk_Sof (args := #[Value.ref b]) (s := s) (N := 6) (tm := zTm) (len := zLen) (byt := zByt) (A := fun q => s.heap.size ≤ q) (by decide) (fun i hi => hf _ (zfl_str i hi).1) (fun i hi => hf _ (zfl_str i hi).2.1) (fun i hi => hf _ (zfl_str i hi).2.2.1) (fun i hi => hf _ (zfl_str i hi).2.2.2.1)
    (fun i hi j hj => hf _ ((zfl_str i hi).2.2.2.2 j hj)) (fun i j hi hj hij => (zfl_ne i hi j hj hij).elim (fun h => Or.inl (hf _ h)) (fun h => Or.inr (hf _ h))) hA
  let Z : zX := (s.heap.size, (fun k => if k = 0 then b else if k = 1 then tU else if k = 2 then tA else adK (k - 3)), (fun k => if k = 20 then c20 else if k = 21 then c21 else if k = 22 then c22 else if k = 23 then c23 else if k = 24 then c24 else if k = 25 then c25 else c26), D, L, xs, adV)
  have hsp3 : ∀ i, zsp Z (3 + i) = adK i := fun i => by
    show (if 3 + i = 0 then b else if 3 + i = 1 then tU else if 3 + i = 2 then tA else adK (3 + i - 3)) = adK i
    rw [if_neg (by omega), if_neg (by omega), if_neg (by omega), show 3 + i - 3 = i by omega]
  refine ⟨Z, rfl, rfl, ⟨Nat.le_refl 16, rfl, fun k q h => ?_, zM0_fr L xs, zM0_sk rfl rfl⟩, ⟨⟨fun k q hq => ?_, fun k q hq => ?_⟩, fun q hq => ?_, fun w hw => ?_, hts _ (zfl_lay (.arrayOver (.object "SagaDesk$Program")) (by simp)), hts _ (zfl_lay (.arrayOver (.object "SagaDesk$Saga")) (by simp)), hts _ (zfl_lay (.arrayOver (.object "SagaDesk$Row")) (by simp)), ⟨k20, o20, g20, t20⟩, ⟨k25, g25, t25.trans (by rw [e25]; rfl)⟩, ⟨k26, g26, t26.trans (by rw [e26]; rfl)⟩⟩, ?_, TU, TA, ZU, ZA, ?_, ZC, ZQ⟩
  · have : zws Z (zM0 L xs) = [] := rfl
    rw [this] at h
    cases h
  · have hk9 : k < 9 := (List.getElem?_eq_some_iff.mp hq).1
    rw [zC_cl k hk9] at hq
    cases hq
    exact hD k hk9
  · have hk7 : k < 7 := (List.getElem?_eq_some_iff.mp hq).1
    rcases (show k = 0 ∨ k = 1 ∨ k = 2 ∨ k = 3 ∨ k = 4 ∨ k = 5 ∨ k = 6 by omega) with rfl | rfl | rfl | rfl | rfl | rfl | rfl <;> cases hq
    · exact ⟨fun n z => ⟨fun q h => (by cases h), k20, g20, o20, t20⟩, n20⟩
    · exact ⟨fun n z => ⟨fun q h => (by cases h), k21, g21, o21, t21⟩, n21⟩
    · exact ⟨fun n z => ⟨fun q h => (by cases h), k22, g22, o22, t22⟩, k22, o22, g22, t22, n22, m22⟩
    · exact ⟨fun n z => ⟨fun q h => (by cases h), k23, g23, o23, t23⟩, k23, o23, g23, t23, n23, m23⟩
    · exact ⟨fun n z => ⟨fun q h => (by cases h), k24, g24, o24, t24⟩, k24, o24, g24, t24, n24, m24⟩
    · exact ⟨fun n z => ⟨fun q h => (by cases h), k25, g25, o25, t25⟩, m25⟩
    · exact ⟨fun n z => ⟨fun q h => (by cases h), k26, g26, o26, t26⟩, m26⟩
  · obtain ⟨h1, h2⟩ := zfl_xs q hq
    rw [hsp3]
    refine vk_R.of (hts _ h1) ?_
    have h3 := hSe q.2 h2
    rcases zfl_same q hq with ⟨h4, h5⟩ | h4 | h4
    · rw [h4, h5]; exact h3
    · exact z_ev (hf _ h4) h3
    · exact z_ev2 (hf _ h4) h3
  · exact va_Nw.of (by
      have : ∀ w ∈ zNw, w.onTables = true := by decide +kernel
      exact this w hw) (hts _ (zNw_in w hw))
  · obtain ⟨scr, h1, h2, h3, h4, h5⟩ := hX
    exact ⟨scr, h1, h2, h3, Nat.le_of_eq h4.symm, by rw [h4]; rfl, h5, hA b hbl⟩
  · have : (fun i => zsp Z (3 + i)) = adK := funext hsp3
    rw [this]
    exact hS
theorem z_start {p : Program} {e : Env} {s : State} {m : MethodId} {below : List Frame} {meth : Method} {c : Code} (l : Launch) {b L : Nat} {xs : Nat → Int32} (hL : L ≤ 3584) (C0 : lw_At p s m meth c b L xs)
    (hz : ∃ (d f : Nat) (M' : zM), d + 1 ≤ 1000 ∧ zLoop (zEv d) 902 (some (.int 1)) M' f 0 [(0, .ref 0)] [] (zM0 L xs) ∧ zn M' ≤ 600016 ∧ zs M' ≤ 7302249) :
    W p l e room_1 s m #[Value.ref b] below meth c s.heap [] 0 0 (lw_Z below #[Value.ref b] s) (entryFrame m ([Value.ref b] : List Value).toArray 4) := by
  obtain ⟨hx, hb, hr, hml, hown, hts, hX, hbl, hlocks, hgv⟩ := id C0
  obtain ⟨Z, hzb, hz0, hrep⟩ := z_rep0 hL C0
  obtain ⟨d, f, M', hd, hrun, hn, hs⟩ := hz
  have hl := lv_entry ([.ref b]) (n := 4) (Nat.le_of_ble_eq_true rfl)
  have hl2 : lv_args 0 [Value.ref b] = zlm Z [(0, .ref 0)] := by
    show [(0, Value.ref b)] = [(0, Value.ref (zρ Z 0))]
    rw [show zρ Z 0 = zsp Z 0 from rfl, hz0]
  rw [hl2] at hl
  rw [lg_entry_eq]
  have hI : zInv Z s (zM0 L xs) s.heap [] 0 := ⟨hrep.1, by rw [hzb]; rfl, va_S.rf, by rw [hzb]; exact Nat.le_refl _⟩
  refine z_run (R0 := room_1) (d := d) (m := 902) (v := some (.int 1)) (M' := M') hx hb hml hown (fun w hw => hts w (zW_sub w hw)) hrep.2.1 hrep.2.2 (fun hq => absurd hq (by decide)) (by show d + 1 ≤ 2048; omega) (by show 60 * (d + 1) ≤ 84000; omega) (z_met Z l d) ?_ f 0 _ [] (zM0 L xs) s.heap [] 0 0 _ hrun hl hI (by show 0 + (zn M' - 16) ≤ 600000; omega) (by show 0 + (zs M' - 0) ≤ 7302249; omega)
  intro pc H locs cells slots ls st i hdg hend hI2 hc2 hs2
  cases i with
  | ireturn =>
    obtain ⟨y, rfl, -, hv⟩ := hend
    cases hv
    refine va_forget (fun q hq => by have := hI2.2.2.1.2.2 q hq; rw [← hzb]; exact this) ?_
    exact W.widen hc2 hs2 (lw_ret hx hb hr hlocks hdg)
  | lreturn => obtain ⟨y, rfl, h, -⟩ := hend; exact absurd h (by decide)
  | areturn => obtain ⟨y, rfl, h, -⟩ := hend; exact absurd h (by decide)
  | return_ => obtain ⟨rfl, h, -⟩ := hend; exact absurd h (by decide)
  | _ => exact hend.elim
/-! ===== rows of the small machine: one an instruction ===== -/
def qW (R : zRT) (m : Nat) (Q : Option Value → zM → Prop) (pc : Nat) (l : List (Nat × Value)) (st : List Value) (M : zM) : Prop := ∃ (f : Nat) (v : Option Value) (M' : zM), zLoop R m v M' f pc l st M ∧ Q v M'
/-- a call's end -/
def qC (d y : Nat) (as : List Value) (M : zM) (Q : Option Value → zM → Prop) : Prop := ∃ (v : Option Value) (M' : zM), zEv d y as M v M' ∧ Q v M'
section QR
variable {R : zRT} {m : Nat} {Q : Option Value → zM → Prop} {pc n : Nat} {l l' : List (Nat × Value)} {st : List Value} {M : zM}
theorem q_of {i : Instr} (hd : decode (zB m) pc = .ok (i, n)) (h : ∃ (f : Nat) (v : Option Value) (M' : zM), zSem R m (zLoop R m v M' f) v M' pc l st M n i ∧ Q v M') : qW R m Q pc l st M := by
  obtain ⟨f, v, M', h1, h2⟩ := h
  exact ⟨f + 1, v, M', ⟨i, n, hd, h1⟩, h2⟩
theorem q_null (hd : decode (zB m) pc = .ok (.aconst_null, 1)) (k : qW R m Q (pc + 1) l (.null :: st) M) : qW R m Q pc l st M := by
  obtain ⟨f, v, M', h1, h2⟩ := k; exact q_of hd ⟨f, v, M', ⟨rfl, h1⟩, h2⟩
theorem q_iconst {z : Int} {x : Int32} (hd : decode (zB m) pc = .ok (.iconst z, 1)) (hv : Int32.ofInt z = x) (k : qW R m Q (pc + 1) l (.int x :: st) M) : qW R m Q pc l st M := by
  subst hv; obtain ⟨f, v, M', h1, h2⟩ := k; exact q_of hd ⟨f, v, M', ⟨rfl, h1⟩, h2⟩
theorem q_bipush {z : Int} {x : Int32} (hd : decode (zB m) pc = .ok (.bipush z, 2)) (hv : (Int8.ofInt z).toInt32 = x) (k : qW R m Q (pc + 2) l (.int x :: st) M) : qW R m Q pc l st M := by
  subst hv; obtain ⟨f, v, M', h1, h2⟩ := k; exact q_of hd ⟨f, v, M', ⟨rfl, h1⟩, h2⟩
theorem q_sipush {z : Int} {x : Int32} (hd : decode (zB m) pc = .ok (.sipush z, 3)) (hv : (Int16.ofInt z).toInt32 = x) (k : qW R m Q (pc + 3) l (.int x :: st) M) : qW R m Q pc l st M := by
  subst hv; obtain ⟨f, v, M', h1, h2⟩ := k; exact q_of hd ⟨f, v, M', ⟨rfl, h1⟩, h2⟩
theorem q_lconst {z : Fin 2} {x : Int64} (hd : decode (zB m) pc = .ok (.lconst z, 1)) (hv : Int64.ofNat (z : Nat) = x) (k : qW R m Q (pc + 1) l (.long x :: st) M) : qW R m Q pc l st M := by
  subst hv; obtain ⟨f, v, M', h1, h2⟩ := k; exact q_of hd ⟨f, v, M', ⟨rfl, h1⟩, h2⟩
theorem q_ldc {ix : Nat} {x : Int32} (hd : decode (zB m) pc = .ok (.ldc ix, 2)) (hv : zKi (zO m) ix = some x) (k : qW R m Q (pc + 2) l (.int x :: st) M) : qW R m Q pc l st M := by
  obtain ⟨f, v, M', h1, h2⟩ := k; exact q_of hd ⟨f, v, M', ⟨rfl, Or.inl ⟨x, hv, h1⟩⟩, h2⟩
theorem q_ldcs {ix x : Nat} (hd : decode (zB m) pc = .ok (.ldc ix, 2)) (hv : zKx (zO m) ix = some x) (k : qW R m Q (pc + 2) l (.ref (3 + x) :: st) M) : qW R m Q pc l st M := by
  obtain ⟨f, v, M', h1, h2⟩ := k; exact q_of hd ⟨f, v, M', ⟨rfl, Or.inr ⟨x, hv, h1⟩⟩, h2⟩
theorem q_ldc_w {ix : Nat} {x : Int32} (hd : decode (zB m) pc = .ok (.ldc_w ix, 3)) (hv : zKi (zO m) ix = some x) (k : qW R m Q (pc + 3) l (.int x :: st) M) : qW R m Q pc l st M := by
  obtain ⟨f, v, M', h1, h2⟩ := k; exact q_of hd ⟨f, v, M', ⟨rfl, x, hv, h1⟩, h2⟩
theorem q_ldc2_w {ix : Nat} {x : Int64} (hd : decode (zB m) pc = .ok (.ldc2_w ix, 3)) (hv : zKl (zO m) ix = some x) (k : qW R m Q (pc + 3) l (.long x :: st) M) : qW R m Q pc l st M := by
  obtain ⟨f, v, M', h1, h2⟩ := k; exact q_of hd ⟨f, v, M', ⟨rfl, x, hv, h1⟩, h2⟩
theorem q_iload_n {j : Fin 4} {x : Int32} (hd : decode (zB m) pc = .ok (.iload_n j, 1)) (hl : zld l (j : Nat) = some (.int x)) (k : qW R m Q (pc + 1) l (.int x :: st) M) : qW R m Q pc l st M := by
  obtain ⟨f, v, M', h1, h2⟩ := k; exact q_of hd ⟨f, v, M', ⟨rfl, x, hl, h1⟩, h2⟩
theorem q_iload {j : Nat} {x : Int32} (hd : decode (zB m) pc = .ok (.iload j, 2)) (hl : zld l j = some (.int x)) (k : qW R m Q (pc + 2) l (.int x :: st) M) : qW R m Q pc l st M := by
  obtain ⟨f, v, M', h1, h2⟩ := k; exact q_of hd ⟨f, v, M', ⟨rfl, x, hl, h1⟩, h2⟩
theorem q_aload_n {j : Fin 4} {a : Nat} (hd : decode (zB m) pc = .ok (.aload_n j, 1)) (hl : zld l (j : Nat) = some (.ref a)) (k : qW R m Q (pc + 1) l (.ref a :: st) M) : qW R m Q pc l st M := by
  obtain ⟨f, v, M', h1, h2⟩ := k; exact q_of hd ⟨f, v, M', ⟨rfl, some a, hl, h1⟩, h2⟩
theorem q_aload {j a : Nat} (hd : decode (zB m) pc = .ok (.aload j, 2)) (hl : zld l j = some (.ref a)) (k : qW R m Q (pc + 2) l (.ref a :: st) M) : qW R m Q pc l st M := by
  obtain ⟨f, v, M', h1, h2⟩ := k; exact q_of hd ⟨f, v, M', ⟨rfl, some a, hl, h1⟩, h2⟩
theorem q_aload_nR {j : Fin 4} {r : Option Nat} (hd : decode (zB m) pc = .ok (.aload_n j, 1)) (hl : zld l (j : Nat) = some (va_rf r)) (k : qW R m Q (pc + 1) l (va_rf r :: st) M) : qW R m Q pc l st M := by
  obtain ⟨f, v, M', h1, h2⟩ := k; exact q_of hd ⟨f, v, M', ⟨rfl, r, hl, h1⟩, h2⟩
theorem q_istore_n {j : Fin 4} {x : Int32} (hd : decode (zB m) pc = .ok (.istore_n j, 1)) (hj : (j : Nat) < zML m) (hl : zst l (j : Nat) (.int x) = l') (k : qW R m Q (pc + 1) l' st M) : qW R m Q pc l (.int x :: st) M := by
  subst hl; obtain ⟨f, v, M', h1, h2⟩ := k; exact q_of hd ⟨f, v, M', ⟨rfl, hj, x, st, rfl, h1⟩, h2⟩
theorem q_istore {j : Nat} {x : Int32} (hd : decode (zB m) pc = .ok (.istore j, 2)) (hj : j < zML m) (hl : zst l j (.int x) = l') (k : qW R m Q (pc + 2) l' st M) : qW R m Q pc l (.int x :: st) M := by
  subst hl; obtain ⟨f, v, M', h1, h2⟩ := k; exact q_of hd ⟨f, v, M', ⟨rfl, hj, x, st, rfl, h1⟩, h2⟩
theorem q_astore_n {j : Fin 4} {a : Nat} (hd : decode (zB m) pc = .ok (.astore_n j, 1)) (hj : (j : Nat) < zML m) (hl : zst l (j : Nat) (.ref a) = l') (k : qW R m Q (pc + 1) l' st M) : qW R m Q pc l (.ref a :: st) M := by
  subst hl; obtain ⟨f, v, M', h1, h2⟩ := k; exact q_of hd ⟨f, v, M', ⟨rfl, hj, some a, st, rfl, h1⟩, h2⟩
theorem q_astore {j a : Nat} (hd : decode (zB m) pc = .ok (.astore j, 2)) (hj : j < zML m) (hl : zst l j (.ref a) = l') (k : qW R m Q (pc + 2) l' st M) : qW R m Q pc l (.ref a :: st) M := by
  subst hl; obtain ⟨f, v, M', h1, h2⟩ := k; exact q_of hd ⟨f, v, M', ⟨rfl, hj, some a, st, rfl, h1⟩, h2⟩
theorem q_iinc {j : Nat} {z : Int} {x y : Int32} (hd : decode (zB m) pc = .ok (.iinc j z, 3)) (hj : j < zML m) (hx : zld l j = some (.int x)) (hy : x + Int32.ofInt z = y) (hl : zst l j (.int y) = l') (k : qW R m Q (pc + 3) l' st M) : qW R m Q pc l st M := by
  subst hl; subst hy; obtain ⟨f, v, M', h1, h2⟩ := k; exact q_of hd ⟨f, v, M', ⟨rfl, hj, x, hx, h1⟩, h2⟩
theorem q_iadd {x y : Int32} (hd : decode (zB m) pc = .ok (.iadd, 1)) (k : qW R m Q (pc + 1) l (.int (x + y) :: st) M) : qW R m Q pc l (.int y :: .int x :: st) M := by
  obtain ⟨f, v, M', h1, h2⟩ := k; exact q_of hd ⟨f, v, M', ⟨rfl, x, y, st, rfl, h1⟩, h2⟩
theorem q_isub {x y : Int32} (hd : decode (zB m) pc = .ok (.isub, 1)) (k : qW R m Q (pc + 1) l (.int (x - y) :: st) M) : qW R m Q pc l (.int y :: .int x :: st) M := by
  obtain ⟨f, v, M', h1, h2⟩ := k; exact q_of hd ⟨f, v, M', ⟨rfl, x, y, st, rfl, h1⟩, h2⟩
theorem q_imul {x y : Int32} (hd : decode (zB m) pc = .ok (.imul, 1)) (k : qW R m Q (pc + 1) l (.int (x * y) :: st) M) : qW R m Q pc l (.int y :: .int x :: st) M := by
  obtain ⟨f, v, M', h1, h2⟩ := k; exact q_of hd ⟨f, v, M', ⟨rfl, x, y, st, rfl, h1⟩, h2⟩
theorem q_iand {x y : Int32} (hd : decode (zB m) pc = .ok (.iand, 1)) (k : qW R m Q (pc + 1) l (.int (x &&& y) :: st) M) : qW R m Q pc l (.int y :: .int x :: st) M := by
  obtain ⟨f, v, M', h1, h2⟩ := k; exact q_of hd ⟨f, v, M', ⟨rfl, x, y, st, rfl, h1⟩, h2⟩
theorem q_ior {x y : Int32} (hd : decode (zB m) pc = .ok (.ior, 1)) (k : qW R m Q (pc + 1) l (.int (x ||| y) :: st) M) : qW R m Q pc l (.int y :: .int x :: st) M := by
  obtain ⟨f, v, M', h1, h2⟩ := k; exact q_of hd ⟨f, v, M', ⟨rfl, x, y, st, rfl, h1⟩, h2⟩
theorem q_ixor {x y : Int32} (hd : decode (zB m) pc = .ok (.ixor, 1)) (k : qW R m Q (pc + 1) l (.int (x ^^^ y) :: st) M) : qW R m Q pc l (.int y :: .int x :: st) M := by
  obtain ⟨f, v, M', h1, h2⟩ := k; exact q_of hd ⟨f, v, M', ⟨rfl, x, y, st, rfl, h1⟩, h2⟩
theorem q_ishl {x y : Int32} (hd : decode (zB m) pc = .ok (.ishl, 1)) (k : qW R m Q (pc + 1) l (.int (x <<< (y &&& 31)) :: st) M) : qW R m Q pc l (.int y :: .int x :: st) M := by
  obtain ⟨f, v, M', h1, h2⟩ := k; exact q_of hd ⟨f, v, M', ⟨rfl, x, y, st, rfl, h1⟩, h2⟩
theorem q_ishr {x y : Int32} (hd : decode (zB m) pc = .ok (.ishr, 1)) (k : qW R m Q (pc + 1) l (.int (x >>> (y &&& 31)) :: st) M) : qW R m Q pc l (.int y :: .int x :: st) M := by
  obtain ⟨f, v, M', h1, h2⟩ := k; exact q_of hd ⟨f, v, M', ⟨rfl, x, y, st, rfl, h1⟩, h2⟩
theorem q_iushr {x y : Int32} (hd : decode (zB m) pc = .ok (.iushr, 1)) (k : qW R m Q (pc + 1) l (.int (x.toUInt32 >>> (y.toUInt32 &&& Int32.toUInt32 31)).toInt32 :: st) M) : qW R m Q pc l (.int y :: .int x :: st) M := by
  obtain ⟨f, v, M', h1, h2⟩ := k; exact q_of hd ⟨f, v, M', ⟨rfl, x, y, st, rfl, h1⟩, h2⟩
theorem q_idiv {x y : Int32} (hd : decode (zB m) pc = .ok (.idiv, 1)) (hy : ¬ y = 0) (k : qW R m Q (pc + 1) l (.int (x / y) :: st) M) : qW R m Q pc l (.int y :: .int x :: st) M := by
  obtain ⟨f, v, M', h1, h2⟩ := k; exact q_of hd ⟨f, v, M', ⟨rfl, x, y, st, rfl, hy, h1⟩, h2⟩
theorem q_irem {x y : Int32} (hd : decode (zB m) pc = .ok (.irem, 1)) (hy : ¬ y = 0) (k : qW R m Q (pc + 1) l (.int (x - x / y * y) :: st) M) : qW R m Q pc l (.int y :: .int x :: st) M := by
  obtain ⟨f, v, M', h1, h2⟩ := k; exact q_of hd ⟨f, v, M', ⟨rfl, x, y, st, rfl, hy, h1⟩, h2⟩
theorem q_ineg {x : Int32} (hd : decode (zB m) pc = .ok (.ineg, 1)) (k : qW R m Q (pc + 1) l (.int (-x) :: st) M) : qW R m Q pc l (.int x :: st) M := by
  obtain ⟨f, v, M', h1, h2⟩ := k; exact q_of hd ⟨f, v, M', ⟨rfl, x, st, rfl, h1⟩, h2⟩
theorem q_i2b {x : Int32} (hd : decode (zB m) pc = .ok (.i2b, 1)) (k : qW R m Q (pc + 1) l (.int x.toInt8.toInt32 :: st) M) : qW R m Q pc l (.int x :: st) M := by
  obtain ⟨f, v, M', h1, h2⟩ := k; exact q_of hd ⟨f, v, M', ⟨rfl, x, st, rfl, h1⟩, h2⟩
theorem q_ladd {x y : Int64} (hd : decode (zB m) pc = .ok (.ladd, 1)) (k : qW R m Q (pc + 1) l (.long (x + y) :: st) M) : qW R m Q pc l (.long y :: .long x :: st) M := by
  obtain ⟨f, v, M', h1, h2⟩ := k; exact q_of hd ⟨f, v, M', ⟨rfl, x, y, st, rfl, h1⟩, h2⟩
theorem q_lcmp {x y : Int64} (hd : decode (zB m) pc = .ok (.lcmp, 1)) (k : qW R m Q (pc + 1) l (.int (lg_cmp x y) :: st) M) : qW R m Q pc l (.long y :: .long x :: st) M := by
  obtain ⟨f, v, M', h1, h2⟩ := k; exact q_of hd ⟨f, v, M', ⟨rfl, x, y, st, rfl, h1⟩, h2⟩
theorem q_dup {a : Value} (hd : decode (zB m) pc = .ok (.dup, 1)) (ha : a.category = 1) (k : qW R m Q (pc + 1) l (a :: a :: st) M) : qW R m Q pc l (a :: st) M := by
  obtain ⟨f, v, M', h1, h2⟩ := k; exact q_of hd ⟨f, v, M', ⟨rfl, a, st, rfl, ha, h1⟩, h2⟩
theorem q_dup2 {a b : Value} (hd : decode (zB m) pc = .ok (.dup2, 1)) (ha : a.category = 1) (hb : b.category = 1) (k : qW R m Q (pc + 1) l (a :: b :: a :: b :: st) M) : qW R m Q pc l (a :: b :: st) M := by
  obtain ⟨f, v, M', h1, h2⟩ := k; exact q_of hd ⟨f, v, M', ⟨rfl, a, b, st, rfl, ha, hb, h1⟩, h2⟩
theorem q_pop {a : Value} (hd : decode (zB m) pc = .ok (.pop, 1)) (ha : a.category = 1) (k : qW R m Q (pc + 1) l st M) : qW R m Q pc l (a :: st) M := by
  obtain ⟨f, v, M', h1, h2⟩ := k; exact q_of hd ⟨f, v, M', ⟨rfl, a, st, rfl, ha, h1⟩, h2⟩
theorem q_pop2 {a : Value} (hd : decode (zB m) pc = .ok (.pop2, 1)) (ha : a.category = 2) (k : qW R m Q (pc + 1) l st M) : qW R m Q pc l (a :: st) M := by
  obtain ⟨f, v, M', h1, h2⟩ := k; exact q_of hd ⟨f, v, M', ⟨rfl, a, st, rfl, ha, h1⟩, h2⟩
theorem q_goto {off : Int} (tgt : Nat) (hd : decode (zB m) pc = .ok (.goto off, 3)) (ht : (pc : Int) + off = tgt) (k : qW R m Q tgt l st M) : qW R m Q pc l st M := by
  obtain ⟨f, v, M', h1, h2⟩ := k; exact q_of hd ⟨f, v, M', ⟨rfl, tgt, ht, h1⟩, h2⟩
theorem q_if {c : ClassFile.Cond} {off : Int} {x : Int32} (tgt : Nat) (hd : decode (zB m) pc = .ok (.ifCond c off, 3)) (ht : (pc : Int) + off = tgt) (kt : zcc c x 0 → qW R m Q tgt l st M) (kf : ¬ zcc c x 0 → qW R m Q (pc + 3) l st M) : qW R m Q pc l (.int x :: st) M := by
  by_cases h : zcc c x 0
  · obtain ⟨f, v, M', h1, h2⟩ := kt h; exact q_of hd ⟨f, v, M', ⟨rfl, x, st, tgt, rfl, ht, fun _ => h1, fun q => absurd h q⟩, h2⟩
  · obtain ⟨f, v, M', h1, h2⟩ := kf h; exact q_of hd ⟨f, v, M', ⟨rfl, x, st, tgt, rfl, ht, fun q => absurd q h, fun _ => h1⟩, h2⟩
theorem q_icmp {c : ClassFile.Cond} {off : Int} {x y : Int32} (tgt : Nat) (hd : decode (zB m) pc = .ok (.if_icmp c off, 3)) (ht : (pc : Int) + off = tgt) (kt : zcc c x y → qW R m Q tgt l st M) (kf : ¬ zcc c x y → qW R m Q (pc + 3) l st M) : qW R m Q pc l (.int y :: .int x :: st) M := by
  by_cases h : zcc c x y
  · obtain ⟨f, v, M', h1, h2⟩ := kt h; exact q_of hd ⟨f, v, M', ⟨rfl, x, y, st, tgt, rfl, ht, fun _ => h1, fun q => absurd h q⟩, h2⟩
  · obtain ⟨f, v, M', h1, h2⟩ := kf h; exact q_of hd ⟨f, v, M', ⟨rfl, x, y, st, tgt, rfl, ht, fun q => absurd q h, fun _ => h1⟩, h2⟩
theorem q_ifnull {off : Int} {r : Option Nat} (tgt : Nat) (hd : decode (zB m) pc = .ok (.ifnull off, 3)) (ht : (pc : Int) + off = tgt) (kt : r = none → qW R m Q tgt l st M) (kf : ¬ r = none → qW R m Q (pc + 3) l st M) : qW R m Q pc l (va_rf r :: st) M := by
  by_cases h : r = none
  · obtain ⟨f, v, M', h1, h2⟩ := kt h; exact q_of hd ⟨f, v, M', ⟨rfl, r, st, tgt, rfl, ht, fun _ => h1, fun q => absurd h q⟩, h2⟩
  · obtain ⟨f, v, M', h1, h2⟩ := kf h; exact q_of hd ⟨f, v, M', ⟨rfl, r, st, tgt, rfl, ht, fun q => absurd q h, fun _ => h1⟩, h2⟩
theorem q_ifnonnull {off : Int} {r : Option Nat} (tgt : Nat) (hd : decode (zB m) pc = .ok (.ifnonnull off, 3)) (ht : (pc : Int) + off = tgt) (kt : ¬ r = none → qW R m Q tgt l st M) (kf : r = none → qW R m Q (pc + 3) l st M) : qW R m Q pc l (va_rf r :: st) M := by
  by_cases h : r = none
  · obtain ⟨f, v, M', h1, h2⟩ := kf h; exact q_of hd ⟨f, v, M', ⟨rfl, r, st, tgt, rfl, ht, fun _ => h1, fun q => absurd h q⟩, h2⟩
  · obtain ⟨f, v, M', h1, h2⟩ := kt h; exact q_of hd ⟨f, v, M', ⟨rfl, r, st, tgt, rfl, ht, fun q => absurd q h, fun _ => h1⟩, h2⟩
theorem q_tsO {d lo hi : Int} {offs : Array Int} {x : Int32} (tgt : Nat) (hd : decode (zB m) pc = .ok (.tableswitch d lo hi offs, n)) (h : x.toInt < lo ∨ hi < x.toInt) (ht : (pc : Int) + d = tgt) (k : qW R m Q tgt l st M) : qW R m Q pc l (.int x :: st) M := by
  obtain ⟨f, v, M', h1, h2⟩ := k; exact q_of hd ⟨f, v, M', ⟨x, st, rfl, fun _ => ⟨tgt, ht, h1⟩, fun q => absurd h q⟩, h2⟩
theorem q_tsI {d lo hi : Int} {offs : Array Int} {x : Int32} (off : Int) (tgt : Nat) (hd : decode (zB m) pc = .ok (.tableswitch d lo hi offs, n)) (h : ¬ (x.toInt < lo ∨ hi < x.toInt)) (ho : offs[(x.toInt - lo).toNat]? = some off) (ht : (pc : Int) + off = tgt) (k : qW R m Q tgt l st M) : qW R m Q pc l (.int x :: st) M := by
  obtain ⟨f, v, M', h1, h2⟩ := k; exact q_of hd ⟨f, v, M', ⟨x, st, rfl, fun q => absurd q h, fun _ => ⟨off, tgt, ho, ht, h1⟩⟩, h2⟩
/-- fields: ints, references -/
theorem q_geti {ix a c f : Nat} (hd : decode (zB m) pc = .ok (.getfield ix, 3)) (hf : zFld (zO m) ix = some (c, f) ∧ zF c f ≠ 1) (hk : zk M a = (c, 0)) (k : qW R m Q (pc + 3) l (.int (zi M a f) :: st) M) : qW R m Q pc l (.ref a :: st) M := by
  obtain ⟨g, v, M', h1, h2⟩ := k
  exact q_of hd ⟨g, v, M', ⟨rfl, a, st, c, f, rfl, hf.1, hk, by unfold zgv; rw [if_neg hf.2]; exact h1⟩, h2⟩
theorem q_getr {ix a c f : Nat} {r : Option Nat} (hd : decode (zB m) pc = .ok (.getfield ix, 3)) (hf : zFld (zO m) ix = some (c, f) ∧ zF c f = 1) (hk : zk M a = (c, 0)) (hr : zr M a f = r) (k : qW R m Q (pc + 3) l (va_rf r :: st) M) : qW R m Q pc l (.ref a :: st) M := by
  subst hr
  obtain ⟨g, v, M', h1, h2⟩ := k
  exact q_of hd ⟨g, v, M', ⟨rfl, a, st, c, f, rfl, hf.1, hk, by unfold zgv; rw [if_pos hf.2]; exact h1⟩, h2⟩
theorem q_puti {ix a c f : Nat} {x : Int32} (hd : decode (zB m) pc = .ok (.putfield ix, 3)) (hf : zFld (zO m) ix = some (c, f) ∧ zF c f = 0 ∧ (((zCl.getD c ("", zT0, 0)).2.1 f).2.2.2 = true → (zNm m).name = "<init>" ∧ zO m = c)) (hk : zk M a = (c, 0)) (k : qW R m Q (pc + 3) l st (zwi M a f x)) : qW R m Q pc l (.int x :: .ref a :: st) M := by
  obtain ⟨g, v, M', h1, h2⟩ := k
  exact q_of hd ⟨g, v, M', ⟨rfl, .int x, a, st, c, f, rfl, hf.1, hk, hf.2.2, Or.inl ⟨hf.2.1, x, rfl, h1⟩⟩, h2⟩
theorem q_putz {ix a c f : Nat} {x : Int32} (hd : decode (zB m) pc = .ok (.putfield ix, 3)) (hf : zFld (zO m) ix = some (c, f) ∧ zF c f = 2 ∧ (((zCl.getD c ("", zT0, 0)).2.1 f).2.2.2 = true → (zNm m).name = "<init>" ∧ zO m = c)) (hk : zk M a = (c, 0)) (hx : x = 0 ∨ x = 1) (k : qW R m Q (pc + 3) l st (zwi M a f x)) : qW R m Q pc l (.int x :: .ref a :: st) M := by
  obtain ⟨g, v, M', h1, h2⟩ := k
  exact q_of hd ⟨g, v, M', ⟨rfl, .int x, a, st, c, f, rfl, hf.1, hk, hf.2.2, Or.inr (Or.inl ⟨hf.2.1, x, rfl, hx, h1⟩)⟩, h2⟩
theorem q_putr {ix a c f : Nat} {r : Option Nat} (hd : decode (zB m) pc = .ok (.putfield ix, 3)) (hf : zFld (zO m) ix = some (c, f) ∧ zF c f = 1 ∧ (((zCl.getD c ("", zT0, 0)).2.1 f).2.2.2 = true → (zNm m).name = "<init>" ∧ zO m = c)) (hk : zk M a = (c, 0)) (k : qW R m Q (pc + 3) l st (zwr M a f r)) : qW R m Q pc l (va_rf r :: .ref a :: st) M := by
  obtain ⟨g, v, M', h1, h2⟩ := k
  exact q_of hd ⟨g, v, M', ⟨rfl, va_rf r, a, st, c, f, rfl, hf.1, hk, hf.2.2, Or.inr (Or.inr ⟨hf.2.1, r, rfl, h1⟩)⟩, h2⟩
theorem q_getst {ix a : Nat} (hd : decode (zB m) pc = .ok (.getstatic ix, 3)) (hf : zSt (zO m) ix = some a) (k : qW R m Q (pc + 3) l (.ref a :: st) M) : qW R m Q pc l st M := by
  obtain ⟨g, v, M', h1, h2⟩ := k; exact q_of hd ⟨g, v, M', ⟨rfl, a, hf, h1⟩, h2⟩
theorem q_alen {a N : Nat} (hd : decode (zB m) pc = .ok (.arraylength, 1)) (hk : zk M a = (20, N) ∨ zk M a = (21, N) ∨ (a < 3 ∧ zk M a = (30, N))) (k : qW R m Q (pc + 1) l (.int (Int32.ofNat N) :: st) M) : qW R m Q pc l (.ref a :: st) M := by
  obtain ⟨g, v, M', h1, h2⟩ := k; exact q_of hd ⟨g, v, M', ⟨rfl, a, st, N, rfl, hk, h1⟩, h2⟩
theorem q_iald {a N : Nat} {j : Int32} {x : Int32} (hd : decode (zB m) pc = .ok (.iaload, 1)) (hk : zk M a = (20, N) ∨ (a < 3 ∧ zk M a = (30, N))) (hj : vp_in j N) (hx : zi M a j.toNatClampNeg = x) (k : qW R m Q (pc + 1) l (.int x :: st) M) : qW R m Q pc l (.int j :: .ref a :: st) M := by
  subst hx; obtain ⟨g, v, M', h1, h2⟩ := k; exact q_of hd ⟨g, v, M', ⟨rfl, j, a, st, N, rfl, hk, hj, h1⟩, h2⟩
theorem q_lald {a N : Nat} {j : Int32} {x : Int64} (hd : decode (zB m) pc = .ok (.laload, 1)) (hk : zk M a = (21, N)) (hj : vp_in j N) (hx : zl M a j.toNatClampNeg = x) (k : qW R m Q (pc + 1) l (.long x :: st) M) : qW R m Q pc l (.int j :: .ref a :: st) M := by
  subst hx; obtain ⟨g, v, M', h1, h2⟩ := k; exact q_of hd ⟨g, v, M', ⟨rfl, j, a, st, N, rfl, hk, hj, h1⟩, h2⟩
theorem q_aald {a t N : Nat} {j : Int32} {r : Option Nat} (hd : decode (zB m) pc = .ok (.aaload, 1)) (hk : zk M a = (t, N)) (ht : 22 ≤ t ∧ t < 27) (hj : vp_in j N) (hr : zr M a j.toNatClampNeg = r) (k : qW R m Q (pc + 1) l (va_rf r :: st) M) : qW R m Q pc l (.int j :: .ref a :: st) M := by
  subst hr; obtain ⟨g, v, M', h1, h2⟩ := k; exact q_of hd ⟨g, v, M', ⟨rfl, j, a, st, t, N, rfl, hk, ht.1, ht.2, hj, h1⟩, h2⟩
theorem q_iast {a N : Nat} {j x : Int32} (hd : decode (zB m) pc = .ok (.iastore, 1)) (hk : zk M a = (20, N)) (hj : vp_in j N) (k : qW R m Q (pc + 1) l st (zwi M a j.toNatClampNeg x)) : qW R m Q pc l (.int x :: .int j :: .ref a :: st) M := by
  obtain ⟨g, v, M', h1, h2⟩ := k; exact q_of hd ⟨g, v, M', ⟨rfl, x, j, a, st, N, rfl, hk, hj, h1⟩, h2⟩
theorem q_last {a N : Nat} {j : Int32} {x : Int64} (hd : decode (zB m) pc = .ok (.lastore, 1)) (hk : zk M a = (21, N)) (hj : vp_in j N) (k : qW R m Q (pc + 1) l st (zwl M a j.toNatClampNeg x)) : qW R m Q pc l (.long x :: .int j :: .ref a :: st) M := by
  obtain ⟨g, v, M', h1, h2⟩ := k; exact q_of hd ⟨g, v, M', ⟨rfl, x, j, a, st, N, rfl, hk, hj, h1⟩, h2⟩
theorem q_newi {N : Nat} {z : Int32} (hd : decode (zB m) pc = .ok (.newarray .int, 2)) (hz : ¬ z < 0) (hN : z.toNatClampNeg = N) (h6 : N ≤ 65536) (k : qW R m Q (pc + 2) l (.ref (zn M) :: st) (znw M 20 N N)) : qW R m Q pc l (.int z :: st) M := by
  obtain ⟨g, v, M', h1, h2⟩ := k; exact q_of hd ⟨g, v, M', ⟨rfl, z, st, N, rfl, hz, hN, h6, Or.inl ⟨rfl, h1⟩⟩, h2⟩
/-- calls -/
theorem q_static {ix y : Nat} {as : List Value} {w : Option Value} {M1 : zM} (hd : decode (zB m) pc = .ok (.invokestatic ix, 3)) (hc : zCall (zO m) ix = some (1, y) ∨ zCall (zO m) ix = some (4, y)) (hn : as.length = zA y) (hr : R y as M w M1) (h8 : zct st ≤ 8) (k : qW R m Q (pc + 3) l (w.toList ++ st) M1) : qW R m Q pc l (as.reverse ++ st) M := by
  obtain ⟨g, v, M', h1, h2⟩ := k
  rcases hc with hc | hc
  · exact q_of hd ⟨g, v, M', ⟨rfl, 1, y, hc, Or.inl ⟨Or.inl rfl, as, st, rfl, hn, h8, w, M1, hr, h1⟩⟩, h2⟩
  · exact q_of hd ⟨g, v, M', ⟨rfl, 4, y, hc, Or.inl ⟨Or.inr rfl, as, st, rfl, hn, h8, w, M1, hr, h1⟩⟩, h2⟩
theorem q_virt {ix y b : Nat} {as : List Value} {w : Option Value} {M1 : zM} (hd : decode (zB m) pc = .ok (.invokevirtual ix, 3)) (hc : zCall (zO m) ix = some (0, y)) (hn : as.length = zA y) (hk : zk M b = (zO y, 0)) (hr : R y (.ref b :: as) M w M1) (h8 : zct st ≤ 8) (k : qW R m Q (pc + 3) l (w.toList ++ st) M1) : qW R m Q pc l (as.reverse ++ .ref b :: st) M := by
  obtain ⟨g, v, M', h1, h2⟩ := k
  exact q_of hd ⟨g, v, M', ⟨rfl, 0, y, b, as, st, hc, rfl, Or.inl ⟨rfl, hn, hk, h8, w, M1, hr, h1⟩⟩, h2⟩
theorem q_str {ix y b : Nat} {as : List Value} {w : Option Value} {M1 : zM} (hd : decode (zB m) pc = .ok (.invokevirtual ix, 3)) (hc : zCall (zO m) ix = some (8, y) ∨ zCall (zO m) ix = some (9, y)) (hr : R y (.ref b :: as) M w M1) (h8 : zct st ≤ 8) (k : qW R m Q (pc + 3) l (w.toList ++ st) M1) : qW R m Q pc l (as.reverse ++ .ref b :: st) M := by
  obtain ⟨g, v, M', h1, h2⟩ := k
  rcases hc with hc | hc
  · exact q_of hd ⟨g, v, M', ⟨rfl, 8, y, b, as, st, hc, rfl, Or.inr ⟨Or.inl rfl, h8, w, M1, hr, h1⟩⟩, h2⟩
  · exact q_of hd ⟨g, v, M', ⟨rfl, 9, y, b, as, st, hc, rfl, Or.inr ⟨Or.inr rfl, h8, w, M1, hr, h1⟩⟩, h2⟩
theorem q_spec {ix y b : Nat} {as : List Value} {w : Option Value} {M1 : zM} (hd : decode (zB m) pc = .ok (.invokespecial ix, 3)) (hc : zCall (zO m) ix = some (2, y) ∨ zCall (zO m) ix = some (5, y)) (hn : as.length = zA y) (hk : zRk y = 0) (hr : R y (.ref b :: as) M w M1) (h8 : zct st ≤ 8) (k : qW R m Q (pc + 3) l (w.toList ++ st) M1) : qW R m Q pc l (as.reverse ++ .ref b :: st) M := by
  obtain ⟨g, v, M', h1, h2⟩ := k
  rcases hc with hc | hc
  · exact q_of hd ⟨g, v, M', ⟨rfl, 2, y, b, as, st, hc, rfl, Or.inr ⟨Or.inl rfl, hn, hk, h8, w, M1, hr, h1⟩⟩, h2⟩
  · exact q_of hd ⟨g, v, M', ⟨rfl, 5, y, b, as, st, hc, rfl, Or.inr ⟨Or.inr rfl, hn, hk, h8, w, M1, hr, h1⟩⟩, h2⟩
theorem q_copy {ix y a a0 n0 n1 : Nat} {N dp sp : Int32} (hd : decode (zB m) pc = .ok (.invokestatic ix, 3)) (hc : zCall (zO m) ix = some (7, y)) (h0 : zk M a0 = (20, n0)) (h1 : zk M a = (20, n1)) (hsp : ¬ sp < 0) (hdp : ¬ dp < 0) (hN : ¬ N < 0) (e0 : sp.toNatClampNeg + N.toNatClampNeg ≤ n0) (e1 : dp.toNatClampNeg + N.toNatClampNeg ≤ n1) (h8 : zct st ≤ 8)
    (k : qW R m Q (pc + 3) l st (zcp M a0 sp.toNatClampNeg a dp.toNatClampNeg N.toNatClampNeg)) : qW R m Q pc l (.int N :: .int dp :: .ref a :: .int sp :: .ref a0 :: st) M := by
  obtain ⟨g, v, M', g1, g2⟩ := k
  exact q_of hd ⟨g, v, M', ⟨rfl, 7, y, hc, Or.inr (Or.inl ⟨rfl, N, dp, sp, a, a0, st, n0, n1, rfl, h0, h1, hsp, hdp, hN, e0, e1, h8, g1⟩)⟩, g2⟩
theorem q_max {ix y : Nat} {a b : Int32} (hd : decode (zB m) pc = .ok (.invokestatic ix, 3)) (hc : zCall (zO m) ix = some (10, y)) (h8 : zct st ≤ 8) (k : qW R m Q (pc + 3) l (.int (if a < b then b else a) :: st) M) : qW R m Q pc l (.int b :: .int a :: st) M := by
  obtain ⟨g, v, M', g1, g2⟩ := k
  exact q_of hd ⟨g, v, M', ⟨rfl, 10, y, hc, Or.inr (Or.inr (Or.inl ⟨rfl, a, b, st, rfl, h8, g1⟩))⟩, g2⟩
theorem q_min {ix y : Nat} {a b : Int32} (hd : decode (zB m) pc = .ok (.invokestatic ix, 3)) (hc : zCall (zO m) ix = some (11, y)) (h8 : zct st ≤ 8) (k : qW R m Q (pc + 3) l (.int (if b < a then b else a) :: st) M) : qW R m Q pc l (.int b :: .int a :: st) M := by
  obtain ⟨g, v, M', g1, g2⟩ := k
  exact q_of hd ⟨g, v, M', ⟨rfl, 11, y, hc, Or.inr (Or.inr (Or.inr ⟨rfl, a, b, st, rfl, h8, g1⟩))⟩, g2⟩
theorem q_iret {x : Int32} (hd : decode (zB m) pc = .ok (.ireturn, 1)) (hk : zRk m = 1) (h : Q (some (.int x)) M) : qW R m Q pc l [.int x] M := q_of hd ⟨0, _, M, ⟨rfl, x, rfl, Or.inl hk, rfl, rfl⟩, h⟩
theorem q_zret {x : Int32} (hd : decode (zB m) pc = .ok (.ireturn, 1)) (hk : zRk m = 2) (hx : x = 0 ∨ x = 1) (h : Q (some (.int x)) M) : qW R m Q pc l [.int x] M := q_of hd ⟨0, _, M, ⟨rfl, x, rfl, Or.inr ⟨hk, hx⟩, rfl, rfl⟩, h⟩
theorem q_lret {x : Int64} (hd : decode (zB m) pc = .ok (.lreturn, 1)) (hk : zRk m = 3) (h : Q (some (.long x)) M) : qW R m Q pc l [.long x] M := q_of hd ⟨0, _, M, ⟨rfl, x, rfl, hk, rfl, rfl⟩, h⟩
theorem q_aret {r : Option Nat} (hd : decode (zB m) pc = .ok (.areturn, 1)) (hk : zRk m = 4) (h : Q (some (va_rf r)) M) : qW R m Q pc l [va_rf r] M := q_of hd ⟨0, _, M, ⟨rfl, r, rfl, hk, rfl, rfl⟩, h⟩
theorem q_ret (hd : decode (zB m) pc = .ok (.return_, 1)) (hk : zRk m = 0) (h : Q none M) : qW R m Q pc l [] M := q_of hd ⟨0, _, M, ⟨rfl, rfl, hk, rfl, rfl⟩, h⟩
end QR
/-- a method's run out of the walk of its body -/
theorem qC_of {d y : Nat} {as : List Value} {M : zM} {Q : Option Value → zM → Prop} (hy : y < 216) (hc : zct as ≤ zML y) (h : qW (zEv d) y Q 0 (lv_args 0 as) [] M) : qC (d + 1) y as M Q := by
  obtain ⟨f, v, M', h1, h2⟩ := h
  exact ⟨v, M', Or.inr (Or.inr ⟨hy, hc, f, h1⟩), h2⟩
/-- deeper is no harm -/
theorem zLoop_up {R R' : zRT} (hR : ∀ y as M v M', R y as M v M' → R' y as M v M') {m : Nat} {v : Option Value} {M' : zM} : ∀ (f pc : Nat) (l : List (Nat × Value)) (st : List Value) (M : zM), zLoop R m v M' f pc l st M → zLoop R' m v M' f pc l st M := by
  intro f
  induction f with
  | zero => intro _ _ _ _ h; exact h.elim
  | succ f ih =>
    intro pc l st M h
    obtain ⟨i, n, hd, h⟩ := h
    refine ⟨i, n, hd, ?_⟩
    have hcs : ∀ y as rest pc l, zCallS R (zLoop R m v M' f) pc l M y as rest → zCallS R' (zLoop R' m v M' f) pc l M y as rest := by
      intro y as rest pc l ⟨h8, w, M1, h1, h2⟩
      exact ⟨h8, w, M1, hR _ _ _ _ _ h1, ih _ _ _ _ h2⟩
    have hbr : ∀ (p A B A' B' : Prop), (A → A') → (B → B') → zbr p A B → zbr p A' B' := fun p A B A' B' hA hB h => ⟨fun q => hA (h.1 q), fun q => hB (h.2 q)⟩
    cases i with
    | ldc ix =>
      obtain ⟨e, h⟩ := h
      rcases h with ⟨x, h1, h⟩ | ⟨x, h1, h⟩
      · exact ⟨e, Or.inl ⟨x, h1, ih _ _ _ _ h⟩⟩
      · exact ⟨e, Or.inr ⟨x, h1, ih _ _ _ _ h⟩⟩
    | ifCond c off => obtain ⟨e, x, st', tgt, e1, e2, h⟩ := h; exact ⟨e, x, st', tgt, e1, e2, hbr _ _ _ _ _ (ih _ _ _ _) (ih _ _ _ _) h⟩
    | if_icmp c off => obtain ⟨e, x, y, st', tgt, e1, e2, h⟩ := h; exact ⟨e, x, y, st', tgt, e1, e2, hbr _ _ _ _ _ (ih _ _ _ _) (ih _ _ _ _) h⟩
    | ifnull off => obtain ⟨e, r, st', tgt, e1, e2, h⟩ := h; exact ⟨e, r, st', tgt, e1, e2, hbr _ _ _ _ _ (ih _ _ _ _) (ih _ _ _ _) h⟩
    | ifnonnull off => obtain ⟨e, r, st', tgt, e1, e2, h⟩ := h; exact ⟨e, r, st', tgt, e1, e2, hbr _ _ _ _ _ (ih _ _ _ _) (ih _ _ _ _) h⟩
    | tableswitch d lo hi offs =>
      obtain ⟨x, st', e, h⟩ := h
      exact ⟨x, st', e, hbr _ _ _ _ _ (fun ⟨t, e, h⟩ => ⟨t, e, ih _ _ _ _ h⟩) (fun ⟨o, t, e1, e2, h⟩ => ⟨o, t, e1, e2, ih _ _ _ _ h⟩) h⟩
    | putfield ix =>
      obtain ⟨e, w, a, st', c, f', e1, e2, e3, e4, h⟩ := h
      refine ⟨e, w, a, st', c, f', e1, e2, e3, e4, ?_⟩
      rcases h with ⟨e5, x, e6, h⟩ | ⟨e5, x, e6, e7, h⟩ | ⟨e5, x, e6, h⟩
      · exact Or.inl ⟨e5, x, e6, ih _ _ _ _ h⟩
      · exact Or.inr (Or.inl ⟨e5, x, e6, e7, ih _ _ _ _ h⟩)
      · exact Or.inr (Or.inr ⟨e5, x, e6, ih _ _ _ _ h⟩)
    | newarray t =>
      obtain ⟨e, z, st', N, e1, e2, e3, e4, h⟩ := h
      refine ⟨e, z, st', N, e1, e2, e3, e4, ?_⟩
      rcases h with ⟨e5, h⟩ | ⟨e5, h⟩
      · exact Or.inl ⟨e5, ih _ _ _ _ h⟩
      · exact Or.inr ⟨e5, ih _ _ _ _ h⟩
    | multianewarray ix d =>
      obtain ⟨e, z, j, st', N, J, e1, e2, e3, e4, e5, e6, h⟩ := h
      refine ⟨e, z, j, st', N, J, e1, e2, e3, e4, e5, e6, ?_⟩
      rcases h with ⟨g1, g2, g3, h⟩ | ⟨g1, g2, y, K, g3, g4, g5, g6, h⟩
      · exact Or.inl ⟨g1, g2, g3, ih _ _ _ _ h⟩
      · exact Or.inr ⟨g1, g2, y, K, g3, g4, g5, g6, ih _ _ _ _ h⟩
    | invokevirtual ix =>
      obtain ⟨e, kd, y, b, as, rest, e1, e2, h⟩ := h
      refine ⟨e, kd, y, b, as, rest, e1, e2, ?_⟩
      rcases h with ⟨g1, g2, g3, h⟩ | ⟨g1, h⟩
      · exact Or.inl ⟨g1, g2, g3, hcs _ _ _ _ _ h⟩
      · exact Or.inr ⟨g1, hcs _ _ _ _ _ h⟩
    | invokestatic ix =>
      obtain ⟨e, kd, y, e1, h⟩ := h
      refine ⟨e, kd, y, e1, ?_⟩
      rcases h with ⟨g1, as, rest, g2, g3, h⟩ | ⟨g1, N, dp, sp, a, a0, rest, n0, n1, g2, g3, g4, g5, g6, g7, g8, g9, ga, h⟩ | ⟨g1, a, b, rest, g2, g3, h⟩ | ⟨g1, a, b, rest, g2, g3, h⟩
      · exact Or.inl ⟨g1, as, rest, g2, g3, hcs _ _ _ _ _ h⟩
      · exact Or.inr (Or.inl ⟨g1, N, dp, sp, a, a0, rest, n0, n1, g2, g3, g4, g5, g6, g7, g8, g9, ga, ih _ _ _ _ h⟩)
      · exact Or.inr (Or.inr (Or.inl ⟨g1, a, b, rest, g2, g3, ih _ _ _ _ h⟩))
      · exact Or.inr (Or.inr (Or.inr ⟨g1, a, b, rest, g2, g3, ih _ _ _ _ h⟩))
    | invokespecial ix =>
      obtain ⟨e, kd, y, b, as, rest, e1, e2, h⟩ := h
      refine ⟨e, kd, y, b, as, rest, e1, e2, ?_⟩
      rcases h with ⟨g1, g2, g3, h⟩ | ⟨g1, g2, g3, h⟩
      · exact Or.inl ⟨g1, g2, g3, ih _ _ _ _ h⟩
      · exact Or.inr ⟨g1, g2, g3, hcs _ _ _ _ _ h⟩
    | ireturn => exact h
    | lreturn => exact h
    | areturn => exact h
    | return_ => exact h
    | _ => first
      | exact h.elim
      | (obtain ⟨e1, h⟩ := h; exact ⟨e1, ih _ _ _ _ h⟩)
      | (obtain ⟨e1, e2, h⟩ := h; exact ⟨e1, e2, ih _ _ _ _ h⟩)
      | (obtain ⟨e1, e2, e3, h⟩ := h; exact ⟨e1, e2, e3, ih _ _ _ _ h⟩)
      | (obtain ⟨e1, e2, e3, e4, h⟩ := h; exact ⟨e1, e2, e3, e4, ih _ _ _ _ h⟩)
      | (obtain ⟨e1, e2, e3, e4, e5, h⟩ := h; exact ⟨e1, e2, e3, e4, e5, ih _ _ _ _ h⟩)
      | (obtain ⟨e1, e2, e3, e4, e5, e6, h⟩ := h; exact ⟨e1, e2, e3, e4, e5, e6, ih _ _ _ _ h⟩)
      | (obtain ⟨e1, e2, e3, e4, e5, e6, e7, h⟩ := h; exact ⟨e1, e2, e3, e4, e5, e6, e7, ih _ _ _ _ h⟩)
      | (obtain ⟨e1, e2, e3, e4, e5, e6, e7, e8, h⟩ := h; exact ⟨e1, e2, e3, e4, e5, e6, e7, e8, ih _ _ _ _ h⟩)
      | (obtain ⟨e1, e2, e3, e4, e5, e6, e7, e8, e9, h⟩ := h; exact ⟨e1, e2, e3, e4, e5, e6, e7, e8, e9, ih _ _ _ _ h⟩)
      | (obtain ⟨e1, e2, e3, e4, e5, e6, e7, e8, e9, ea, h⟩ := h; exact ⟨e1, e2, e3, e4, e5, e6, e7, e8, e9, ea, ih _ _ _ _ h⟩)
      | (obtain ⟨e1, e2, e3, e4, e5, e6, e7, e8, e9, ea, eb, h⟩ := h; exact ⟨e1, e2, e3, e4, e5, e6, e7, e8, e9, ea, eb, ih _ _ _ _ h⟩)
      | (obtain ⟨e1, e2, e3, e4, e5, e6, e7, e8, e9, ea, eb, ec, h⟩ := h; exact ⟨e1, e2, e3, e4, e5, e6, e7, e8, e9, ea, eb, ec, ih _ _ _ _ h⟩)
theorem zEv_S : ∀ (d y : Nat) (as : List Value) (M : zM) (v : Option Value) (M' : zM), zEv d y as M v M' → zEv (d + 1) y as M v M' := by
  intro d
  induction d with
  | zero => intro _ _ _ _ _ h; exact h.elim
  | succ d ih =>
    intro y as M v M' h
    rcases h with ⟨e1, e2, h⟩ | ⟨e1, e2, h⟩ | ⟨e1, e2, f, h⟩
    · exact Or.inl ⟨e1, by omega, h⟩
    · exact Or.inr (Or.inl ⟨e1, by omega, h⟩)
    · exact Or.inr (Or.inr ⟨e1, e2, f, zLoop_up ih _ _ _ _ _ h⟩)
theorem zEv_up {d d' y : Nat} {as : List Value} {M : zM} {v : Option Value} {M' : zM} (h : zEv d y as M v M') (hd : d ≤ d') : zEv d' y as M v M' := by
  obtain ⟨k, rfl⟩ := Nat.exists_eq_add_of_le hd
  induction k with
  | zero => exact h
  | succ k ih => exact zEv_S _ _ _ _ _ _ (ih (by omega))
/-! ===== rows for numbers (nI), truths and the cells ===== -/
def bI (p : Bool) : Int32 := if p then 1 else 0
theorem bI_or (p : Bool) : bI p = 0 ∨ bI p = 1 := by cases p <;> simp [bI]
theorem bI_t {p : Bool} (h : p = true) : bI p = 1 := by subst h; rfl
theorem bI_f {p : Bool} (h : p = false) : bI p = 0 := by subst h; rfl
theorem wi_eq (M : zM) (a k : Nat) (v : Int32) (b j : Nat) : zi (zwi M a k v) b j = if b = a ∧ j = k then v else zi M b j := rfl
theorem wi_s (M : zM) (a k : Nat) (v : Int32) : zi (zwi M a k v) a k = v := by rw [wi_eq, if_pos ⟨rfl, rfl⟩]
theorem wi_n {M : zM} {a k b j : Nat} {v : Int32} (h : b ≠ a ∨ j ≠ k) : zi (zwi M a k v) b j = zi M b j := by rw [wi_eq, if_neg (by omega)]
theorem wr_eq (M : zM) (a k : Nat) (v : Option Nat) (b j : Nat) : zr (zwr M a k v) b j = if b = a ∧ j = k then v else zr M b j := rfl
theorem cp_eq (M : zM) (a0 s a d n b j : Nat) : zi (zcp M a0 s a d n) b j = if b = a ∧ d ≤ j ∧ j < d + n then zi M a0 (s + (j - d)) else zi M b j := rfl
theorem wl_eq (M : zM) (a k : Nat) (v : Int64) (b j : Nat) : zl (zwl M a k v) b j = if b = a ∧ j = k then v else zl M b j := rfl
theorem nI_inj {a b : Nat} (ha : a < 2147483648) (hb : b < 2147483648) (h : nI a = nI b) : a = b := (nI_eq ha hb).mp h
/-- a number that is a place of a row of n -/
def zix (x : Int32) (n : Nat) : Option Nat := if 0 ≤ x.toInt ∧ x.toInt < n then some x.toNatClampNeg else none
theorem zix_in {k n : Nat} (h : k < n) (hn : n ≤ 2147483648) : zix (nI k) n = some k := by
  have h1 : (nI k).toInt = k := nI_toInt (by omega)
  unfold zix; rw [if_pos (by omega), nI_clamp (by omega)]
theorem zix_c (x : Int32) {n : Nat} (hn : n ≤ 2147483648) : (∃ k, k < n ∧ x = nI k ∧ zix x n = some k) ∨ (zix x n = none ∧ ¬ (0 ≤ x.toInt ∧ x.toInt < n)) := by
  by_cases h : 0 ≤ x.toInt ∧ x.toInt < n
  · obtain ⟨k, h2, h3⟩ := nI_of (x := x) (by rw [Int32.lt_iff_toInt_lt]; have : (0 : Int32).toInt = 0 := rfl; omega)
    subst h3
    have h1 : (nI k).toInt = k := nI_toInt h2
    exact Or.inl ⟨k, by omega, rfl, zix_in (by omega) hn⟩
  · exact Or.inr ⟨if_neg h, h⟩
theorem zix_none {x : Int32} {n : Nat} (h : zix x n = none) : ¬ (0 ≤ x.toInt ∧ x.toInt < n) := by
  intro h2; unfold zix at h; rw [if_pos h2] at h; cases h
theorem zix_some {x : Int32} {n k : Nat} (h : zix x n = some k) : k < n ∧ x = nI k := by
  unfold zix at h
  split at h
  · rename_i h2
    obtain ⟨j, h3, h4⟩ := nI_of (x := x) (by rw [Int32.lt_iff_toInt_lt]; have : (0 : Int32).toInt = 0 := rfl; omega)
    subst h4
    have h1 : (nI j).toInt = j := nI_toInt h3
    rw [nI_clamp h3] at h
    cases h
    exact ⟨by omega, rfl⟩
  · cases h
/-- bits -/
theorem s_l : ∀ n, n < 32 → ((nI n &&& 31).toBitVec.smod 32).toNat = n := by decide +kernel
theorem n_or (a b : Nat) : nI a ||| nI b = nI (a ||| b) := by
  apply Int32.toBitVec_inj.1
  show BitVec.ofNat 32 a ||| BitVec.ofNat 32 b = BitVec.ofNat 32 (a ||| b)
  apply BitVec.eq_of_getLsbD_eq
  intro i hi
  simp [hi]
theorem n_and (a b : Nat) : nI a &&& nI b = nI (a &&& b) := by
  apply Int32.toBitVec_inj.1
  show BitVec.ofNat 32 a &&& BitVec.ofNat 32 b = BitVec.ofNat 32 (a &&& b)
  apply BitVec.eq_of_getLsbD_eq
  intro i hi
  simp [hi]
/-- a without b -/
def zdf (a b : Nat) : Nat := a ^^^ (a &&& b)
theorem zdf_bit (a b i : Nat) : (zdf a b).testBit i = (a.testBit i && !b.testBit i) := by
  unfold zdf; rw [Nat.testBit_xor, Nat.testBit_and]; cases a.testBit i <;> cases b.testBit i <;> rfl
theorem n_andn (a b : Nat) : nI a &&& (nI b ^^^ (-1)) = nI (zdf a b) := by
  apply Int32.toBitVec_inj.1
  show BitVec.ofNat 32 a &&& (BitVec.ofNat 32 b ^^^ (-1 : Int32).toBitVec) = BitVec.ofNat 32 (zdf a b)
  have h : (-1 : Int32).toBitVec = BitVec.allOnes 32 := by decide
  rw [h]
  apply BitVec.eq_of_getLsbD_eq
  intro i hi
  rw [BitVec.getLsbD_and, BitVec.getLsbD_xor, BitVec.getLsbD_allOnes, BitVec.getLsbD_ofNat, BitVec.getLsbD_ofNat, BitVec.getLsbD_ofNat, zdf_bit, decide_eq_true hi]
  cases a.testBit i <;> cases b.testBit i <;> rfl
theorem n_shl (a k : Nat) (hk : k < 32) : nI a <<< (nI k &&& 31) = nI (a <<< k) := by
  apply Int32.toBitVec_inj.1
  rw [Int32.toBitVec_shiftLeft]
  show (BitVec.ofNat 32 a <<< ((nI k &&& 31).toBitVec.smod 32).toNat) = BitVec.ofNat 32 (a <<< k)
  rw [s_l k hk]
  apply BitVec.eq_of_getLsbD_eq
  intro i hi
  rw [BitVec.getLsbD_shiftLeft, BitVec.getLsbD_ofNat, BitVec.getLsbD_ofNat, Nat.testBit_shiftLeft, decide_eq_true hi]
  by_cases h : i < k
  · have h2 : ¬ i ≥ k := by omega
    simp [h, h2]
  · have h2 : i ≥ k := by omega
    have h3 : i - k < 32 := by omega
    simp [h, h2, h3]
theorem n_shr {a k : Nat} (ha : a < 2147483648) (hk : k < 32) : nI a >>> (nI k &&& 31) = nI (a >>> k) := by
  rw [pk_shrN ha _ k (s_l k hk), Nat.shiftRight_eq_div_pow]
theorem n_bit {a k : Nat} (ha : a < 2147483648) (hk : k < 32) : nI a >>> (nI k &&& 31) &&& nI 1 = bI (a.testBit k) := by
  rw [n_shr ha hk, n_and]
  have h : a >>> k &&& 1 = if a.testBit k then 1 else 0 := by
    rw [Nat.and_one_is_mod, Nat.testBit_eq_decide_div_mod_eq, Nat.shiftRight_eq_div_pow]
    have := Nat.mod_two_eq_zero_or_one (a / 2 ^ k)
    rcases this with h | h <;> simp [h]
  rw [h]
  cases a.testBit k <;> rfl
theorem pow_lt {k n : Nat} (h : k < n) : 2 ^ k < 2 ^ n := Nat.pow_lt_pow_right (by omega) h
theorem one_shl (k : Nat) : 1 <<< k = 2 ^ k := by rw [Nat.shiftLeft_eq, Nat.one_mul]
section QN
variable {R : zRT} {m : Nat} {Q : Option Value → zM → Prop} {pc n : Nat} {l l' : List (Nat × Value)} {st : List Value} {M : zM}
theorem nc_lt {off : Int} {x y : Nat} (tgt : Nat) (hd : decode (zB m) pc = .ok (.if_icmp .lt off, 3)) (ht : (pc : Int) + off = tgt) (hx : x < 2147483648) (hy : y < 2147483648) (kt : x < y → qW R m Q tgt l st M) (kf : y ≤ x → qW R m Q (pc + 3) l st M) : qW R m Q pc l (.int (nI y) :: .int (nI x) :: st) M :=
  q_icmp tgt hd ht (fun h => kt ((nI_ltI hx hy).mp h)) (fun h => kf (by have h2 := (not_congr (nI_ltI hx hy)).mp h; omega))
theorem n0_lt {off : Int} {x : Nat} (tgt : Nat) (hd : decode (zB m) pc = .ok (.ifCond .lt off, 3)) (ht : (pc : Int) + off = tgt) (hx : x < 2147483648) (kt : x < 0 → qW R m Q tgt l st M) (kf : 0 ≤ x → qW R m Q (pc + 3) l st M) : qW R m Q pc l (.int (nI x) :: st) M :=
  q_if tgt hd ht (fun h => kt ((nI_ltI hx (Nat.le_of_ble_eq_true rfl : 0 < 2 ^ 31)).mp h)) (fun h => kf (by have h2 := (not_congr (nI_ltI hx (Nat.le_of_ble_eq_true rfl : 0 < 2 ^ 31))).mp h; omega))
theorem nc_ge {off : Int} {x y : Nat} (tgt : Nat) (hd : decode (zB m) pc = .ok (.if_icmp .ge off, 3)) (ht : (pc : Int) + off = tgt) (hx : x < 2147483648) (hy : y < 2147483648) (kt : y ≤ x → qW R m Q tgt l st M) (kf : x < y → qW R m Q (pc + 3) l st M) : qW R m Q pc l (.int (nI y) :: .int (nI x) :: st) M :=
  q_icmp tgt hd ht (fun h => kt ((nI_leI hy hx).mp h)) (fun h => kf (by have h2 := (not_congr (nI_leI hy hx)).mp h; omega))
theorem n0_ge {off : Int} {x : Nat} (tgt : Nat) (hd : decode (zB m) pc = .ok (.ifCond .ge off, 3)) (ht : (pc : Int) + off = tgt) (hx : x < 2147483648) (kt : 0 ≤ x → qW R m Q tgt l st M) (kf : x < 0 → qW R m Q (pc + 3) l st M) : qW R m Q pc l (.int (nI x) :: st) M :=
  q_if tgt hd ht (fun h => kt ((nI_leI (Nat.le_of_ble_eq_true rfl : 0 < 2 ^ 31) hx).mp h)) (fun h => kf (by have h2 := (not_congr (nI_leI (Nat.le_of_ble_eq_true rfl : 0 < 2 ^ 31) hx)).mp h; omega))
theorem nc_gt {off : Int} {x y : Nat} (tgt : Nat) (hd : decode (zB m) pc = .ok (.if_icmp .gt off, 3)) (ht : (pc : Int) + off = tgt) (hx : x < 2147483648) (hy : y < 2147483648) (kt : y < x → qW R m Q tgt l st M) (kf : x ≤ y → qW R m Q (pc + 3) l st M) : qW R m Q pc l (.int (nI y) :: .int (nI x) :: st) M :=
  q_icmp tgt hd ht (fun h => kt ((nI_ltI hy hx).mp h)) (fun h => kf (by have h2 := (not_congr (nI_ltI hy hx)).mp h; omega))
theorem n0_gt {off : Int} {x : Nat} (tgt : Nat) (hd : decode (zB m) pc = .ok (.ifCond .gt off, 3)) (ht : (pc : Int) + off = tgt) (hx : x < 2147483648) (kt : 0 < x → qW R m Q tgt l st M) (kf : x ≤ 0 → qW R m Q (pc + 3) l st M) : qW R m Q pc l (.int (nI x) :: st) M :=
  q_if tgt hd ht (fun h => kt ((nI_ltI (Nat.le_of_ble_eq_true rfl : 0 < 2 ^ 31) hx).mp h)) (fun h => kf (by have h2 := (not_congr (nI_ltI (Nat.le_of_ble_eq_true rfl : 0 < 2 ^ 31) hx)).mp h; omega))
theorem nc_le {off : Int} {x y : Nat} (tgt : Nat) (hd : decode (zB m) pc = .ok (.if_icmp .le off, 3)) (ht : (pc : Int) + off = tgt) (hx : x < 2147483648) (hy : y < 2147483648) (kt : x ≤ y → qW R m Q tgt l st M) (kf : y < x → qW R m Q (pc + 3) l st M) : qW R m Q pc l (.int (nI y) :: .int (nI x) :: st) M :=
  q_icmp tgt hd ht (fun h => kt ((nI_leI hx hy).mp h)) (fun h => kf (by have h2 := (not_congr (nI_leI hx hy)).mp h; omega))
theorem n0_le {off : Int} {x : Nat} (tgt : Nat) (hd : decode (zB m) pc = .ok (.ifCond .le off, 3)) (ht : (pc : Int) + off = tgt) (hx : x < 2147483648) (kt : x ≤ 0 → qW R m Q tgt l st M) (kf : 0 < x → qW R m Q (pc + 3) l st M) : qW R m Q pc l (.int (nI x) :: st) M :=
  q_if tgt hd ht (fun h => kt ((nI_leI hx (Nat.le_of_ble_eq_true rfl : 0 < 2 ^ 31)).mp h)) (fun h => kf (by have h2 := (not_congr (nI_leI hx (Nat.le_of_ble_eq_true rfl : 0 < 2 ^ 31))).mp h; omega))
theorem nc_eq {off : Int} {x y : Nat} (tgt : Nat) (hd : decode (zB m) pc = .ok (.if_icmp .eq off, 3)) (ht : (pc : Int) + off = tgt) (hx : x < 2147483648) (hy : y < 2147483648) (kt : x = y → qW R m Q tgt l st M) (kf : ¬ x = y → qW R m Q (pc + 3) l st M) : qW R m Q pc l (.int (nI y) :: .int (nI x) :: st) M :=
  q_icmp tgt hd ht (fun h => kt ((nI_eq hx hy).mp h)) (fun h => kf (by have h2 := (not_congr (nI_eq hx hy)).mp h; omega))
theorem n0_eq {off : Int} {x : Nat} (tgt : Nat) (hd : decode (zB m) pc = .ok (.ifCond .eq off, 3)) (ht : (pc : Int) + off = tgt) (hx : x < 2147483648) (kt : x = 0 → qW R m Q tgt l st M) (kf : ¬ x = 0 → qW R m Q (pc + 3) l st M) : qW R m Q pc l (.int (nI x) :: st) M :=
  q_if tgt hd ht (fun h => kt ((nI_eq hx (Nat.le_of_ble_eq_true rfl : 0 < 2 ^ 31)).mp h)) (fun h => kf (by have h2 := (not_congr (nI_eq hx (Nat.le_of_ble_eq_true rfl : 0 < 2 ^ 31))).mp h; omega))
theorem nc_ne {off : Int} {x y : Nat} (tgt : Nat) (hd : decode (zB m) pc = .ok (.if_icmp .ne off, 3)) (ht : (pc : Int) + off = tgt) (hx : x < 2147483648) (hy : y < 2147483648) (kt : ¬ x = y → qW R m Q tgt l st M) (kf : x = y → qW R m Q (pc + 3) l st M) : qW R m Q pc l (.int (nI y) :: .int (nI x) :: st) M :=
  q_icmp tgt hd ht (fun h => kt (fun e => h (congrArg nI e))) (fun h => kf ((nI_eq hx hy).mp (Classical.not_not.mp h)))
theorem n0_ne {off : Int} {x : Nat} (tgt : Nat) (hd : decode (zB m) pc = .ok (.ifCond .ne off, 3)) (ht : (pc : Int) + off = tgt) (hx : x < 2147483648) (kt : ¬ x = 0 → qW R m Q tgt l st M) (kf : x = 0 → qW R m Q (pc + 3) l st M) : qW R m Q pc l (.int (nI x) :: st) M :=
  q_if tgt hd ht (fun h => kt (fun e => h (congrArg nI e))) (fun h => kf ((nI_eq (b := 0) hx (by omega)).mp (Classical.not_not.mp h)))
theorem ic_lt {off : Int} {x y : Int32} (tgt : Nat) (hd : decode (zB m) pc = .ok (.if_icmp .lt off, 3)) (ht : (pc : Int) + off = tgt) (kt : x < y → qW R m Q tgt l st M) (kf : ¬ x < y → qW R m Q (pc + 3) l st M) : qW R m Q pc l (.int y :: .int x :: st) M := q_icmp tgt hd ht kt kf
theorem i0_lt {off : Int} {x : Int32} (tgt : Nat) (hd : decode (zB m) pc = .ok (.ifCond .lt off, 3)) (ht : (pc : Int) + off = tgt) (kt : x < 0 → qW R m Q tgt l st M) (kf : ¬ x < 0 → qW R m Q (pc + 3) l st M) : qW R m Q pc l (.int x :: st) M := q_if tgt hd ht kt kf
theorem ic_ge {off : Int} {x y : Int32} (tgt : Nat) (hd : decode (zB m) pc = .ok (.if_icmp .ge off, 3)) (ht : (pc : Int) + off = tgt) (kt : y ≤ x → qW R m Q tgt l st M) (kf : ¬ y ≤ x → qW R m Q (pc + 3) l st M) : qW R m Q pc l (.int y :: .int x :: st) M := q_icmp tgt hd ht kt kf
theorem i0_ge {off : Int} {x : Int32} (tgt : Nat) (hd : decode (zB m) pc = .ok (.ifCond .ge off, 3)) (ht : (pc : Int) + off = tgt) (kt : 0 ≤ x → qW R m Q tgt l st M) (kf : ¬ 0 ≤ x → qW R m Q (pc + 3) l st M) : qW R m Q pc l (.int x :: st) M := q_if tgt hd ht kt kf
theorem ic_gt {off : Int} {x y : Int32} (tgt : Nat) (hd : decode (zB m) pc = .ok (.if_icmp .gt off, 3)) (ht : (pc : Int) + off = tgt) (kt : y < x → qW R m Q tgt l st M) (kf : ¬ y < x → qW R m Q (pc + 3) l st M) : qW R m Q pc l (.int y :: .int x :: st) M := q_icmp tgt hd ht kt kf
theorem i0_gt {off : Int} {x : Int32} (tgt : Nat) (hd : decode (zB m) pc = .ok (.ifCond .gt off, 3)) (ht : (pc : Int) + off = tgt) (kt : 0 < x → qW R m Q tgt l st M) (kf : ¬ 0 < x → qW R m Q (pc + 3) l st M) : qW R m Q pc l (.int x :: st) M := q_if tgt hd ht kt kf
theorem ic_le {off : Int} {x y : Int32} (tgt : Nat) (hd : decode (zB m) pc = .ok (.if_icmp .le off, 3)) (ht : (pc : Int) + off = tgt) (kt : x ≤ y → qW R m Q tgt l st M) (kf : ¬ x ≤ y → qW R m Q (pc + 3) l st M) : qW R m Q pc l (.int y :: .int x :: st) M := q_icmp tgt hd ht kt kf
theorem i0_le {off : Int} {x : Int32} (tgt : Nat) (hd : decode (zB m) pc = .ok (.ifCond .le off, 3)) (ht : (pc : Int) + off = tgt) (kt : x ≤ 0 → qW R m Q tgt l st M) (kf : ¬ x ≤ 0 → qW R m Q (pc + 3) l st M) : qW R m Q pc l (.int x :: st) M := q_if tgt hd ht kt kf
theorem ic_eq {off : Int} {x y : Int32} (tgt : Nat) (hd : decode (zB m) pc = .ok (.if_icmp .eq off, 3)) (ht : (pc : Int) + off = tgt) (kt : x = y → qW R m Q tgt l st M) (kf : ¬ x = y → qW R m Q (pc + 3) l st M) : qW R m Q pc l (.int y :: .int x :: st) M := q_icmp tgt hd ht kt kf
theorem i0_eq {off : Int} {x : Int32} (tgt : Nat) (hd : decode (zB m) pc = .ok (.ifCond .eq off, 3)) (ht : (pc : Int) + off = tgt) (kt : x = 0 → qW R m Q tgt l st M) (kf : ¬ x = 0 → qW R m Q (pc + 3) l st M) : qW R m Q pc l (.int x :: st) M := q_if tgt hd ht kt kf
theorem ic_ne {off : Int} {x y : Int32} (tgt : Nat) (hd : decode (zB m) pc = .ok (.if_icmp .ne off, 3)) (ht : (pc : Int) + off = tgt) (kt : ¬ x = y → qW R m Q tgt l st M) (kf : x = y → qW R m Q (pc + 3) l st M) : qW R m Q pc l (.int y :: .int x :: st) M := q_icmp tgt hd ht kt (fun h => kf (Classical.not_not.mp h))
theorem i0_ne {off : Int} {x : Int32} (tgt : Nat) (hd : decode (zB m) pc = .ok (.ifCond .ne off, 3)) (ht : (pc : Int) + off = tgt) (kt : ¬ x = 0 → qW R m Q tgt l st M) (kf : x = 0 → qW R m Q (pc + 3) l st M) : qW R m Q pc l (.int x :: st) M := q_if tgt hd ht kt (fun h => kf (Classical.not_not.mp h))
theorem b0_eq {off : Int} {p : Bool} (tgt : Nat) (hd : decode (zB m) pc = .ok (.ifCond .eq off, 3)) (ht : (pc : Int) + off = tgt) (kt : p = false → qW R m Q tgt l st M) (kf : p = true → qW R m Q (pc + 3) l st M) : qW R m Q pc l (.int (bI p) :: st) M := by
  cases p
  · exact q_if tgt hd ht (fun _ => kt rfl) (fun h => absurd rfl h)
  · exact q_if tgt hd ht (fun h => absurd h (show ¬ (1 : Int32) = 0 by decide)) (fun _ => kf rfl)
theorem b0_ne {off : Int} {p : Bool} (tgt : Nat) (hd : decode (zB m) pc = .ok (.ifCond .ne off, 3)) (ht : (pc : Int) + off = tgt) (kt : p = true → qW R m Q tgt l st M) (kf : p = false → qW R m Q (pc + 3) l st M) : qW R m Q pc l (.int (bI p) :: st) M := by
  cases p
  · exact q_if tgt hd ht (fun h => absurd rfl h) (fun _ => kf rfl)
  · exact q_if tgt hd ht (fun _ => kt rfl) (fun h => absurd (by decide : ¬ (1 : Int32) = 0) h)
theorem q_iconstN {z : Nat} (hd : decode (zB m) pc = .ok (.iconst (z : Int), 1)) (k : qW R m Q (pc + 1) l (.int (nI z) :: st) M) : qW R m Q pc l st M :=
  q_iconst hd Int32.ofInt_eq_ofNat k
theorem n_iinc {j x : Nat} (z : Nat) (hd : decode (zB m) pc = .ok (.iinc j (z : Int), 3)) (hj : j < zML m) (hx : zld l j = some (.int (nI x))) (hl : zst l j (.int (nI (x + z))) = l') (k : qW R m Q (pc + 3) l' st M) : qW R m Q pc l st M :=
  q_iinc hd hj hx (by rw [Int32.ofInt_eq_ofNat]; exact nI_add x z) hl k
theorem n_iadd {x y : Nat} (hd : decode (zB m) pc = .ok (.iadd, 1)) (k : qW R m Q (pc + 1) l (.int (nI (x + y)) :: st) M) : qW R m Q pc l (.int (nI y) :: .int (nI x) :: st) M :=
  q_iadd hd (by rw [nI_add]; exact k)
theorem n_isub {x y : Nat} (hd : decode (zB m) pc = .ok (.isub, 1)) (h : y ≤ x) (k : qW R m Q (pc + 1) l (.int (nI (x - y)) :: st) M) : qW R m Q pc l (.int (nI y) :: .int (nI x) :: st) M :=
  q_isub hd (by rw [pk_sub h]; exact k)
theorem n_imul {x y : Nat} (hd : decode (zB m) pc = .ok (.imul, 1)) (k : qW R m Q (pc + 1) l (.int (nI (x * y)) :: st) M) : qW R m Q pc l (.int (nI y) :: .int (nI x) :: st) M :=
  q_imul hd (by rw [pk_mul]; exact k)
theorem n_idiv {x y : Nat} (hd : decode (zB m) pc = .ok (.idiv, 1)) (hx : x < 2147483648) (h0 : 0 < y) (hy : y < 2147483648) (k : qW R m Q (pc + 1) l (.int (nI (x / y)) :: st) M) : qW R m Q pc l (.int (nI y) :: .int (nI x) :: st) M :=
  q_idiv hd (nI_ne0 h0 hy) (by rw [pk_div hx h0 hy]; exact k)
theorem n_irem {x y : Nat} (hd : decode (zB m) pc = .ok (.irem, 1)) (hx : x < 2147483648) (h0 : 0 < y) (hy : y < 2147483648) (k : qW R m Q (pc + 1) l (.int (nI (x % y)) :: st) M) : qW R m Q pc l (.int (nI y) :: .int (nI x) :: st) M :=
  q_irem hd (nI_ne0 h0 hy) (by rw [pk_rem hx h0 hy]; exact k)
theorem n_iand {x y : Nat} (hd : decode (zB m) pc = .ok (.iand, 1)) (k : qW R m Q (pc + 1) l (.int (nI (x &&& y)) :: st) M) : qW R m Q pc l (.int (nI y) :: .int (nI x) :: st) M :=
  q_iand hd (by rw [n_and]; exact k)
theorem n_ior {x y : Nat} (hd : decode (zB m) pc = .ok (.ior, 1)) (k : qW R m Q (pc + 1) l (.int (nI (x ||| y)) :: st) M) : qW R m Q pc l (.int (nI y) :: .int (nI x) :: st) M :=
  q_ior hd (by rw [n_or]; exact k)
theorem n_iandn {x y : Nat} (hd : decode (zB m) pc = .ok (.iand, 1)) (k : qW R m Q (pc + 1) l (.int (nI (zdf x y)) :: st) M) : qW R m Q pc l (.int (nI y ^^^ (-1)) :: .int (nI x) :: st) M :=
  q_iand hd (by rw [n_andn]; exact k)
theorem n_ishl1 {y : Nat} (hd : decode (zB m) pc = .ok (.ishl, 1)) (hy : y < 32) (k : qW R m Q (pc + 1) l (.int (nI (2 ^ y)) :: st) M) : qW R m Q pc l (.int (nI y) :: .int (nI 1) :: st) M :=
  q_ishl hd (by rw [n_shl 1 y hy, one_shl]; exact k)
theorem n_iald {a N j : Nat} {x : Int32} (hd : decode (zB m) pc = .ok (.iaload, 1)) (hk : zk M a = (20, N)) (hj : j < N) (hN : N < 2147483648) (hx : zi M a j = x) (k : qW R m Q (pc + 1) l (.int x :: st) M) : qW R m Q pc l (.int (nI j) :: .ref a :: st) M :=
  q_iald hd (Or.inl hk) (vp_in_nI hj hN) (by rw [nI_clamp (Nat.lt_trans hj hN)]; exact hx) k
theorem n_ialds {a N j : Nat} {x : Int32} (hd : decode (zB m) pc = .ok (.iaload, 1)) (hk : a < 3 ∧ zk M a = (30, N)) (hj : j < N) (hN : N < 2147483648) (hx : zi M a j = x) (k : qW R m Q (pc + 1) l (.int x :: st) M) : qW R m Q pc l (.int (nI j) :: .ref a :: st) M :=
  q_iald hd (Or.inr hk) (vp_in_nI hj hN) (by rw [nI_clamp (Nat.lt_trans hj hN)]; exact hx) k
theorem n_lald {a N j : Nat} {x : Int64} (hd : decode (zB m) pc = .ok (.laload, 1)) (hk : zk M a = (21, N)) (hj : j < N) (hN : N < 2147483648) (hx : zl M a j = x) (k : qW R m Q (pc + 1) l (.long x :: st) M) : qW R m Q pc l (.int (nI j) :: .ref a :: st) M :=
  q_lald hd hk (vp_in_nI hj hN) (by rw [nI_clamp (Nat.lt_trans hj hN)]; exact hx) k
theorem n_aald {a t N j : Nat} {r : Option Nat} (hd : decode (zB m) pc = .ok (.aaload, 1)) (hk : zk M a = (t, N)) (ht : 22 ≤ t ∧ t < 27) (hj : j < N) (hN : N < 2147483648) (hr : zr M a j = r) (k : qW R m Q (pc + 1) l (va_rf r :: st) M) : qW R m Q pc l (.int (nI j) :: .ref a :: st) M :=
  q_aald hd hk ht (vp_in_nI hj hN) (by rw [nI_clamp (Nat.lt_trans hj hN)]; exact hr) k
theorem n_iast {a N j : Nat} {x : Int32} (hd : decode (zB m) pc = .ok (.iastore, 1)) (hk : zk M a = (20, N)) (hj : j < N) (hN : N < 2147483648) (k : qW R m Q (pc + 1) l st (zwi M a j x)) : qW R m Q pc l (.int x :: .int (nI j) :: .ref a :: st) M :=
  q_iast hd hk (vp_in_nI hj hN) (by rw [nI_clamp (Nat.lt_trans hj hN)]; exact k)
theorem n_last {a N j : Nat} {x : Int64} (hd : decode (zB m) pc = .ok (.lastore, 1)) (hk : zk M a = (21, N)) (hj : j < N) (hN : N < 2147483648) (k : qW R m Q (pc + 1) l st (zwl M a j x)) : qW R m Q pc l (.long x :: .int (nI j) :: .ref a :: st) M :=
  q_last hd hk (vp_in_nI hj hN) (by rw [nI_clamp (Nat.lt_trans hj hN)]; exact k)
theorem n_alen {a N : Nat} (hd : decode (zB m) pc = .ok (.arraylength, 1)) (hk : zk M a = (20, N) ∨ zk M a = (21, N)) (k : qW R m Q (pc + 1) l (.int (nI N) :: st) M) : qW R m Q pc l (.ref a :: st) M :=
  q_alen hd (by rcases hk with h | h; exact Or.inl h; exact Or.inr (Or.inl h)) k
theorem n_copy {ix y a a0 n0 n1 N dp sp : Nat} (hd : decode (zB m) pc = .ok (.invokestatic ix, 3)) (hc : zCall (zO m) ix = some (7, y)) (h0 : zk M a0 = (20, n0)) (h1 : zk M a = (20, n1)) (b0 : n0 < 2147483648) (b1 : n1 < 2147483648) (e0 : sp + N ≤ n0) (e1 : dp + N ≤ n1) (h8 : zct st ≤ 8)
    (k : qW R m Q (pc + 3) l st (zcp M a0 sp a dp N)) : qW R m Q pc l (.int (nI N) :: .int (nI dp) :: .ref a :: .int (nI sp) :: .ref a0 :: st) M :=
  q_copy hd hc h0 h1 (nI_pos (by omega)) (nI_pos (by omega)) (nI_pos (by omega)) (by rw [nI_clamp (by omega), nI_clamp (by omega)]; exact e0) (by rw [nI_clamp (by omega), nI_clamp (by omega)]; exact e1) h8 (by rw [nI_clamp (by omega), nI_clamp (by omega), nI_clamp (by omega)]; exact k)
theorem q_getv {ix a c f : Nat} {x : Int32} (hd : decode (zB m) pc = .ok (.getfield ix, 3)) (hf : zFld (zO m) ix = some (c, f) ∧ zF c f ≠ 1) (hk : zk M a = (c, 0)) (hx : zi M a f = x) (k : qW R m Q (pc + 3) l (.int x :: st) M) : qW R m Q pc l (.ref a :: st) M := by
  subst hx; exact q_geti hd hf hk k
theorem n_ret {x : Nat} (hd : decode (zB m) pc = .ok (.ireturn, 1)) (hk : zRk m = 1) (h : Q (some (.int (nI x))) M) : qW R m Q pc l [.int (nI x)] M := q_iret hd hk h
theorem b_ret {p : Bool} (hd : decode (zB m) pc = .ok (.ireturn, 1)) (hk : zRk m = 2) (h : Q (some (.int (bI p))) M) : qW R m Q pc l [.int (bI p)] M := q_zret hd hk (bI_or p) h
theorem n_tsI {d lo hi : Int} {offs : Array Int} {x : Nat} (off : Int) (tgt : Nat) (hd : decode (zB m) pc = .ok (.tableswitch d lo hi offs, n)) (hx : x < 2147483648) (h : lo ≤ x ∧ (x : Int) ≤ hi) (ho : offs[((x : Int) - lo).toNat]? = some off) (ht : (pc : Int) + off = tgt) (k : qW R m Q tgt l st M) : qW R m Q pc l (.int (nI x) :: st) M :=
  q_tsI off tgt hd (by rw [nI_toInt hx]; omega) (by rw [nI_toInt hx]; exact ho) ht k
theorem n_tsO {d lo hi : Int} {offs : Array Int} {x : Nat} (tgt : Nat) (hd : decode (zB m) pc = .ok (.tableswitch d lo hi offs, n)) (hx : x < 2147483648) (h : (x : Int) < lo ∨ hi < x) (ht : (pc : Int) + d = tgt) (k : qW R m Q tgt l st M) : qW R m Q pc l (.int (nI x) :: st) M :=
  q_tsO tgt hd (by rw [nI_toInt hx]; omega) ht k
end QN
/-- cells that a run leaves as they are: all but those of S -/
def Fr (S : Nat → Nat → Prop) (M M' : zM) : Prop := (∀ a k, ¬ S a k → zi M' a k = zi M a k ∧ zr M' a k = zr M a k) ∧ zl M' = zl M ∧ zk M' = zk M ∧ zn M' = zn M ∧ zs M' = zs M
theorem Fr.refl (S : Nat → Nat → Prop) (M : zM) : Fr S M M := ⟨fun _ _ _ => ⟨rfl, rfl⟩, rfl, rfl, rfl, rfl⟩
theorem Fr.mono {S S' : Nat → Nat → Prop} {M M' : zM} (h : Fr S M M') (hs : ∀ a k, S a k → S' a k) : Fr S' M M' := ⟨fun a k q => h.1 a k (fun p => q (hs a k p)), h.2⟩
theorem Fr.trans {S : Nat → Nat → Prop} {M M' M'' : zM} (h : Fr S M M') (g : Fr S M' M'') : Fr S M M'' :=
  ⟨fun a k q => ⟨((g.1 a k q).1).trans (h.1 a k q).1, ((g.1 a k q).2).trans (h.1 a k q).2⟩, g.2.1.trans h.2.1, g.2.2.1.trans h.2.2.1, g.2.2.2.1.trans h.2.2.2.1, g.2.2.2.2.trans h.2.2.2.2⟩
theorem Fr.wi {S : Nat → Nat → Prop} {M M' : zM} {a k : Nat} {v : Int32} (h : Fr S M M') (hs : S a k) : Fr S M (zwi M' a k v) :=
  ⟨fun b j q => ⟨by rw [wi_n]; exact (h.1 b j q).1; by_cases e : b = a; (subst e; by_cases e2 : j = k; (subst e2; exact absurd hs q); exact Or.inr e2); exact Or.inl e, (h.1 b j q).2⟩, h.2⟩
theorem Fr.wr {S : Nat → Nat → Prop} {M M' : zM} {a k : Nat} {v : Option Nat} (h : Fr S M M') (hs : S a k) : Fr S M (zwr M' a k v) :=
  ⟨fun b j q => ⟨(h.1 b j q).1, by rw [wr_eq, if_neg (by rintro ⟨rfl, rfl⟩; exact q hs)]; exact (h.1 b j q).2⟩, h.2⟩
theorem Fr.cp {S : Nat → Nat → Prop} {M M' : zM} {a0 s a d n : Nat} (h : Fr S M M') (hs : ∀ j, d ≤ j → j < d + n → S a j) : Fr S M (zcp M' a0 s a d n) :=
  ⟨fun b j q => ⟨by rw [cp_eq, if_neg (by rintro ⟨rfl, h1, h2⟩; exact q (hs j h1 h2))]; exact (h.1 b j q).1, (h.1 b j q).2⟩, h.2⟩
theorem Fr.i {S : Nat → Nat → Prop} {M M' : zM} (h : Fr S M M') {a k : Nat} (hs : ¬ S a k) : zi M' a k = zi M a k := (h.1 a k hs).1
theorem Fr.r {S : Nat → Nat → Prop} {M M' : zM} (h : Fr S M M') {a k : Nat} (hs : ¬ S a k) : zr M' a k = zr M a k := (h.1 a k hs).2
theorem Fr.k {S : Nat → Nat → Prop} {M M' : zM} (h : Fr S M M') (a : Nat) : zk M' a = zk M a := congrFun h.2.2.1 a
theorem Fr.l {S : Nat → Nat → Prop} {M M' : zM} (h : Fr S M M') : zl M' = zl M := h.2.1
theorem q_s0 {d m pc ix y : Nat} {Q : Option Value → zM → Prop} {l : List (Nat × Value)} {st : List Value} {M : zM} (hd : decode (zB m) pc = .ok (.invokestatic ix, 3)) (hc : zCall (zO m) ix = some (1, y) ∨ zCall (zO m) ix = some (4, y)) (hn : 0 = zA y) (h8 : zct st ≤ 8) (h : qC d y [] M (fun w M1 => qW (zEv d) m Q (pc + 3) l (w.toList ++ st) M1)) : qW (zEv d) m Q pc l (st) M := by
  obtain ⟨w, M1, h1, h2⟩ := h
  exact q_static (as := []) hd hc hn h1 h8 h2
theorem q_v0 {b : Nat} {d m pc ix y : Nat} {Q : Option Value → zM → Prop} {l : List (Nat × Value)} {st : List Value} {M : zM} (hd : decode (zB m) pc = .ok (.invokevirtual ix, 3)) (hc : zCall (zO m) ix = some (0, y)) (hn : 0 = zA y) (hk : zk M b = (zO y, 0)) (h8 : zct st ≤ 8) (h : qC d y [.ref b] M (fun w M1 => qW (zEv d) m Q (pc + 3) l (w.toList ++ st) M1)) : qW (zEv d) m Q pc l (.ref b :: st) M := by
  obtain ⟨w, M1, h1, h2⟩ := h
  exact q_virt (as := []) hd hc hn hk h1 h8 h2
theorem q_i0 {b : Nat} {d m pc ix y : Nat} {Q : Option Value → zM → Prop} {l : List (Nat × Value)} {st : List Value} {M : zM} (hd : decode (zB m) pc = .ok (.invokespecial ix, 3)) (hc : zCall (zO m) ix = some (2, y) ∨ zCall (zO m) ix = some (5, y)) (hn : 0 = zA y) (hk : zRk y = 0) (h8 : zct st ≤ 8) (h : qC d y [.ref b] M (fun w M1 => qW (zEv d) m Q (pc + 3) l (w.toList ++ st) M1)) : qW (zEv d) m Q pc l (.ref b :: st) M := by
  obtain ⟨w, M1, h1, h2⟩ := h
  exact q_spec (as := []) hd hc hn hk h1 h8 h2
theorem q_t0 {b : Nat} {d m pc ix y : Nat} {Q : Option Value → zM → Prop} {l : List (Nat × Value)} {st : List Value} {M : zM} (hd : decode (zB m) pc = .ok (.invokevirtual ix, 3)) (hc : zCall (zO m) ix = some (8, y) ∨ zCall (zO m) ix = some (9, y)) (h8 : zct st ≤ 8) (h : qC d y [.ref b] M (fun w M1 => qW (zEv d) m Q (pc + 3) l (w.toList ++ st) M1)) : qW (zEv d) m Q pc l (.ref b :: st) M := by
  obtain ⟨w, M1, h1, h2⟩ := h
  exact q_str (as := []) hd hc h1 h8 h2
theorem q_s1 {d m pc ix y : Nat} {Q : Option Value → zM → Prop} {l : List (Nat × Value)} {st : List Value} {M : zM} {a0 : Value} (hd : decode (zB m) pc = .ok (.invokestatic ix, 3)) (hc : zCall (zO m) ix = some (1, y) ∨ zCall (zO m) ix = some (4, y)) (hn : 1 = zA y) (h8 : zct st ≤ 8) (h : qC d y [a0] M (fun w M1 => qW (zEv d) m Q (pc + 3) l (w.toList ++ st) M1)) : qW (zEv d) m Q pc l (a0 :: st) M := by
  obtain ⟨w, M1, h1, h2⟩ := h
  exact q_static (as := [a0]) hd hc hn h1 h8 h2
theorem q_v1 {b : Nat} {d m pc ix y : Nat} {Q : Option Value → zM → Prop} {l : List (Nat × Value)} {st : List Value} {M : zM} {a0 : Value} (hd : decode (zB m) pc = .ok (.invokevirtual ix, 3)) (hc : zCall (zO m) ix = some (0, y)) (hn : 1 = zA y) (hk : zk M b = (zO y, 0)) (h8 : zct st ≤ 8) (h : qC d y [.ref b, a0] M (fun w M1 => qW (zEv d) m Q (pc + 3) l (w.toList ++ st) M1)) : qW (zEv d) m Q pc l (a0 :: .ref b :: st) M := by
  obtain ⟨w, M1, h1, h2⟩ := h
  exact q_virt (as := [a0]) hd hc hn hk h1 h8 h2
theorem q_i1 {b : Nat} {d m pc ix y : Nat} {Q : Option Value → zM → Prop} {l : List (Nat × Value)} {st : List Value} {M : zM} {a0 : Value} (hd : decode (zB m) pc = .ok (.invokespecial ix, 3)) (hc : zCall (zO m) ix = some (2, y) ∨ zCall (zO m) ix = some (5, y)) (hn : 1 = zA y) (hk : zRk y = 0) (h8 : zct st ≤ 8) (h : qC d y [.ref b, a0] M (fun w M1 => qW (zEv d) m Q (pc + 3) l (w.toList ++ st) M1)) : qW (zEv d) m Q pc l (a0 :: .ref b :: st) M := by
  obtain ⟨w, M1, h1, h2⟩ := h
  exact q_spec (as := [a0]) hd hc hn hk h1 h8 h2
theorem q_t1 {b : Nat} {d m pc ix y : Nat} {Q : Option Value → zM → Prop} {l : List (Nat × Value)} {st : List Value} {M : zM} {a0 : Value} (hd : decode (zB m) pc = .ok (.invokevirtual ix, 3)) (hc : zCall (zO m) ix = some (8, y) ∨ zCall (zO m) ix = some (9, y)) (h8 : zct st ≤ 8) (h : qC d y [.ref b, a0] M (fun w M1 => qW (zEv d) m Q (pc + 3) l (w.toList ++ st) M1)) : qW (zEv d) m Q pc l (a0 :: .ref b :: st) M := by
  obtain ⟨w, M1, h1, h2⟩ := h
  exact q_str (as := [a0]) hd hc h1 h8 h2
theorem q_s2 {d m pc ix y : Nat} {Q : Option Value → zM → Prop} {l : List (Nat × Value)} {st : List Value} {M : zM} {a0 a1 : Value} (hd : decode (zB m) pc = .ok (.invokestatic ix, 3)) (hc : zCall (zO m) ix = some (1, y) ∨ zCall (zO m) ix = some (4, y)) (hn : 2 = zA y) (h8 : zct st ≤ 8) (h : qC d y [a0, a1] M (fun w M1 => qW (zEv d) m Q (pc + 3) l (w.toList ++ st) M1)) : qW (zEv d) m Q pc l (a1 :: a0 :: st) M := by
  obtain ⟨w, M1, h1, h2⟩ := h
  exact q_static (as := [a0, a1]) hd hc hn h1 h8 h2
theorem q_v2 {b : Nat} {d m pc ix y : Nat} {Q : Option Value → zM → Prop} {l : List (Nat × Value)} {st : List Value} {M : zM} {a0 a1 : Value} (hd : decode (zB m) pc = .ok (.invokevirtual ix, 3)) (hc : zCall (zO m) ix = some (0, y)) (hn : 2 = zA y) (hk : zk M b = (zO y, 0)) (h8 : zct st ≤ 8) (h : qC d y [.ref b, a0, a1] M (fun w M1 => qW (zEv d) m Q (pc + 3) l (w.toList ++ st) M1)) : qW (zEv d) m Q pc l (a1 :: a0 :: .ref b :: st) M := by
  obtain ⟨w, M1, h1, h2⟩ := h
  exact q_virt (as := [a0, a1]) hd hc hn hk h1 h8 h2
theorem q_i2 {b : Nat} {d m pc ix y : Nat} {Q : Option Value → zM → Prop} {l : List (Nat × Value)} {st : List Value} {M : zM} {a0 a1 : Value} (hd : decode (zB m) pc = .ok (.invokespecial ix, 3)) (hc : zCall (zO m) ix = some (2, y) ∨ zCall (zO m) ix = some (5, y)) (hn : 2 = zA y) (hk : zRk y = 0) (h8 : zct st ≤ 8) (h : qC d y [.ref b, a0, a1] M (fun w M1 => qW (zEv d) m Q (pc + 3) l (w.toList ++ st) M1)) : qW (zEv d) m Q pc l (a1 :: a0 :: .ref b :: st) M := by
  obtain ⟨w, M1, h1, h2⟩ := h
  exact q_spec (as := [a0, a1]) hd hc hn hk h1 h8 h2
theorem q_s3 {d m pc ix y : Nat} {Q : Option Value → zM → Prop} {l : List (Nat × Value)} {st : List Value} {M : zM} {a0 a1 a2 : Value} (hd : decode (zB m) pc = .ok (.invokestatic ix, 3)) (hc : zCall (zO m) ix = some (1, y) ∨ zCall (zO m) ix = some (4, y)) (hn : 3 = zA y) (h8 : zct st ≤ 8) (h : qC d y [a0, a1, a2] M (fun w M1 => qW (zEv d) m Q (pc + 3) l (w.toList ++ st) M1)) : qW (zEv d) m Q pc l (a2 :: a1 :: a0 :: st) M := by
  obtain ⟨w, M1, h1, h2⟩ := h
  exact q_static (as := [a0, a1, a2]) hd hc hn h1 h8 h2
theorem q_v3 {b : Nat} {d m pc ix y : Nat} {Q : Option Value → zM → Prop} {l : List (Nat × Value)} {st : List Value} {M : zM} {a0 a1 a2 : Value} (hd : decode (zB m) pc = .ok (.invokevirtual ix, 3)) (hc : zCall (zO m) ix = some (0, y)) (hn : 3 = zA y) (hk : zk M b = (zO y, 0)) (h8 : zct st ≤ 8) (h : qC d y [.ref b, a0, a1, a2] M (fun w M1 => qW (zEv d) m Q (pc + 3) l (w.toList ++ st) M1)) : qW (zEv d) m Q pc l (a2 :: a1 :: a0 :: .ref b :: st) M := by
  obtain ⟨w, M1, h1, h2⟩ := h
  exact q_virt (as := [a0, a1, a2]) hd hc hn hk h1 h8 h2
theorem q_i3 {b : Nat} {d m pc ix y : Nat} {Q : Option Value → zM → Prop} {l : List (Nat × Value)} {st : List Value} {M : zM} {a0 a1 a2 : Value} (hd : decode (zB m) pc = .ok (.invokespecial ix, 3)) (hc : zCall (zO m) ix = some (2, y) ∨ zCall (zO m) ix = some (5, y)) (hn : 3 = zA y) (hk : zRk y = 0) (h8 : zct st ≤ 8) (h : qC d y [.ref b, a0, a1, a2] M (fun w M1 => qW (zEv d) m Q (pc + 3) l (w.toList ++ st) M1)) : qW (zEv d) m Q pc l (a2 :: a1 :: a0 :: .ref b :: st) M := by
  obtain ⟨w, M1, h1, h2⟩ := h
  exact q_spec (as := [a0, a1, a2]) hd hc hn hk h1 h8 h2
theorem q_s4 {d m pc ix y : Nat} {Q : Option Value → zM → Prop} {l : List (Nat × Value)} {st : List Value} {M : zM} {a0 a1 a2 a3 : Value} (hd : decode (zB m) pc = .ok (.invokestatic ix, 3)) (hc : zCall (zO m) ix = some (1, y) ∨ zCall (zO m) ix = some (4, y)) (hn : 4 = zA y) (h8 : zct st ≤ 8) (h : qC d y [a0, a1, a2, a3] M (fun w M1 => qW (zEv d) m Q (pc + 3) l (w.toList ++ st) M1)) : qW (zEv d) m Q pc l (a3 :: a2 :: a1 :: a0 :: st) M := by
  obtain ⟨w, M1, h1, h2⟩ := h
  exact q_static (as := [a0, a1, a2, a3]) hd hc hn h1 h8 h2
theorem q_v4 {b : Nat} {d m pc ix y : Nat} {Q : Option Value → zM → Prop} {l : List (Nat × Value)} {st : List Value} {M : zM} {a0 a1 a2 a3 : Value} (hd : decode (zB m) pc = .ok (.invokevirtual ix, 3)) (hc : zCall (zO m) ix = some (0, y)) (hn : 4 = zA y) (hk : zk M b = (zO y, 0)) (h8 : zct st ≤ 8) (h : qC d y [.ref b, a0, a1, a2, a3] M (fun w M1 => qW (zEv d) m Q (pc + 3) l (w.toList ++ st) M1)) : qW (zEv d) m Q pc l (a3 :: a2 :: a1 :: a0 :: .ref b :: st) M := by
  obtain ⟨w, M1, h1, h2⟩ := h
  exact q_virt (as := [a0, a1, a2, a3]) hd hc hn hk h1 h8 h2
theorem q_i4 {b : Nat} {d m pc ix y : Nat} {Q : Option Value → zM → Prop} {l : List (Nat × Value)} {st : List Value} {M : zM} {a0 a1 a2 a3 : Value} (hd : decode (zB m) pc = .ok (.invokespecial ix, 3)) (hc : zCall (zO m) ix = some (2, y) ∨ zCall (zO m) ix = some (5, y)) (hn : 4 = zA y) (hk : zRk y = 0) (h8 : zct st ≤ 8) (h : qC d y [.ref b, a0, a1, a2, a3] M (fun w M1 => qW (zEv d) m Q (pc + 3) l (w.toList ++ st) M1)) : qW (zEv d) m Q pc l (a3 :: a2 :: a1 :: a0 :: .ref b :: st) M := by
  obtain ⟨w, M1, h1, h2⟩ := h
  exact q_spec (as := [a0, a1, a2, a3]) hd hc hn hk h1 h8 h2
theorem q_s5 {d m pc ix y : Nat} {Q : Option Value → zM → Prop} {l : List (Nat × Value)} {st : List Value} {M : zM} {a0 a1 a2 a3 a4 : Value} (hd : decode (zB m) pc = .ok (.invokestatic ix, 3)) (hc : zCall (zO m) ix = some (1, y) ∨ zCall (zO m) ix = some (4, y)) (hn : 5 = zA y) (h8 : zct st ≤ 8) (h : qC d y [a0, a1, a2, a3, a4] M (fun w M1 => qW (zEv d) m Q (pc + 3) l (w.toList ++ st) M1)) : qW (zEv d) m Q pc l (a4 :: a3 :: a2 :: a1 :: a0 :: st) M := by
  obtain ⟨w, M1, h1, h2⟩ := h
  exact q_static (as := [a0, a1, a2, a3, a4]) hd hc hn h1 h8 h2
theorem q_v5 {b : Nat} {d m pc ix y : Nat} {Q : Option Value → zM → Prop} {l : List (Nat × Value)} {st : List Value} {M : zM} {a0 a1 a2 a3 a4 : Value} (hd : decode (zB m) pc = .ok (.invokevirtual ix, 3)) (hc : zCall (zO m) ix = some (0, y)) (hn : 5 = zA y) (hk : zk M b = (zO y, 0)) (h8 : zct st ≤ 8) (h : qC d y [.ref b, a0, a1, a2, a3, a4] M (fun w M1 => qW (zEv d) m Q (pc + 3) l (w.toList ++ st) M1)) : qW (zEv d) m Q pc l (a4 :: a3 :: a2 :: a1 :: a0 :: .ref b :: st) M := by
  obtain ⟨w, M1, h1, h2⟩ := h
  exact q_virt (as := [a0, a1, a2, a3, a4]) hd hc hn hk h1 h8 h2
theorem q_i5 {b : Nat} {d m pc ix y : Nat} {Q : Option Value → zM → Prop} {l : List (Nat × Value)} {st : List Value} {M : zM} {a0 a1 a2 a3 a4 : Value} (hd : decode (zB m) pc = .ok (.invokespecial ix, 3)) (hc : zCall (zO m) ix = some (2, y) ∨ zCall (zO m) ix = some (5, y)) (hn : 5 = zA y) (hk : zRk y = 0) (h8 : zct st ≤ 8) (h : qC d y [.ref b, a0, a1, a2, a3, a4] M (fun w M1 => qW (zEv d) m Q (pc + 3) l (w.toList ++ st) M1)) : qW (zEv d) m Q pc l (a4 :: a3 :: a2 :: a1 :: a0 :: .ref b :: st) M := by
  obtain ⟨w, M1, h1, h2⟩ := h
  exact q_spec (as := [a0, a1, a2, a3, a4]) hd hc hn hk h1 h8 h2
theorem q_s6 {d m pc ix y : Nat} {Q : Option Value → zM → Prop} {l : List (Nat × Value)} {st : List Value} {M : zM} {a0 a1 a2 a3 a4 a5 : Value} (hd : decode (zB m) pc = .ok (.invokestatic ix, 3)) (hc : zCall (zO m) ix = some (1, y) ∨ zCall (zO m) ix = some (4, y)) (hn : 6 = zA y) (h8 : zct st ≤ 8) (h : qC d y [a0, a1, a2, a3, a4, a5] M (fun w M1 => qW (zEv d) m Q (pc + 3) l (w.toList ++ st) M1)) : qW (zEv d) m Q pc l (a5 :: a4 :: a3 :: a2 :: a1 :: a0 :: st) M := by
  obtain ⟨w, M1, h1, h2⟩ := h
  exact q_static (as := [a0, a1, a2, a3, a4, a5]) hd hc hn h1 h8 h2
theorem q_v6 {b : Nat} {d m pc ix y : Nat} {Q : Option Value → zM → Prop} {l : List (Nat × Value)} {st : List Value} {M : zM} {a0 a1 a2 a3 a4 a5 : Value} (hd : decode (zB m) pc = .ok (.invokevirtual ix, 3)) (hc : zCall (zO m) ix = some (0, y)) (hn : 6 = zA y) (hk : zk M b = (zO y, 0)) (h8 : zct st ≤ 8) (h : qC d y [.ref b, a0, a1, a2, a3, a4, a5] M (fun w M1 => qW (zEv d) m Q (pc + 3) l (w.toList ++ st) M1)) : qW (zEv d) m Q pc l (a5 :: a4 :: a3 :: a2 :: a1 :: a0 :: .ref b :: st) M := by
  obtain ⟨w, M1, h1, h2⟩ := h
  exact q_virt (as := [a0, a1, a2, a3, a4, a5]) hd hc hn hk h1 h8 h2
theorem q_i6 {b : Nat} {d m pc ix y : Nat} {Q : Option Value → zM → Prop} {l : List (Nat × Value)} {st : List Value} {M : zM} {a0 a1 a2 a3 a4 a5 : Value} (hd : decode (zB m) pc = .ok (.invokespecial ix, 3)) (hc : zCall (zO m) ix = some (2, y) ∨ zCall (zO m) ix = some (5, y)) (hn : 6 = zA y) (hk : zRk y = 0) (h8 : zct st ≤ 8) (h : qC d y [.ref b, a0, a1, a2, a3, a4, a5] M (fun w M1 => qW (zEv d) m Q (pc + 3) l (w.toList ++ st) M1)) : qW (zEv d) m Q pc l (a5 :: a4 :: a3 :: a2 :: a1 :: a0 :: .ref b :: st) M := by
  obtain ⟨w, M1, h1, h2⟩ := h
  exact q_spec (as := [a0, a1, a2, a3, a4, a5]) hd hc hn hk h1 h8 h2
theorem q_s7 {d m pc ix y : Nat} {Q : Option Value → zM → Prop} {l : List (Nat × Value)} {st : List Value} {M : zM} {a0 a1 a2 a3 a4 a5 a6 : Value} (hd : decode (zB m) pc = .ok (.invokestatic ix, 3)) (hc : zCall (zO m) ix = some (1, y) ∨ zCall (zO m) ix = some (4, y)) (hn : 7 = zA y) (h8 : zct st ≤ 8) (h : qC d y [a0, a1, a2, a3, a4, a5, a6] M (fun w M1 => qW (zEv d) m Q (pc + 3) l (w.toList ++ st) M1)) : qW (zEv d) m Q pc l (a6 :: a5 :: a4 :: a3 :: a2 :: a1 :: a0 :: st) M := by
  obtain ⟨w, M1, h1, h2⟩ := h
  exact q_static (as := [a0, a1, a2, a3, a4, a5, a6]) hd hc hn h1 h8 h2
theorem q_v7 {b : Nat} {d m pc ix y : Nat} {Q : Option Value → zM → Prop} {l : List (Nat × Value)} {st : List Value} {M : zM} {a0 a1 a2 a3 a4 a5 a6 : Value} (hd : decode (zB m) pc = .ok (.invokevirtual ix, 3)) (hc : zCall (zO m) ix = some (0, y)) (hn : 7 = zA y) (hk : zk M b = (zO y, 0)) (h8 : zct st ≤ 8) (h : qC d y [.ref b, a0, a1, a2, a3, a4, a5, a6] M (fun w M1 => qW (zEv d) m Q (pc + 3) l (w.toList ++ st) M1)) : qW (zEv d) m Q pc l (a6 :: a5 :: a4 :: a3 :: a2 :: a1 :: a0 :: .ref b :: st) M := by
  obtain ⟨w, M1, h1, h2⟩ := h
  exact q_virt (as := [a0, a1, a2, a3, a4, a5, a6]) hd hc hn hk h1 h8 h2
theorem q_i7 {b : Nat} {d m pc ix y : Nat} {Q : Option Value → zM → Prop} {l : List (Nat × Value)} {st : List Value} {M : zM} {a0 a1 a2 a3 a4 a5 a6 : Value} (hd : decode (zB m) pc = .ok (.invokespecial ix, 3)) (hc : zCall (zO m) ix = some (2, y) ∨ zCall (zO m) ix = some (5, y)) (hn : 7 = zA y) (hk : zRk y = 0) (h8 : zct st ≤ 8) (h : qC d y [.ref b, a0, a1, a2, a3, a4, a5, a6] M (fun w M1 => qW (zEv d) m Q (pc + 3) l (w.toList ++ st) M1)) : qW (zEv d) m Q pc l (a6 :: a5 :: a4 :: a3 :: a2 :: a1 :: a0 :: .ref b :: st) M := by
  obtain ⟨w, M1, h1, h2⟩ := h
  exact q_spec (as := [a0, a1, a2, a3, a4, a5, a6]) hd hc hn hk h1 h8 h2
/-! ===== what a desk is: texts, sagas, purses, worlds, the log, ticks, replays ===== -/
def yu {α : Type} (f : Nat → α) (k : Nat) (v : α) : Nat → α := fun j => if j = k then v else f j
theorem yu_s {α : Type} (f : Nat → α) (k : Nat) (v : α) : yu f k v k = v := if_pos rfl
theorem yu_n {α : Type} {f : Nat → α} {k j : Nat} {v : α} (h : j ≠ k) : yu f k v j = f j := if_neg h
theorem yu_e {α : Type} (f : Nat → α) (k : Nat) (v : α) (j : Nat) : yu f k v j = if j = k then v else f j := rfl
/-- a text: how many steps, kinds, first accounts, second ones, numbers, aheads, the pivot -/
abbrev yT : Type := Nat × (Nat → Nat) × (Nat → Int32) × (Nat → Int32) × (Nat → Int32) × (Nat → Nat) × Int32
def tn (T : yT) : Nat := T.1
def tk (T : yT) : Nat → Nat := T.2.1
def tf (T : yT) : Nat → Int32 := T.2.2.1
def ts (T : yT) : Nat → Int32 := T.2.2.2.1
def tu (T : yT) : Nat → Int32 := T.2.2.2.2.1
def ta (T : yT) : Nat → Nat := T.2.2.2.2.2.1
def tp (T : yT) : Int32 := T.2.2.2.2.2.2
/-- a saga: how it is, its text, how its steps stand, those done (the last first), by which numbers, plans, plans of undoings, failures, reasons -/
abbrev yS : Type := Nat × Nat × (Nat → Nat) × List Nat × (Nat → Int32) × (Nat → Int32) × (Nat → Int32) × (Nat → Int32) × (Nat → Int32)
def gt (S : yS) : Nat := S.1
def gx (S : yS) : Nat := S.2.1
def gd (S : yS) : Nat → Nat := S.2.2.1
def go (S : yS) : List Nat := S.2.2.2.1
def gb (S : yS) : Nat → Int32 := S.2.2.2.2.1
def gp (S : yS) : Nat → Int32 := S.2.2.2.2.2.1
def gq (S : yS) : Nat → Int32 := S.2.2.2.2.2.2.1
def gf (S : yS) : Nat → Int32 := S.2.2.2.2.2.2.2.1
def gw (S : yS) : Nat → Int32 := S.2.2.2.2.2.2.2.2
def gtS (S : yS) (v : Nat) : yS := (v, S.2)
def gdS (S : yS) (v : Nat → Nat) : yS := (S.1, S.2.1, v, S.2.2.2)
def goS (S : yS) (v : List Nat) : yS := (S.1, S.2.1, S.2.2.1, v, S.2.2.2.2)
def gbS (S : yS) (v : Nat → Int32) : yS := (S.1, S.2.1, S.2.2.1, S.2.2.2.1, v, S.2.2.2.2.2)
def gpS (S : yS) (v : Nat → Int32) : yS := (S.1, S.2.1, S.2.2.1, S.2.2.2.1, S.2.2.2.2.1, v, S.2.2.2.2.2.2)
def gqS (S : yS) (v : Nat → Int32) : yS := (S.1, S.2.1, S.2.2.1, S.2.2.2.1, S.2.2.2.2.1, S.2.2.2.2.2.1, v, S.2.2.2.2.2.2.2)
def gfS (S : yS) (v : Nat → Int32) : yS := (S.1, S.2.1, S.2.2.1, S.2.2.2.1, S.2.2.2.2.1, S.2.2.2.2.2.1, S.2.2.2.2.2.2.1, v, S.2.2.2.2.2.2.2.2)
def gwS (S : yS) (v : Nat → Int32) : yS := (S.1, S.2.1, S.2.2.1, S.2.2.2.1, S.2.2.2.2.1, S.2.2.2.2.2.1, S.2.2.2.2.2.2.1, S.2.2.2.2.2.2.2.1, v)
/-- balances, HELD, MARKS -/
abbrev yP : Type := (Nat → Int32) × Int32 × Int32
abbrev yW : Type := yP × (Nat → yS)
abbrev yL : Type := Nat × Nat × Nat
abbrev yX : Type := yW × Option (List yL)
/-- masks -/
def ymk (f : Nat → Bool) : Nat → Nat
  | 0 => 0
  | n + 1 => ymk f n ||| (if f n then 2 ^ n else 0)
def gm (S : yS) (v : Nat) : Nat := ymk (fun k => gd S k == v) 12
/-- steps that are purses' -/
def yck (b : Int32) : Int32 := if 0 ≤ b then (if b ≤ nI 9999 then 0 else 3) else 2
def ybe (P : yP) (a more : Int32) : Int32 := match zix a 6 with
  | none => 0
  | some k => yck (P.1 k + more)
def yf1 (k : Nat) (n : Int32) : Int32 := if k = 0 then n else if k = 4 ∨ k = 5 then 0 else -n
def yf2 (k : Nat) (n : Int32) : Int32 := if k = 2 then n else 0
def yob (T : yT) (P : yP) (i : Nat) (n w : Int32) : Int32 :=
  if ybe P (tf T i) (w * yf1 (tk T i) n) ≠ 0 then ybe P (tf T i) (w * yf1 (tk T i) n) else ybe P (ts T i) (w * yf2 (tk T i) n)
def ypu (P : yP) (a more : Int32) : yP := match zix a 6 with
  | none => P
  | some k => (yu P.1 k (P.1 k + more), P.2)
def yex (P : yP) (a b : Int32) : yP := match zix a 6, zix b 6 with
  | some i, some j => (yu (yu P.1 i (P.1 j)) j (P.1 i), P.2)
  | _, _ => P
def ych (T : yT) (P : yP) (i : Nat) (n w : Int32) : yP :=
  let P2 := ypu (ypu P (tf T i) (w * yf1 (tk T i) n)) (ts T i) (w * yf2 (tk T i) n)
  if tk T i = 3 then (P2.1, P2.2.1 + w * n, P2.2.2) else if tk T i = 4 then yex P2 (tf T i) (ts T i) else if tk T i = 5 ∧ w = 1 then (P2.1, P2.2.1, P2.2.2 + 1) else P2
/-- sagas -/
def ypa (T : yT) (done : Nat) : Bool := decide (tp T ≠ -1 ∧ tp T &&& (nI done ^^^ (-1)) = 0)
def ynx (T : yT) (set : Nat) : Nat := ymk (fun i => !set.testBit i && zdf (ta T i) set == 0) (tn T)
def yfr (T : yT) (S : yS) : Nat := ymk (fun i => gd S i == 0 && zdf (ta T i) (gm S 1) == 0) (tn T)
def yDn (S : yS) (i : Nat) (n : Int32) : yS := gbS (goS (gdS S (yu (gd S) i 1)) (i :: go S)) (yu (gb S) i n)
def ylg (g : Option (List yL)) (x : yL) : Option (List yL) := match g with
  | none => none
  | some l => some (l ++ [x])
def yxs (X : yX) (s : Nat) : yS := X.1.2 s
def yss (X : yX) (s : Nat) (S : yS) : yX := ((X.1.1, yu X.1.2 s S), X.2)
def ysp (X : yX) (P : yP) : yX := ((P, X.1.2), X.2)
def yno (X : yX) (x : yL) : yX := (X.1, ylg X.2 x)
def yen (X : yX) (s v : Nat) : yX := yno (yss X s (gtS (yxs X s) v)) (5, s, v)
def ypl (p : Nat → Int32) (i : Nat) : Bool := decide (0 < p i)
/-- one is spent of a plan -/
def ysd (p : Nat → Int32) (i : Nat) : Nat → Int32 := if ypl p i then yu p i (p i - 1) else p
def yfS (S : yS) (i : Nat) (r : Int32) (passed : Bool) : yS :=
  let S2 := gwS (gfS S (yu (gf S) i (gf S i + 1))) (yu (gw S) i r)
  if passed then S2 else gtS S2 2
def ytr (T : yT) (n : Int32) (s i : Nat) (X : yX) : yX :=
  let S := yxs X s
  let S1 := gpS S (ysd (gp S) i)
  let r := if ypl (gp S) i then 1 else yob T X.1.1 i n 1
  if r = 0 then yno (yss (ysp X (ych T X.1.1 i n 1)) s (yDn S1 i n)) (1, s, i)
  else
    let X2 := yno (yss X s (yfS S1 i r (ypa T (gm S 1)))) (2, s, i)
    if ypa T (gm S 1) = true ∧ ¬ gf S i + 1 < nI 3 then yen X2 s 5 else X2
/-- the turns of a front's steps -/
def yfl (T : yT) (nm : Nat → Int32) (s fr : Nat) : Nat → Nat → yX → yX
  | 0, _, X => X
  | k + 1, i, X => if gt (yxs X s) = 1 then yfl T nm s fr k (i + 1) (if fr.testBit i then ytr T (nm i) s i X else X) else X
def yfo (T : yT) (nm : Nat → Int32) (s : Nat) (X : yX) : yX :=
  let X1 := yfl T nm s (yfr T (yxs X s)) 12 0 X
  if gt (yxs X1 s) = 1 ∧ gm (yxs X1 s) 1 = 2 ^ tn T - 1 then yen X1 s 3 else X1
def yun (T : yT) (s : Nat) (X : yX) : yX :=
  let S := yxs X s
  match go S with
  | [] => X
  | i :: rest =>
    let S1 := gqS S (ysd (gq S) i)
    let r := if ypl (gq S) i then 1 else yob T X.1.1 i (gb S i) (-1)
    if r = 0 then yno (yss (ysp X (ych T X.1.1 i (gb S i) (-1))) s (goS (gdS S1 (yu (gd S1) i 2)) rest)) (3, s, i)
    else yno (yss X s (gwS (goS (gdS S1 (yu (gd S1) i 3)) rest) (yu (gw S1) i r))) (4, s, i)
def yba (T : yT) (s : Nat) (X : yX) : yX :=
  let X1 := yun T s X
  if gm (yxs X1 s) 1 = 0 then yen X1 s 4 else X1
def ytu (T : Nat → yT) (nm : Nat → Nat → Int32) (s : Nat) (X : yX) : yX :=
  if gt (yxs X s) = 1 then yfo (T (gx (yxs X s))) (nm s) s X else if gt (yxs X s) = 2 then yba (T (gx (yxs X s))) s X else X
def yti (T : Nat → yT) (nm : Nat → Nat → Int32) (X : yX) : yX := ytu T nm 2 (ytu T nm 1 (ytu T nm 0 X))
def ytn (T : Nat → yT) (nm : Nat → Nat → Int32) : Nat → yX → yX
  | 0, X => X
  | k + 1, X => ytn T nm k (yti T nm X)
/-- beginnings and replays -/
def yS0 : yS := (0, 0, fun _ => 0, [], fun _ => 0, fun _ => 0, fun _ => 0, fun _ => 0, fun _ => 0)
def yP0 : yP := (fun _ => 100, 0, 0)
def yW0 : yW := (yP0, fun _ => yS0)
def ySt (t : Nat) : yS := gtS (yS0.1, t, yS0.2.2) 1
def yag (T : Nat → yT) (W : yW) (l : yL) : yW :=
  let S := W.2 l.2.1
  let i := l.2.2
  match l.1 with
  | 0 => (W.1, yu W.2 l.2.1 (ySt i))
  | 1 => (ych (T (gx S)) W.1 i (tu (T (gx S)) i) 1, yu W.2 l.2.1 (yDn S i (tu (T (gx S)) i)))
  | 2 => (W.1, yu W.2 l.2.1 (yfS S i 0 (ypa (T (gx S)) (gm S 1))))
  | 3 => (ych (T (gx S)) W.1 i (gb S i) (-1), yu W.2 l.2.1 (goS (gdS S (yu (gd S) i 2)) (go S).tail))
  | 4 => (W.1, yu W.2 l.2.1 (gwS (goS (gdS S (yu (gd S) i 3)) (go S).tail) (yu (gw S) i 0)))
  | 5 => (W.1, yu W.2 l.2.1 (gtS S i))
  | _ => ((yu W.1.1 l.2.1 (nI i), W.1.2), W.2)
def yre (T : Nat → yT) (L : List yL) : yW := L.foldl (yag T) yW0
/-- what holds of texts and sagas -/
def OKT (T : yT) : Prop := 1 ≤ tn T ∧ tn T ≤ 12 ∧ (tp T = -1 ∨ ∃ p, p < 2 ^ tn T ∧ tp T = nI p) ∧ ∀ k, k < tn T →
  tk T k < 6 ∧ ta T k < 2 ^ k ∧ (tk T k = 5 → tf T k = -1) ∧ (tk T k ≠ 5 → ∃ a, a < 6 ∧ tf T k = nI a) ∧ ((tk T k = 2 ∨ tk T k = 4) → ∃ a, a < 6 ∧ ts T k = nI a) ∧
  (tk T k ≠ 2 → tk T k ≠ 4 → ts T k = -1) ∧ ((tk T k = 4 ∨ tk T k = 5) → tu T k = -1) ∧ (tk T k ≠ 4 → tk T k ≠ 5 → ∃ v, v < 1000 ∧ tu T k = nI v)
def OKP (P : yP) : Prop := ∀ a, a < 6 → 0 ≤ P.1 a ∧ P.1 a ≤ nI 9999
def gz (T : Nat → yT) (S : yS) : Nat := if gt S = 0 then 0 else tn (T (gx S))
def OKS (T : Nat → yT) (c : Nat) (S : yS) : Prop := gt S ≤ 5 ∧ (gt S ≠ 0 → gx S < c) ∧ (go S).Nodup ∧ (∀ i, i ∈ go S ↔ gd S i = 1) ∧ (∀ i, gz T S ≤ i → gd S i = 0) ∧ ∀ i, gd S i ≤ 3
def OKW (T : Nat → yT) (c : Nat) (W : yW) : Prop := (c ≤ 6 ∧ ∀ i, i < c → OKT (T i)) ∧ OKP W.1 ∧ ∀ s, s < 3 → OKS T c (W.2 s)
/-! ===== how the cells are laid: the class's ===== -/
def SPr (M : zM) (a : Nat) : Prop := zk M a = (1, 0) ∧ ∀ f, f < 6 → zr M a f = some (a + 1 + f) ∧ zk M (a + 1 + f) = (20, 12)
def SPu (M : zM) (u : Nat) : Prop := zk M u = (2, 0) ∧ zr M u 0 = some (u + 1) ∧ zk M (u + 1) = (20, 6)
def SSg (M : zM) (a : Nat) : Prop := zk M a = (5, 0) ∧ zr M a 6 = some (a + 1) ∧ (∀ f, f < 6 → zr M a (8 + f) = some (a + 2 + f)) ∧ ∀ f, f < 7 → zk M (a + 1 + f) = (20, 12)
def SJo (M : zM) (j L : Nat) : Prop := zk M j = (0, 0) ∧ ∀ f, f < 3 → zr M j f = some (j + 1 + f) ∧ zk M (j + 1 + f) = (20, L)
def SRo (M : zM) (a : Nat) : Prop := zk M a = (4, 0) ∧ zr M a 2 = some (a + 1) ∧ zk M (a + 1) = (20, 40)
def SWo (M : zM) (w u j : Nat) : Prop := zk M w = (6, 0) ∧ zr M w 0 = some 19 ∧ zr M w 1 = some j ∧ zr M w 2 = some u ∧ zr M w 3 = some (u + 2) ∧ zk M (u + 2) = (23, 3) ∧ ∀ s, s < 3 → zr M (u + 2) s = some (u + 3 + 8 * s)
def SRd (M : zM) : Prop := zk M 17 = (3, 0) ∧ zr M 17 0 = some 18 ∧ zk M 18 = (20, 120)
def SDk (M : zM) : Prop := zk M 16 = (7, 0) ∧ zr M 16 0 = some 17 ∧ zr M 16 1 = some 19 ∧ zk M 19 = (22, 6) ∧ (∀ i, i < 6 → zr M 19 i = some (20 + 7 * i)) ∧ zr M 16 3 = some 62 ∧ zr M 16 4 = some 66 ∧ zr M 16 5 = some 94 ∧ zr M 16 6 = some 126 ∧
  zk M 126 = (24, 4) ∧ (∀ i, i < 4 → zr M 126 i = some (127 + 2 * i)) ∧ zr M 16 7 = some 135 ∧ zk M 135 = (21, 4096)
/-- the statics' rows -/
def SSt (M : zM) : Prop := zk M 1 = (30, 6) ∧ zk M 2 = (30, 6) ∧ (∀ j, zi M 1 j = zUn j) ∧ ∀ j, zi M 2 j = zAo j
def SC (M : zM) : Prop := SDk M ∧ SRd M ∧ (∀ i, i < 6 → SPr M (20 + 7 * i)) ∧ SJo M 62 240 ∧ SJo M 95 0 ∧ SWo M 66 67 62 ∧ SWo M 94 99 95 ∧ SPu M 67 ∧ SPu M 99 ∧ (∀ s, s < 3 → SSg M (70 + 8 * s)) ∧ (∀ s, s < 3 → SSg M (102 + 8 * s)) ∧ (∀ i, i < 4 → SRo M (127 + 2 * i)) ∧ SSt M
/-- the references that may be written -/
def zpr (a f : Nat) : Prop := (a = 17 ∧ f = 6) ∨ (f = 2 ∧ (a = 70 ∨ a = 78 ∨ a = 86 ∨ a = 102 ∨ a = 110 ∨ a = 118))
/-! ===== how the cells are laid: the reference's ===== -/
def zXk : List (Nat × Nat × Nat) := [(136, 8, 0), (209, 21, 4096), (230, 26, 4), (137, 20, 6), (138, 20, 6), (174, 20, 6), (175, 20, 3), (176, 20, 3), (205, 20, 240), (206, 20, 240), (207, 20, 240), (208, 20, 120), (319, 20, 4), (320, 20, 4), (326, 20, 40), (139, 25, 6), (140, 20, 12), (141, 20, 12), (142, 20, 12), (143, 20, 12), (144, 20, 12), (145, 20, 12), (146, 25, 6), (147, 20, 12), (148, 20, 12), (149, 20, 12), (150, 20, 12), (151, 20, 12), (152, 20, 12), (153, 25, 6), (154, 20, 12), (155, 20, 12), (156, 20, 12), (157, 20, 12), (158, 20, 12), (159, 20, 12), (160, 25, 6), (161, 20, 12), (162, 20, 12), (163, 20, 12), (164, 20, 12), (165, 20, 12), (166, 20, 12), (167, 25, 6), (168, 20, 12), (169, 20, 12), (170, 20, 12), (171, 20, 12), (172, 20, 12), (173, 20, 12), (177, 25, 3), (178, 20, 12), (179, 20, 12), (180, 20, 12), (181, 25, 3), (182, 20, 12), (183, 20, 12), (184, 20, 12), (185, 25, 3), (186, 20, 12), (187, 20, 12), (188, 20, 12), (189, 25, 3), (190, 20, 12), (191, 20, 12), (192, 20, 12), (193, 25, 3), (194, 20, 12), (195, 20, 12), (196, 20, 12), (197, 25, 3), (198, 20, 12), (199, 20, 12), (200, 20, 12), (201, 25, 3), (202, 20, 12), (203, 20, 12), (204, 20, 12), (210, 25, 4), (211, 20, 6), (212, 20, 6), (213, 20, 6), (214, 20, 6), (215, 25, 4), (216, 20, 4), (217, 20, 4), (218, 20, 4), (219, 20, 4), (220, 25, 4), (221, 20, 3), (222, 20, 3), (223, 20, 3), (224, 20, 3), (225, 25, 4), (226, 20, 3), (227, 20, 3), (228, 20, 3), (229, 20, 3), (321, 25, 4), (322, 20, 40), (323, 20, 40), (324, 20, 40), (325, 20, 40), (231, 25, 21), (232, 20, 12), (233, 20, 12), (234, 20, 12), (235, 20, 12), (236, 20, 12), (237, 20, 12), (238, 20, 12), (239, 20, 12), (240, 20, 12), (241, 20, 12), (242, 20, 12), (243, 20, 12), (244, 20, 12), (245, 20, 12), (246, 20, 12), (247, 20, 12), (248, 20, 12), (249, 20, 12), (250, 20, 12), (251, 20, 12), (252, 20, 12), (253, 25, 21), (254, 20, 12), (255, 20, 12), (256, 20, 12), (257, 20, 12), (258, 20, 12), (259, 20, 12), (260, 20, 12), (261, 20, 12), (262, 20, 12), (263, 20, 12), (264, 20, 12), (265, 20, 12), (266, 20, 12), (267, 20, 12), (268, 20, 12), (269, 20, 12), (270, 20, 12), (271, 20, 12), (272, 20, 12), (273, 20, 12), (274, 20, 12), (275, 25, 21), (276, 20, 12), (277, 20, 12), (278, 20, 12), (279, 20, 12), (280, 20, 12), (281, 20, 12), (282, 20, 12), (283, 20, 12), (284, 20, 12), (285, 20, 12), (286, 20, 12), (287, 20, 12), (288, 20, 12), (289, 20, 12), (290, 20, 12), (291, 20, 12), (292, 20, 12), (293, 20, 12), (294, 20, 12), (295, 20, 12), (296, 20, 12), (297, 25, 21), (298, 20, 12), (299, 20, 12), (300, 20, 12), (301, 20, 12), (302, 20, 12), (303, 20, 12), (304, 20, 12), (305, 20, 12), (306, 20, 12), (307, 20, 12), (308, 20, 12), (309, 20, 12), (310, 20, 12), (311, 20, 12), (312, 20, 12), (313, 20, 12), (314, 20, 12), (315, 20, 12), (316, 20, 12), (317, 20, 12), (318, 20, 12)]
def zXf : List (Nat × Nat × Nat) := [(136, 1, 137), (136, 2, 138), (136, 8, 174), (136, 11, 175), (136, 12, 176), (136, 26, 205), (136, 27, 206), (136, 28, 207), (136, 29, 208), (136, 45, 319), (136, 46, 320), (136, 48, 326), (136, 39, 209), (136, 44, 230), (136, 3, 139), (139, 0, 140), (139, 1, 141), (139, 2, 142), (139, 3, 143), (139, 4, 144), (139, 5, 145), (136, 4, 146), (146, 0, 147), (146, 1, 148), (146, 2, 149), (146, 3, 150), (146, 4, 151), (146, 5, 152), (136, 5, 153), (153, 0, 154), (153, 1, 155), (153, 2, 156), (153, 3, 157), (153, 4, 158), (153, 5, 159), (136, 6, 160), (160, 0, 161), (160, 1, 162), (160, 2, 163), (160, 3, 164), (160, 4, 165), (160, 5, 166), (136, 7, 167), (167, 0, 168), (167, 1, 169), (167, 2, 170), (167, 3, 171), (167, 4, 172), (167, 5, 173), (136, 13, 177), (177, 0, 178), (177, 1, 179), (177, 2, 180), (136, 14, 181), (181, 0, 182), (181, 1, 183), (181, 2, 184), (136, 15, 185), (185, 0, 186), (185, 1, 187), (185, 2, 188), (136, 16, 189), (189, 0, 190), (189, 1, 191), (189, 2, 192), (136, 17, 193), (193, 0, 194), (193, 1, 195), (193, 2, 196), (136, 18, 197), (197, 0, 198), (197, 1, 199), (197, 2, 200), (136, 19, 201), (201, 0, 202), (201, 1, 203), (201, 2, 204), (136, 40, 210), (210, 0, 211), (210, 1, 212), (210, 2, 213), (210, 3, 214), (136, 41, 215), (215, 0, 216), (215, 1, 217), (215, 2, 218), (215, 3, 219), (136, 42, 220), (220, 0, 221), (220, 1, 222), (220, 2, 223), (220, 3, 224), (136, 43, 225), (225, 0, 226), (225, 1, 227), (225, 2, 228), (225, 3, 229), (136, 47, 321), (321, 0, 322), (321, 1, 323), (321, 2, 324), (321, 3, 325), (230, 0, 231), (231, 0, 232), (231, 1, 233), (231, 2, 234), (231, 3, 235), (231, 4, 236), (231, 5, 237), (231, 6, 238), (231, 7, 239), (231, 8, 240), (231, 9, 241), (231, 10, 242), (231, 11, 243), (231, 12, 244), (231, 13, 245), (231, 14, 246), (231, 15, 247), (231, 16, 248), (231, 17, 249), (231, 18, 250), (231, 19, 251), (231, 20, 252), (230, 1, 253), (253, 0, 254), (253, 1, 255), (253, 2, 256), (253, 3, 257), (253, 4, 258), (253, 5, 259), (253, 6, 260), (253, 7, 261), (253, 8, 262), (253, 9, 263), (253, 10, 264), (253, 11, 265), (253, 12, 266), (253, 13, 267), (253, 14, 268), (253, 15, 269), (253, 16, 270), (253, 17, 271), (253, 18, 272), (253, 19, 273), (253, 20, 274), (230, 2, 275), (275, 0, 276), (275, 1, 277), (275, 2, 278), (275, 3, 279), (275, 4, 280), (275, 5, 281), (275, 6, 282), (275, 7, 283), (275, 8, 284), (275, 9, 285), (275, 10, 286), (275, 11, 287), (275, 12, 288), (275, 13, 289), (275, 14, 290), (275, 15, 291), (275, 16, 292), (275, 17, 293), (275, 18, 294), (275, 19, 295), (275, 20, 296), (230, 3, 297), (297, 0, 298), (297, 1, 299), (297, 2, 300), (297, 3, 301), (297, 4, 302), (297, 5, 303), (297, 6, 304), (297, 7, 305), (297, 8, 306), (297, 9, 307), (297, 10, 308), (297, 11, 309), (297, 12, 310), (297, 13, 311), (297, 14, 312), (297, 15, 313), (297, 16, 314), (297, 17, 315), (297, 18, 316), (297, 19, 317), (297, 20, 318)]
def SX (M : zM) : Prop := (∀ q ∈ zXk, zk M q.1 = q.2) ∧ ∀ q ∈ zXf, zr M q.1 q.2.1 = some q.2.2
theorem SX_of {M M' : zM} (h : SX M) (hk : ∀ a, a < 327 → zk M' a = zk M a) (hr : ∀ a f, 136 ≤ a → a < 327 → zr M' a f = zr M a f) : SX M' := by
  have b1 : ∀ q ∈ zXk, q.1 < 327 := by decide +kernel
  have b2 : ∀ q ∈ zXf, 136 ≤ q.1 ∧ q.1 < 327 := by decide +kernel
  exact ⟨fun q hq => (hk _ (b1 q hq)).trans (h.1 q hq), fun q hq => (hr _ _ (b2 q hq).1 (b2 q hq).2).trans (h.2 q hq)⟩
section SXR
variable {M : zM}
theorem xk_136 (h : SX M) : zk M 136 = (8, 0) := h.1 (136, 8, 0) (List.mem_of_getElem? (i := 0) rfl)
theorem xk_stepMany (h : SX M) : zk M 137 = (20, 6) := h.1 (137, 20, 6) (List.mem_of_getElem? (i := 3) rfl)
theorem xf_stepMany (h : SX M) : zr M 136 1 = some 137 := h.2 (136, 1, 137) (List.mem_of_getElem? (i := 0) rfl)
theorem xk_pivots (h : SX M) : zk M 138 = (20, 6) := h.1 (138, 20, 6) (List.mem_of_getElem? (i := 4) rfl)
theorem xf_pivots (h : SX M) : zr M 136 2 = some 138 := h.2 (136, 2, 138) (List.mem_of_getElem? (i := 1) rfl)
theorem xk_balances (h : SX M) : zk M 174 = (20, 6) := h.1 (174, 20, 6) (List.mem_of_getElem? (i := 5) rfl)
theorem xf_balances (h : SX M) : zr M 136 8 = some 174 := h.2 (136, 8, 174) (List.mem_of_getElem? (i := 2) rfl)
theorem xk_states (h : SX M) : zk M 175 = (20, 3) := h.1 (175, 20, 3) (List.mem_of_getElem? (i := 6) rfl)
theorem xf_states (h : SX M) : zr M 136 11 = some 175 := h.2 (136, 11, 175) (List.mem_of_getElem? (i := 3) rfl)
theorem xk_textOf (h : SX M) : zk M 176 = (20, 3) := h.1 (176, 20, 3) (List.mem_of_getElem? (i := 7) rfl)
theorem xf_textOf (h : SX M) : zr M 136 12 = some 176 := h.2 (136, 12, 176) (List.mem_of_getElem? (i := 4) rfl)
theorem xk_acts (h : SX M) : zk M 205 = (20, 240) := h.1 (205, 20, 240) (List.mem_of_getElem? (i := 8) rfl)
theorem xf_acts (h : SX M) : zr M 136 26 = some 205 := h.2 (136, 26, 205) (List.mem_of_getElem? (i := 5) rfl)
theorem xk_whose (h : SX M) : zk M 206 = (20, 240) := h.1 (206, 20, 240) (List.mem_of_getElem? (i := 9) rfl)
theorem xf_whose (h : SX M) : zr M 136 27 = some 206 := h.2 (136, 27, 206) (List.mem_of_getElem? (i := 6) rfl)
theorem xk_which (h : SX M) : zk M 207 = (20, 240) := h.1 (207, 20, 240) (List.mem_of_getElem? (i := 10) rfl)
theorem xf_which (h : SX M) : zr M 136 28 = some 207 := h.2 (136, 28, 207) (List.mem_of_getElem? (i := 7) rfl)
theorem xk_tape (h : SX M) : zk M 208 = (20, 120) := h.1 (208, 20, 120) (List.mem_of_getElem? (i := 11) rfl)
theorem xf_tape (h : SX M) : zr M 136 29 = some 208 := h.2 (136, 29, 208) (List.mem_of_getElem? (i := 8) rfl)
theorem xk_sorts (h : SX M) : zk M 319 = (20, 4) := h.1 (319, 20, 4) (List.mem_of_getElem? (i := 12) rfl)
theorem xf_sorts (h : SX M) : zr M 136 45 = some 319 := h.2 (136, 45, 319) (List.mem_of_getElem? (i := 9) rfl)
theorem xk_lengths (h : SX M) : zk M 320 = (20, 4) := h.1 (320, 20, 4) (List.mem_of_getElem? (i := 13) rfl)
theorem xf_lengths (h : SX M) : zr M 136 46 = some 320 := h.2 (136, 46, 320) (List.mem_of_getElem? (i := 10) rfl)
theorem xk_passed (h : SX M) : zk M 326 = (20, 40) := h.1 (326, 20, 40) (List.mem_of_getElem? (i := 14) rfl)
theorem xf_passed (h : SX M) : zr M 136 48 = some 326 := h.2 (136, 48, 326) (List.mem_of_getElem? (i := 11) rfl)
theorem xk_ways (h : SX M) : zk M 209 = (21, 4096) := h.1 (209, 21, 4096) (List.mem_of_getElem? (i := 1) rfl)
theorem xf_ways (h : SX M) : zr M 136 39 = some 209 := h.2 (136, 39, 209) (List.mem_of_getElem? (i := 12) rfl)
theorem xk_asideSteps (h : SX M) : zk M 230 = (26, 4) := h.1 (230, 26, 4) (List.mem_of_getElem? (i := 2) rfl)
theorem xf_asideSteps (h : SX M) : zr M 136 44 = some 230 := h.2 (136, 44, 230) (List.mem_of_getElem? (i := 13) rfl)
theorem xk_kinds (h : SX M) : zk M 139 = (25, 6) := h.1 (139, 25, 6) (List.mem_of_getElem? (i := 15) rfl)
theorem xf_kinds (h : SX M) : zr M 136 3 = some 139 := h.2 (136, 3, 139) (List.mem_of_getElem? (i := 14) rfl)
theorem xr_kinds (h : SX M) {i : Nat} (hi : i < 6) : zr M 139 i = some (140 + i) := h.2 (139, i, 140 + i) ((by decide +kernel : ∀ i, i < 6 → (139, i, 140 + i) ∈ zXf) i hi)
theorem xa_kinds (h : SX M) {i : Nat} (hi : i < 6) : zk M (140 + i) = (20, 12) := h.1 (140 + i, 20, 12) ((by decide +kernel : ∀ i, i < 6 → (140 + i, 20, 12) ∈ zXk) i hi)
theorem xk_firsts (h : SX M) : zk M 146 = (25, 6) := h.1 (146, 25, 6) (List.mem_of_getElem? (i := 22) rfl)
theorem xf_firsts (h : SX M) : zr M 136 4 = some 146 := h.2 (136, 4, 146) (List.mem_of_getElem? (i := 21) rfl)
theorem xr_firsts (h : SX M) {i : Nat} (hi : i < 6) : zr M 146 i = some (147 + i) := h.2 (146, i, 147 + i) ((by decide +kernel : ∀ i, i < 6 → (146, i, 147 + i) ∈ zXf) i hi)
theorem xa_firsts (h : SX M) {i : Nat} (hi : i < 6) : zk M (147 + i) = (20, 12) := h.1 (147 + i, 20, 12) ((by decide +kernel : ∀ i, i < 6 → (147 + i, 20, 12) ∈ zXk) i hi)
theorem xk_seconds (h : SX M) : zk M 153 = (25, 6) := h.1 (153, 25, 6) (List.mem_of_getElem? (i := 29) rfl)
theorem xf_seconds (h : SX M) : zr M 136 5 = some 153 := h.2 (136, 5, 153) (List.mem_of_getElem? (i := 28) rfl)
theorem xr_seconds (h : SX M) {i : Nat} (hi : i < 6) : zr M 153 i = some (154 + i) := h.2 (153, i, 154 + i) ((by decide +kernel : ∀ i, i < 6 → (153, i, 154 + i) ∈ zXf) i hi)
theorem xa_seconds (h : SX M) {i : Nat} (hi : i < 6) : zk M (154 + i) = (20, 12) := h.1 (154 + i, 20, 12) ((by decide +kernel : ∀ i, i < 6 → (154 + i, 20, 12) ∈ zXk) i hi)
theorem xk_numbers (h : SX M) : zk M 160 = (25, 6) := h.1 (160, 25, 6) (List.mem_of_getElem? (i := 36) rfl)
theorem xf_numbers (h : SX M) : zr M 136 6 = some 160 := h.2 (136, 6, 160) (List.mem_of_getElem? (i := 35) rfl)
theorem xr_numbers (h : SX M) {i : Nat} (hi : i < 6) : zr M 160 i = some (161 + i) := h.2 (160, i, 161 + i) ((by decide +kernel : ∀ i, i < 6 → (160, i, 161 + i) ∈ zXf) i hi)
theorem xa_numbers (h : SX M) {i : Nat} (hi : i < 6) : zk M (161 + i) = (20, 12) := h.1 (161 + i, 20, 12) ((by decide +kernel : ∀ i, i < 6 → (161 + i, 20, 12) ∈ zXk) i hi)
theorem xk_aheads (h : SX M) : zk M 167 = (25, 6) := h.1 (167, 25, 6) (List.mem_of_getElem? (i := 43) rfl)
theorem xf_aheads (h : SX M) : zr M 136 7 = some 167 := h.2 (136, 7, 167) (List.mem_of_getElem? (i := 42) rfl)
theorem xr_aheads (h : SX M) {i : Nat} (hi : i < 6) : zr M 167 i = some (168 + i) := h.2 (167, i, 168 + i) ((by decide +kernel : ∀ i, i < 6 → (167, i, 168 + i) ∈ zXf) i hi)
theorem xa_aheads (h : SX M) {i : Nat} (hi : i < 6) : zk M (168 + i) = (20, 12) := h.1 (168 + i, 20, 12) ((by decide +kernel : ∀ i, i < 6 → (168 + i, 20, 12) ∈ zXk) i hi)
theorem xk_stands (h : SX M) : zk M 177 = (25, 3) := h.1 (177, 25, 3) (List.mem_of_getElem? (i := 50) rfl)
theorem xf_stands (h : SX M) : zr M 136 13 = some 177 := h.2 (136, 13, 177) (List.mem_of_getElem? (i := 49) rfl)
theorem xr_stands (h : SX M) {i : Nat} (hi : i < 3) : zr M 177 i = some (178 + i) := h.2 (177, i, 178 + i) ((by decide +kernel : ∀ i, i < 3 → (177, i, 178 + i) ∈ zXf) i hi)
theorem xa_stands (h : SX M) {i : Nat} (hi : i < 3) : zk M (178 + i) = (20, 12) := h.1 (178 + i, 20, 12) ((by decide +kernel : ∀ i, i < 3 → (178 + i, 20, 12) ∈ zXk) i hi)
theorem xk_when (h : SX M) : zk M 181 = (25, 3) := h.1 (181, 25, 3) (List.mem_of_getElem? (i := 54) rfl)
theorem xf_when (h : SX M) : zr M 136 14 = some 181 := h.2 (136, 14, 181) (List.mem_of_getElem? (i := 53) rfl)
theorem xr_when (h : SX M) {i : Nat} (hi : i < 3) : zr M 181 i = some (182 + i) := h.2 (181, i, 182 + i) ((by decide +kernel : ∀ i, i < 3 → (181, i, 182 + i) ∈ zXf) i hi)
theorem xa_when (h : SX M) {i : Nat} (hi : i < 3) : zk M (182 + i) = (20, 12) := h.1 (182 + i, 20, 12) ((by decide +kernel : ∀ i, i < 3 → (182 + i, 20, 12) ∈ zXk) i hi)
theorem xk_by (h : SX M) : zk M 185 = (25, 3) := h.1 (185, 25, 3) (List.mem_of_getElem? (i := 58) rfl)
theorem xf_by (h : SX M) : zr M 136 15 = some 185 := h.2 (136, 15, 185) (List.mem_of_getElem? (i := 57) rfl)
theorem xr_by (h : SX M) {i : Nat} (hi : i < 3) : zr M 185 i = some (186 + i) := h.2 (185, i, 186 + i) ((by decide +kernel : ∀ i, i < 3 → (185, i, 186 + i) ∈ zXf) i hi)
theorem xa_by (h : SX M) {i : Nat} (hi : i < 3) : zk M (186 + i) = (20, 12) := h.1 (186 + i, 20, 12) ((by decide +kernel : ∀ i, i < 3 → (186 + i, 20, 12) ∈ zXk) i hi)
theorem xk_fails (h : SX M) : zk M 189 = (25, 3) := h.1 (189, 25, 3) (List.mem_of_getElem? (i := 62) rfl)
theorem xf_fails (h : SX M) : zr M 136 16 = some 189 := h.2 (136, 16, 189) (List.mem_of_getElem? (i := 61) rfl)
theorem xr_fails (h : SX M) {i : Nat} (hi : i < 3) : zr M 189 i = some (190 + i) := h.2 (189, i, 190 + i) ((by decide +kernel : ∀ i, i < 3 → (189, i, 190 + i) ∈ zXf) i hi)
theorem xa_fails (h : SX M) {i : Nat} (hi : i < 3) : zk M (190 + i) = (20, 12) := h.1 (190 + i, 20, 12) ((by decide +kernel : ∀ i, i < 3 → (190 + i, 20, 12) ∈ zXk) i hi)
theorem xk_whys (h : SX M) : zk M 193 = (25, 3) := h.1 (193, 25, 3) (List.mem_of_getElem? (i := 66) rfl)
theorem xf_whys (h : SX M) : zr M 136 17 = some 193 := h.2 (136, 17, 193) (List.mem_of_getElem? (i := 65) rfl)
theorem xr_whys (h : SX M) {i : Nat} (hi : i < 3) : zr M 193 i = some (194 + i) := h.2 (193, i, 194 + i) ((by decide +kernel : ∀ i, i < 3 → (193, i, 194 + i) ∈ zXf) i hi)
theorem xa_whys (h : SX M) {i : Nat} (hi : i < 3) : zk M (194 + i) = (20, 12) := h.1 (194 + i, 20, 12) ((by decide +kernel : ∀ i, i < 3 → (194 + i, 20, 12) ∈ zXk) i hi)
theorem xk_plans (h : SX M) : zk M 197 = (25, 3) := h.1 (197, 25, 3) (List.mem_of_getElem? (i := 70) rfl)
theorem xf_plans (h : SX M) : zr M 136 18 = some 197 := h.2 (136, 18, 197) (List.mem_of_getElem? (i := 69) rfl)
theorem xr_plans (h : SX M) {i : Nat} (hi : i < 3) : zr M 197 i = some (198 + i) := h.2 (197, i, 198 + i) ((by decide +kernel : ∀ i, i < 3 → (197, i, 198 + i) ∈ zXf) i hi)
theorem xa_plans (h : SX M) {i : Nat} (hi : i < 3) : zk M (198 + i) = (20, 12) := h.1 (198 + i, 20, 12) ((by decide +kernel : ∀ i, i < 3 → (198 + i, 20, 12) ∈ zXk) i hi)
theorem xk_undoPlans (h : SX M) : zk M 201 = (25, 3) := h.1 (201, 25, 3) (List.mem_of_getElem? (i := 74) rfl)
theorem xf_undoPlans (h : SX M) : zr M 136 19 = some 201 := h.2 (136, 19, 201) (List.mem_of_getElem? (i := 73) rfl)
theorem xr_undoPlans (h : SX M) {i : Nat} (hi : i < 3) : zr M 201 i = some (202 + i) := h.2 (201, i, 202 + i) ((by decide +kernel : ∀ i, i < 3 → (201, i, 202 + i) ∈ zXf) i hi)
theorem xa_undoPlans (h : SX M) {i : Nat} (hi : i < 3) : zk M (202 + i) = (20, 12) := h.1 (202 + i, 20, 12) ((by decide +kernel : ∀ i, i < 3 → (202 + i, 20, 12) ∈ zXk) i hi)
theorem xk_asideBalances (h : SX M) : zk M 210 = (25, 4) := h.1 (210, 25, 4) (List.mem_of_getElem? (i := 78) rfl)
theorem xf_asideBalances (h : SX M) : zr M 136 40 = some 210 := h.2 (136, 40, 210) (List.mem_of_getElem? (i := 77) rfl)
theorem xr_asideBalances (h : SX M) {i : Nat} (hi : i < 4) : zr M 210 i = some (211 + i) := h.2 (210, i, 211 + i) ((by decide +kernel : ∀ i, i < 4 → (210, i, 211 + i) ∈ zXf) i hi)
theorem xa_asideBalances (h : SX M) {i : Nat} (hi : i < 4) : zk M (211 + i) = (20, 6) := h.1 (211 + i, 20, 6) ((by decide +kernel : ∀ i, i < 4 → (211 + i, 20, 6) ∈ zXk) i hi)
theorem xk_asideNumbers (h : SX M) : zk M 215 = (25, 4) := h.1 (215, 25, 4) (List.mem_of_getElem? (i := 83) rfl)
theorem xf_asideNumbers (h : SX M) : zr M 136 41 = some 215 := h.2 (136, 41, 215) (List.mem_of_getElem? (i := 82) rfl)
theorem xr_asideNumbers (h : SX M) {i : Nat} (hi : i < 4) : zr M 215 i = some (216 + i) := h.2 (215, i, 216 + i) ((by decide +kernel : ∀ i, i < 4 → (215, i, 216 + i) ∈ zXf) i hi)
theorem xa_asideNumbers (h : SX M) {i : Nat} (hi : i < 4) : zk M (216 + i) = (20, 4) := h.1 (216 + i, 20, 4) ((by decide +kernel : ∀ i, i < 4 → (216 + i, 20, 4) ∈ zXk) i hi)
theorem xk_asideStates (h : SX M) : zk M 220 = (25, 4) := h.1 (220, 25, 4) (List.mem_of_getElem? (i := 88) rfl)
theorem xf_asideStates (h : SX M) : zr M 136 42 = some 220 := h.2 (136, 42, 220) (List.mem_of_getElem? (i := 87) rfl)
theorem xr_asideStates (h : SX M) {i : Nat} (hi : i < 4) : zr M 220 i = some (221 + i) := h.2 (220, i, 221 + i) ((by decide +kernel : ∀ i, i < 4 → (220, i, 221 + i) ∈ zXf) i hi)
theorem xa_asideStates (h : SX M) {i : Nat} (hi : i < 4) : zk M (221 + i) = (20, 3) := h.1 (221 + i, 20, 3) ((by decide +kernel : ∀ i, i < 4 → (221 + i, 20, 3) ∈ zXk) i hi)
theorem xk_asideTexts (h : SX M) : zk M 225 = (25, 4) := h.1 (225, 25, 4) (List.mem_of_getElem? (i := 93) rfl)
theorem xf_asideTexts (h : SX M) : zr M 136 43 = some 225 := h.2 (136, 43, 225) (List.mem_of_getElem? (i := 92) rfl)
theorem xr_asideTexts (h : SX M) {i : Nat} (hi : i < 4) : zr M 225 i = some (226 + i) := h.2 (225, i, 226 + i) ((by decide +kernel : ∀ i, i < 4 → (225, i, 226 + i) ∈ zXf) i hi)
theorem xa_asideTexts (h : SX M) {i : Nat} (hi : i < 4) : zk M (226 + i) = (20, 3) := h.1 (226 + i, 20, 3) ((by decide +kernel : ∀ i, i < 4 → (226 + i, 20, 3) ∈ zXk) i hi)
theorem xk_items (h : SX M) : zk M 321 = (25, 4) := h.1 (321, 25, 4) (List.mem_of_getElem? (i := 98) rfl)
theorem xf_items (h : SX M) : zr M 136 47 = some 321 := h.2 (136, 47, 321) (List.mem_of_getElem? (i := 97) rfl)
theorem xr_items (h : SX M) {i : Nat} (hi : i < 4) : zr M 321 i = some (322 + i) := h.2 (321, i, 322 + i) ((by decide +kernel : ∀ i, i < 4 → (321, i, 322 + i) ∈ zXf) i hi)
theorem xa_items (h : SX M) {i : Nat} (hi : i < 4) : zk M (322 + i) = (20, 40) := h.1 (322 + i, 20, 40) ((by decide +kernel : ∀ i, i < 4 → (322 + i, 20, 40) ∈ zXk) i hi)
theorem xr_asideSteps (h : SX M) {i : Nat} (hi : i < 4) : zr M 230 i = some (231 + 22 * i) ∧ zk M (231 + 22 * i) = (25, 21) := ⟨h.2 (230, i, 231 + 22 * i) ((by decide +kernel : ∀ i, i < 4 → (230, i, 231 + 22 * i) ∈ zXf) i hi), h.1 (231 + 22 * i, 25, 21) ((by decide +kernel : ∀ i, i < 4 → (231 + 22 * i, 25, 21) ∈ zXk) i hi)⟩
theorem xa_asideSteps (h : SX M) {i j : Nat} (hi : i < 4) (hj : j < 21) : zr M (231 + 22 * i) j = some (232 + 22 * i + j) ∧ zk M (232 + 22 * i + j) = (20, 12) := ⟨h.2 (231 + 22 * i, j, 232 + 22 * i + j) ((by decide +kernel : ∀ i, i < 4 → ∀ j, j < 21 → (231 + 22 * i, j, 232 + 22 * i + j) ∈ zXf) i hi j hj), h.1 (232 + 22 * i + j, 20, 12) ((by decide +kernel : ∀ i, i < 4 → ∀ j, j < 21 → (232 + 22 * i + j, 20, 12) ∈ zXk) i hi j hj)⟩
end SXR
/-! ===== what the cells mean ===== -/
theorem SC_of {M M' : zM} (h : SC M) (hk : ∀ a, a < 327 → zk M' a = zk M a) (hr : ∀ a f, a < 136 → ¬ zpr a f → zr M' a f = zr M a f) (hs : ∀ a j, a < 3 → zi M' a j = zi M a j) : SC M' := by
  have kk : ∀ {a t}, zk M a = t → a < 327 → zk M' a = t := fun e l => (hk _ l).trans e
  have rr : ∀ {a f t}, zr M a f = t → a < 136 → ¬ zpr a f → zr M' a f = t := fun e l n => (hr _ _ l n).trans e
  obtain ⟨h1, h2, h3, h4, h5, h6, h7, h8, h9, ha, hb, hc, hd⟩ := h
  have pPu : ∀ (u : Nat), u = 67 ∨ u = 99 → SPu M u → SPu M' u := fun u l ⟨a, b, c⟩ => ⟨kk a (by omega), rr b (by omega) (by unfold zpr; omega), kk c (by omega)⟩
  have pSg : ∀ (b s : Nat), b = 70 ∨ b = 102 → s < 3 → SSg M (b + 8 * s) → SSg M' (b + 8 * s) := fun b s l l2 ⟨a, b', c, d⟩ => ⟨kk a (by omega), rr b' (by omega) (by unfold zpr; omega), fun f hf => rr (c f hf) (by omega) (by unfold zpr; omega), fun f hf => kk (d f hf) (by omega)⟩
  have pJo : ∀ (j L : Nat), j = 62 ∨ j = 95 → SJo M j L → SJo M' j L := fun j L l ⟨a, b⟩ => ⟨kk a (by omega), fun f hf => ⟨rr (b f hf).1 (by omega) (by unfold zpr; omega), kk (b f hf).2 (by omega)⟩⟩
  have pWo : ∀ (w u j : Nat), (w = 66 ∧ u = 67) ∨ (w = 94 ∧ u = 99) → SWo M w u j → SWo M' w u j := fun w u j l ⟨a, b, c, d, e, f, g⟩ =>
    ⟨kk a (by omega), rr b (by omega) (by unfold zpr; omega), rr c (by omega) (by unfold zpr; omega), rr d (by omega) (by unfold zpr; omega), rr e (by omega) (by unfold zpr; omega), kk f (by omega), fun s hs => rr (g s hs) (by omega) (by unfold zpr; omega)⟩
  refine ⟨?_, ?_, ?_, pJo _ _ (Or.inl rfl) h4, pJo _ _ (Or.inr rfl) h5, pWo _ _ _ (Or.inl ⟨rfl, rfl⟩) h6, pWo _ _ _ (Or.inr ⟨rfl, rfl⟩) h7, pPu _ (Or.inl rfl) h8, pPu _ (Or.inr rfl) h9, fun s hs => pSg _ s (Or.inl rfl) hs (ha s hs), fun s hs => pSg _ s (Or.inr rfl) hs (hb s hs), ?_, ?_⟩
  · obtain ⟨a1, a2, a3, a4, a5, a6, a7, a8, a9, aa, ab, ac, ad⟩ := h1
    exact ⟨kk a1 (by omega), rr a2 (by omega) (by unfold zpr; omega), rr a3 (by omega) (by unfold zpr; omega), kk a4 (by omega), fun i hi => rr (a5 i hi) (by omega) (by unfold zpr; omega), rr a6 (by omega) (by unfold zpr; omega), rr a7 (by omega) (by unfold zpr; omega), rr a8 (by omega) (by unfold zpr; omega), rr a9 (by omega) (by unfold zpr; omega), kk aa (by omega), fun i hi => rr (ab i hi) (by omega) (by unfold zpr; omega), rr ac (by omega) (by unfold zpr; omega), kk ad (by omega)⟩
  · obtain ⟨a1, a2, a3⟩ := h2
    exact ⟨kk a1 (by omega), rr a2 (by omega) (by unfold zpr; omega), kk a3 (by omega)⟩
  · intro i hi
    obtain ⟨a1, a2⟩ := h3 i hi
    exact ⟨kk a1 (by omega), fun f hf => ⟨rr (a2 f hf).1 (by omega) (by unfold zpr; omega), kk (a2 f hf).2 (by omega)⟩⟩
  · intro i hi
    obtain ⟨a1, a2, a3⟩ := hc i hi
    exact ⟨kk a1 (by omega), rr a2 (by omega) (by unfold zpr; omega), kk a3 (by omega)⟩
  · exact ⟨kk hd.1 (by omega), kk hd.2.1 (by omega), fun j => (hs 1 j (by omega)).trans (hd.2.2.1 j), fun j => (hs 2 j (by omega)).trans (hd.2.2.2 j)⟩
theorem SC_wi {M : zM} {a k : Nat} {v : Int32} (h : SC M) (ha : 3 ≤ a) : SC (zwi M a k v) := SC_of h (fun _ _ => rfl) (fun _ _ _ _ => rfl) (fun b j hb => wi_n (Or.inl (by omega)))
theorem SC_wr {M : zM} {a k : Nat} {v : Option Nat} (h : SC M) (ha : zpr a k) : SC (zwr M a k v) := SC_of h (fun _ _ => rfl) (fun b f _ hb => by rw [wr_eq, if_neg (by rintro ⟨rfl, rfl⟩; exact hb ha)]) (fun _ _ _ => rfl)
theorem SC_cp {M : zM} {a0 s a d n : Nat} (h : SC M) (ha : 3 ≤ a) : SC (zcp M a0 s a d n) := SC_of h (fun _ _ => rfl) (fun _ _ _ _ => rfl) (fun b j hb => by rw [cp_eq, if_neg (by omega)])
/-- texts -/
def RP (M : zM) (a : Nat) (T : yT) : Prop := zi M a 6 = nI (tn T) ∧ zi M a 7 = tp T ∧ ∀ k, k < tn T → zi M (a + 1) k = nI (tk T k) ∧ zi M (a + 2) k = tf T k ∧ zi M (a + 3) k = ts T k ∧ zi M (a + 4) k = tu T k ∧ zi M (a + 5) k = nI (ta T k)
def RTx (M : zM) (T : Nat → yT) (c : Nat) : Prop := ∀ i, i < c → RP M (20 + 7 * i) (T i)
/-- a purse at u -/
def RPu (M : zM) (u : Nat) (P : yP) : Prop := (∀ k, k < 6 → zi M (u + 1) k = P.1 k) ∧ zi M u 1 = P.2.1 ∧ zi M u 2 = P.2.2
def txt (S : yS) : Int32 := if gt S = 0 then -1 else nI (gx S)
def prg (S : yS) : Option Nat := if gt S = 0 then none else some (20 + 7 * gx S)
/-- a saga at a -/
def RS (M : zM) (a : Nat) (T : Nat → yT) (nm : Nat → Int32) (S : yS) : Prop :=
  (zi M a 0 = nI (gt S) ∧ zi M a 1 = txt S ∧ zr M a 2 = prg S) ∧ (zi M a 3 = nI (gm S 1) ∧ zi M a 4 = nI (gm S 2) ∧ zi M a 5 = nI (gm S 3)) ∧ (zi M a 7 = nI (go S).length ∧
  ∀ k, k < (go S).length → zi M (a + 1) k = nI ((go S).getD ((go S).length - 1 - k) 0)) ∧ (∀ k, k < gz T S → zi M (a + 2) k = nm k) ∧ (∀ k, k < 12 → gd S k = 1 → zi M (a + 3) k = gb S k) ∧
  ∀ k, k < 12 → zi M (a + 4) k = gp S k ∧ zi M (a + 5) k = gq S k ∧ zi M (a + 6) k = gf S k ∧ zi M (a + 7) k = gw S k
/-- the log at j -/
def RL (M : zM) (j : Nat) (L : List yL) : Prop := zi M j 3 = nI L.length ∧ ∀ k, k < L.length → zi M (j + 1) k = nI (L.getD k (0, 0, 0)).1 ∧ zi M (j + 2) k = nI (L.getD k (0, 0, 0)).2.1 ∧ zi M (j + 3) k = nI (L.getD k (0, 0, 0)).2.2
/-- the two worlds: from which cell on, the world, its purse, its journal -/
def Wd (lo w u j : Nat) : Prop := (lo = 62 ∧ w = 66 ∧ u = 67 ∧ j = 62) ∨ (lo = 94 ∧ w = 94 ∧ u = 99 ∧ j = 95)
def RJ (M : zM) (j : Nat) (g : Option (List yL)) : Prop := match g with
  | none => j = 95
  | some L => j = 62 ∧ RL M 62 L
def RW (M : zM) (u j : Nat) (T : Nat → yT) (nm : Nat → Nat → Int32) (X : yX) : Prop := RPu M u X.1.1 ∧ (∀ s, s < 3 → RS M (u + 3 + 8 * s) T (nm s) (X.1.2 s)) ∧ RJ M j X.2
/-- cells from lo on, below hi -/
def Fb (lo hi : Nat) : Nat → Nat → Prop := fun a _ => lo ≤ a ∧ a < hi
theorem Fb_m {lo hi lo' hi' : Nat} (h1 : lo' ≤ lo) (h2 : hi ≤ hi') : ∀ a k, Fb lo hi a k → Fb lo' hi' a k := fun _ _ h => ⟨Nat.le_trans h1 h.1, Nat.lt_of_lt_of_le h.2 h2⟩
theorem RP_fr {M M' : zM} {S : Nat → Nat → Prop} {a : Nat} {T : yT} (h : RP M a T) (f : Fr S M M') (hs : ∀ b k, a ≤ b → b < a + 6 → ¬ S b k) : RP M' a T :=
  ⟨(f.i (hs _ _ (by omega) (by omega))).trans h.1, (f.i (hs _ _ (by omega) (by omega))).trans h.2.1, fun k hk => ⟨(f.i (hs _ _ (by omega) (by omega))).trans (h.2.2 k hk).1, (f.i (hs _ _ (by omega) (by omega))).trans (h.2.2 k hk).2.1, (f.i (hs _ _ (by omega) (by omega))).trans (h.2.2 k hk).2.2.1, (f.i (hs _ _ (by omega) (by omega))).trans (h.2.2 k hk).2.2.2.1, (f.i (hs _ _ (by omega) (by omega))).trans (h.2.2 k hk).2.2.2.2⟩⟩
theorem RTx_fr {M M' : zM} {S : Nat → Nat → Prop} {T : Nat → yT} {c : Nat} (h : RTx M T c) (hc : c ≤ 6) (f : Fr S M M') (hs : ∀ b k, 20 ≤ b → b < 62 → ¬ S b k) : RTx M' T c :=
  fun i hi => RP_fr (h i hi) f (fun b k h1 h2 => hs b k (by omega) (by omega))
theorem RPu_fr {M M' : zM} {S : Nat → Nat → Prop} {u : Nat} {P : yP} (h : RPu M u P) (f : Fr S M M') (hs : ∀ b k, u ≤ b → b < u + 2 → ¬ S b k) : RPu M' u P :=
  ⟨fun k hk => (f.i (hs _ _ (by omega) (by omega))).trans (h.1 k hk), (f.i (hs _ _ (by omega) (by omega))).trans h.2.1, (f.i (hs _ _ (by omega) (by omega))).trans h.2.2⟩
theorem RL_fr {M M' : zM} {S : Nat → Nat → Prop} {j : Nat} {L : List yL} (h : RL M j L) (f : Fr S M M') (hs : ∀ b k, j ≤ b → b < j + 4 → ¬ S b k) : RL M' j L :=
  ⟨(f.i (hs _ _ (by omega) (by omega))).trans h.1, fun k hk => ⟨(f.i (hs _ _ (by omega) (by omega))).trans (h.2 k hk).1, (f.i (hs _ _ (by omega) (by omega))).trans (h.2 k hk).2.1, (f.i (hs _ _ (by omega) (by omega))).trans (h.2 k hk).2.2⟩⟩
theorem RJ_fr {M M' : zM} {S : Nat → Nat → Prop} {j : Nat} {g : Option (List yL)} (h : RJ M j g) (f : Fr S M M') (hs : ∀ b k, 62 ≤ b → b < 66 → ¬ S b k) : RJ M' j g := by
  cases g with
  | none => exact h
  | some L => exact ⟨h.1, RL_fr h.2 f hs⟩
theorem RS_fr {M M' : zM} {S : Nat → Nat → Prop} {a : Nat} {T : Nat → yT} {nm : Nat → Int32} {s : yS} (h : RS M a T nm s) (f : Fr S M M') (hs : ∀ b k, a ≤ b → b < a + 8 → ¬ S b k) : RS M' a T nm s := by
  have g : ∀ b k, a ≤ b → b < a + 8 → zi M' b k = zi M b k := fun b k h1 h2 => f.i (hs b k h1 h2)
  obtain ⟨⟨h1, h2, h3⟩, ⟨h4, h5, h6⟩, ⟨h7, h8⟩, h9, ha, hb⟩ := h
  exact ⟨⟨(g _ _ (by omega) (by omega)).trans h1, (g _ _ (by omega) (by omega)).trans h2, (f.r (hs _ _ (by omega) (by omega))).trans h3⟩, ⟨(g _ _ (by omega) (by omega)).trans h4, (g _ _ (by omega) (by omega)).trans h5, (g _ _ (by omega) (by omega)).trans h6⟩,
    ⟨(g _ _ (by omega) (by omega)).trans h7, fun k hk => (g _ _ (by omega) (by omega)).trans (h8 k hk)⟩, fun k hk => (g _ _ (by omega) (by omega)).trans (h9 k hk), fun k hk he => (g _ _ (by omega) (by omega)).trans (ha k hk he),
    fun k hk => ⟨(g _ _ (by omega) (by omega)).trans (hb k hk).1, (g _ _ (by omega) (by omega)).trans (hb k hk).2.1, (g _ _ (by omega) (by omega)).trans (hb k hk).2.2.1, (g _ _ (by omega) (by omega)).trans (hb k hk).2.2.2⟩⟩
/-- masks -/
theorem ymk_bit (f : Nat → Bool) : ∀ n i, (ymk f n).testBit i = (decide (i < n) && f i)
  | 0, i => by simp [ymk]
  | n + 1, i => by
    rw [ymk, Nat.testBit_or, ymk_bit f n i]
    by_cases h : i = n
    · subst h
      cases h2 : f i <;> simp [h2, Nat.testBit_two_pow_self]
    · have e : (if f n = true then 2 ^ n else 0).testBit i = false := by
        split
        · rw [Nat.testBit_two_pow]; exact decide_eq_false (fun q => h q.symm)
        · exact Nat.zero_testBit i
      rw [e, Bool.or_false, show decide (i < n + 1) = decide (i < n) by simp only [decide_eq_decide]; omega]
theorem ymk_lt (f : Nat → Bool) (n : Nat) : ymk f n < 2 ^ n := by
  apply Nat.lt_pow_two_of_testBit
  intro i hi
  rw [ymk_bit, decide_eq_false (by omega)]; rfl
theorem ymk_eq {f g : Nat → Bool} {n m : Nat} (h : ∀ i, (decide (i < n) && f i) = (decide (i < m) && g i)) : ymk f n = ymk g m := by
  apply Nat.eq_of_testBit_eq
  intro i
  rw [ymk_bit, ymk_bit]; exact h i
theorem ymk_is {f : Nat → Bool} {n x : Nat} (h : ∀ i, x.testBit i = (decide (i < n) && f i)) : x = ymk f n := by
  apply Nat.eq_of_testBit_eq
  intro i
  rw [ymk_bit]; exact h i
theorem gm_lt (S : yS) (v : Nat) : gm S v < 4096 := ymk_lt _ 12
theorem gm_bit (S : yS) (v i : Nat) : (gm S v).testBit i = (decide (i < 12) && gd S i == v) := ymk_bit _ _ _
theorem zeq0 : zB 0 = prog_1_method_1_code := rfl
theorem zeq1 : zB 1 = prog_5_method_1_code := rfl
theorem zeq2 : zB 2 = prog_3_method_1_code := rfl
theorem zeq3 : zB 3 = prog_2_method_1_code := rfl
theorem zeq4 : zB 4 = prog_8_method_1_code := rfl
theorem zeq5 : zB 5 = prog_4_method_1_code := rfl
theorem zeq6 : zB 6 = prog_17_method_103_code := rfl
theorem zeq7 : zB 7 = prog_7_method_1_code := rfl
theorem zeq8 : zB 8 = prog_6_method_1_code := rfl
theorem zeq9 : zB 9 = prog_1_method_2_code := rfl
theorem zeq10 : zB 10 = prog_1_method_27_code := rfl
theorem zeq11 : zB 11 = prog_1_method_28_code := rfl
theorem zeq12 : zB 12 = prog_5_method_2_code := rfl
theorem zeq13 : zB 13 = prog_1_method_3_code := rfl
theorem zeq14 : zB 14 = prog_5_method_3_code := rfl
theorem zeq15 : zB 15 = prog_3_method_2_code := rfl
theorem zeq16 : zB 16 = prog_5_method_4_code := rfl
theorem zeq17 : zB 17 = prog_5_method_5_code := rfl
theorem zeq18 : zB 18 = prog_5_method_8_code := rfl
theorem zeq19 : zB 19 = prog_5_method_9_code := rfl
theorem zeq20 : zB 20 = prog_5_method_11_code := rfl
theorem zeq21 : zB 21 = prog_5_method_14_code := rfl
theorem zeq22 : zB 22 = prog_5_method_16_code := rfl
theorem zeq23 : zB 23 = prog_5_method_15_code := rfl
theorem zeq24 : zB 24 = prog_5_method_6_code := rfl
theorem zeq25 : zB 25 = prog_5_method_12_code := rfl
theorem zeq26 : zB 26 = prog_1_method_29_code := rfl
theorem zeq27 : zB 27 = prog_1_method_36_code := rfl
theorem zeq28 : zB 28 = prog_5_method_13_code := rfl
theorem zeq29 : zB 29 = prog_3_method_5_code := rfl
theorem zeq30 : zB 30 = prog_5_method_10_code := rfl
theorem zeq31 : zB 31 = prog_5_method_7_code := rfl
theorem zeq32 : zB 32 = prog_1_method_4_code := rfl
theorem zeq33 : zB 33 = prog_1_method_32_code := rfl
theorem zeq34 : zB 34 = prog_3_method_9_code := rfl
theorem zeq35 : zB 35 = prog_1_method_37_code := rfl
theorem zeq36 : zB 36 = prog_3_method_10_code := rfl
theorem zeq37 : zB 37 = prog_3_method_4_code := rfl
theorem zeq38 : zB 38 = prog_3_method_11_code := rfl
theorem zeq39 : zB 39 = prog_3_method_8_code := rfl
theorem zeq40 : zB 40 = prog_3_method_13_code := rfl
theorem zeq41 : zB 41 = prog_3_method_12_code := rfl
theorem zeq42 : zB 42 = prog_4_method_3_code := rfl
theorem zeq43 : zB 43 = prog_1_method_40_code := rfl
theorem zeq44 : zB 44 = prog_3_method_7_code := rfl
theorem zeq45 : zB 45 = prog_4_method_6_code := rfl
theorem zeq46 : zB 46 = prog_4_method_4_code := rfl
theorem zeq47 : zB 47 = prog_3_method_3_code := rfl
theorem zeq48 : zB 48 = prog_4_method_7_code := rfl
theorem zeq49 : zB 49 = prog_4_method_9_code := rfl
theorem zeq50 : zB 50 = prog_4_method_8_code := rfl
theorem zeq51 : zB 51 = prog_4_method_5_code := rfl
theorem zeq52 : zB 52 = prog_4_method_10_code := rfl
theorem zeq53 : zB 53 = prog_4_method_11_code := rfl
theorem zeq54 : zB 54 = prog_1_method_5_code := rfl
theorem zeq55 : zB 55 = prog_3_method_14_code := rfl
theorem zeq56 : zB 56 = prog_1_method_6_code := rfl
theorem zeq57 : zB 57 = prog_1_method_7_code := rfl
theorem zeq58 : zB 58 = prog_1_method_35_code := rfl
theorem zeq59 : zB 59 = prog_1_method_8_code := rfl
theorem zeq60 : zB 60 = prog_1_method_30_code := rfl
theorem zeq61 : zB 61 = prog_7_method_9_code := rfl
theorem zeq62 : zB 62 = prog_7_method_4_code := rfl
theorem zeq63 : zB 63 = prog_7_method_2_code := rfl
theorem zeq64 : zB 64 = prog_7_method_3_code := rfl
theorem zeq65 : zB 65 = prog_2_method_2_code := rfl
theorem zeq66 : zB 66 = prog_1_method_9_code := rfl
theorem zeq67 : zB 67 = prog_7_method_8_code := rfl
theorem zeq68 : zB 68 = prog_1_method_10_code := rfl
theorem zeq69 : zB 69 = prog_8_method_6_code := rfl
theorem zeq70 : zB 70 = prog_8_method_7_code := rfl
theorem zeq71 : zB 71 = prog_7_method_13_code := rfl
theorem zeq72 : zB 72 = prog_8_method_8_code := rfl
theorem zeq73 : zB 73 = prog_7_method_15_code := rfl
theorem zeq74 : zB 74 = prog_8_method_12_code := rfl
theorem zeq75 : zB 75 = prog_7_method_16_code := rfl
theorem zeq76 : zB 76 = prog_7_method_20_code := rfl
theorem zeq77 : zB 77 = prog_3_method_6_code := rfl
theorem zeq78 : zB 78 = prog_7_method_21_code := rfl
theorem zeq79 : zB 79 = prog_8_method_11_code := rfl
theorem zeq80 : zB 80 = prog_7_method_11_code := rfl
theorem zeq81 : zB 81 = prog_8_method_9_code := rfl
theorem zeq82 : zB 82 = prog_7_method_14_code := rfl
theorem zeq83 : zB 83 = prog_8_method_10_code := rfl
theorem zeq84 : zB 84 = prog_7_method_17_code := rfl
theorem zeq85 : zB 85 = prog_7_method_19_code := rfl
theorem zeq86 : zB 86 = prog_7_method_18_code := rfl
theorem zeq87 : zB 87 = prog_1_method_11_code := rfl
theorem zeq88 : zB 88 = prog_7_method_12_code := rfl
theorem zeq89 : zB 89 = prog_1_method_12_code := rfl
theorem zeq90 : zB 90 = prog_1_method_13_code := rfl
theorem zeq91 : zB 91 = prog_1_method_14_code := rfl
theorem zeq92 : zB 92 = prog_1_method_15_code := rfl
theorem zeq93 : zB 93 = prog_1_method_33_code := rfl
theorem zeq94 : zB 94 = prog_8_method_13_code := rfl
theorem zeq95 : zB 95 = prog_4_method_2_code := rfl
theorem zeq96 : zB 96 = prog_8_method_14_code := rfl
theorem zeq97 : zB 97 = prog_8_method_15_code := rfl
theorem zeq98 : zB 98 = prog_8_method_5_code := rfl
theorem zeq99 : zB 99 = prog_1_method_16_code := rfl
theorem zeq100 : zB 100 = prog_1_method_17_code := rfl
theorem zeq101 : zB 101 = prog_8_method_2_code := rfl
theorem zeq102 : zB 102 = prog_7_method_5_code := rfl
theorem zeq103 : zB 103 = prog_1_method_18_code := rfl
theorem zeq104 : zB 104 = prog_7_method_10_code := rfl
theorem zeq105 : zB 105 = prog_11_method_49_code := rfl
theorem zeq106 : zB 106 = prog_1_method_19_code := rfl
theorem zeq107 : zB 107 = prog_1_method_41_code := rfl
theorem zeq108 : zB 108 = prog_8_method_3_code := rfl
theorem zeq109 : zB 109 = prog_7_method_6_code := rfl
theorem zeq110 : zB 110 = prog_1_method_20_code := rfl
theorem zeq111 : zB 111 = prog_1_method_39_code := rfl
theorem zeq112 : zB 112 = prog_1_method_21_code := rfl
theorem zeq113 : zB 113 = prog_1_method_31_code := rfl
theorem zeq114 : zB 114 = prog_1_method_34_code := rfl
theorem zeq115 : zB 115 = prog_7_method_7_code := rfl
theorem zeq116 : zB 116 = prog_1_method_42_code := rfl
theorem zeq117 : zB 117 = prog_1_method_43_code := rfl
theorem zeq118 : zB 118 = prog_1_method_44_code := rfl
theorem zeq119 : zB 119 = prog_1_method_38_code := rfl
theorem zeq120 : zB 120 = prog_1_method_22_code := rfl
theorem zeq121 : zB 121 = prog_6_method_2_code := rfl
theorem zeq122 : zB 122 = prog_6_method_3_code := rfl
theorem zeq123 : zB 123 = prog_1_method_23_code := rfl
theorem zeq124 : zB 124 = prog_8_method_4_code := rfl
theorem zeq125 : zB 125 = prog_1_method_24_code := rfl
theorem zeq126 : zB 126 = prog_1_method_25_code := rfl
theorem zeq127 : zB 127 = prog_1_method_26_code := rfl
theorem zeq128 : zB 128 = prog_6_method_4_code := rfl
theorem zeq129 : zB 129 = prog_10_method_1_code := rfl
theorem zeq130 : zB 130 = prog_10_method_7_code := rfl
theorem zeq131 : zB 131 = prog_10_method_2_code := rfl
theorem zeq132 : zB 132 = prog_10_method_6_code := rfl
theorem zeq133 : zB 133 = prog_10_method_18_code := rfl
theorem zeq134 : zB 134 = prog_10_method_11_code := rfl
theorem zeq135 : zB 135 = prog_10_method_8_code := rfl
theorem zeq136 : zB 136 = prog_10_method_10_code := rfl
theorem zeq137 : zB 137 = prog_10_method_9_code := rfl
theorem zeq138 : zB 138 = prog_10_method_14_code := rfl
theorem zeq139 : zB 139 = prog_10_method_15_code := rfl
theorem zeq140 : zB 140 = prog_10_method_12_code := rfl
theorem zeq141 : zB 141 = prog_10_method_16_code := rfl
theorem zeq142 : zB 142 = prog_10_method_17_code := rfl
theorem zeq143 : zB 143 = prog_10_method_13_code := rfl
theorem zeq144 : zB 144 = prog_10_method_28_code := rfl
theorem zeq145 : zB 145 = prog_10_method_5_code := rfl
theorem zeq146 : zB 146 = prog_10_method_21_code := rfl
theorem zeq147 : zB 147 = prog_10_method_19_code := rfl
theorem zeq148 : zB 148 = prog_10_method_22_code := rfl
theorem zeq149 : zB 149 = prog_10_method_20_code := rfl
theorem zeq150 : zB 150 = prog_10_method_24_code := rfl
theorem zeq151 : zB 151 = prog_10_method_23_code := rfl
theorem zeq152 : zB 152 = prog_10_method_27_code := rfl
theorem zeq153 : zB 153 = prog_10_method_25_code := rfl
theorem zeq154 : zB 154 = prog_10_method_26_code := rfl
theorem zeq155 : zB 155 = prog_10_method_41_code := rfl
theorem zeq156 : zB 156 = prog_10_method_40_code := rfl
theorem zeq157 : zB 157 = prog_10_method_38_code := rfl
theorem zeq158 : zB 158 = prog_10_method_35_code := rfl
theorem zeq159 : zB 159 = prog_10_method_34_code := rfl
theorem zeq160 : zB 160 = prog_10_method_36_code := rfl
theorem zeq161 : zB 161 = prog_10_method_37_code := rfl
theorem zeq162 : zB 162 = prog_10_method_42_code := rfl
theorem zeq163 : zB 163 = prog_10_method_29_code := rfl
theorem zeq164 : zB 164 = prog_10_method_30_code := rfl
theorem zeq165 : zB 165 = prog_10_method_32_code := rfl
theorem zeq166 : zB 166 = prog_10_method_31_code := rfl
theorem zeq167 : zB 167 = prog_10_method_33_code := rfl
theorem zeq168 : zB 168 = prog_10_method_56_code := rfl
theorem zeq169 : zB 169 = prog_10_method_3_code := rfl
theorem zeq170 : zB 170 = prog_10_method_45_code := rfl
theorem zeq171 : zB 171 = prog_10_method_43_code := rfl
theorem zeq172 : zB 172 = prog_10_method_58_code := rfl
theorem zeq173 : zB 173 = prog_10_method_57_code := rfl
theorem zeq174 : zB 174 = prog_10_method_59_code := rfl
theorem zeq175 : zB 175 = prog_10_method_55_code := rfl
theorem zeq176 : zB 176 = prog_10_method_54_code := rfl
theorem zeq177 : zB 177 = prog_10_method_53_code := rfl
theorem zeq178 : zB 178 = prog_10_method_49_code := rfl
theorem zeq179 : zB 179 = prog_10_method_46_code := rfl
theorem zeq180 : zB 180 = prog_10_method_39_code := rfl
theorem zeq181 : zB 181 = prog_10_method_51_code := rfl
theorem zeq182 : zB 182 = prog_10_method_48_code := rfl
theorem zeq183 : zB 183 = prog_10_method_52_code := rfl
theorem zeq184 : zB 184 = prog_10_method_50_code := rfl
theorem zeq185 : zB 185 = prog_10_method_47_code := rfl
theorem zeq186 : zB 186 = prog_10_method_60_code := rfl
theorem zeq187 : zB 187 = prog_10_method_61_code := rfl
theorem zeq188 : zB 188 = prog_10_method_62_code := rfl
theorem zeq189 : zB 189 = prog_10_method_4_code := rfl
theorem zeq190 : zB 190 = prog_10_method_63_code := rfl
theorem zeq191 : zB 191 = prog_10_method_68_code := rfl
theorem zeq192 : zB 192 = prog_10_method_66_code := rfl
theorem zeq193 : zB 193 = prog_10_method_65_code := rfl
theorem zeq194 : zB 194 = prog_10_method_64_code := rfl
theorem zeq195 : zB 195 = prog_10_method_67_code := rfl
theorem zeq196 : zB 196 = prog_10_method_69_code := rfl
theorem zeq197 : zB 197 = prog_10_method_72_code := rfl
theorem zeq198 : zB 198 = prog_10_method_70_code := rfl
theorem zeq199 : zB 199 = prog_10_method_71_code := rfl
theorem zeq200 : zB 200 = prog_10_method_73_code := rfl
theorem zeq201 : zB 201 = prog_10_method_75_code := rfl
theorem zeq202 : zB 202 = prog_10_method_74_code := rfl
theorem zeq203 : zB 203 = prog_10_method_44_code := rfl
theorem zeq204 : zB 204 = prog_10_method_77_code := rfl
theorem zeq205 : zB 205 = prog_10_method_76_code := rfl
theorem zeq206 : zB 206 = prog_10_method_80_code := rfl
theorem zeq207 : zB 207 = prog_10_method_84_code := rfl
theorem zeq208 : zB 208 = prog_10_method_78_code := rfl
theorem zeq209 : zB 209 = prog_10_method_79_code := rfl
theorem zeq210 : zB 210 = prog_10_method_81_code := rfl
theorem zeq211 : zB 211 = prog_10_method_83_code := rfl
theorem zeq212 : zB 212 = prog_10_method_82_code := rfl
theorem zeq213 : zB 213 = prog_10_method_85_code := rfl
theorem zeq214 : zB 214 = prog_10_method_86_code := rfl
theorem zeq215 : zB 215 = prog_10_method_87_code := rfl
