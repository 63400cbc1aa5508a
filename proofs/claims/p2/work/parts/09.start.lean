/-! ===== the law's entry: the small machine begins ===== -/
def zM0 (L : Nat) (xs : Nat → Int32) : zM := ((fun a j => if a = 0 then xs j else if a = 1 then zUn j else if a = 2 then zAo j else 0), (fun _ _ => none), (fun _ _ => 0), (fun a => if a = 0 then (30, L) else if a = 1 ∨ a = 2 then (30, 6) else if a < 16 then (98, 0) else (99, 0)), 16, 0)
def zTm (i : Nat) : Term := .string "SagaDesk$Reader" (117 + 2 * i)
def zFl : List Cond := flatC (Jvm.Cond.and given_1 narrow_1)
theorem zfl_str : ∀ i, i < 6 → Cond.exactly (zTm i) "java/lang/String" ∈ zFl ∧ Cond.eq (.field (zTm i) "java/lang/String" "coder" "B") (.int 0) ∈ zFl ∧ Cond.arrayOf (.field (zTm i) "java/lang/String" "value" "[B") .byte ∈ zFl ∧
    Cond.eq (.length (.field (zTm i) "java/lang/String" "value" "[B")) (.int (Int32.ofNat (zLen.getD i 0))) ∈ zFl ∧ ∀ j, j < zLen.getD i 0 → Cond.eq (.elem (.field (zTm i) "java/lang/String" "value" "[B") (.int (Int32.ofNat j))) (.int ((zByt.getD i []).getD j 0)) ∈ zFl := by decide +kernel
theorem zfl_ne : ∀ i, i < 6 → ∀ j, j < 6 → i ≠ j → (Cond.not (Cond.eq (zTm i) (zTm j)) ∈ zFl ∨ Cond.not (Cond.eq (zTm j) (zTm i)) ∈ zFl) := by decide +kernel
theorem zfl_sts : Cond.arrayOf (.static "SagaDesk" "UNDER" "[I") .int ∈ zFl ∧ Cond.eq (.length (.static "SagaDesk" "UNDER" "[I")) (.int 6) ∈ zFl ∧ (∀ j, j < 6 → Cond.eq (.elem (.static "SagaDesk" "UNDER" "[I") (.int (Int32.ofNat j))) (.int (zUn j)) ∈ zFl) ∧
    Cond.arrayOf (.static "SagaDesk" "ACCOUNTS_OF" "[I") .int ∈ zFl ∧ Cond.eq (.length (.static "SagaDesk" "ACCOUNTS_OF" "[I")) (.int 6) ∈ zFl ∧ (∀ j, j < 6 → Cond.eq (.elem (.static "SagaDesk" "ACCOUNTS_OF" "[I") (.int (Int32.ofNat j))) (.int (zAo j)) ∈ zFl) ∧
    Cond.eq (.static "java/lang/String" "COMPACT_STRINGS" "Z") (.int 1) ∈ zFl ∧ Cond.isRef (.static "jdk/internal/util/Preconditions" "SIOOBE_FORMATTER" "Ljava/util/function/BiFunction;") ∈ zFl := by decide +kernel
theorem zfl_same : ∀ q ∈ zXs, (zRn q.1.1 = "SagaDesk$Reader" ∧ q.1.2 = 117 + 2 * q.2) ∨ Cond.eq (.string (zRn q.1.1) q.1.2) (zTm q.2) ∈ zFl ∨ Cond.eq (zTm q.2) (.string (zRn q.1.1) q.1.2) ∈ zFl := by decide +kernel
theorem zfl_lay : ∀ w ∈ ([.laysStatic "SagaDesk" "UNDER" "[I", .laysStatic "SagaDesk" "ACCOUNTS_OF" "[I", .laysStatic "java/lang/String" "COMPACT_STRINGS" "Z", .laysStatic "jdk/internal/util/Preconditions" "SIOOBE_FORMATTER" "Ljava/util/function/BiFunction;",
    .initialized "SagaDesk", .initialized "java/lang/String", .initialized "jdk/internal/util/Preconditions", .arrayClass .int, .arrayClass .long, .arrayOver (.object "SagaDesk$Program"), .arrayOver (.object "SagaDesk$Saga"), .arrayOver (.object "SagaDesk$Row"), .arrayOver (.array .int), .arrayOver (.array (.array .int))] : List Cond), w ∈ lw_tbl := by decide +kernel
theorem zfl_xs : ∀ q ∈ zXs, Cond.stringRef (zRn q.1.1) q.1.2 (zXt.getD q.2 "") ∈ lw_tbl ∧ q.2 < 6 := by decide +kernel
theorem z_ev {args : Array Value} {s : State} {a b : Term} {v : Value} (h : (Cond.eq a b).before args s = true) (hb : b.eval args s none [] s = some v) : a.eval args s none [] s = some v := by
  cases ha : a.eval args s none [] s with
  | none => simp [Cond.before, Cond.holds, Cond.value, ha, hb] at h
  | some w =>
    simp [Cond.before, Cond.holds, Cond.value, ha, hb] at h
    first
      | exact congrArg some h
      | (cases w <;> cases v <;> simp_all)
theorem z_ev2 {args : Array Value} {s : State} {a b : Term} {v : Value} (h : (Cond.eq a b).before args s = true) (ha : a.eval args s none [] s = some v) : b.eval args s none [] s = some v := by
  cases hb : b.eval args s none [] s with
  | none => simp [Cond.before, Cond.holds, Cond.value, ha, hb] at h
  | some w =>
    simp [Cond.before, Cond.holds, Cond.value, ha, hb] at h
    first
      | exact congrArg some h.symm
      | (cases w <;> cases v <;> simp_all)
theorem z_overA {args : Array Value} {s : State} {t : FieldType} (h : (Cond.arrayOver (.array t)).before args s = true) :
    ∃ comp c k, s.vm.findClass (FieldType.array t).toString = some comp ∧ s.vm.classes[c]? = some k ∧ k.kind = .array comp (.array t) ∧ s.vm.findClass ("[" ++ (FieldType.array t).toString) = some c := by
  simp only [Cond.before, Cond.holds, Cond.value, beq_iff_eq] at h
  cases hc : s.vm.findClass (FieldType.array t).toString with
  | none => simp [hc] at h
  | some comp =>
    simp only [hc, Option.bind_some, Option.bind_eq_some_iff, Option.map_eq_some_iff] at h
    obtain ⟨c, hi, k, hk, hb⟩ := h
    obtain ⟨hlt, hp, -⟩ := Array.findIdx?_eq_some_iff_getElem.mp hi
    have hkk : s.vm.classes[c] = k := (Array.getElem?_eq_some_iff.mp hk).2
    rw [hkk] at hp
    cases hkind : k.kind with
    | array component ty =>
      rw [hkind] at hb hp
      simp at hb hp
      exact ⟨comp, c, k, rfl, hk, by rw [hkind, hp, hb.1], hb.2⟩
    | _ => rw [hkind] at hb; simp at hb
theorem zM0_fr (L : Nat) (xs : Nat → Int32) : zFr (zM0 L xs) := by
  intro a h
  have h : 16 ≤ a := h
  refine ⟨?_, fun j => ⟨?_, rfl, rfl⟩⟩
  · show (if a = 0 then ((30, L) : Nat × Nat) else if a = 1 ∨ a = 2 then (30, 6) else if a < 16 then (98, 0) else (99, 0)) = (99, 0)
    rw [if_neg (by omega), if_neg (by omega), if_neg (by omega)]
  · show (if a = 0 then xs j else if a = 1 then zUn j else if a = 2 then zAo j else 0) = 0
    rw [if_neg (by omega), if_neg (by omega), if_neg (by omega)]
theorem zM0_sk {Z : zX} {L : Nat} {xs : Nat → Int32} (h : zLn Z = L) (hx : zxs Z = xs) : zSk Z (zM0 L xs) := by
  subst h; subst hx
  refine ⟨rfl, rfl, rfl, fun a h1 h2 => ?_, rfl, rfl, rfl⟩
  show (if a = 0 then ((30, zLn Z) : Nat × Nat) else if a = 1 ∨ a = 2 then (30, 6) else if a < 16 then (98, 0) else (99, 0)) = (98, 0)
  rw [if_neg (by omega), if_neg (by omega), if_pos h2]
set_option maxHeartbeats 2000000 in
theorem z_rep0 {p : Program} {s : State} {m : MethodId} {meth : Method} {c : Code} {b L : Nat} {xs : Nat → Int32} (hL : L ≤ 3584) (C0 : lw_At p s m meth c b L xs) : ∃ Z : zX, zb Z = s.heap.size ∧ zsp Z 0 = b ∧ zRep Z (zM0 L xs) s := by
  obtain ⟨hx, hb, hr, hml, hown, hts, hX, hbl, hlocks, hgv⟩ := id C0
  have hf := flat_of_before _ hgv
  have hA : ∀ a : Nat, a < s.heap.size → ¬ (fun q : Nat => s.heap.size ≤ q) a := fun a h h2 => Nat.not_le.mpr h h2
  -- the classes
  have hkn : ∀ k, k < 9 → ∃ (cC : ClassId) (iS : Nat → Nat), u_Kn s (zClN k) (zClT k) (zN k) cC iS := fun k hk => u_known hts (fun w hw => zW_sub w ((zC_ok hk).2.1 w hw)) (hts _ (zW_sub _ (zC_ok hk).2.2.1))
  have hkn2 : ∀ k, ∃ (q : ClassId × (Nat → Nat)), k < 9 → u_Kn s (zClN k) (zClT k) (zN k) q.1 q.2 := fun k => by
    by_cases h : k < 9
    · obtain ⟨a, b, h2⟩ := hkn k h
      exact ⟨(a, b), fun _ => h2⟩
    · exact ⟨(0, fun _ => 0), fun h2 => absurd h2 h⟩
  let D : va_G := (fun k => (Classical.choose (hkn2 k)).1, fun k => (Classical.choose (hkn2 k)).2)
  have hD : ∀ k, k < 9 → u_Kn s (zClN k) (zClT k) (zN k) (D.1 k) (D.2 k) := fun k hk => Classical.choose_spec (hkn2 k) hk
  -- the rows' classes
  obtain ⟨c20, k20, o20, n20, g20, t20⟩ := Cond.arrayClass_spec (hts _ (zfl_lay (.arrayClass .int) (by simp)))
  obtain ⟨c21, k21, o21, n21, g21, t21⟩ := Cond.arrayClass_spec (hts _ (zfl_lay (.arrayClass .long) (by simp)))
  obtain ⟨o22, c22, k22, n22, -, g22, t22, m22⟩ := Cond.arrayOver_spec (hts _ (zfl_lay (.arrayOver (.object "SagaDesk$Program")) (by simp)))
  obtain ⟨o23, c23, k23, n23, -, g23, t23, m23⟩ := Cond.arrayOver_spec (hts _ (zfl_lay (.arrayOver (.object "SagaDesk$Saga")) (by simp)))
  obtain ⟨o24, c24, k24, n24, -, g24, t24, m24⟩ := Cond.arrayOver_spec (hts _ (zfl_lay (.arrayOver (.object "SagaDesk$Row")) (by simp)))
  obtain ⟨o25, c25, k25, n25, g25, t25, m25⟩ := z_overA (hts _ (zfl_lay (.arrayOver (.array .int)) (by simp)))
  obtain ⟨o26, c26, k26, n26, g26, t26, m26⟩ := z_overA (hts _ (zfl_lay (.arrayOver (.array (.array .int))) (by simp)))
  have e25 : o25 = c20 := Option.some.inj (n25.symm.trans n20)
  have e26 : o26 = c25 := Option.some.inj (n26.symm.trans m25)
  -- the static rows
  have hev : ∀ (a : Term) (z : Int32), (Cond.eq a (.int z)).before #[Value.ref b] s = true → a.eval #[Value.ref b] s none [] s = some (.int z) := fun a z h => z_ev h rfl
  obtain ⟨u1, u2, u3, u4, u5, u6, u7, u8⟩ := zfl_sts
  obtain ⟨tU, vU, TU⟩ := va_Tof (f := fun j => .int (zUn j)) (by decide) (hf _ u1) (hev _ _ (hf _ u2)) (fun j hj => hev _ _ (hf _ (u3 j hj))) hA
  obtain ⟨tA, vA, TA⟩ := va_Tof (f := fun j => .int (zAo j)) (by decide) (hf _ u4) (hev _ _ (hf _ u5)) (fun j hj => hev _ _ (hf _ (u6 j hj))) hA
  have ZU := va_Zof (hts _ (zfl_lay (.laysStatic "SagaDesk" "UNDER" "[I") (by simp))) (hts _ (zfl_lay (.initialized "SagaDesk") (by simp))) vU hA
  have ZA := va_Zof (hts _ (zfl_lay (.laysStatic "SagaDesk" "ACCOUNTS_OF" "[I") (by simp))) (hts _ (zfl_lay (.initialized "SagaDesk") (by simp))) vA hA
  have ZC := va_Zof (hts _ (zfl_lay (.laysStatic "java/lang/String" "COMPACT_STRINGS" "Z") (by simp))) (hts _ (zfl_lay (.initialized "java/lang/String") (by simp))) (hev _ _ (hf _ u7)) hA
  have ZQ := va_Zqof (hts _ (zfl_lay (.laysStatic "jdk/internal/util/Preconditions" "SIOOBE_FORMATTER" "Ljava/util/function/BiFunction;") (by simp))) (hts _ (zfl_lay (.initialized "jdk/internal/util/Preconditions") (by simp))) (hf _ u8) hA
  -- the texts
  obtain ⟨adK, adV, hS, hSe⟩ := vk_Sof (args := #[Value.ref b]) (s := s) (N := 6) (tm := zTm) (len := zLen) (byt := zByt) (A := fun q => s.heap.size ≤ q) (by decide) (fun i hi => hf _ (zfl_str i hi).1) (fun i hi => hf _ (zfl_str i hi).2.1) (fun i hi => hf _ (zfl_str i hi).2.2.1) (fun i hi => hf _ (zfl_str i hi).2.2.2.1)
    (fun i hi j hj => hf _ ((zfl_str i hi).2.2.2.2 j hj)) (fun i j hi hj hij => (zfl_ne i hi j hj hij).elim (fun h => Or.inl (hf _ h)) (fun h => Or.inr (hf _ h))) hA
  let Z : zX := (s.heap.size, (fun k => if k = 0 then b else if k = 1 then tU else if k = 2 then tA else adK (k - 3)), (fun k => if k = 20 then c20 else if k = 21 then c21 else if k = 22 then c22 else if k = 23 then c23 else if k = 24 then c24 else if k = 25 then c25 else c26), D, L, xs, adV)
  have hsp3 : ∀ i, zsp Z (3 + i) = adK i := fun i => by
    show (if 3 + i = 0 then b else if 3 + i = 1 then tU else if 3 + i = 2 then tA else adK (3 + i - 3)) = adK i
    rw [if_neg (by omega), if_neg (by omega), if_neg (by omega), show 3 + i - 3 = i by omega]
  refine ⟨Z, rfl, rfl, ⟨Nat.le_refl 16, rfl, fun k q h => ?_, zM0_fr L xs, zM0_sk rfl rfl⟩, ⟨⟨fun k q hq => ?_, fun k q hq => ?_⟩, fun q hq => ?_, fun w hw => ?_, hts _ (zfl_lay (.arrayOver (.object "SagaDesk$Program")) (by simp)), hts _ (zfl_lay (.arrayOver (.object "SagaDesk$Saga")) (by simp)), hts _ (zfl_lay (.arrayOver (.object "SagaDesk$Row")) (by simp)), ⟨k20, o20, g20, t20⟩, ⟨k25, g25, t25.trans (by rw [e25]; rfl)⟩, ⟨k26, g26, t26.trans (by rw [e26]; rfl)⟩⟩, ?_, TU, TA, ZU, ZA, ?_, ZC, ZQ⟩
  · have : zws Z (zM0 L xs) = [] := rfl
    rw [this] at h
    cases h
  · have hk9 : k < 9 := (List.getElem?_eq_some_iff.mp hq).1
    rw [zC_cl k hk9] at hq
    cases hq
    exact hD k hk9
  · have hk7 : k < 7 := (List.getElem?_eq_some_iff.mp hq).1
    rcases (show k = 0 ∨ k = 1 ∨ k = 2 ∨ k = 3 ∨ k = 4 ∨ k = 5 ∨ k = 6 by omega) with rfl | rfl | rfl | rfl | rfl | rfl | rfl <;> cases hq
    · exact ⟨fun n z => ⟨fun q h => (by cases h), k20, g20, o20, t20⟩, n20⟩
    · exact ⟨fun n z => ⟨fun q h => (by cases h), k21, g21, o21, t21⟩, n21⟩
    · exact ⟨fun n z => ⟨fun q h => (by cases h), k22, g22, o22, t22⟩, k22, o22, g22, t22, n22, m22⟩
    · exact ⟨fun n z => ⟨fun q h => (by cases h), k23, g23, o23, t23⟩, k23, o23, g23, t23, n23, m23⟩
    · exact ⟨fun n z => ⟨fun q h => (by cases h), k24, g24, o24, t24⟩, k24, o24, g24, t24, n24, m24⟩
    · exact ⟨fun n z => ⟨fun q h => (by cases h), k25, g25, o25, t25⟩, m25⟩
    · exact ⟨fun n z => ⟨fun q h => (by cases h), k26, g26, o26, t26⟩, m26⟩
  · obtain ⟨h1, h2⟩ := zfl_xs q hq
    rw [hsp3]
    refine vk_R.of (hts _ h1) ?_
    have h3 := hSe q.2 h2
    rcases zfl_same q hq with ⟨h4, h5⟩ | h4 | h4
    · rw [h4, h5]; exact h3
    · exact z_ev (hf _ h4) h3
    · exact z_ev2 (hf _ h4) h3
  · exact va_Nw.of (by
      have : ∀ w ∈ zNw, w.onTables = true := by decide +kernel
      exact this w hw) (hts _ (zNw_in w hw))
  · obtain ⟨scr, h1, h2, h3, h4, h5⟩ := hX
    exact ⟨scr, h1, h2, h3, Nat.le_of_eq h4.symm, by rw [h4]; rfl, h5, hA b hbl⟩
  · have : (fun i => zsp Z (3 + i)) = adK := funext hsp3
    rw [this]
    exact hS
theorem z_start {p : Program} {e : Env} {s : State} {m : MethodId} {below : List Frame} {meth : Method} {c : Code} (l : Launch) {b L : Nat} {xs : Nat → Int32} (hL : L ≤ 3584) (C0 : lw_At p s m meth c b L xs)
    (hz : ∃ (d f : Nat) (M' : zM), d + 1 ≤ 1000 ∧ zLoop (zEv d) 902 (some (.int 1)) M' f 0 [(0, .ref 0)] [] (zM0 L xs) ∧ zn M' ≤ 600016 ∧ zs M' ≤ 7302249) :
    W p l e room_1 s m #[Value.ref b] below meth c s.heap [] 0 0 (lw_Z below #[Value.ref b] s) (entryFrame m ([Value.ref b] : List Value).toArray 4) := by
  obtain ⟨hx, hb, hr, hml, hown, hts, hX, hbl, hlocks, hgv⟩ := id C0
  obtain ⟨Z, hzb, hz0, hrep⟩ := z_rep0 hL C0
  obtain ⟨d, f, M', hd, hrun, hn, hs⟩ := hz
  have hl := lv_entry ([.ref b]) (n := 4) (Nat.le_of_ble_eq_true rfl)
  have hl2 : lv_args 0 [Value.ref b] = zlm Z [(0, .ref 0)] := by
    show [(0, Value.ref b)] = [(0, Value.ref (zρ Z 0))]
    rw [show zρ Z 0 = zsp Z 0 from rfl, hz0]
  rw [hl2] at hl
  rw [lg_entry_eq]
  have hI : zInv Z s (zM0 L xs) s.heap [] 0 := ⟨hrep.1, by rw [hzb]; rfl, va_S.rf, by rw [hzb]; exact Nat.le_refl _⟩
  refine z_run (R0 := room_1) (d := d) (m := 902) (v := some (.int 1)) (M' := M') hx hb hml hown (fun w hw => hts w (zW_sub w hw)) hrep.2.1 hrep.2.2 (fun hq => absurd hq (by decide)) (by show d + 1 ≤ 2048; omega) (by show 60 * (d + 1) ≤ 84000; omega) (z_met Z l d) ?_ f 0 _ [] (zM0 L xs) s.heap [] 0 0 _ hrun hl hI (by show 0 + (zn M' - 16) ≤ 600000; omega) (by show 0 + (zs M' - 0) ≤ 7302249; omega)
  intro pc H locs cells slots ls st i hdg hend hI2 hc2 hs2
  cases i with
  | ireturn =>
    obtain ⟨y, rfl, -, hv⟩ := hend
    cases hv
    refine va_forget (fun q hq => by have := hI2.2.2.1.2.2 q hq; rw [← hzb]; exact this) ?_
    exact W.widen hc2 hs2 (lw_ret hx hb hr hlocks hdg)
  | lreturn => obtain ⟨y, rfl, h, -⟩ := hend; exact absurd h (by decide)
  | areturn => obtain ⟨y, rfl, h, -⟩ := hend; exact absurd h (by decide)
  | return_ => obtain ⟨rfl, h, -⟩ := hend; exact absurd h (by decide)
  | _ => exact hend.elim
