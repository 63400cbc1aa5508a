/-! ===== what a desk is: texts, sagas, purses, worlds, the log, ticks, replays ===== -/
def yu {α : Type} (f : Nat → α) (k : Nat) (v : α) : Nat → α := fun j => if j = k then v else f j
theorem yu_s {α : Type} (f : Nat → α) (k : Nat) (v : α) : yu f k v k = v := if_pos rfl
theorem yu_n {α : Type} {f : Nat → α} {k j : Nat} {v : α} (h : j ≠ k) : yu f k v j = f j := if_neg h
theorem yu_e {α : Type} (f : Nat → α) (k : Nat) (v : α) (j : Nat) : yu f k v j = if j = k then v else f j := rfl
/-- a text: how many steps, kinds, first accounts, second ones, numbers, aheads, the pivot -/
abbrev yT : Type := Nat × (Nat → Nat) × (Nat → Int32) × (Nat → Int32) × (Nat → Int32) × (Nat → Nat) × Int32
def tn (T : yT) : Nat := T.1
def tk (T : yT) : Nat → Nat := T.2.1
def tf (T : yT) : Nat → Int32 := T.2.2.1
def ts (T : yT) : Nat → Int32 := T.2.2.2.1
def tu (T : yT) : Nat → Int32 := T.2.2.2.2.1
def ta (T : yT) : Nat → Nat := T.2.2.2.2.2.1
def tp (T : yT) : Int32 := T.2.2.2.2.2.2
/-- a saga: how it is, its text, how its steps stand, those done (the last first), by which numbers, plans, plans of undoings, failures, reasons -/
abbrev yS : Type := Nat × Nat × (Nat → Nat) × List Nat × (Nat → Int32) × (Nat → Int32) × (Nat → Int32) × (Nat → Int32) × (Nat → Int32)
def gt (S : yS) : Nat := S.1
def gx (S : yS) : Nat := S.2.1
def gd (S : yS) : Nat → Nat := S.2.2.1
def go (S : yS) : List Nat := S.2.2.2.1
def gb (S : yS) : Nat → Int32 := S.2.2.2.2.1
def gp (S : yS) : Nat → Int32 := S.2.2.2.2.2.1
def gq (S : yS) : Nat → Int32 := S.2.2.2.2.2.2.1
def gf (S : yS) : Nat → Int32 := S.2.2.2.2.2.2.2.1
def gw (S : yS) : Nat → Int32 := S.2.2.2.2.2.2.2.2
def gtS (S : yS) (v : Nat) : yS := (v, S.2)
def gdS (S : yS) (v : Nat → Nat) : yS := (S.1, S.2.1, v, S.2.2.2)
def goS (S : yS) (v : List Nat) : yS := (S.1, S.2.1, S.2.2.1, v, S.2.2.2.2)
def gbS (S : yS) (v : Nat → Int32) : yS := (S.1, S.2.1, S.2.2.1, S.2.2.2.1, v, S.2.2.2.2.2)
def gpS (S : yS) (v : Nat → Int32) : yS := (S.1, S.2.1, S.2.2.1, S.2.2.2.1, S.2.2.2.2.1, v, S.2.2.2.2.2.2)
def gqS (S : yS) (v : Nat → Int32) : yS := (S.1, S.2.1, S.2.2.1, S.2.2.2.1, S.2.2.2.2.1, S.2.2.2.2.2.1, v, S.2.2.2.2.2.2.2)
def gfS (S : yS) (v : Nat → Int32) : yS := (S.1, S.2.1, S.2.2.1, S.2.2.2.1, S.2.2.2.2.1, S.2.2.2.2.2.1, S.2.2.2.2.2.2.1, v, S.2.2.2.2.2.2.2.2)
def gwS (S : yS) (v : Nat → Int32) : yS := (S.1, S.2.1, S.2.2.1, S.2.2.2.1, S.2.2.2.2.1, S.2.2.2.2.2.1, S.2.2.2.2.2.2.1, S.2.2.2.2.2.2.2.1, v)
/-- balances, HELD, MARKS -/
abbrev yP : Type := (Nat → Int32) × Int32 × Int32
abbrev yW : Type := yP × (Nat → yS)
abbrev yL : Type := Nat × Nat × Nat
abbrev yX : Type := yW × Option (List yL)
/-- masks -/
def ymk (f : Nat → Bool) : Nat → Nat
  | 0 => 0
  | n + 1 => ymk f n ||| (if f n then 2 ^ n else 0)
def gm (S : yS) (v : Nat) : Nat := ymk (fun k => gd S k == v) 12
/-- steps that are purses' -/
def yck (b : Int32) : Int32 := if 0 ≤ b then (if b ≤ nI 9999 then 0 else 3) else 2
def ybe (P : yP) (a more : Int32) : Int32 := match zix a 6 with
  | none => 0
  | some k => yck (P.1 k + more)
def yf1 (k : Nat) (n : Int32) : Int32 := if k = 0 then n else if k = 4 ∨ k = 5 then 0 else -n
def yf2 (k : Nat) (n : Int32) : Int32 := if k = 2 then n else 0
def yob (T : yT) (P : yP) (i : Nat) (n w : Int32) : Int32 :=
  if ybe P (tf T i) (w * yf1 (tk T i) n) ≠ 0 then ybe P (tf T i) (w * yf1 (tk T i) n) else ybe P (ts T i) (w * yf2 (tk T i) n)
def ypu (P : yP) (a more : Int32) : yP := match zix a 6 with
  | none => P
  | some k => (yu P.1 k (P.1 k + more), P.2)
def yex (P : yP) (a b : Int32) : yP := match zix a 6, zix b 6 with
  | some i, some j => (yu (yu P.1 i (P.1 j)) j (P.1 i), P.2)
  | _, _ => P
def ych (T : yT) (P : yP) (i : Nat) (n w : Int32) : yP :=
  let P2 := ypu (ypu P (tf T i) (w * yf1 (tk T i) n)) (ts T i) (w * yf2 (tk T i) n)
  if tk T i = 3 then (P2.1, P2.2.1 + w * n, P2.2.2) else if tk T i = 4 then yex P2 (tf T i) (ts T i) else if tk T i = 5 ∧ w = 1 then (P2.1, P2.2.1, P2.2.2 + 1) else P2
/-- sagas -/
def ypa (T : yT) (done : Nat) : Bool := decide (tp T ≠ -1 ∧ tp T &&& (nI done ^^^ (-1)) = 0)
def ynx (T : yT) (set : Nat) : Nat := ymk (fun i => !set.testBit i && zdf (ta T i) set == 0) (tn T)
def yfr (T : yT) (S : yS) : Nat := ymk (fun i => gd S i == 0 && zdf (ta T i) (gm S 1) == 0) (tn T)
def yDn (S : yS) (i : Nat) (n : Int32) : yS := gbS (goS (gdS S (yu (gd S) i 1)) (i :: go S)) (yu (gb S) i n)
def ylg (g : Option (List yL)) (x : yL) : Option (List yL) := match g with
  | none => none
  | some l => some (l ++ [x])
def yxs (X : yX) (s : Nat) : yS := X.1.2 s
def yss (X : yX) (s : Nat) (S : yS) : yX := ((X.1.1, yu X.1.2 s S), X.2)
def ysp (X : yX) (P : yP) : yX := ((P, X.1.2), X.2)
def yno (X : yX) (x : yL) : yX := (X.1, ylg X.2 x)
def yen (X : yX) (s v : Nat) : yX := yno (yss X s (gtS (yxs X s) v)) (5, s, v)
def ypl (p : Nat → Int32) (i : Nat) : Bool := decide (0 < p i)
/-- one is spent of a plan -/
def ysd (p : Nat → Int32) (i : Nat) : Nat → Int32 := if ypl p i then yu p i (p i - 1) else p
def yfS (S : yS) (i : Nat) (r : Int32) (passed : Bool) : yS :=
  let S2 := gwS (gfS S (yu (gf S) i (gf S i + 1))) (yu (gw S) i r)
  if passed then S2 else gtS S2 2
def ytr (T : yT) (n : Int32) (s i : Nat) (X : yX) : yX :=
  let S := yxs X s
  let S1 := gpS S (ysd (gp S) i)
  let r := if ypl (gp S) i then 1 else yob T X.1.1 i n 1
  if r = 0 then yno (yss (ysp X (ych T X.1.1 i n 1)) s (yDn S1 i n)) (1, s, i)
  else
    let X2 := yno (yss X s (yfS S1 i r (ypa T (gm S 1)))) (2, s, i)
    if ypa T (gm S 1) = true ∧ ¬ gf S i + 1 < nI 3 then yen X2 s 5 else X2
/-- the turns of a front's steps -/
def yfl (T : yT) (nm : Nat → Int32) (s fr : Nat) : Nat → Nat → yX → yX
  | 0, _, X => X
  | k + 1, i, X => if gt (yxs X s) = 1 then yfl T nm s fr k (i + 1) (if fr.testBit i then ytr T (nm i) s i X else X) else X
def yfo (T : yT) (nm : Nat → Int32) (s : Nat) (X : yX) : yX :=
  let X1 := yfl T nm s (yfr T (yxs X s)) 12 0 X
  if gt (yxs X1 s) = 1 ∧ gm (yxs X1 s) 1 = 2 ^ tn T - 1 then yen X1 s 3 else X1
def yun (T : yT) (s : Nat) (X : yX) : yX :=
  let S := yxs X s
  match go S with
  | [] => X
  | i :: rest =>
    let S1 := gqS S (ysd (gq S) i)
    let r := if ypl (gq S) i then 1 else yob T X.1.1 i (gb S i) (-1)
    if r = 0 then yno (yss (ysp X (ych T X.1.1 i (gb S i) (-1))) s (goS (gdS S1 (yu (gd S1) i 2)) rest)) (3, s, i)
    else yno (yss X s (gwS (goS (gdS S1 (yu (gd S1) i 3)) rest) (yu (gw S1) i r))) (4, s, i)
def yba (T : yT) (s : Nat) (X : yX) : yX :=
  let X1 := yun T s X
  if gm (yxs X1 s) 1 = 0 then yen X1 s 4 else X1
def ytu (T : Nat → yT) (nm : Nat → Nat → Int32) (s : Nat) (X : yX) : yX :=
  if gt (yxs X s) = 1 then yfo (T (gx (yxs X s))) (nm s) s X else if gt (yxs X s) = 2 then yba (T (gx (yxs X s))) s X else X
def yti (T : Nat → yT) (nm : Nat → Nat → Int32) (X : yX) : yX := ytu T nm 2 (ytu T nm 1 (ytu T nm 0 X))
def ytn (T : Nat → yT) (nm : Nat → Nat → Int32) : Nat → yX → yX
  | 0, X => X
  | k + 1, X => ytn T nm k (yti T nm X)
/-- beginnings and replays -/
def yS0 : yS := (0, 0, fun _ => 0, [], fun _ => 0, fun _ => 0, fun _ => 0, fun _ => 0, fun _ => 0)
def yP0 : yP := (fun _ => 100, 0, 0)
def yW0 : yW := (yP0, fun _ => yS0)
def ySt (t : Nat) : yS := gtS (yS0.1, t, yS0.2.2) 1
def yag (T : Nat → yT) (W : yW) (l : yL) : yW :=
  let S := W.2 l.2.1
  let i := l.2.2
  match l.1 with
  | 0 => (W.1, yu W.2 l.2.1 (ySt i))
  | 1 => (ych (T (gx S)) W.1 i (tu (T (gx S)) i) 1, yu W.2 l.2.1 (yDn S i (tu (T (gx S)) i)))
  | 2 => (W.1, yu W.2 l.2.1 (yfS S i 0 (ypa (T (gx S)) (gm S 1))))
  | 3 => (ych (T (gx S)) W.1 i (gb S i) (-1), yu W.2 l.2.1 (goS (gdS S (yu (gd S) i 2)) (go S).tail))
  | 4 => (W.1, yu W.2 l.2.1 (gwS (goS (gdS S (yu (gd S) i 3)) (go S).tail) (yu (gw S) i 0)))
  | 5 => (W.1, yu W.2 l.2.1 (gtS S i))
  | _ => ((yu W.1.1 l.2.1 (nI i), W.1.2), W.2)
def yre (T : Nat → yT) (L : List yL) : yW := L.foldl (yag T) yW0
/-- what holds of texts and sagas -/
def OKT (T : yT) : Prop := 1 ≤ tn T ∧ tn T ≤ 12 ∧ (tp T = -1 ∨ ∃ p, p < 2 ^ tn T ∧ tp T = nI p) ∧ ∀ k, k < tn T →
  tk T k < 6 ∧ ta T k < 2 ^ k ∧ (tk T k = 5 → tf T k = -1) ∧ (tk T k ≠ 5 → ∃ a, a < 6 ∧ tf T k = nI a) ∧ ((tk T k = 2 ∨ tk T k = 4) → ∃ a, a < 6 ∧ ts T k = nI a) ∧
  (tk T k ≠ 2 → tk T k ≠ 4 → ts T k = -1) ∧ ((tk T k = 4 ∨ tk T k = 5) → tu T k = -1) ∧ (tk T k ≠ 4 → tk T k ≠ 5 → ∃ v, v < 1000 ∧ tu T k = nI v)
def OKP (P : yP) : Prop := ∀ a, a < 6 → 0 ≤ P.1 a ∧ P.1 a ≤ nI 9999
def gz (T : Nat → yT) (S : yS) : Nat := if gt S = 0 then 0 else tn (T (gx S))
def OKS (T : Nat → yT) (c : Nat) (S : yS) : Prop := gt S ≤ 5 ∧ (gt S ≠ 0 → gx S < c) ∧ (go S).Nodup ∧ (∀ i, i ∈ go S ↔ gd S i = 1) ∧ (∀ i, gz T S ≤ i → gd S i = 0) ∧ ∀ i, gd S i ≤ 3
def OKW (T : Nat → yT) (c : Nat) (W : yW) : Prop := (c ≤ 6 ∧ ∀ i, i < c → OKT (T i)) ∧ OKP W.1 ∧ ∀ s, s < 3 → OKS T c (W.2 s)
/-! ===== how the cells are laid: the class's ===== -/
def SPr (M : zM) (a : Nat) : Prop := zk M a = (1, 0) ∧ ∀ f, f < 6 → zr M a f = some (a + 1 + f) ∧ zk M (a + 1 + f) = (20, 12)
def SPu (M : zM) (u : Nat) : Prop := zk M u = (2, 0) ∧ zr M u 0 = some (u + 1) ∧ zk M (u + 1) = (20, 6)
def SSg (M : zM) (a : Nat) : Prop := zk M a = (5, 0) ∧ zr M a 6 = some (a + 1) ∧ (∀ f, f < 6 → zr M a (8 + f) = some (a + 2 + f)) ∧ ∀ f, f < 7 → zk M (a + 1 + f) = (20, 12)
def SJo (M : zM) (j L : Nat) : Prop := zk M j = (0, 0) ∧ ∀ f, f < 3 → zr M j f = some (j + 1 + f) ∧ zk M (j + 1 + f) = (20, L)
def SRo (M : zM) (a : Nat) : Prop := zk M a = (4, 0) ∧ zr M a 2 = some (a + 1) ∧ zk M (a + 1) = (20, 40)
def SWo (M : zM) (w u j : Nat) : Prop := zk M w = (6, 0) ∧ zr M w 0 = some 19 ∧ zr M w 1 = some j ∧ zr M w 2 = some u ∧ zr M w 3 = some (u + 2) ∧ zk M (u + 2) = (23, 3) ∧ ∀ s, s < 3 → zr M (u + 2) s = some (u + 3 + 8 * s)
def SRd (M : zM) : Prop := zk M 17 = (3, 0) ∧ zr M 17 0 = some 18 ∧ zk M 18 = (20, 120)
def SDk (M : zM) : Prop := zk M 16 = (7, 0) ∧ zr M 16 0 = some 17 ∧ zr M 16 1 = some 19 ∧ zk M 19 = (22, 6) ∧ (∀ i, i < 6 → zr M 19 i = some (20 + 7 * i)) ∧ zr M 16 3 = some 62 ∧ zr M 16 4 = some 66 ∧ zr M 16 5 = some 94 ∧ zr M 16 6 = some 126 ∧
  zk M 126 = (24, 4) ∧ (∀ i, i < 4 → zr M 126 i = some (127 + 2 * i)) ∧ zr M 16 7 = some 135 ∧ zk M 135 = (21, 4096)
/-- the statics' rows -/
def SSt (M : zM) : Prop := zk M 1 = (30, 6) ∧ zk M 2 = (30, 6) ∧ (∀ j, zi M 1 j = zUn j) ∧ ∀ j, zi M 2 j = zAo j
def SC (M : zM) : Prop := SDk M ∧ SRd M ∧ (∀ i, i < 6 → SPr M (20 + 7 * i)) ∧ SJo M 62 240 ∧ SJo M 95 0 ∧ SWo M 66 67 62 ∧ SWo M 94 99 95 ∧ SPu M 67 ∧ SPu M 99 ∧ (∀ s, s < 3 → SSg M (70 + 8 * s)) ∧ (∀ s, s < 3 → SSg M (102 + 8 * s)) ∧ (∀ i, i < 4 → SRo M (127 + 2 * i)) ∧ SSt M
/-- the references that may be written -/
def zpr (a f : Nat) : Prop := (a = 17 ∧ f = 6) ∨ (f = 2 ∧ (a = 70 ∨ a = 78 ∨ a = 86 ∨ a = 102 ∨ a = 110 ∨ a = 118))
