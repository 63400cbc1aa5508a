/-! ===== what the calls answer, and what becomes of the desk ===== -/
/-- texts (how many, which), the tape (how many bytes, which), the world, the log, the sheets (sort, size) -/
abbrev yD : Type := Nat × (Nat → yT) × Nat × (Nat → Nat) × yW × List yL × (Nat → Int32 × Nat)
def dc (D : yD) : Nat := D.1
def dT (D : yD) : Nat → yT := D.2.1
def dn (D : yD) : Nat := D.2.2.1
def db (D : yD) : Nat → Nat := D.2.2.2.1
def dW (D : yD) : yW := D.2.2.2.2.1
def dL (D : yD) : List yL := D.2.2.2.2.2.1
def dR (D : yD) : Nat → Int32 × Nat := D.2.2.2.2.2.2
def dtS (D : yD) (n : Nat) (b : Nat → Nat) : yD := (D.1, D.2.1, n, b, D.2.2.2.2)
def dwS (D : yD) (W : yW) (L : List yL) : yD := (D.1, D.2.1, D.2.2.1, D.2.2.2.1, W, L, D.2.2.2.2.2.2)
def drS (D : yD) (R : Nat → Int32 × Nat) : yD := (D.1, D.2.1, D.2.2.1, D.2.2.2.1, D.2.2.2.2.1, D.2.2.2.2.2.1, R)
def dX (D : yD) : yX := (dW D, some (dL D))
def dS (D : yD) (s : Nat) : yS := (dW D).2 s
/-- a number of a row, else refused -/
def oz {α : Type} (x : Int32) (n : Nat) (no : α) (f : Nat → α) : α := match zix x n with
  | none => no
  | some k => f k
theorem oz_n {α : Type} {x : Int32} {n : Nat} {no : α} {f : Nat → α} (h : zix x n = none) : oz x n no f = no := by unfold oz; rw [h]
theorem oz_s {α : Type} {x : Int32} {n k : Nat} {no : α} {f : Nat → α} (h : zix x n = some k) : oz x n no f = f k := by unfold oz; rw [h]
/-- texts -/
def yby (k : Nat) (a b c e f : Nat) : Nat := if k = 0 then a else if k = 1 then b else if k = 2 then c else if k = 3 then e else f
def yfd (D : yD) (k a b c e f : Nat) : yD := dtS D (dn D + k) (fun i => if dn D ≤ i ∧ i < dn D + k then yby (i - dn D) a b c e f else db D i)
def sFeed (D : yD) (x a b c e f : Int32) : Int32 × yD := oz x 6 (-2, D) (fun k => if k = 0 then (-2, D) else oz a 256 (-2, D) (fun a => oz b 256 (-2, D) (fun b => oz c 256 (-2, D) (fun c => oz e 256 (-2, D) (fun e => oz f 256 (-2, D) (fun f =>
  if 120 < dn D + k then (-4, D) else (nI (dn D + k), yfd D k a b c e f)))))))
def sText (D : yD) : Int32 × yD := if 6 ≤ dc D then (-4, D) else match pTx (dn D) (db D) with
  | .error f => (-100 - nI f, dtS D 0 (db D))
  | .ok T => (nI (dc D), (dc D + 1, yu (dT D) (dc D) T, 0, D.2.2.2))
def sShape (D : yD) (x w : Int32) : Int32 := oz x (dc D) (-2) (fun t => oz w 6 (-2) (fun w =>
  if w = 0 then nI (tn (dT D t)) else if w = 1 then nI (ylo (dT D t) (tn (dT D t))) else if w = 2 then nI (ywf (dT D t) (tn (dT D t)) 0 (2 ^ tn (dT D t) - 1)) else if w = 3 then nI (ycl (dT D t) (tn (dT D t))) else if w = 4 then tp (dT D t) else nI (yrk (dT D t) (tn (dT D t)) 0 0 (dW D).1.1)))
def sOrders (D : yD) (x : Int32) : Int64 := oz x (dc D) (-2) (fun t => yg (dT D t) (2 ^ tn (dT D t) - 1))
def sStep (D : yD) (x y w : Int32) : Int32 := oz x (dc D) (-2) (fun t => oz y (tn (dT D t)) (-2) (fun i => oz w 6 (-2) (fun w =>
  if w = 0 then nI (tk (dT D t) i) else if w = 1 then tf (dT D t) i else if w = 2 then ts (dT D t) i else if w = 3 then tu (dT D t) i else if w = 4 then nI (ta (dT D t) i) else nI (ybd (dT D t) i))))
def yundr (kd k : Nat) : Bool := k == 0 || k == kd || (k == 1 && kd == 3) || (k == 2 && kd == 4)
def sTaken (D : yD) (x y z : Int32) : Int32 := oz x (dc D) (-2) (fun t => oz y (tn (dT D t)) (-2) (fun i => oz z 6 (-2) (fun k => if yundr (tk (dT D t) i) k then nI (tk (dT D t) i) else -13)))
/-- sagas -/
def sBegin (D : yD) (x y : Int32) : Int32 × yD := oz x 3 (-2, D) (fun s => oz y (dc D) (-2, D) (fun t =>
  if gt (dS D s) = 1 ∨ gt (dS D s) = 2 then (-3, D) else if 240 ≤ (dL D).length then (-4, D) else (nI (tn (dT D t)), dwS D ((dW D).1, yu (dW D).2 s (ySt t)) (dL D ++ [(0, s, t)]))))
def yms (D : yD) (s : Nat) : Nat := if gt (dS D s) = 0 then 12 else tn (dT D (gx (dS D s)))
def sPlan (D : yD) (x y o z : Int32) : Int32 × yD := oz x 3 (-2, D) (fun s => oz y (yms D s) (-2, D) (fun i => oz o 2 (-2, D) (fun o => oz z 10 (-2, D) (fun z =>
  if gt (dS D s) = 0 then (-3, D) else if o = 0 then (gp (dS D s) i, dwS D ((dW D).1, yu (dW D).2 s (gpS (dS D s) (yu (gp (dS D s)) i (nI z)))) (dL D)) else (gq (dS D s) i, dwS D ((dW D).1, yu (dW D).2 s (gqS (dS D s) (yu (gq (dS D s)) i (nI z)))) (dL D))))))
def dnm (D : yD) : Nat → Nat → Int32 := yNm (dT D) (dW D)
def dlg (X : yX) : List yL := match X.2 with
  | none => []
  | some l => l
def sTick (D : yD) : Int32 × yD := if 190 < (dL D).length then (-4, D) else (nI ((dlg (yti (dT D) (dnm D) (dX D))).length - (dL D).length), dwS D (yti (dT D) (dnm D) (dX D)).1 (dlg (yti (dT D) (dnm D) (dX D))))
def sTold (D : yD) (x w : Int32) : Int32 := oz x 3 (-2) (fun s => oz w 8 (-2) (fun w =>
  if w = 0 then nI (gt (dS D s)) else if w = 1 then txt (dS D s) else if w = 2 then nI (gm (dS D s) 1) else if w = 3 then nI (gm (dS D s) 2) else if w = 4 then nI (gm (dS D s) 3) else
  if w = 5 then (if gt (dS D s) = 1 then nI (yfr (dT D (gx (dS D s))) (dS D s)) else nI 0) else if w = 6 then (if gt (dS D s) = 0 then nI 0 else bI (ypa (dT D (gx (dS D s))) (gm (dS D s) 1))) else ylast (go (dS D s))))
def sWhy (D : yD) (x y : Int32) : Int32 := oz x 3 (-2) (fun s => oz y (yms D s) (-2) (fun i => if gt (dS D s) = 0 then -3 else gw (dS D s) i))
def sSet (D : yD) (x y : Int32) : Int32 × yD := oz x 6 (-2, D) (fun a => oz y 10000 (-2, D) (fun v => if 240 ≤ (dL D).length then (-4, D) else ((dW D).1.1 a, dwS D ((yu (dW D).1.1 a (nI v), (dW D).1.2), (dW D).2) (dL D ++ [(6, a, v)]))))
/-- the log -/
def sLine (D : yD) (x w : Int32) : Int32 := oz w 3 (-2) (fun w => oz x (dL D).length (-12) (fun k => if w = 0 then nI ((dL D).getD k (0, 0, 0)).1 else if w = 1 then nI ((dL D).getD k (0, 0, 0)).2.1 else nI ((dL D).getD k (0, 0, 0)).2.2))
/-- what replay() and run() are asked of a world -/
def yvw (W : yW) (m : Nat) : Int32 := if m < 6 then W.1.1 m else if m = 6 then W.1.2.1 else if m = 7 then W.1.2.2 else if m < 20 then nI (gt (W.2 (m % 10))) else if m < 30 then nI (gm (W.2 (m % 10)) 1) else if m < 40 then nI (gm (W.2 (m % 10)) 2) else nI (gm (W.2 (m % 10)) 3)
def ov (w : Int32) (f : Nat → Int32) : Int32 := match yvx w with
  | none => -2
  | some m => f m
def sReplay (D : yD) (x w : Int32) : Int32 := oz x ((dL D).length + 1) (-2) (fun n => ov w (fun m => yvw (yre (dT D) ((dL D).take n)) m))
def sBreaks (D : yD) (x : Int32) : Int32 × yD := oz x ((dL D).length + 1) (-2, D) (fun n => (nI ((dL D).length - n), dwS D (yre (dT D) ((dL D).take n)) ((dL D).take n)))
/-- in thought -/
def sRun (D : yD) (x w : Int32) : Int32 := oz x 61 (-2) (fun n => ov w (fun m => yvw (ytn (dT D) (dnm D) n (dW D, none)).1 m))
/-- till a saga is over: behind how many ticks, and the world then -/
def yov60 (T : Nat → yT) (nm : Nat → Nat → Int32) (s : Nat) : Nat → Nat → yX → Nat × yX
  | 0, t, X => (t, X)
  | r + 1, t, X => if gt (yxs X s) < 3 then yov60 T nm s r (t + 1) (yti T nm X) else (t, X)
def sEnds (D : yD) (x w : Int32) : Int32 := oz x 3 (-2) (fun s => oz w 3 (-2) (fun w => if gt (dS D s) = 0 then -3 else
  let E := yov60 (dT D) (dnm D) s 60 0 (dW D, none)
  if w = 0 then (if gt (yxs E.2 s) < 3 then -1 else nI E.1) else if w = 1 then nI (gt (yxs E.2 s)) else ybc (nI (gm (yxs E.2 s) 3))))
def yzn (z : Int32) : Int32 := z * 1103515245 + 12345
def yzs (z : Int32) : Nat → Int32
  | 0 => z
  | k + 1 => yzn (yzs z k)
def yzp (z : Int32) : Int32 := if ush z (nI 9) - ush z (nI 9) / nI 4 * nI 4 = nI 0 then nI 1 else nI 0
/-- DRAWN by a seed -/
def ydw (D : yD) (s : Nat) (z : Int32) : yX :=
  let X := ydp 3 (dW D, none)
  yss X s (gpS (yxs X s) (fun i => if i < tn (dT D (gx (dS D s))) then yzp (yzs z (i + 1)) else 0))
def ydn (D : yD) (s : Nat) (z : Int32) : Nat := gt (yxs (ytn (dT D) (dnm D) 40 (ydw D s z)) s)
def sDrawn (D : yD) (x z : Int32) : Int32 := oz x 3 (-2) (fun s => if gt (dS D s) = 0 then -3 else nI (ydn D s z))
def ycn (D : yD) (s : Nat) (z : Int32) : Nat → Nat
  | 0 => 0
  | i + 1 => ycn D s z i + (if ydn D s (z + nI i) = 3 then 1 else 0)
def sChance (D : yD) (x z y w : Int32) : Int32 := oz x 3 (-2) (fun s => oz y 21 (-2) (fun m => if m = 0 then -2 else oz w 2 (-2) (fun w => if gt (dS D s) = 0 then -3 else
  if w = 0 then nI (ycn D s z m / Nat.gcd (ycn D s z m) m) else nI (m / Nat.gcd (ycn D s z m) m))))
/-- what was told -/
def sFilm (D : yD) (x y z : Int32) : Int32 × yD := oz x 4 (-2, D) (fun h => oz y 6 (-2, D) (fun _ => oz z 21 (-2, D) (fun n => (nI n, drS D (yu (dR D) h (nI 1, n))))))
def sCount (D : yD) (w : Int32) : Int32 := oz w 16 (-2) (fun w => if w = 0 then nI (dc D) else if w = 1 then nI (dn D) else if w = 2 then nI (dL D).length else if w = 3 then nI (yact (dW D) 3) else if w = 4 then (dW D).1.2.1 else if w = 5 then (dW D).1.2.2 else if w < 10 then -2 else (dW D).1.1 (w - 10))
/-- the host -/
def sSheet (D : yD) (x y z : Int32) : Int32 × yD := oz x 4 (-2, D) (fun h => if y = -1 then (nI 1, drS D (yu (dR D) h (-1, 0))) else oz y 2 (-2, D) (fun o => if nI 40 < z then (-2, D) else if z < nI 0 then (-14, D) else (nI 1, drS D (yu (dR D) h (nI o, z.toNatClampNeg)))))
def sCell (D : yD) (x y : Int32) : Int32 := oz x 4 (-2) (fun h => if (dR D h).1 = -1 then -11 else oz y (dR D h).2 (-12) (fun _ => nI 1))
def ycp (i j n : Int32) (a b : Nat) : Bool := decide (0 ≤ n.toInt ∧ 0 ≤ i.toInt ∧ 0 ≤ j.toInt ∧ i.toInt + n.toInt ≤ a ∧ j.toInt + n.toInt ≤ b)
def sCopy (D : yD) (x i y j n : Int32) : Int32 := oz x 4 (-2) (fun h => oz y 4 (-2) (fun q => if (dR D h).1 = -1 ∨ (dR D q).1 = -1 then -11 else if (dR D h).1 ≠ (dR D q).1 then -13 else if ycp i j n (dR D h).2 (dR D q).2 then n else -12))
/-! what holds of a desk -/
/-- the same, but for plans and reasons -/
def yCo (W W' : yW) : Prop := W.1 = W'.1 ∧ ∀ s, s < 3 → gt (W.2 s) = gt (W'.2 s) ∧ (gt (W.2 s) ≠ 0 → gx (W.2 s) = gx (W'.2 s)) ∧ gd (W.2 s) = gd (W'.2 s) ∧ go (W.2 s) = go (W'.2 s) ∧ (∀ k, gd (W.2 s) k = 1 → gb (W.2 s) k = gb (W'.2 s) k) ∧ gf (W.2 s) = gf (W'.2 s)
def OKD (D : yD) : Prop := OKW (dT D) (dc D) (dW D) ∧ (dL D).length ≤ 240 ∧ yva (dT D) (dc D) (dL D) ∧ yCo (dW D) (yre (dT D) (dL D)) ∧ (∀ i, i < 4 → (dR D i).2 ≤ 40 ∧ ((dR D i).1 = -1 ∨ (dR D i).1 = nI 0 ∨ (dR D i).1 = nI 1))
/-- the class's cells are that desk -/
def RC (M : zM) (D : yD) : Prop := CN M 62 66 67 62 (dT D) (dc D) (dX D) ∧ zi M 16 2 = nI (dc D) ∧ RTp M (dn D) (db D) ∧ ∀ i, i < 4 → zi M (127 + 2 * i) 0 = (dR D i).1 ∧ zi M (127 + 2 * i) 1 = nI (dR D i).2
/-- what the class's calls leave -/
def Fc (M M' : zM) : Prop := (∀ a k, (a < 16 ∨ 136 ≤ a) → zi M' a k = zi M a k ∧ zr M' a k = zr M a k) ∧ zk M' = zk M ∧ zn M' = zn M ∧ zs M' = zs M
theorem Fc.refl (M : zM) : Fc M M := ⟨fun _ _ _ => ⟨rfl, rfl⟩, rfl, rfl, rfl⟩
theorem Fc.trans {M M' M'' : zM} (h : Fc M M') (g : Fc M' M'') : Fc M M'' := ⟨fun a k q => ⟨(g.1 a k q).1.trans (h.1 a k q).1, (g.1 a k q).2.trans (h.1 a k q).2⟩, g.2.1.trans h.2.1, g.2.2.1.trans h.2.2.1, g.2.2.2.trans h.2.2.2⟩
theorem Fr.c {S : Nat → Nat → Prop} {M M' : zM} (h : Fr S M M') (hs : ∀ a k, (a < 16 ∨ 136 ≤ a) → ¬ S a k) : Fc M M' := ⟨fun a k q => h.1 a k (hs a k q), h.2.2.1, h.2.2.2.1, h.2.2.2.2⟩
theorem Fl.c {b : Nat} {M M' : zM} (h : Fl b M M') : Fc M M' := ⟨fun a k _ => ⟨h.i a k, h.r a k⟩, funext h.k, congrArg (fun q => q.2.1) h.2.2.1, congrArg (fun q => q.2.2) h.2.2.1⟩
/-- the class's cells outside of the worlds -/
theorem RC.fr {M M' : zM} {S : Nat → Nat → Prop} {D : yD} (h : RC M D) (hS : SC M') (f : Fr S M M') (hs : (∀ k, ¬ S 16 k) ∧ ¬ S 17 1 ∧ (∀ a k, 18 ≤ a → a < 94 → ¬ S a k) ∧ ∀ a k, 126 ≤ a → a < 136 → ¬ S a k) : RC M' D := by
  obtain ⟨⟨h1, h2, h3, h4, h5⟩, h6, h7, h8⟩ := h
  refine ⟨⟨hS, h2, RTx_fr h3 h4.1.1 f (fun b k a1 a2 => hs.2.2.1 b k (by omega) (by omega)), h4, ⟨RPu_fr h5.1 f (fun b k a1 a2 => hs.2.2.1 b k (by omega) (by omega)), fun s hs3 => RS_fr (h5.2.1 s hs3) f (fun b k a1 a2 => hs.2.2.1 b k (by omega) (by omega)), RJ_fr h5.2.2 f (fun b k a1 a2 => hs.2.2.1 b k (by omega) (by omega))⟩⟩,
    (f.i (hs.1 2)).trans h6, RTp_fi h7 f ⟨hs.2.1, fun k => hs.2.2.1 18 k (by omega) (by omega)⟩, fun i hi => ⟨(f.i (hs.2.2.2 _ _ (by omega) (by omega))).trans (h8 i hi).1, (f.i (hs.2.2.2 _ _ (by omega) (by omega))).trans (h8 i hi).2⟩⟩
