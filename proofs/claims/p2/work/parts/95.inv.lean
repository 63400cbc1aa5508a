/-! ===== class and reference side by side ===== -/
theorem SC_k {M M' : zM} (h : SC M) (hi : ∀ a k, a < 136 → zi M' a k = zi M a k) (hr : zr M' = zr M) (hk : ∀ a, a < 327 → zk M' a = zk M a) : SC M' := by
  have r : ∀ a f, zr M' a f = zr M a f := fun a f => by rw [hr]
  obtain ⟨⟨d1, d2, d3, d4, d5, d6, d7, d8, d9, da, db, dc, dd⟩, ⟨r1, r2, r3⟩, p, j1, j2, w1, w2, u1, u2, s1, s2, o, t1, t2, t3, t4⟩ := h
  have J : ∀ j L, j < 300 → SJo M j L → SJo M' j L := fun j L hj q => ⟨(hk _ (by omega)).trans q.1, fun f hf => ⟨(r _ _).trans (q.2 f hf).1, (hk _ (by omega)).trans (q.2 f hf).2⟩⟩
  have W : ∀ w u j, w < 300 → u < 300 → SWo M w u j → SWo M' w u j := fun w u j hw hu q => ⟨(hk _ (by omega)).trans q.1, (r _ _).trans q.2.1, (r _ _).trans q.2.2.1, (r _ _).trans q.2.2.2.1, (r _ _).trans q.2.2.2.2.1, (hk _ (by omega)).trans q.2.2.2.2.2.1, fun s hs => (r _ _).trans (q.2.2.2.2.2.2 s hs)⟩
  have U : ∀ u, u < 300 → SPu M u → SPu M' u := fun u hu q => ⟨(hk _ (by omega)).trans q.1, (r _ _).trans q.2.1, (hk _ (by omega)).trans q.2.2⟩
  have G : ∀ a, a < 300 → SSg M a → SSg M' a := fun a ha q => ⟨(hk _ (by omega)).trans q.1, (r _ _).trans q.2.1, fun f hf => (r _ _).trans (q.2.2.1 f hf), fun f hf => (hk _ (by omega)).trans (q.2.2.2 f hf)⟩
  exact ⟨⟨(hk _ (by omega)).trans d1, (r _ _).trans d2, (r _ _).trans d3, (hk _ (by omega)).trans d4, fun i hi => (r _ _).trans (d5 i hi), (r _ _).trans d6, (r _ _).trans d7, (r _ _).trans d8, (r _ _).trans d9, (hk _ (by omega)).trans da, fun i hi => (r _ _).trans (db i hi), (r _ _).trans dc, (hk _ (by omega)).trans dd⟩,
    ⟨(hk _ (by omega)).trans r1, (r _ _).trans r2, (hk _ (by omega)).trans r3⟩, fun i hi6 => ⟨(hk _ (by omega)).trans (p i hi6).1, fun f hf => ⟨(r _ _).trans ((p i hi6).2 f hf).1, (hk _ (by omega)).trans ((p i hi6).2 f hf).2⟩⟩, J _ _ (by omega) j1, J _ _ (by omega) j2, W _ _ _ (by omega) (by omega) w1, W _ _ _ (by omega) (by omega) w2, U _ (by omega) u1, U _ (by omega) u2, fun s hs => G _ (by omega) (s1 s hs), fun s hs => G _ (by omega) (s2 s hs),
    fun i hi4 => ⟨(hk _ (by omega)).trans (o i hi4).1, (r _ _).trans (o i hi4).2.1, (hk _ (by omega)).trans (o i hi4).2.2⟩, (hk _ (by omega)).trans t1, (hk _ (by omega)).trans t2, fun j => (hi _ _ (by omega)).trans (t3 j), fun j => (hi _ _ (by omega)).trans (t4 j)⟩
/-- what the reference's calls leave of the class -/
theorem RC.fg {M M' : zM} {D : yD} (h : RC M D) (g : FG2 M M') : RC M' D := by
  have hS' : SC M' := SC_k h.1.1 g.1 g.2.1 g.2.2.2.1
  have hS0 : SC (M'.1, M'.2.1, M.2.2) := SC_k (M' := (M'.1, M'.2.1, M.2.2)) h.1.1 g.1 g.2.1 (fun _ _ => rfl)
  have f : Fr FY M (M'.1, M'.2.1, M.2.2) := ⟨fun a k q => ⟨g.1 a k (by unfold FY at q; omega), congrFun (congrFun g.2.1 a) k⟩, rfl, rfl, rfl, rfl⟩
  obtain ⟨⟨h1, h2, h3, h4, h5⟩, h6, h7, h8⟩ := h.fr (M' := (M'.1, M'.2.1, M.2.2)) hS0 f ⟨fun k q => by unfold FY at q; omega, fun q => by unfold FY at q; omega, fun a k a1 a2 q => by unfold FY at q; omega, fun a k a1 a2 q => by unfold FY at q; omega⟩
  exact ⟨⟨hS', h2, h3, h4, h5⟩, h6, h7, h8⟩
theorem RX.fF {M M' : zM} {D : yD} {κ : Nat} (h : RX M D κ) (f : Fi (fun b _ => 15 < b ∧ b < 136) M M') : RX M' D κ := by
  obtain ⟨⟨h1, h2, h3, h4, h5, h6, h7, h8⟩, a2, a3, ⟨a4, a5, a6⟩, a7⟩ := h
  have b21 : zi M' 136 21 = -1 := (f.1 _ _ (by omega)).trans a2
  exact ⟨⟨SX_fi h1 f, XTx_fi h2 h3.1.1 f (fun b k b1 b2 q => by omega), h3, XPu_fi h4 f (fun b k q1 q2 => by unfold GP at q1; omega), fun s hs => (h5 s hs).fi f (fun b k q1 q2 => by unfold GS at q1; omega), (f.1 _ _ (by omega)).trans h6, h7.fi f (fun b k q => by unfold GL at q; omega), ⟨none, b21, fun s hs h0 k hk => rfl⟩⟩, b21, (f.1 _ _ (by omega)).trans a3, ⟨a4, (f.1 _ _ (by omega)).trans a5, fun k hk => (f.1 _ _ (by omega)).trans (a6 k hk)⟩, fun i hi => ⟨(f.1 _ _ (by omega)).trans (a7 i hi).1, (f.1 _ _ (by omega)).trans (a7 i hi).2⟩⟩
/-- what the class's calls leave of the reference -/
theorem RX.fcl {M M' : zM} {D : yD} {κ : Nat} (h : RX M D κ) (f : Fc M M') : RX M' D κ := by
  have g : RX (M'.1, M.2) D κ := h.fF (M' := (M'.1, M.2)) ⟨fun a k q => (f.1 a k (by omega)).1, rfl, rfl, rfl, rfl, rfl⟩
  have hX : SX M' := SX_of h.1.1 (fun a _ => congrFun f.2.1 a) (fun a g h1 h2 => (f.1 a g (Or.inr h1)).2)
  obtain ⟨⟨a1, a2, a3, a4, a5, a6, a7, a8⟩, b2, b3, b4, b5⟩ := g
  exact ⟨⟨hX, a2, a3, a4, a5, a6, a7, a8⟩, b2, b3, b4, b5⟩
/-- at the head of the law's loop, i calls being done -/
def LI (xs : Nat → Int32) (L : Nat) (M : zM) (D : yD) (κ i : Nat) : Prop := RC M D ∧ RX M D κ ∧ OKD D ∧ κ ≤ 240 * i ∧ (327 ≤ zn M ∧ zn M ≤ 327 + i ∧ zs M ≤ 13301 + 12 * i) ∧ (∀ j, zi M 0 j = xs j) ∧ zk M 0 = (30, L)
/-- behind the class's call -/
def LC (xs : Nat → Int32) (L : Nat) (M : zM) (D D' : yD) (κ i : Nat) : Prop := RC M D' ∧ RX M D κ ∧ OKD D ∧ κ ≤ 240 * i ∧ (327 ≤ zn M ∧ zn M ≤ 327 + i ∧ zs M ≤ 13301 + 12 * i) ∧ (∀ j, zi M 0 j = xs j) ∧ zk M 0 = (30, L)
theorem LI.c {xs : Nat → Int32} {L κ i : Nat} {M M' : zM} {D D' : yD} (h : LI xs L M D κ i) (hR : RC M' D') (f : Fc M M') : LC xs L M' D D' κ i := by
  obtain ⟨h1, h2, h3, h4, ⟨h5, h6, h7⟩, h8, h9⟩ := h
  exact ⟨hR, h2.fcl f, h3, h4, ⟨by rw [f.2.2.1]; exact h5, by rw [f.2.2.1]; exact h6, by rw [f.2.2.2]; exact h7⟩, fun j => (f.1 0 j (Or.inl (by omega))).1.trans (h8 j), (congrFun f.2.1 0).trans h9⟩
theorem LC.x {xs : Nat → Int32} {L κ κ' i : Nat} {M M' : zM} {D D' : yD} (h : LC xs L M D D' κ i) (hX : RX M' D' κ') (hk : κ' ≤ κ + 240) (hD : OKD D') (g : FG2 M M') : LI xs L M' D' κ' (i + 1) := by
  obtain ⟨h1, h2, h3, h4, ⟨h5, h6, h7⟩, h8, h9⟩ := h
  obtain ⟨g1, g2, g3, g4, g5, g6, g7⟩ := g
  exact ⟨h1.fg ⟨g1, g2, g3, g4, g5, g6, g7⟩, hX, hD, by omega, ⟨by omega, by omega, by omega⟩, fun j => (g1 0 j (by omega)).trans (h8 j), (g4 0 (by omega)).trans h9⟩
theorem LC.y {xs : Nat → Int32} {L κ κ' i : Nat} {M M' : zM} {D D' : yD} (h : LC xs L M D D' κ i) (hX : RX M' D' κ') (hk : κ' ≤ κ + 240) (hD : OKD D') (f : Fi FY M M') : LI xs L M' D' κ' (i + 1) := h.x hX hk hD (FG2.fy f)
theorem LC.b {xs : Nat → Int32} {L κ i : Nat} {M : zM} {D D' : yD} (h : LC xs L M D D' κ i) (e : dn D' = dn D) (e2 : db D' = db D) : ∀ k, k < dn D → db D k < 256 := fun k hk => by
  have := (h.1.2.2.1.2.2 k (by rw [e]; exact hk)).2
  rw [e2] at this; exact this
theorem LI.b {xs : Nat → Int32} {L κ i : Nat} {M : zM} {D : yD} (h : LI xs L M D κ i) : ∀ k, k < dn D → db D k < 256 := fun k hk => (h.1.2.2.1.2.2 k hk).2
/-- which call -/
theorem nI_bk (x : Int32) : nI x.toUInt32.toNat = x := by
  apply Int32.toBitVec_inj.mp
  show BitVec.ofNat 32 x.toBitVec.toNat = x.toBitVec
  simp
theorem and31 (x : Int32) : ∃ m, m < 32 ∧ x &&& nI 31 = nI m := by
  refine ⟨x.toUInt32.toNat &&& 31, ?_, ?_⟩
  · have := Nat.and_le_right (n := x.toUInt32.toNat) (m := 31)
    omega
  · rw [← n_and, nI_bk]
