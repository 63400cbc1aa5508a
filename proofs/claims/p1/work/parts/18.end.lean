/-! ===== every script, written by wip/gen/p1/runs.py ===== -/
theorem syBnil (xs : Nat → Int32) : syBok xs [] := fun q hq => by cases hq
theorem syBcons {xs : Nat → Int32} {bx : syB} {j : Nat} {lo hi : Int} (h : lo ≤ (syE xs j).toInt ∧ (syE xs j).toInt ≤ hi) (hb : syBok xs bx) : syBok xs ((j, lo, hi) :: bx) := fun q hq => by
  rcases List.mem_cons.mp hq with rfl | hq
  · exact h
  · exact hb q hq
theorem syr13 {xs : Nat → Int32} (hk : (13 : Int) ≤ (syE xs 7).toInt ∧ (syE xs 7).toInt ≤ 13) : sySt 7 xs := by
  have b := sylow (syE xs 2)
  by_cases h0 : (-2147483648) ≤ (syE xs 2).toInt ∧ (syE xs 2).toInt ≤ (-1)
  · exact sybox syr_13_0 (syBcons hk (syBcons h0 (syBnil xs)))
  by_cases h1 : (0) ≤ (syE xs 2).toInt ∧ (syE xs 2).toInt ≤ (5)
  · exact sybox syr_13_1 (syBcons hk (syBcons h1 (syBnil xs)))
  by_cases h2 : (6) ≤ (syE xs 2).toInt ∧ (syE xs 2).toInt ≤ (6)
  · exact sybox syr_13_2 (syBcons hk (syBcons h2 (syBnil xs)))
  by_cases h3 : (7) ≤ (syE xs 2).toInt ∧ (syE xs 2).toInt ≤ (7)
  · exact sybox syr_13_3 (syBcons hk (syBcons h3 (syBnil xs)))
  by_cases h4 : (8) ≤ (syE xs 2).toInt ∧ (syE xs 2).toInt ≤ (9)
  · exact sybox syr_13_4 (syBcons hk (syBcons h4 (syBnil xs)))
  by_cases h5 : (10) ≤ (syE xs 2).toInt ∧ (syE xs 2).toInt ≤ (10)
  · exact sybox syr_13_5 (syBcons hk (syBcons h5 (syBnil xs)))
  by_cases h6 : (11) ≤ (syE xs 2).toInt ∧ (syE xs 2).toInt ≤ (11)
  · exact sybox syr_13_6 (syBcons hk (syBcons h6 (syBnil xs)))
  by_cases h7 : (12) ≤ (syE xs 2).toInt ∧ (syE xs 2).toInt ≤ (12)
  · exact sybox syr_13_7 (syBcons hk (syBcons h7 (syBnil xs)))
  by_cases h8 : (13) ≤ (syE xs 2).toInt ∧ (syE xs 2).toInt ≤ (19)
  · exact sybox syr_13_8 (syBcons hk (syBcons h8 (syBnil xs)))
  by_cases h9 : (20) ≤ (syE xs 2).toInt ∧ (syE xs 2).toInt ≤ (20)
  · exact sybox syr_13_9 (syBcons hk (syBcons h9 (syBnil xs)))
  by_cases h10 : (21) ≤ (syE xs 2).toInt ∧ (syE xs 2).toInt ≤ (21)
  · exact sybox syr_13_10 (syBcons hk (syBcons h10 (syBnil xs)))
  by_cases h11 : (22) ≤ (syE xs 2).toInt ∧ (syE xs 2).toInt ≤ (22)
  · exact sybox syr_13_11 (syBcons hk (syBcons h11 (syBnil xs)))
  by_cases h12 : (23) ≤ (syE xs 2).toInt ∧ (syE xs 2).toInt ≤ (29)
  · exact sybox syr_13_12 (syBcons hk (syBcons h12 (syBnil xs)))
  by_cases h13 : (30) ≤ (syE xs 2).toInt ∧ (syE xs 2).toInt ≤ (30)
  · exact sybox syr_13_13 (syBcons hk (syBcons h13 (syBnil xs)))
  by_cases h14 : (31) ≤ (syE xs 2).toInt ∧ (syE xs 2).toInt ≤ (31)
  · exact sybox syr_13_14 (syBcons hk (syBcons h14 (syBnil xs)))
  by_cases h15 : (32) ≤ (syE xs 2).toInt ∧ (syE xs 2).toInt ≤ (32)
  · exact sybox syr_13_15 (syBcons hk (syBcons h15 (syBnil xs)))
  by_cases h16 : (33) ≤ (syE xs 2).toInt ∧ (syE xs 2).toInt ≤ (39)
  · exact sybox syr_13_16 (syBcons hk (syBcons h16 (syBnil xs)))
  by_cases h17 : (40) ≤ (syE xs 2).toInt ∧ (syE xs 2).toInt ≤ (40)
  · exact sybox syr_13_17 (syBcons hk (syBcons h17 (syBnil xs)))
  by_cases h18 : (41) ≤ (syE xs 2).toInt ∧ (syE xs 2).toInt ≤ (41)
  · exact sybox syr_13_18 (syBcons hk (syBcons h18 (syBnil xs)))
  by_cases h19 : (42) ≤ (syE xs 2).toInt ∧ (syE xs 2).toInt ≤ (42)
  · exact sybox syr_13_19 (syBcons hk (syBcons h19 (syBnil xs)))
  by_cases h20 : (43) ≤ (syE xs 2).toInt ∧ (syE xs 2).toInt ≤ (2147483647)
  · exact sybox syr_13_20 (syBcons hk (syBcons h20 (syBnil xs)))
  exfalso
  omega

theorem syr15 {xs : Nat → Int32} (hk : (15 : Int) ≤ (syE xs 7).toInt ∧ (syE xs 7).toInt ≤ 15) : sySt 7 xs := by
  have b := sylow (syE xs 2)
  by_cases h0 : (-2147483648) ≤ (syE xs 2).toInt ∧ (syE xs 2).toInt ≤ (-1)
  · exact syboxS syr_15_0 (syBcons hk (syBcons h0 (syBnil xs)))
  by_cases h1 : (0) ≤ (syE xs 2).toInt ∧ (syE xs 2).toInt ≤ (5)
  · exact syboxS syr_15_1 (syBcons hk (syBcons h1 (syBnil xs)))
  by_cases h2 : (6) ≤ (syE xs 2).toInt ∧ (syE xs 2).toInt ≤ (6)
  · exact syboxS syr_15_2 (syBcons hk (syBcons h2 (syBnil xs)))
  by_cases h3 : (7) ≤ (syE xs 2).toInt ∧ (syE xs 2).toInt ≤ (7)
  · exact syboxS syr_15_3 (syBcons hk (syBcons h3 (syBnil xs)))
  by_cases h4 : (8) ≤ (syE xs 2).toInt ∧ (syE xs 2).toInt ≤ (9)
  · exact syboxS syr_15_4 (syBcons hk (syBcons h4 (syBnil xs)))
  by_cases h5 : (10) ≤ (syE xs 2).toInt ∧ (syE xs 2).toInt ≤ (10)
  · exact syboxS syr_15_5 (syBcons hk (syBcons h5 (syBnil xs)))
  by_cases h6 : (11) ≤ (syE xs 2).toInt ∧ (syE xs 2).toInt ≤ (11)
  · exact syboxS syr_15_6 (syBcons hk (syBcons h6 (syBnil xs)))
  by_cases h7 : (12) ≤ (syE xs 2).toInt ∧ (syE xs 2).toInt ≤ (12)
  · exact syboxS syr_15_7 (syBcons hk (syBcons h7 (syBnil xs)))
  by_cases h8 : (13) ≤ (syE xs 2).toInt ∧ (syE xs 2).toInt ≤ (19)
  · exact syboxS syr_15_8 (syBcons hk (syBcons h8 (syBnil xs)))
  by_cases h9 : (20) ≤ (syE xs 2).toInt ∧ (syE xs 2).toInt ≤ (20)
  · exact syboxS syr_15_9 (syBcons hk (syBcons h9 (syBnil xs)))
  by_cases h10 : (21) ≤ (syE xs 2).toInt ∧ (syE xs 2).toInt ≤ (21)
  · exact syboxS syr_15_10 (syBcons hk (syBcons h10 (syBnil xs)))
  by_cases h11 : (22) ≤ (syE xs 2).toInt ∧ (syE xs 2).toInt ≤ (22)
  · exact syboxS syr_15_11 (syBcons hk (syBcons h11 (syBnil xs)))
  by_cases h12 : (23) ≤ (syE xs 2).toInt ∧ (syE xs 2).toInt ≤ (29)
  · exact syboxS syr_15_12 (syBcons hk (syBcons h12 (syBnil xs)))
  by_cases h13 : (30) ≤ (syE xs 2).toInt ∧ (syE xs 2).toInt ≤ (30)
  · exact syboxS syr_15_13 (syBcons hk (syBcons h13 (syBnil xs)))
  by_cases h14 : (31) ≤ (syE xs 2).toInt ∧ (syE xs 2).toInt ≤ (31)
  · exact syboxS syr_15_14 (syBcons hk (syBcons h14 (syBnil xs)))
  by_cases h15 : (32) ≤ (syE xs 2).toInt ∧ (syE xs 2).toInt ≤ (32)
  · exact syboxS syr_15_15 (syBcons hk (syBcons h15 (syBnil xs)))
  by_cases h16 : (33) ≤ (syE xs 2).toInt ∧ (syE xs 2).toInt ≤ (39)
  · exact syboxS syr_15_16 (syBcons hk (syBcons h16 (syBnil xs)))
  by_cases h17 : (40) ≤ (syE xs 2).toInt ∧ (syE xs 2).toInt ≤ (40)
  · exact syboxS syr_15_17 (syBcons hk (syBcons h17 (syBnil xs)))
  by_cases h18 : (41) ≤ (syE xs 2).toInt ∧ (syE xs 2).toInt ≤ (41)
  · exact syboxS syr_15_18 (syBcons hk (syBcons h18 (syBnil xs)))
  by_cases h19 : (42) ≤ (syE xs 2).toInt ∧ (syE xs 2).toInt ≤ (42)
  · exact syboxS syr_15_19 (syBcons hk (syBcons h19 (syBnil xs)))
  by_cases h20 : (43) ≤ (syE xs 2).toInt ∧ (syE xs 2).toInt ≤ (2147483647)
  · exact syboxS syr_15_20 (syBcons hk (syBcons h20 (syBnil xs)))
  exfalso
  omega

theorem syr20_0 {xs : Nat → Int32} (hk : (20 : Int) ≤ (syE xs 7).toInt ∧ (syE xs 7).toInt ≤ 20) (h1 : (0 : Int) ≤ (syE xs 1).toInt ∧ (syE xs 1).toInt ≤ 0) : sySt 7 xs := by
  have b := sylow (syE xs 3)
  by_cases h0 : (-2147483648) ≤ (syE xs 3).toInt ∧ (syE xs 3).toInt ≤ (-1)
  · exact sybox syr_20_0_0 (syBcons hk (syBcons h1 (syBcons h0 (syBnil xs))))
  by_cases hh1 : (0) ≤ (syE xs 3).toInt ∧ (syE xs 3).toInt ≤ (3)
  · exact sybox syr_20_0_1 (syBcons hk (syBcons h1 (syBcons hh1 (syBnil xs))))
  by_cases h2 : (4) ≤ (syE xs 3).toInt ∧ (syE xs 3).toInt ≤ (7)
  · exact sybox syr_20_0_2 (syBcons hk (syBcons h1 (syBcons h2 (syBnil xs))))
  by_cases h3 : (8) ≤ (syE xs 3).toInt ∧ (syE xs 3).toInt ≤ (10)
  · exact sybox syr_20_0_3 (syBcons hk (syBcons h1 (syBcons h3 (syBnil xs))))
  by_cases h4 : (11) ≤ (syE xs 3).toInt ∧ (syE xs 3).toInt ≤ (13)
  · exact sybox syr_20_0_4 (syBcons hk (syBcons h1 (syBcons h4 (syBnil xs))))
  by_cases h5 : (14) ≤ (syE xs 3).toInt ∧ (syE xs 3).toInt ≤ (16)
  · exact sybox syr_20_0_5 (syBcons hk (syBcons h1 (syBcons h5 (syBnil xs))))
  by_cases h6 : (17) ≤ (syE xs 3).toInt ∧ (syE xs 3).toInt ≤ (18)
  · exact sybox syr_20_0_6 (syBcons hk (syBcons h1 (syBcons h6 (syBnil xs))))
  by_cases h7 : (19) ≤ (syE xs 3).toInt ∧ (syE xs 3).toInt ≤ (20)
  · exact sybox syr_20_0_7 (syBcons hk (syBcons h1 (syBcons h7 (syBnil xs))))
  by_cases h8 : (21) ≤ (syE xs 3).toInt ∧ (syE xs 3).toInt ≤ (2147483647)
  · exact sybox syr_20_0_8 (syBcons hk (syBcons h1 (syBcons h8 (syBnil xs))))
  exfalso
  omega

theorem syr20_1 {xs : Nat → Int32} (hk : (20 : Int) ≤ (syE xs 7).toInt ∧ (syE xs 7).toInt ≤ 20) (h1 : (1 : Int) ≤ (syE xs 1).toInt ∧ (syE xs 1).toInt ≤ 1) : sySt 7 xs := by
  have b := sylow (syE xs 3)
  by_cases h0 : (-2147483648) ≤ (syE xs 3).toInt ∧ (syE xs 3).toInt ≤ (-1)
  · exact sybox syr_20_1_0 (syBcons hk (syBcons h1 (syBcons h0 (syBnil xs))))
  by_cases hh1 : (0) ≤ (syE xs 3).toInt ∧ (syE xs 3).toInt ≤ (3)
  · exact sybox syr_20_1_1 (syBcons hk (syBcons h1 (syBcons hh1 (syBnil xs))))
  by_cases h2 : (4) ≤ (syE xs 3).toInt ∧ (syE xs 3).toInt ≤ (7)
  · exact sybox syr_20_1_2 (syBcons hk (syBcons h1 (syBcons h2 (syBnil xs))))
  by_cases h3 : (8) ≤ (syE xs 3).toInt ∧ (syE xs 3).toInt ≤ (10)
  · exact sybox syr_20_1_3 (syBcons hk (syBcons h1 (syBcons h3 (syBnil xs))))
  by_cases h4 : (11) ≤ (syE xs 3).toInt ∧ (syE xs 3).toInt ≤ (13)
  · exact sybox syr_20_1_4 (syBcons hk (syBcons h1 (syBcons h4 (syBnil xs))))
  by_cases h5 : (14) ≤ (syE xs 3).toInt ∧ (syE xs 3).toInt ≤ (16)
  · exact sybox syr_20_1_5 (syBcons hk (syBcons h1 (syBcons h5 (syBnil xs))))
  by_cases h6 : (17) ≤ (syE xs 3).toInt ∧ (syE xs 3).toInt ≤ (18)
  · exact sybox syr_20_1_6 (syBcons hk (syBcons h1 (syBcons h6 (syBnil xs))))
  by_cases h7 : (19) ≤ (syE xs 3).toInt ∧ (syE xs 3).toInt ≤ (20)
  · exact sybox syr_20_1_7 (syBcons hk (syBcons h1 (syBcons h7 (syBnil xs))))
  by_cases h8 : (21) ≤ (syE xs 3).toInt ∧ (syE xs 3).toInt ≤ (2147483647)
  · exact sybox syr_20_1_8 (syBcons hk (syBcons h1 (syBcons h8 (syBnil xs))))
  exfalso
  omega

theorem syr20_2 {xs : Nat → Int32} (hk : (20 : Int) ≤ (syE xs 7).toInt ∧ (syE xs 7).toInt ≤ 20) (h1 : (2 : Int) ≤ (syE xs 1).toInt ∧ (syE xs 1).toInt ≤ 2) : sySt 7 xs := by
  have b := sylow (syE xs 3)
  by_cases h0 : (-2147483648) ≤ (syE xs 3).toInt ∧ (syE xs 3).toInt ≤ (-1)
  · exact sybox syr_20_2_0 (syBcons hk (syBcons h1 (syBcons h0 (syBnil xs))))
  by_cases hh1 : (0) ≤ (syE xs 3).toInt ∧ (syE xs 3).toInt ≤ (3)
  · exact sybox syr_20_2_1 (syBcons hk (syBcons h1 (syBcons hh1 (syBnil xs))))
  by_cases h2 : (4) ≤ (syE xs 3).toInt ∧ (syE xs 3).toInt ≤ (7)
  · exact sybox syr_20_2_2 (syBcons hk (syBcons h1 (syBcons h2 (syBnil xs))))
  by_cases h3 : (8) ≤ (syE xs 3).toInt ∧ (syE xs 3).toInt ≤ (10)
  · exact sybox syr_20_2_3 (syBcons hk (syBcons h1 (syBcons h3 (syBnil xs))))
  by_cases h4 : (11) ≤ (syE xs 3).toInt ∧ (syE xs 3).toInt ≤ (13)
  · exact sybox syr_20_2_4 (syBcons hk (syBcons h1 (syBcons h4 (syBnil xs))))
  by_cases h5 : (14) ≤ (syE xs 3).toInt ∧ (syE xs 3).toInt ≤ (16)
  · exact sybox syr_20_2_5 (syBcons hk (syBcons h1 (syBcons h5 (syBnil xs))))
  by_cases h6 : (17) ≤ (syE xs 3).toInt ∧ (syE xs 3).toInt ≤ (18)
  · exact sybox syr_20_2_6 (syBcons hk (syBcons h1 (syBcons h6 (syBnil xs))))
  by_cases h7 : (19) ≤ (syE xs 3).toInt ∧ (syE xs 3).toInt ≤ (20)
  · exact sybox syr_20_2_7 (syBcons hk (syBcons h1 (syBcons h7 (syBnil xs))))
  by_cases h8 : (21) ≤ (syE xs 3).toInt ∧ (syE xs 3).toInt ≤ (2147483647)
  · exact sybox syr_20_2_8 (syBcons hk (syBcons h1 (syBcons h8 (syBnil xs))))
  exfalso
  omega

theorem syr20_3 {xs : Nat → Int32} (hk : (20 : Int) ≤ (syE xs 7).toInt ∧ (syE xs 7).toInt ≤ 20) (h1 : (3 : Int) ≤ (syE xs 1).toInt ∧ (syE xs 1).toInt ≤ 3) : sySt 7 xs := by
  have b := sylow (syE xs 3)
  by_cases h0 : (-2147483648) ≤ (syE xs 3).toInt ∧ (syE xs 3).toInt ≤ (-1)
  · exact sybox syr_20_3_0 (syBcons hk (syBcons h1 (syBcons h0 (syBnil xs))))
  by_cases hh1 : (0) ≤ (syE xs 3).toInt ∧ (syE xs 3).toInt ≤ (3)
  · exact sybox syr_20_3_1 (syBcons hk (syBcons h1 (syBcons hh1 (syBnil xs))))
  by_cases h2 : (4) ≤ (syE xs 3).toInt ∧ (syE xs 3).toInt ≤ (7)
  · exact sybox syr_20_3_2 (syBcons hk (syBcons h1 (syBcons h2 (syBnil xs))))
  by_cases h3 : (8) ≤ (syE xs 3).toInt ∧ (syE xs 3).toInt ≤ (10)
  · exact sybox syr_20_3_3 (syBcons hk (syBcons h1 (syBcons h3 (syBnil xs))))
  by_cases h4 : (11) ≤ (syE xs 3).toInt ∧ (syE xs 3).toInt ≤ (13)
  · exact sybox syr_20_3_4 (syBcons hk (syBcons h1 (syBcons h4 (syBnil xs))))
  by_cases h5 : (14) ≤ (syE xs 3).toInt ∧ (syE xs 3).toInt ≤ (16)
  · exact sybox syr_20_3_5 (syBcons hk (syBcons h1 (syBcons h5 (syBnil xs))))
  by_cases h6 : (17) ≤ (syE xs 3).toInt ∧ (syE xs 3).toInt ≤ (18)
  · exact sybox syr_20_3_6 (syBcons hk (syBcons h1 (syBcons h6 (syBnil xs))))
  by_cases h7 : (19) ≤ (syE xs 3).toInt ∧ (syE xs 3).toInt ≤ (20)
  · exact sybox syr_20_3_7 (syBcons hk (syBcons h1 (syBcons h7 (syBnil xs))))
  by_cases h8 : (21) ≤ (syE xs 3).toInt ∧ (syE xs 3).toInt ≤ (2147483647)
  · exact sybox syr_20_3_8 (syBcons hk (syBcons h1 (syBcons h8 (syBnil xs))))
  exfalso
  omega

theorem syr20 {xs : Nat → Int32} (hk : (20 : Int) ≤ (syE xs 7).toInt ∧ (syE xs 7).toInt ≤ 20) : sySt 7 xs := by
  have b := sylow (syE xs 1)
  by_cases g0 : (-2147483648) ≤ (syE xs 1).toInt ∧ (syE xs 1).toInt ≤ (-1)
  · exact sybox syr_20_lo (syBcons hk (syBcons g0 (syBnil xs)))
  by_cases g1 : (0) ≤ (syE xs 1).toInt ∧ (syE xs 1).toInt ≤ (0)
  · exact syr20_0 hk g1
  by_cases g2 : (1) ≤ (syE xs 1).toInt ∧ (syE xs 1).toInt ≤ (1)
  · exact syr20_1 hk g2
  by_cases g3 : (2) ≤ (syE xs 1).toInt ∧ (syE xs 1).toInt ≤ (2)
  · exact syr20_2 hk g3
  by_cases g4 : (3) ≤ (syE xs 1).toInt ∧ (syE xs 1).toInt ≤ (3)
  · exact syr20_3 hk g4
  by_cases g5 : (4) ≤ (syE xs 1).toInt ∧ (syE xs 1).toInt ≤ (2147483647)
  · exact sybox syr_20_hi (syBcons hk (syBcons g5 (syBnil xs)))
  exfalso
  omega

theorem syall (xs : Nat → Int32) : sySt 7 xs := by
  have b := sycode7 xs
  by_cases c0 : (0 : Int) ≤ (syE xs 7).toInt ∧ (syE xs 7).toInt ≤ 0
  · exact sybox syr_0 (syBcons c0 (syBnil xs))
  by_cases c1 : (1 : Int) ≤ (syE xs 7).toInt ∧ (syE xs 7).toInt ≤ 1
  · exact sybox syr_1 (syBcons c1 (syBnil xs))
  by_cases c2 : (2 : Int) ≤ (syE xs 7).toInt ∧ (syE xs 7).toInt ≤ 2
  · exact sybox syr_2 (syBcons c2 (syBnil xs))
  by_cases c3 : (3 : Int) ≤ (syE xs 7).toInt ∧ (syE xs 7).toInt ≤ 3
  · exact sybox syr_3 (syBcons c3 (syBnil xs))
  by_cases c4 : (4 : Int) ≤ (syE xs 7).toInt ∧ (syE xs 7).toInt ≤ 4
  · exact sybox syr_4 (syBcons c4 (syBnil xs))
  by_cases c5 : (5 : Int) ≤ (syE xs 7).toInt ∧ (syE xs 7).toInt ≤ 5
  · exact sybox syr_5 (syBcons c5 (syBnil xs))
  by_cases c6 : (6 : Int) ≤ (syE xs 7).toInt ∧ (syE xs 7).toInt ≤ 6
  · exact sybox syr_6 (syBcons c6 (syBnil xs))
  by_cases c7 : (7 : Int) ≤ (syE xs 7).toInt ∧ (syE xs 7).toInt ≤ 7
  · exact sybox syr_7 (syBcons c7 (syBnil xs))
  by_cases c8 : (8 : Int) ≤ (syE xs 7).toInt ∧ (syE xs 7).toInt ≤ 8
  · exact sybox syr_8 (syBcons c8 (syBnil xs))
  by_cases c9 : (9 : Int) ≤ (syE xs 7).toInt ∧ (syE xs 7).toInt ≤ 9
  · exact sybox syr_9 (syBcons c9 (syBnil xs))
  by_cases c10 : (10 : Int) ≤ (syE xs 7).toInt ∧ (syE xs 7).toInt ≤ 10
  · exact sybox syr_10 (syBcons c10 (syBnil xs))
  by_cases c11 : (11 : Int) ≤ (syE xs 7).toInt ∧ (syE xs 7).toInt ≤ 11
  · exact sybox syr_11 (syBcons c11 (syBnil xs))
  by_cases c12 : (12 : Int) ≤ (syE xs 7).toInt ∧ (syE xs 7).toInt ≤ 12
  · exact sybox syr_12 (syBcons c12 (syBnil xs))
  by_cases c13 : (13 : Int) ≤ (syE xs 7).toInt ∧ (syE xs 7).toInt ≤ 13
  · exact syr13 c13
  by_cases c14 : (14 : Int) ≤ (syE xs 7).toInt ∧ (syE xs 7).toInt ≤ 14
  · exact sybox syr_14 (syBcons c14 (syBnil xs))
  by_cases c15 : (15 : Int) ≤ (syE xs 7).toInt ∧ (syE xs 7).toInt ≤ 15
  · exact syr15 c15
  by_cases c16 : (16 : Int) ≤ (syE xs 7).toInt ∧ (syE xs 7).toInt ≤ 16
  · exact sybox syr_16 (syBcons c16 (syBnil xs))
  by_cases c17 : (17 : Int) ≤ (syE xs 7).toInt ∧ (syE xs 7).toInt ≤ 17
  · exact sybox syr_17 (syBcons c17 (syBnil xs))
  by_cases c18 : (18 : Int) ≤ (syE xs 7).toInt ∧ (syE xs 7).toInt ≤ 18
  · exact sybox syr_18 (syBcons c18 (syBnil xs))
  by_cases c19 : (19 : Int) ≤ (syE xs 7).toInt ∧ (syE xs 7).toInt ≤ 19
  · exact sybox syr_19 (syBcons c19 (syBnil xs))
  by_cases c20 : (20 : Int) ≤ (syE xs 7).toInt ∧ (syE xs 7).toInt ≤ 20
  · exact syr20 c20
  by_cases c21 : (21 : Int) ≤ (syE xs 7).toInt ∧ (syE xs 7).toInt ≤ 21
  · exact sybox syr_21 (syBcons c21 (syBnil xs))
  by_cases c22 : (22 : Int) ≤ (syE xs 7).toInt ∧ (syE xs 7).toInt ≤ 22
  · exact sybox syr_22 (syBcons c22 (syBnil xs))
  by_cases c23 : (23 : Int) ≤ (syE xs 7).toInt ∧ (syE xs 7).toInt ≤ 23
  · exact sybox syr_23 (syBcons c23 (syBnil xs))
  by_cases c24 : (24 : Int) ≤ (syE xs 7).toInt ∧ (syE xs 7).toInt ≤ 24
  · exact sybox syr_24 (syBcons c24 (syBnil xs))
  by_cases c25 : (25 : Int) ≤ (syE xs 7).toInt ∧ (syE xs 7).toInt ≤ 31
  · exact sybox syr_25 (syBcons c25 (syBnil xs))
  exfalso
  omega
theorem whole_start {p : Program} {e : Env} {s : State} {m : MethodId} {below : List Frame} {meth : Method} {c : Code} (l : Launch) (hflags : l.flags = flags0) {b L : Nat} {xs : Nat → Int32} (hL : L ≤ 7) (C0 : lw_At p s m meth c b L xs) : W p l e room_1 s m #[Value.ref b] below meth c s.heap [] 0 0 (lw_Z below #[Value.ref b] s) (entryFrame m ([Value.ref b] : List Value).toArray 4) := by
  have h : sySt L xs := by
    by_cases h7 : L < 7
    · exact sybox (syr_L L h7) (syBnil xs)
    · have e : L = 7 := by omega
      subst e
      exact syall xs
  obtain ⟨f, M', g1, g2, g3⟩ := sygate (by omega) h
  exact z_start l (by omega) C0 ⟨40, f, M', by decide, g1, g2, g3⟩
