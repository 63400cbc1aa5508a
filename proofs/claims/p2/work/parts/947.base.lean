/-! ===== behind the makers ===== -/
def symI : syMI := [.inl (319, 3, .inl (-1)), .inl (319, 2, .inl (-1)), .inl (319, 1, .inl (-1)), .inl (319, 0, .inl (-1)), .inl (136, 21, .inl (-1)), .inl (176, 2, .inl (-1)), .inl (176, 1, .inl (-1)), .inl (176, 0, .inl (-1)), .inl (174, 5, .inl (100)), .inl (174, 4, .inl (100)), .inl (174, 3, .inl (100)), .inl (174, 2, .inl (100)), .inl (174, 1, .inl (100)), .inl (174, 0, .inl (100)), .inl (133, 0, .inl (-1)), .inl (131, 0, .inl (-1)), .inl (129, 0, .inl (-1)), .inl (127, 0, .inl (-1)), .inl (118, 1, .inl (-1)), .inl (118, 0, .inl (0)), .inl (110, 1, .inl (-1)), .inl (110, 0, .inl (0)), .inl (102, 1, .inl (-1)), .inl (102, 0, .inl (0)), .inl (100, 5, .inl (100)), .inl (100, 4, .inl (100)), .inl (100, 3, .inl (100)), .inl (100, 2, .inl (100)), .inl (100, 1, .inl (100)), .inl (100, 0, .inl (100)), .inl (86, 1, .inl (-1)), .inl (86, 0, .inl (0)), .inl (78, 1, .inl (-1)), .inl (78, 0, .inl (0)), .inl (70, 1, .inl (-1)), .inl (70, 0, .inl (0)), .inl (68, 5, .inl (100)), .inl (68, 4, .inl (100)), .inl (68, 3, .inl (100)), .inl (68, 2, .inl (100)), .inl (68, 1, .inl (100)), .inl (68, 0, .inl (100)), .inl (55, 7, .inl (-1)), .inl (48, 7, .inl (-1)), .inl (41, 7, .inl (-1)), .inl (34, 7, .inl (-1)), .inl (27, 7, .inl (-1)), .inl (20, 7, .inl (-1))]
def symR : syMR := [.inl (136, 48, (some 326)), .inl (136, 47, (some 321)), .inr (.inl (321, 4)), .inl (136, 46, (some 320)), .inl (136, 45, (some 319)), .inl (136, 44, (some 230)), .inr (.inr (230, 4, 21)), .inl (136, 43, (some 225)), .inr (.inl (225, 4)), .inl (136, 42, (some 220)), .inr (.inl (220, 4)), .inl (136, 41, (some 215)), .inr (.inl (215, 4)), .inl (136, 40, (some 210)), .inr (.inl (210, 4)), .inl (136, 39, (some 209)), .inl (136, 29, (some 208)), .inl (136, 28, (some 207)), .inl (136, 27, (some 206)), .inl (136, 26, (some 205)), .inl (136, 19, (some 201)), .inr (.inl (201, 3)), .inl (136, 18, (some 197)), .inr (.inl (197, 3)), .inl (136, 17, (some 193)), .inr (.inl (193, 3)), .inl (136, 16, (some 189)), .inr (.inl (189, 3)), .inl (136, 15, (some 185)), .inr (.inl (185, 3)), .inl (136, 14, (some 181)), .inr (.inl (181, 3)), .inl (136, 13, (some 177)), .inr (.inl (177, 3)), .inl (136, 12, (some 176)), .inl (136, 11, (some 175)), .inl (136, 8, (some 174)), .inl (136, 7, (some 167)), .inr (.inl (167, 6)), .inl (136, 6, (some 160)), .inr (.inl (160, 6)), .inl (136, 5, (some 153)), .inr (.inl (153, 6)), .inl (136, 4, (some 146)), .inr (.inl (146, 6)), .inl (136, 3, (some 139)), .inr (.inl (139, 6)), .inl (136, 2, (some 138)), .inl (136, 1, (some 137)), .inl (16, 7, (some 135)), .inl (126, 3, (some 133)), .inl (133, 2, (some 134)), .inl (126, 2, (some 131)), .inl (131, 2, (some 132)), .inl (126, 1, (some 129)), .inl (129, 2, (some 130)), .inl (126, 0, (some 127)), .inl (127, 2, (some 128)), .inl (16, 6, (some 126)), .inl (16, 5, (some 94)), .inl (101, 2, (some 118)), .inl (118, 13, (some 125)), .inl (118, 12, (some 124)), .inl (118, 11, (some 123)), .inl (118, 10, (some 122)), .inl (118, 9, (some 121)), .inl (118, 8, (some 120)), .inl (118, 6, (some 119)), .inl (101, 1, (some 110)), .inl (110, 13, (some 117)), .inl (110, 12, (some 116)), .inl (110, 11, (some 115)), .inl (110, 10, (some 114)), .inl (110, 9, (some 113)), .inl (110, 8, (some 112)), .inl (110, 6, (some 111)), .inl (101, 0, (some 102)), .inl (102, 13, (some 109)), .inl (102, 12, (some 108)), .inl (102, 11, (some 107)), .inl (102, 10, (some 106)), .inl (102, 9, (some 105)), .inl (102, 8, (some 104)), .inl (102, 6, (some 103)), .inl (94, 1, (some 95)), .inl (94, 0, (some 19)), .inl (94, 3, (some 101)), .inl (94, 2, (some 99)), .inl (99, 0, (some 100)), .inl (95, 2, (some 98)), .inl (95, 1, (some 97)), .inl (95, 0, (some 96)), .inl (16, 4, (some 66)), .inl (69, 2, (some 86)), .inl (86, 13, (some 93)), .inl (86, 12, (some 92)), .inl (86, 11, (some 91)), .inl (86, 10, (some 90)), .inl (86, 9, (some 89)), .inl (86, 8, (some 88)), .inl (86, 6, (some 87)), .inl (69, 1, (some 78)), .inl (78, 13, (some 85)), .inl (78, 12, (some 84)), .inl (78, 11, (some 83)), .inl (78, 10, (some 82)), .inl (78, 9, (some 81)), .inl (78, 8, (some 80)), .inl (78, 6, (some 79)), .inl (69, 0, (some 70)), .inl (70, 13, (some 77)), .inl (70, 12, (some 76)), .inl (70, 11, (some 75)), .inl (70, 10, (some 74)), .inl (70, 9, (some 73)), .inl (70, 8, (some 72)), .inl (70, 6, (some 71)), .inl (66, 1, (some 62)), .inl (66, 0, (some 19)), .inl (66, 3, (some 69)), .inl (66, 2, (some 67)), .inl (67, 0, (some 68)), .inl (16, 3, (some 62)), .inl (62, 2, (some 65)), .inl (62, 1, (some 64)), .inl (62, 0, (some 63)), .inl (19, 5, (some 55)), .inl (55, 5, (some 61)), .inl (55, 4, (some 60)), .inl (55, 3, (some 59)), .inl (55, 2, (some 58)), .inl (55, 1, (some 57)), .inl (55, 0, (some 56)), .inl (19, 4, (some 48)), .inl (48, 5, (some 54)), .inl (48, 4, (some 53)), .inl (48, 3, (some 52)), .inl (48, 2, (some 51)), .inl (48, 1, (some 50)), .inl (48, 0, (some 49)), .inl (19, 3, (some 41)), .inl (41, 5, (some 47)), .inl (41, 4, (some 46)), .inl (41, 3, (some 45)), .inl (41, 2, (some 44)), .inl (41, 1, (some 43)), .inl (41, 0, (some 42)), .inl (19, 2, (some 34)), .inl (34, 5, (some 40)), .inl (34, 4, (some 39)), .inl (34, 3, (some 38)), .inl (34, 2, (some 37)), .inl (34, 1, (some 36)), .inl (34, 0, (some 35)), .inl (19, 1, (some 27)), .inl (27, 5, (some 33)), .inl (27, 4, (some 32)), .inl (27, 3, (some 31)), .inl (27, 2, (some 30)), .inl (27, 1, (some 29)), .inl (27, 0, (some 28)), .inl (19, 0, (some 20)), .inl (20, 5, (some 26)), .inl (20, 4, (some 25)), .inl (20, 3, (some 24)), .inl (20, 2, (some 23)), .inl (20, 1, (some 22)), .inl (20, 0, (some 21)), .inl (16, 1, (some 19)), .inl (16, 0, (some 17)), .inl (17, 0, (some 18))]
def symK : syMK := [.inl (326, 20, 40), .inr (.inl (321, 25, 4, 40)), .inl (320, 20, 4), .inl (319, 20, 4), .inr (.inr (230, 4, 21, 12)), .inr (.inl (225, 25, 4, 3)), .inr (.inl (220, 25, 4, 3)), .inr (.inl (215, 25, 4, 4)), .inr (.inl (210, 25, 4, 6)), .inl (209, 21, 4096), .inl (208, 20, 120), .inl (207, 20, 240), .inl (206, 20, 240), .inl (205, 20, 240), .inr (.inl (201, 25, 3, 12)), .inr (.inl (197, 25, 3, 12)), .inr (.inl (193, 25, 3, 12)), .inr (.inl (189, 25, 3, 12)), .inr (.inl (185, 25, 3, 12)), .inr (.inl (181, 25, 3, 12)), .inr (.inl (177, 25, 3, 12)), .inl (176, 20, 3), .inl (175, 20, 3), .inl (174, 20, 6), .inr (.inl (167, 25, 6, 12)), .inr (.inl (160, 25, 6, 12)), .inr (.inl (153, 25, 6, 12)), .inr (.inl (146, 25, 6, 12)), .inr (.inl (139, 25, 6, 12)), .inl (138, 20, 6), .inl (137, 20, 6), .inl (136, 8, 0), .inl (135, 21, 4096), .inl (134, 20, 40), .inl (133, 4, 0), .inl (132, 20, 40), .inl (131, 4, 0), .inl (130, 20, 40), .inl (129, 4, 0), .inl (128, 20, 40), .inl (127, 4, 0), .inl (126, 24, 4), .inl (125, 20, 12), .inl (124, 20, 12), .inl (123, 20, 12), .inl (122, 20, 12), .inl (121, 20, 12), .inl (120, 20, 12), .inl (119, 20, 12), .inl (118, 5, 0), .inl (117, 20, 12), .inl (116, 20, 12), .inl (115, 20, 12), .inl (114, 20, 12), .inl (113, 20, 12), .inl (112, 20, 12), .inl (111, 20, 12), .inl (110, 5, 0), .inl (109, 20, 12), .inl (108, 20, 12), .inl (107, 20, 12), .inl (106, 20, 12), .inl (105, 20, 12), .inl (104, 20, 12), .inl (103, 20, 12), .inl (102, 5, 0), .inl (101, 23, 3), .inl (100, 20, 6), .inl (99, 2, 0), .inl (98, 20, 0), .inl (97, 20, 0), .inl (96, 20, 0), .inl (95, 0, 0), .inl (94, 6, 0), .inl (93, 20, 12), .inl (92, 20, 12), .inl (91, 20, 12), .inl (90, 20, 12), .inl (89, 20, 12), .inl (88, 20, 12), .inl (87, 20, 12), .inl (86, 5, 0), .inl (85, 20, 12), .inl (84, 20, 12), .inl (83, 20, 12), .inl (82, 20, 12), .inl (81, 20, 12), .inl (80, 20, 12), .inl (79, 20, 12), .inl (78, 5, 0), .inl (77, 20, 12), .inl (76, 20, 12), .inl (75, 20, 12), .inl (74, 20, 12), .inl (73, 20, 12), .inl (72, 20, 12), .inl (71, 20, 12), .inl (70, 5, 0), .inl (69, 23, 3), .inl (68, 20, 6), .inl (67, 2, 0), .inl (66, 6, 0), .inl (65, 20, 240), .inl (64, 20, 240), .inl (63, 20, 240), .inl (62, 0, 0), .inl (61, 20, 12), .inl (60, 20, 12), .inl (59, 20, 12), .inl (58, 20, 12), .inl (57, 20, 12), .inl (56, 20, 12), .inl (55, 1, 0), .inl (54, 20, 12), .inl (53, 20, 12), .inl (52, 20, 12), .inl (51, 20, 12), .inl (50, 20, 12), .inl (49, 20, 12), .inl (48, 1, 0), .inl (47, 20, 12), .inl (46, 20, 12), .inl (45, 20, 12), .inl (44, 20, 12), .inl (43, 20, 12), .inl (42, 20, 12), .inl (41, 1, 0), .inl (40, 20, 12), .inl (39, 20, 12), .inl (38, 20, 12), .inl (37, 20, 12), .inl (36, 20, 12), .inl (35, 20, 12), .inl (34, 1, 0), .inl (33, 20, 12), .inl (32, 20, 12), .inl (31, 20, 12), .inl (30, 20, 12), .inl (29, 20, 12), .inl (28, 20, 12), .inl (27, 1, 0), .inl (26, 20, 12), .inl (25, 20, 12), .inl (24, 20, 12), .inl (23, 20, 12), .inl (22, 20, 12), .inl (21, 20, 12), .inl (20, 1, 0), .inl (19, 22, 6), .inl (18, 20, 120), .inl (17, 3, 0), .inl (16, 7, 0)]
def symM : syM := (symI, symR, symK, 327, 13301)
def sysL : syL := [(3, .inl 0), (2, syrf 136), (1, syrf 16), (0, syrf 0)]
def syu9 : syU := ((fun a _ => cond (Nat.blt a 3) none (some (.inl 0))), (fun _ _ => some none), (fun a => cond (Nat.beq a 0) (9999, 0) (cond (Nat.blt a 3) (30, 6) (cond (Nat.blt a 16) (98, 0) (99, 0)))), sykt)
def syc0 : syC := (40, [], (902, 0, syk902_0, [(0, syrf 0)], []), [], ([], [], [], 16, 0))
noncomputable def systep0 (u : syU) : syC → syR
  | (d, bx, (m, pc, K, l, st), rest, M) => cond (Nat.beq m 902 && Nat.beq pc 18) syno (systep u (d, bx, (m, pc, K, l, st), rest, M))
def syeq18 (c : syC) : Bool := decide (c.1 = 40) && decide (c.2.2.1.1 = 902) && decide (c.2.2.1.2.1 = 18) && decide (c.2.2.1.2.2.1 = syk902_18) && decide (c.2.2.1.2.2.2.1 = sysL) && c.2.2.1.2.2.2.2.isEmpty && c.2.2.2.1.isEmpty
  && decide (c.2.2.2.2.1 = symI) && decide (c.2.2.2.2.2.1 = symR) && decide (c.2.2.2.2.2.2.1 = symK) && decide (c.2.2.2.2.2.2.2.1 = 327) && decide (c.2.2.2.2.2.2.2.2 = 13301)
theorem symake9 : syrun (systep0 syu9) syeq18 3000 syc0 = true := by decide +kernel
theorem syblt {a b : Nat} (h : a < b) : Nat.blt a b = true := Nat.blt_eq.mpr h
theorem sybge {a b : Nat} (h : ¬ a < b) : Nat.blt a b = false := by
  cases hb : Nat.blt a b with
  | true => exact absurd (Nat.blt_eq.mp hb) h
  | false => rfl
theorem sybne {a b : Nat} (h : a ≠ b) : Nat.beq a b = false := by
  cases hb : Nat.beq a b with
  | true => exact absurd (Nat.eq_of_beq_eq_true hb) h
  | false => rfl
theorem syu9_ok (L : Nat) (xs : Nat → Int32) : syUok xs syu9 (zM0 L xs) := by
  refine ⟨fun a k v h => ?_, fun a k r h => Option.some.inj h, fun a h9 => ?_, fun m pc => sykt_ok m pc⟩
  · have h : cond (Nat.blt a 3) none (some (.inl 0)) = some v := h
    show (if a = 0 then xs k else if a = 1 then zUn k else if a = 2 then zAo k else 0) = _
    by_cases h3 : a < 3
    · rw [syblt h3] at h; cases h
    · rw [sybge h3] at h
      have h := Option.some.inj h
      subst h
      rw [if_neg (by omega), if_neg (by omega), if_neg (by omega)]
      rfl
  · have h9 : (cond (Nat.beq a 0) ((9999, 0) : Nat × Nat) (cond (Nat.blt a 3) (30, 6) (cond (Nat.blt a 16) (98, 0) (99, 0)))).1 ≠ 9999 := h9
    show (if a = 0 then ((30, L) : Nat × Nat) else if a = 1 ∨ a = 2 then (30, 6) else if a < 16 then (98, 0) else (99, 0)) = cond (Nat.beq a 0) (9999, 0) (cond (Nat.blt a 3) (30, 6) (cond (Nat.blt a 16) (98, 0) (99, 0)))
    by_cases h0 : a = 0
    · subst h0; exact absurd rfl h9
    · rw [if_neg h0, sybne h0]
      by_cases h3 : a < 3
      · rw [if_pos (by omega), syblt h3]; rfl
      · rw [if_neg (by omega), sybge h3]
        by_cases h16 : a < 16
        · rw [if_pos h16, syblt h16]; rfl
        · rw [if_neg h16, sybge h16]; rfl
theorem syO_ne (m : Nat) (h : m < 216 ∨ 900 ≤ m) : zO m ≠ 9999 := by
  rcases h with h | h
  · have key : ∀ y, y < 216 → zO y ≠ 9999 := by decide +kernel
    exact key m h
  · unfold zO zMt
    rw [if_neg (by omega)]
    split
    · decide
    · split
      · decide
      · decide
theorem zO_ne (m : Nat) : zO m ≠ 9999 := by
  by_cases h : m < 216
  · exact syO_ne m (Or.inl h)
  · by_cases h2 : 900 ≤ m
    · exact syO_ne m (Or.inr h2)
    · unfold zO zMt
      rw [if_pos (by omega)]
      have hl : zMs.length = 216 := by decide +kernel
      rw [List.getD_eq_getElem?_getD, List.getElem?_eq_none (by omega)]
      decide
