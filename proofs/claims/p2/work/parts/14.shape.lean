/-! ===== how the cells are laid: the reference's ===== -/
def zXk : List (Nat × Nat × Nat) := [(136, 8, 0), (209, 21, 4096), (230, 26, 4), (137, 20, 6), (138, 20, 6), (174, 20, 6), (175, 20, 3), (176, 20, 3), (205, 20, 240), (206, 20, 240), (207, 20, 240), (208, 20, 120), (319, 20, 4), (320, 20, 4), (326, 20, 40), (139, 25, 6), (140, 20, 12), (141, 20, 12), (142, 20, 12), (143, 20, 12), (144, 20, 12), (145, 20, 12), (146, 25, 6), (147, 20, 12), (148, 20, 12), (149, 20, 12), (150, 20, 12), (151, 20, 12), (152, 20, 12), (153, 25, 6), (154, 20, 12), (155, 20, 12), (156, 20, 12), (157, 20, 12), (158, 20, 12), (159, 20, 12), (160, 25, 6), (161, 20, 12), (162, 20, 12), (163, 20, 12), (164, 20, 12), (165, 20, 12), (166, 20, 12), (167, 25, 6), (168, 20, 12), (169, 20, 12), (170, 20, 12), (171, 20, 12), (172, 20, 12), (173, 20, 12), (177, 25, 3), (178, 20, 12), (179, 20, 12), (180, 20, 12), (181, 25, 3), (182, 20, 12), (183, 20, 12), (184, 20, 12), (185, 25, 3), (186, 20, 12), (187, 20, 12), (188, 20, 12), (189, 25, 3), (190, 20, 12), (191, 20, 12), (192, 20, 12), (193, 25, 3), (194, 20, 12), (195, 20, 12), (196, 20, 12), (197, 25, 3), (198, 20, 12), (199, 20, 12), (200, 20, 12), (201, 25, 3), (202, 20, 12), (203, 20, 12), (204, 20, 12), (210, 25, 4), (211, 20, 6), (212, 20, 6), (213, 20, 6), (214, 20, 6), (215, 25, 4), (216, 20, 4), (217, 20, 4), (218, 20, 4), (219, 20, 4), (220, 25, 4), (221, 20, 3), (222, 20, 3), (223, 20, 3), (224, 20, 3), (225, 25, 4), (226, 20, 3), (227, 20, 3), (228, 20, 3), (229, 20, 3), (321, 25, 4), (322, 20, 40), (323, 20, 40), (324, 20, 40), (325, 20, 40), (231, 25, 21), (232, 20, 12), (233, 20, 12), (234, 20, 12), (235, 20, 12), (236, 20, 12), (237, 20, 12), (238, 20, 12), (239, 20, 12), (240, 20, 12), (241, 20, 12), (242, 20, 12), (243, 20, 12), (244, 20, 12), (245, 20, 12), (246, 20, 12), (247, 20, 12), (248, 20, 12), (249, 20, 12), (250, 20, 12), (251, 20, 12), (252, 20, 12), (253, 25, 21), (254, 20, 12), (255, 20, 12), (256, 20, 12), (257, 20, 12), (258, 20, 12), (259, 20, 12), (260, 20, 12), (261, 20, 12), (262, 20, 12), (263, 20, 12), (264, 20, 12), (265, 20, 12), (266, 20, 12), (267, 20, 12), (268, 20, 12), (269, 20, 12), (270, 20, 12), (271, 20, 12), (272, 20, 12), (273, 20, 12), (274, 20, 12), (275, 25, 21), (276, 20, 12), (277, 20, 12), (278, 20, 12), (279, 20, 12), (280, 20, 12), (281, 20, 12), (282, 20, 12), (283, 20, 12), (284, 20, 12), (285, 20, 12), (286, 20, 12), (287, 20, 12), (288, 20, 12), (289, 20, 12), (290, 20, 12), (291, 20, 12), (292, 20, 12), (293, 20, 12), (294, 20, 12), (295, 20, 12), (296, 20, 12), (297, 25, 21), (298, 20, 12), (299, 20, 12), (300, 20, 12), (301, 20, 12), (302, 20, 12), (303, 20, 12), (304, 20, 12), (305, 20, 12), (306, 20, 12), (307, 20, 12), (308, 20, 12), (309, 20, 12), (310, 20, 12), (311, 20, 12), (312, 20, 12), (313, 20, 12), (314, 20, 12), (315, 20, 12), (316, 20, 12), (317, 20, 12), (318, 20, 12)]
def zXf : List (Nat × Nat × Nat) := [(136, 1, 137), (136, 2, 138), (136, 8, 174), (136, 11, 175), (136, 12, 176), (136, 26, 205), (136, 27, 206), (136, 28, 207), (136, 29, 208), (136, 45, 319), (136, 46, 320), (136, 48, 326), (136, 39, 209), (136, 44, 230), (136, 3, 139), (139, 0, 140), (139, 1, 141), (139, 2, 142), (139, 3, 143), (139, 4, 144), (139, 5, 145), (136, 4, 146), (146, 0, 147), (146, 1, 148), (146, 2, 149), (146, 3, 150), (146, 4, 151), (146, 5, 152), (136, 5, 153), (153, 0, 154), (153, 1, 155), (153, 2, 156), (153, 3, 157), (153, 4, 158), (153, 5, 159), (136, 6, 160), (160, 0, 161), (160, 1, 162), (160, 2, 163), (160, 3, 164), (160, 4, 165), (160, 5, 166), (136, 7, 167), (167, 0, 168), (167, 1, 169), (167, 2, 170), (167, 3, 171), (167, 4, 172), (167, 5, 173), (136, 13, 177), (177, 0, 178), (177, 1, 179), (177, 2, 180), (136, 14, 181), (181, 0, 182), (181, 1, 183), (181, 2, 184), (136, 15, 185), (185, 0, 186), (185, 1, 187), (185, 2, 188), (136, 16, 189), (189, 0, 190), (189, 1, 191), (189, 2, 192), (136, 17, 193), (193, 0, 194), (193, 1, 195), (193, 2, 196), (136, 18, 197), (197, 0, 198), (197, 1, 199), (197, 2, 200), (136, 19, 201), (201, 0, 202), (201, 1, 203), (201, 2, 204), (136, 40, 210), (210, 0, 211), (210, 1, 212), (210, 2, 213), (210, 3, 214), (136, 41, 215), (215, 0, 216), (215, 1, 217), (215, 2, 218), (215, 3, 219), (136, 42, 220), (220, 0, 221), (220, 1, 222), (220, 2, 223), (220, 3, 224), (136, 43, 225), (225, 0, 226), (225, 1, 227), (225, 2, 228), (225, 3, 229), (136, 47, 321), (321, 0, 322), (321, 1, 323), (321, 2, 324), (321, 3, 325), (230, 0, 231), (231, 0, 232), (231, 1, 233), (231, 2, 234), (231, 3, 235), (231, 4, 236), (231, 5, 237), (231, 6, 238), (231, 7, 239), (231, 8, 240), (231, 9, 241), (231, 10, 242), (231, 11, 243), (231, 12, 244), (231, 13, 245), (231, 14, 246), (231, 15, 247), (231, 16, 248), (231, 17, 249), (231, 18, 250), (231, 19, 251), (231, 20, 252), (230, 1, 253), (253, 0, 254), (253, 1, 255), (253, 2, 256), (253, 3, 257), (253, 4, 258), (253, 5, 259), (253, 6, 260), (253, 7, 261), (253, 8, 262), (253, 9, 263), (253, 10, 264), (253, 11, 265), (253, 12, 266), (253, 13, 267), (253, 14, 268), (253, 15, 269), (253, 16, 270), (253, 17, 271), (253, 18, 272), (253, 19, 273), (253, 20, 274), (230, 2, 275), (275, 0, 276), (275, 1, 277), (275, 2, 278), (275, 3, 279), (275, 4, 280), (275, 5, 281), (275, 6, 282), (275, 7, 283), (275, 8, 284), (275, 9, 285), (275, 10, 286), (275, 11, 287), (275, 12, 288), (275, 13, 289), (275, 14, 290), (275, 15, 291), (275, 16, 292), (275, 17, 293), (275, 18, 294), (275, 19, 295), (275, 20, 296), (230, 3, 297), (297, 0, 298), (297, 1, 299), (297, 2, 300), (297, 3, 301), (297, 4, 302), (297, 5, 303), (297, 6, 304), (297, 7, 305), (297, 8, 306), (297, 9, 307), (297, 10, 308), (297, 11, 309), (297, 12, 310), (297, 13, 311), (297, 14, 312), (297, 15, 313), (297, 16, 314), (297, 17, 315), (297, 18, 316), (297, 19, 317), (297, 20, 318)]
def SX (M : zM) : Prop := (∀ q ∈ zXk, zk M q.1 = q.2) ∧ ∀ q ∈ zXf, zr M q.1 q.2.1 = some q.2.2
theorem SX_of {M M' : zM} (h : SX M) (hk : ∀ a, a < 327 → zk M' a = zk M a) (hr : ∀ a f, 136 ≤ a → a < 327 → zr M' a f = zr M a f) : SX M' := by
  have b1 : ∀ q ∈ zXk, q.1 < 327 := by decide +kernel
  have b2 : ∀ q ∈ zXf, 136 ≤ q.1 ∧ q.1 < 327 := by decide +kernel
  exact ⟨fun q hq => (hk _ (b1 q hq)).trans (h.1 q hq), fun q hq => (hr _ _ (b2 q hq).1 (b2 q hq).2).trans (h.2 q hq)⟩
section SXR
variable {M : zM}
theorem xk_136 (h : SX M) : zk M 136 = (8, 0) := h.1 (136, 8, 0) (List.mem_of_getElem? (i := 0) rfl)
theorem xk_stepMany (h : SX M) : zk M 137 = (20, 6) := h.1 (137, 20, 6) (List.mem_of_getElem? (i := 3) rfl)
theorem xf_stepMany (h : SX M) : zr M 136 1 = some 137 := h.2 (136, 1, 137) (List.mem_of_getElem? (i := 0) rfl)
theorem xk_pivots (h : SX M) : zk M 138 = (20, 6) := h.1 (138, 20, 6) (List.mem_of_getElem? (i := 4) rfl)
theorem xf_pivots (h : SX M) : zr M 136 2 = some 138 := h.2 (136, 2, 138) (List.mem_of_getElem? (i := 1) rfl)
theorem xk_balances (h : SX M) : zk M 174 = (20, 6) := h.1 (174, 20, 6) (List.mem_of_getElem? (i := 5) rfl)
theorem xf_balances (h : SX M) : zr M 136 8 = some 174 := h.2 (136, 8, 174) (List.mem_of_getElem? (i := 2) rfl)
theorem xk_states (h : SX M) : zk M 175 = (20, 3) := h.1 (175, 20, 3) (List.mem_of_getElem? (i := 6) rfl)
theorem xf_states (h : SX M) : zr M 136 11 = some 175 := h.2 (136, 11, 175) (List.mem_of_getElem? (i := 3) rfl)
theorem xk_textOf (h : SX M) : zk M 176 = (20, 3) := h.1 (176, 20, 3) (List.mem_of_getElem? (i := 7) rfl)
theorem xf_textOf (h : SX M) : zr M 136 12 = some 176 := h.2 (136, 12, 176) (List.mem_of_getElem? (i := 4) rfl)
theorem xk_acts (h : SX M) : zk M 205 = (20, 240) := h.1 (205, 20, 240) (List.mem_of_getElem? (i := 8) rfl)
theorem xf_acts (h : SX M) : zr M 136 26 = some 205 := h.2 (136, 26, 205) (List.mem_of_getElem? (i := 5) rfl)
theorem xk_whose (h : SX M) : zk M 206 = (20, 240) := h.1 (206, 20, 240) (List.mem_of_getElem? (i := 9) rfl)
theorem xf_whose (h : SX M) : zr M 136 27 = some 206 := h.2 (136, 27, 206) (List.mem_of_getElem? (i := 6) rfl)
theorem xk_which (h : SX M) : zk M 207 = (20, 240) := h.1 (207, 20, 240) (List.mem_of_getElem? (i := 10) rfl)
theorem xf_which (h : SX M) : zr M 136 28 = some 207 := h.2 (136, 28, 207) (List.mem_of_getElem? (i := 7) rfl)
theorem xk_tape (h : SX M) : zk M 208 = (20, 120) := h.1 (208, 20, 120) (List.mem_of_getElem? (i := 11) rfl)
theorem xf_tape (h : SX M) : zr M 136 29 = some 208 := h.2 (136, 29, 208) (List.mem_of_getElem? (i := 8) rfl)
theorem xk_sorts (h : SX M) : zk M 319 = (20, 4) := h.1 (319, 20, 4) (List.mem_of_getElem? (i := 12) rfl)
theorem xf_sorts (h : SX M) : zr M 136 45 = some 319 := h.2 (136, 45, 319) (List.mem_of_getElem? (i := 9) rfl)
theorem xk_lengths (h : SX M) : zk M 320 = (20, 4) := h.1 (320, 20, 4) (List.mem_of_getElem? (i := 13) rfl)
theorem xf_lengths (h : SX M) : zr M 136 46 = some 320 := h.2 (136, 46, 320) (List.mem_of_getElem? (i := 10) rfl)
theorem xk_passed (h : SX M) : zk M 326 = (20, 40) := h.1 (326, 20, 40) (List.mem_of_getElem? (i := 14) rfl)
theorem xf_passed (h : SX M) : zr M 136 48 = some 326 := h.2 (136, 48, 326) (List.mem_of_getElem? (i := 11) rfl)
theorem xk_ways (h : SX M) : zk M 209 = (21, 4096) := h.1 (209, 21, 4096) (List.mem_of_getElem? (i := 1) rfl)
theorem xf_ways (h : SX M) : zr M 136 39 = some 209 := h.2 (136, 39, 209) (List.mem_of_getElem? (i := 12) rfl)
theorem xk_asideSteps (h : SX M) : zk M 230 = (26, 4) := h.1 (230, 26, 4) (List.mem_of_getElem? (i := 2) rfl)
theorem xf_asideSteps (h : SX M) : zr M 136 44 = some 230 := h.2 (136, 44, 230) (List.mem_of_getElem? (i := 13) rfl)
theorem xk_kinds (h : SX M) : zk M 139 = (25, 6) := h.1 (139, 25, 6) (List.mem_of_getElem? (i := 15) rfl)
theorem xf_kinds (h : SX M) : zr M 136 3 = some 139 := h.2 (136, 3, 139) (List.mem_of_getElem? (i := 14) rfl)
theorem xr_kinds (h : SX M) {i : Nat} (hi : i < 6) : zr M 139 i = some (140 + i) := h.2 (139, i, 140 + i) ((by decide +kernel : ∀ i, i < 6 → (139, i, 140 + i) ∈ zXf) i hi)
theorem xa_kinds (h : SX M) {i : Nat} (hi : i < 6) : zk M (140 + i) = (20, 12) := h.1 (140 + i, 20, 12) ((by decide +kernel : ∀ i, i < 6 → (140 + i, 20, 12) ∈ zXk) i hi)
theorem xk_firsts (h : SX M) : zk M 146 = (25, 6) := h.1 (146, 25, 6) (List.mem_of_getElem? (i := 22) rfl)
theorem xf_firsts (h : SX M) : zr M 136 4 = some 146 := h.2 (136, 4, 146) (List.mem_of_getElem? (i := 21) rfl)
theorem xr_firsts (h : SX M) {i : Nat} (hi : i < 6) : zr M 146 i = some (147 + i) := h.2 (146, i, 147 + i) ((by decide +kernel : ∀ i, i < 6 → (146, i, 147 + i) ∈ zXf) i hi)
theorem xa_firsts (h : SX M) {i : Nat} (hi : i < 6) : zk M (147 + i) = (20, 12) := h.1 (147 + i, 20, 12) ((by decide +kernel : ∀ i, i < 6 → (147 + i, 20, 12) ∈ zXk) i hi)
theorem xk_seconds (h : SX M) : zk M 153 = (25, 6) := h.1 (153, 25, 6) (List.mem_of_getElem? (i := 29) rfl)
theorem xf_seconds (h : SX M) : zr M 136 5 = some 153 := h.2 (136, 5, 153) (List.mem_of_getElem? (i := 28) rfl)
theorem xr_seconds (h : SX M) {i : Nat} (hi : i < 6) : zr M 153 i = some (154 + i) := h.2 (153, i, 154 + i) ((by decide +kernel : ∀ i, i < 6 → (153, i, 154 + i) ∈ zXf) i hi)
theorem xa_seconds (h : SX M) {i : Nat} (hi : i < 6) : zk M (154 + i) = (20, 12) := h.1 (154 + i, 20, 12) ((by decide +kernel : ∀ i, i < 6 → (154 + i, 20, 12) ∈ zXk) i hi)
theorem xk_numbers (h : SX M) : zk M 160 = (25, 6) := h.1 (160, 25, 6) (List.mem_of_getElem? (i := 36) rfl)
theorem xf_numbers (h : SX M) : zr M 136 6 = some 160 := h.2 (136, 6, 160) (List.mem_of_getElem? (i := 35) rfl)
theorem xr_numbers (h : SX M) {i : Nat} (hi : i < 6) : zr M 160 i = some (161 + i) := h.2 (160, i, 161 + i) ((by decide +kernel : ∀ i, i < 6 → (160, i, 161 + i) ∈ zXf) i hi)
theorem xa_numbers (h : SX M) {i : Nat} (hi : i < 6) : zk M (161 + i) = (20, 12) := h.1 (161 + i, 20, 12) ((by decide +kernel : ∀ i, i < 6 → (161 + i, 20, 12) ∈ zXk) i hi)
theorem xk_aheads (h : SX M) : zk M 167 = (25, 6) := h.1 (167, 25, 6) (List.mem_of_getElem? (i := 43) rfl)
theorem xf_aheads (h : SX M) : zr M 136 7 = some 167 := h.2 (136, 7, 167) (List.mem_of_getElem? (i := 42) rfl)
theorem xr_aheads (h : SX M) {i : Nat} (hi : i < 6) : zr M 167 i = some (168 + i) := h.2 (167, i, 168 + i) ((by decide +kernel : ∀ i, i < 6 → (167, i, 168 + i) ∈ zXf) i hi)
theorem xa_aheads (h : SX M) {i : Nat} (hi : i < 6) : zk M (168 + i) = (20, 12) := h.1 (168 + i, 20, 12) ((by decide +kernel : ∀ i, i < 6 → (168 + i, 20, 12) ∈ zXk) i hi)
theorem xk_stands (h : SX M) : zk M 177 = (25, 3) := h.1 (177, 25, 3) (List.mem_of_getElem? (i := 50) rfl)
theorem xf_stands (h : SX M) : zr M 136 13 = some 177 := h.2 (136, 13, 177) (List.mem_of_getElem? (i := 49) rfl)
theorem xr_stands (h : SX M) {i : Nat} (hi : i < 3) : zr M 177 i = some (178 + i) := h.2 (177, i, 178 + i) ((by decide +kernel : ∀ i, i < 3 → (177, i, 178 + i) ∈ zXf) i hi)
theorem xa_stands (h : SX M) {i : Nat} (hi : i < 3) : zk M (178 + i) = (20, 12) := h.1 (178 + i, 20, 12) ((by decide +kernel : ∀ i, i < 3 → (178 + i, 20, 12) ∈ zXk) i hi)
theorem xk_when (h : SX M) : zk M 181 = (25, 3) := h.1 (181, 25, 3) (List.mem_of_getElem? (i := 54) rfl)
theorem xf_when (h : SX M) : zr M 136 14 = some 181 := h.2 (136, 14, 181) (List.mem_of_getElem? (i := 53) rfl)
theorem xr_when (h : SX M) {i : Nat} (hi : i < 3) : zr M 181 i = some (182 + i) := h.2 (181, i, 182 + i) ((by decide +kernel : ∀ i, i < 3 → (181, i, 182 + i) ∈ zXf) i hi)
theorem xa_when (h : SX M) {i : Nat} (hi : i < 3) : zk M (182 + i) = (20, 12) := h.1 (182 + i, 20, 12) ((by decide +kernel : ∀ i, i < 3 → (182 + i, 20, 12) ∈ zXk) i hi)
theorem xk_by (h : SX M) : zk M 185 = (25, 3) := h.1 (185, 25, 3) (List.mem_of_getElem? (i := 58) rfl)
theorem xf_by (h : SX M) : zr M 136 15 = some 185 := h.2 (136, 15, 185) (List.mem_of_getElem? (i := 57) rfl)
theorem xr_by (h : SX M) {i : Nat} (hi : i < 3) : zr M 185 i = some (186 + i) := h.2 (185, i, 186 + i) ((by decide +kernel : ∀ i, i < 3 → (185, i, 186 + i) ∈ zXf) i hi)
theorem xa_by (h : SX M) {i : Nat} (hi : i < 3) : zk M (186 + i) = (20, 12) := h.1 (186 + i, 20, 12) ((by decide +kernel : ∀ i, i < 3 → (186 + i, 20, 12) ∈ zXk) i hi)
theorem xk_fails (h : SX M) : zk M 189 = (25, 3) := h.1 (189, 25, 3) (List.mem_of_getElem? (i := 62) rfl)
theorem xf_fails (h : SX M) : zr M 136 16 = some 189 := h.2 (136, 16, 189) (List.mem_of_getElem? (i := 61) rfl)
theorem xr_fails (h : SX M) {i : Nat} (hi : i < 3) : zr M 189 i = some (190 + i) := h.2 (189, i, 190 + i) ((by decide +kernel : ∀ i, i < 3 → (189, i, 190 + i) ∈ zXf) i hi)
theorem xa_fails (h : SX M) {i : Nat} (hi : i < 3) : zk M (190 + i) = (20, 12) := h.1 (190 + i, 20, 12) ((by decide +kernel : ∀ i, i < 3 → (190 + i, 20, 12) ∈ zXk) i hi)
theorem xk_whys (h : SX M) : zk M 193 = (25, 3) := h.1 (193, 25, 3) (List.mem_of_getElem? (i := 66) rfl)
theorem xf_whys (h : SX M) : zr M 136 17 = some 193 := h.2 (136, 17, 193) (List.mem_of_getElem? (i := 65) rfl)
theorem xr_whys (h : SX M) {i : Nat} (hi : i < 3) : zr M 193 i = some (194 + i) := h.2 (193, i, 194 + i) ((by decide +kernel : ∀ i, i < 3 → (193, i, 194 + i) ∈ zXf) i hi)
theorem xa_whys (h : SX M) {i : Nat} (hi : i < 3) : zk M (194 + i) = (20, 12) := h.1 (194 + i, 20, 12) ((by decide +kernel : ∀ i, i < 3 → (194 + i, 20, 12) ∈ zXk) i hi)
theorem xk_plans (h : SX M) : zk M 197 = (25, 3) := h.1 (197, 25, 3) (List.mem_of_getElem? (i := 70) rfl)
theorem xf_plans (h : SX M) : zr M 136 18 = some 197 := h.2 (136, 18, 197) (List.mem_of_getElem? (i := 69) rfl)
theorem xr_plans (h : SX M) {i : Nat} (hi : i < 3) : zr M 197 i = some (198 + i) := h.2 (197, i, 198 + i) ((by decide +kernel : ∀ i, i < 3 → (197, i, 198 + i) ∈ zXf) i hi)
theorem xa_plans (h : SX M) {i : Nat} (hi : i < 3) : zk M (198 + i) = (20, 12) := h.1 (198 + i, 20, 12) ((by decide +kernel : ∀ i, i < 3 → (198 + i, 20, 12) ∈ zXk) i hi)
theorem xk_undoPlans (h : SX M) : zk M 201 = (25, 3) := h.1 (201, 25, 3) (List.mem_of_getElem? (i := 74) rfl)
theorem xf_undoPlans (h : SX M) : zr M 136 19 = some 201 := h.2 (136, 19, 201) (List.mem_of_getElem? (i := 73) rfl)
theorem xr_undoPlans (h : SX M) {i : Nat} (hi : i < 3) : zr M 201 i = some (202 + i) := h.2 (201, i, 202 + i) ((by decide +kernel : ∀ i, i < 3 → (201, i, 202 + i) ∈ zXf) i hi)
theorem xa_undoPlans (h : SX M) {i : Nat} (hi : i < 3) : zk M (202 + i) = (20, 12) := h.1 (202 + i, 20, 12) ((by decide +kernel : ∀ i, i < 3 → (202 + i, 20, 12) ∈ zXk) i hi)
theorem xk_asideBalances (h : SX M) : zk M 210 = (25, 4) := h.1 (210, 25, 4) (List.mem_of_getElem? (i := 78) rfl)
theorem xf_asideBalances (h : SX M) : zr M 136 40 = some 210 := h.2 (136, 40, 210) (List.mem_of_getElem? (i := 77) rfl)
theorem xr_asideBalances (h : SX M) {i : Nat} (hi : i < 4) : zr M 210 i = some (211 + i) := h.2 (210, i, 211 + i) ((by decide +kernel : ∀ i, i < 4 → (210, i, 211 + i) ∈ zXf) i hi)
theorem xa_asideBalances (h : SX M) {i : Nat} (hi : i < 4) : zk M (211 + i) = (20, 6) := h.1 (211 + i, 20, 6) ((by decide +kernel : ∀ i, i < 4 → (211 + i, 20, 6) ∈ zXk) i hi)
theorem xk_asideNumbers (h : SX M) : zk M 215 = (25, 4) := h.1 (215, 25, 4) (List.mem_of_getElem? (i := 83) rfl)
theorem xf_asideNumbers (h : SX M) : zr M 136 41 = some 215 := h.2 (136, 41, 215) (List.mem_of_getElem? (i := 82) rfl)
theorem xr_asideNumbers (h : SX M) {i : Nat} (hi : i < 4) : zr M 215 i = some (216 + i) := h.2 (215, i, 216 + i) ((by decide +kernel : ∀ i, i < 4 → (215, i, 216 + i) ∈ zXf) i hi)
theorem xa_asideNumbers (h : SX M) {i : Nat} (hi : i < 4) : zk M (216 + i) = (20, 4) := h.1 (216 + i, 20, 4) ((by decide +kernel : ∀ i, i < 4 → (216 + i, 20, 4) ∈ zXk) i hi)
theorem xk_asideStates (h : SX M) : zk M 220 = (25, 4) := h.1 (220, 25, 4) (List.mem_of_getElem? (i := 88) rfl)
theorem xf_asideStates (h : SX M) : zr M 136 42 = some 220 := h.2 (136, 42, 220) (List.mem_of_getElem? (i := 87) rfl)
theorem xr_asideStates (h : SX M) {i : Nat} (hi : i < 4) : zr M 220 i = some (221 + i) := h.2 (220, i, 221 + i) ((by decide +kernel : ∀ i, i < 4 → (220, i, 221 + i) ∈ zXf) i hi)
theorem xa_asideStates (h : SX M) {i : Nat} (hi : i < 4) : zk M (221 + i) = (20, 3) := h.1 (221 + i, 20, 3) ((by decide +kernel : ∀ i, i < 4 → (221 + i, 20, 3) ∈ zXk) i hi)
theorem xk_asideTexts (h : SX M) : zk M 225 = (25, 4) := h.1 (225, 25, 4) (List.mem_of_getElem? (i := 93) rfl)
theorem xf_asideTexts (h : SX M) : zr M 136 43 = some 225 := h.2 (136, 43, 225) (List.mem_of_getElem? (i := 92) rfl)
theorem xr_asideTexts (h : SX M) {i : Nat} (hi : i < 4) : zr M 225 i = some (226 + i) := h.2 (225, i, 226 + i) ((by decide +kernel : ∀ i, i < 4 → (225, i, 226 + i) ∈ zXf) i hi)
theorem xa_asideTexts (h : SX M) {i : Nat} (hi : i < 4) : zk M (226 + i) = (20, 3) := h.1 (226 + i, 20, 3) ((by decide +kernel : ∀ i, i < 4 → (226 + i, 20, 3) ∈ zXk) i hi)
theorem xk_items (h : SX M) : zk M 321 = (25, 4) := h.1 (321, 25, 4) (List.mem_of_getElem? (i := 98) rfl)
theorem xf_items (h : SX M) : zr M 136 47 = some 321 := h.2 (136, 47, 321) (List.mem_of_getElem? (i := 97) rfl)
theorem xr_items (h : SX M) {i : Nat} (hi : i < 4) : zr M 321 i = some (322 + i) := h.2 (321, i, 322 + i) ((by decide +kernel : ∀ i, i < 4 → (321, i, 322 + i) ∈ zXf) i hi)
theorem xa_items (h : SX M) {i : Nat} (hi : i < 4) : zk M (322 + i) = (20, 40) := h.1 (322 + i, 20, 40) ((by decide +kernel : ∀ i, i < 4 → (322 + i, 20, 40) ∈ zXk) i hi)
theorem xr_asideSteps (h : SX M) {i : Nat} (hi : i < 4) : zr M 230 i = some (231 + 22 * i) ∧ zk M (231 + 22 * i) = (25, 21) := ⟨h.2 (230, i, 231 + 22 * i) ((by decide +kernel : ∀ i, i < 4 → (230, i, 231 + 22 * i) ∈ zXf) i hi), h.1 (231 + 22 * i, 25, 21) ((by decide +kernel : ∀ i, i < 4 → (231 + 22 * i, 25, 21) ∈ zXk) i hi)⟩
theorem xa_asideSteps (h : SX M) {i j : Nat} (hi : i < 4) (hj : j < 21) : zr M (231 + 22 * i) j = some (232 + 22 * i + j) ∧ zk M (232 + 22 * i + j) = (20, 12) := ⟨h.2 (231 + 22 * i, j, 232 + 22 * i + j) ((by decide +kernel : ∀ i, i < 4 → ∀ j, j < 21 → (231 + 22 * i, j, 232 + 22 * i + j) ∈ zXf) i hi j hj), h.1 (232 + 22 * i + j, 20, 12) ((by decide +kernel : ∀ i, i < 4 → ∀ j, j < 21 → (232 + 22 * i + j, 20, 12) ∈ zXk) i hi j hj)⟩
end SXR
/-! ===== what the cells mean ===== -/
theorem SC_of {M M' : zM} (h : SC M) (hk : ∀ a, a < 327 → zk M' a = zk M a) (hr : ∀ a f, a < 136 → ¬ zpr a f → zr M' a f = zr M a f) (hs : ∀ a j, a < 3 → zi M' a j = zi M a j) : SC M' := by
  have kk : ∀ {a t}, zk M a = t → a < 327 → zk M' a = t := fun e l => (hk _ l).trans e
  have rr : ∀ {a f t}, zr M a f = t → a < 136 → ¬ zpr a f → zr M' a f = t := fun e l n => (hr _ _ l n).trans e
  obtain ⟨h1, h2, h3, h4, h5, h6, h7, h8, h9, ha, hb, hc, hd⟩ := h
  have pPu : ∀ (u : Nat), u = 67 ∨ u = 99 → SPu M u → SPu M' u := fun u l ⟨a, b, c⟩ => ⟨kk a (by omega), rr b (by omega) (by unfold zpr; omega), kk c (by omega)⟩
  have pSg : ∀ (b s : Nat), b = 70 ∨ b = 102 → s < 3 → SSg M (b + 8 * s) → SSg M' (b + 8 * s) := fun b s l l2 ⟨a, b', c, d⟩ => ⟨kk a (by omega), rr b' (by omega) (by unfold zpr; omega), fun f hf => rr (c f hf) (by omega) (by unfold zpr; omega), fun f hf => kk (d f hf) (by omega)⟩
  have pJo : ∀ (j L : Nat), j = 62 ∨ j = 95 → SJo M j L → SJo M' j L := fun j L l ⟨a, b⟩ => ⟨kk a (by omega), fun f hf => ⟨rr (b f hf).1 (by omega) (by unfold zpr; omega), kk (b f hf).2 (by omega)⟩⟩
  have pWo : ∀ (w u j : Nat), (w = 66 ∧ u = 67) ∨ (w = 94 ∧ u = 99) → SWo M w u j → SWo M' w u j := fun w u j l ⟨a, b, c, d, e, f, g⟩ =>
    ⟨kk a (by omega), rr b (by omega) (by unfold zpr; omega), rr c (by omega) (by unfold zpr; omega), rr d (by omega) (by unfold zpr; omega), rr e (by omega) (by unfold zpr; omega), kk f (by omega), fun s hs => rr (g s hs) (by omega) (by unfold zpr; omega)⟩
  refine ⟨?_, ?_, ?_, pJo _ _ (Or.inl rfl) h4, pJo _ _ (Or.inr rfl) h5, pWo _ _ _ (Or.inl ⟨rfl, rfl⟩) h6, pWo _ _ _ (Or.inr ⟨rfl, rfl⟩) h7, pPu _ (Or.inl rfl) h8, pPu _ (Or.inr rfl) h9, fun s hs => pSg _ s (Or.inl rfl) hs (ha s hs), fun s hs => pSg _ s (Or.inr rfl) hs (hb s hs), ?_, ?_⟩
  · obtain ⟨a1, a2, a3, a4, a5, a6, a7, a8, a9, aa, ab, ac, ad⟩ := h1
    exact ⟨kk a1 (by omega), rr a2 (by omega) (by unfold zpr; omega), rr a3 (by omega) (by unfold zpr; omega), kk a4 (by omega), fun i hi => rr (a5 i hi) (by omega) (by unfold zpr; omega), rr a6 (by omega) (by unfold zpr; omega), rr a7 (by omega) (by unfold zpr; omega), rr a8 (by omega) (by unfold zpr; omega), rr a9 (by omega) (by unfold zpr; omega), kk aa (by omega), fun i hi => rr (ab i hi) (by omega) (by unfold zpr; omega), rr ac (by omega) (by unfold zpr; omega), kk ad (by omega)⟩
  · obtain ⟨a1, a2, a3⟩ := h2
    exact ⟨kk a1 (by omega), rr a2 (by omega) (by unfold zpr; omega), kk a3 (by omega)⟩
  · intro i hi
    obtain ⟨a1, a2⟩ := h3 i hi
    exact ⟨kk a1 (by omega), fun f hf => ⟨rr (a2 f hf).1 (by omega) (by unfold zpr; omega), kk (a2 f hf).2 (by omega)⟩⟩
  · intro i hi
    obtain ⟨a1, a2, a3⟩ := hc i hi
    exact ⟨kk a1 (by omega), rr a2 (by omega) (by unfold zpr; omega), kk a3 (by omega)⟩
  · exact ⟨kk hd.1 (by omega), kk hd.2.1 (by omega), fun j => (hs 1 j (by omega)).trans (hd.2.2.1 j), fun j => (hs 2 j (by omega)).trans (hd.2.2.2 j)⟩
theorem SC_wi {M : zM} {a k : Nat} {v : Int32} (h : SC M) (ha : 3 ≤ a) : SC (zwi M a k v) := SC_of h (fun _ _ => rfl) (fun _ _ _ _ => rfl) (fun b j hb => wi_n (Or.inl (by omega)))
theorem SC_wr {M : zM} {a k : Nat} {v : Option Nat} (h : SC M) (ha : zpr a k) : SC (zwr M a k v) := SC_of h (fun _ _ => rfl) (fun b f _ hb => by rw [wr_eq, if_neg (by rintro ⟨rfl, rfl⟩; exact hb ha)]) (fun _ _ _ => rfl)
theorem SC_cp {M : zM} {a0 s a d n : Nat} (h : SC M) (ha : 3 ≤ a) : SC (zcp M a0 s a d n) := SC_of h (fun _ _ => rfl) (fun _ _ _ _ => rfl) (fun b j hb => by rw [cp_eq, if_neg (by omega)])
/-- texts -/
def RP (M : zM) (a : Nat) (T : yT) : Prop := zi M a 6 = nI (tn T) ∧ zi M a 7 = tp T ∧ ∀ k, k < tn T → zi M (a + 1) k = nI (tk T k) ∧ zi M (a + 2) k = tf T k ∧ zi M (a + 3) k = ts T k ∧ zi M (a + 4) k = tu T k ∧ zi M (a + 5) k = nI (ta T k)
def RTx (M : zM) (T : Nat → yT) (c : Nat) : Prop := ∀ i, i < c → RP M (20 + 7 * i) (T i)
/-- a purse at u -/
def RPu (M : zM) (u : Nat) (P : yP) : Prop := (∀ k, k < 6 → zi M (u + 1) k = P.1 k) ∧ zi M u 1 = P.2.1 ∧ zi M u 2 = P.2.2
def txt (S : yS) : Int32 := if gt S = 0 then -1 else nI (gx S)
def prg (S : yS) : Option Nat := if gt S = 0 then none else some (20 + 7 * gx S)
/-- a saga at a -/
def RS (M : zM) (a : Nat) (T : Nat → yT) (nm : Nat → Int32) (S : yS) : Prop :=
  (zi M a 0 = nI (gt S) ∧ zi M a 1 = txt S ∧ zr M a 2 = prg S) ∧ (zi M a 3 = nI (gm S 1) ∧ zi M a 4 = nI (gm S 2) ∧ zi M a 5 = nI (gm S 3)) ∧ (zi M a 7 = nI (go S).length ∧
  ∀ k, k < (go S).length → zi M (a + 1) k = nI ((go S).getD ((go S).length - 1 - k) 0)) ∧ (∀ k, k < gz T S → zi M (a + 2) k = nm k) ∧ (∀ k, k < 12 → gd S k = 1 → zi M (a + 3) k = gb S k) ∧
  ∀ k, k < 12 → zi M (a + 4) k = gp S k ∧ zi M (a + 5) k = gq S k ∧ zi M (a + 6) k = gf S k ∧ zi M (a + 7) k = gw S k
/-- the log at j -/
def RL (M : zM) (j : Nat) (L : List yL) : Prop := zi M j 3 = nI L.length ∧ ∀ k, k < L.length → zi M (j + 1) k = nI (L.getD k (0, 0, 0)).1 ∧ zi M (j + 2) k = nI (L.getD k (0, 0, 0)).2.1 ∧ zi M (j + 3) k = nI (L.getD k (0, 0, 0)).2.2
/-- the two worlds: from which cell on, the world, its purse, its journal -/
def Wd (lo w u j : Nat) : Prop := (lo = 62 ∧ w = 66 ∧ u = 67 ∧ j = 62) ∨ (lo = 94 ∧ w = 94 ∧ u = 99 ∧ j = 95)
def RJ (M : zM) (j : Nat) (g : Option (List yL)) : Prop := match g with
  | none => j = 95
  | some L => j = 62 ∧ RL M 62 L
def RW (M : zM) (u j : Nat) (T : Nat → yT) (nm : Nat → Nat → Int32) (X : yX) : Prop := RPu M u X.1.1 ∧ (∀ s, s < 3 → RS M (u + 3 + 8 * s) T (nm s) (X.1.2 s)) ∧ RJ M j X.2
/-- cells from lo on, below hi -/
def Fb (lo hi : Nat) : Nat → Nat → Prop := fun a _ => lo ≤ a ∧ a < hi
theorem Fb_m {lo hi lo' hi' : Nat} (h1 : lo' ≤ lo) (h2 : hi ≤ hi') : ∀ a k, Fb lo hi a k → Fb lo' hi' a k := fun _ _ h => ⟨Nat.le_trans h1 h.1, Nat.lt_of_lt_of_le h.2 h2⟩
theorem RP_fr {M M' : zM} {S : Nat → Nat → Prop} {a : Nat} {T : yT} (h : RP M a T) (f : Fr S M M') (hs : ∀ b k, a ≤ b → b < a + 6 → ¬ S b k) : RP M' a T :=
  ⟨(f.i (hs _ _ (by omega) (by omega))).trans h.1, (f.i (hs _ _ (by omega) (by omega))).trans h.2.1, fun k hk => ⟨(f.i (hs _ _ (by omega) (by omega))).trans (h.2.2 k hk).1, (f.i (hs _ _ (by omega) (by omega))).trans (h.2.2 k hk).2.1, (f.i (hs _ _ (by omega) (by omega))).trans (h.2.2 k hk).2.2.1, (f.i (hs _ _ (by omega) (by omega))).trans (h.2.2 k hk).2.2.2.1, (f.i (hs _ _ (by omega) (by omega))).trans (h.2.2 k hk).2.2.2.2⟩⟩
theorem RTx_fr {M M' : zM} {S : Nat → Nat → Prop} {T : Nat → yT} {c : Nat} (h : RTx M T c) (hc : c ≤ 6) (f : Fr S M M') (hs : ∀ b k, 20 ≤ b → b < 62 → ¬ S b k) : RTx M' T c :=
  fun i hi => RP_fr (h i hi) f (fun b k h1 h2 => hs b k (by omega) (by omega))
theorem RPu_fr {M M' : zM} {S : Nat → Nat → Prop} {u : Nat} {P : yP} (h : RPu M u P) (f : Fr S M M') (hs : ∀ b k, u ≤ b → b < u + 2 → ¬ S b k) : RPu M' u P :=
  ⟨fun k hk => (f.i (hs _ _ (by omega) (by omega))).trans (h.1 k hk), (f.i (hs _ _ (by omega) (by omega))).trans h.2.1, (f.i (hs _ _ (by omega) (by omega))).trans h.2.2⟩
theorem RL_fr {M M' : zM} {S : Nat → Nat → Prop} {j : Nat} {L : List yL} (h : RL M j L) (f : Fr S M M') (hs : ∀ b k, j ≤ b → b < j + 4 → ¬ S b k) : RL M' j L :=
  ⟨(f.i (hs _ _ (by omega) (by omega))).trans h.1, fun k hk => ⟨(f.i (hs _ _ (by omega) (by omega))).trans (h.2 k hk).1, (f.i (hs _ _ (by omega) (by omega))).trans (h.2 k hk).2.1, (f.i (hs _ _ (by omega) (by omega))).trans (h.2 k hk).2.2⟩⟩
theorem RJ_fr {M M' : zM} {S : Nat → Nat → Prop} {j : Nat} {g : Option (List yL)} (h : RJ M j g) (f : Fr S M M') (hs : ∀ b k, 62 ≤ b → b < 66 → ¬ S b k) : RJ M' j g := by
  cases g with
  | none => exact h
  | some L => exact ⟨h.1, RL_fr h.2 f hs⟩
theorem RS_fr {M M' : zM} {S : Nat → Nat → Prop} {a : Nat} {T : Nat → yT} {nm : Nat → Int32} {s : yS} (h : RS M a T nm s) (f : Fr S M M') (hs : ∀ b k, a ≤ b → b < a + 8 → ¬ S b k) : RS M' a T nm s := by
  have g : ∀ b k, a ≤ b → b < a + 8 → zi M' b k = zi M b k := fun b k h1 h2 => f.i (hs b k h1 h2)
  obtain ⟨⟨h1, h2, h3⟩, ⟨h4, h5, h6⟩, ⟨h7, h8⟩, h9, ha, hb⟩ := h
  exact ⟨⟨(g _ _ (by omega) (by omega)).trans h1, (g _ _ (by omega) (by omega)).trans h2, (f.r (hs _ _ (by omega) (by omega))).trans h3⟩, ⟨(g _ _ (by omega) (by omega)).trans h4, (g _ _ (by omega) (by omega)).trans h5, (g _ _ (by omega) (by omega)).trans h6⟩,
    ⟨(g _ _ (by omega) (by omega)).trans h7, fun k hk => (g _ _ (by omega) (by omega)).trans (h8 k hk)⟩, fun k hk => (g _ _ (by omega) (by omega)).trans (h9 k hk), fun k hk he => (g _ _ (by omega) (by omega)).trans (ha k hk he),
    fun k hk => ⟨(g _ _ (by omega) (by omega)).trans (hb k hk).1, (g _ _ (by omega) (by omega)).trans (hb k hk).2.1, (g _ _ (by omega) (by omega)).trans (hb k hk).2.2.1, (g _ _ (by omega) (by omega)).trans (hb k hk).2.2.2⟩⟩
/-- masks -/
theorem ymk_bit (f : Nat → Bool) : ∀ n i, (ymk f n).testBit i = (decide (i < n) && f i)
  | 0, i => by simp [ymk]
  | n + 1, i => by
    rw [ymk, Nat.testBit_or, ymk_bit f n i]
    by_cases h : i = n
    · subst h
      cases h2 : f i <;> simp [h2, Nat.testBit_two_pow_self]
    · have e : (if f n = true then 2 ^ n else 0).testBit i = false := by
        split
        · rw [Nat.testBit_two_pow]; exact decide_eq_false (fun q => h q.symm)
        · exact Nat.zero_testBit i
      rw [e, Bool.or_false, show decide (i < n + 1) = decide (i < n) by simp only [decide_eq_decide]; omega]
theorem ymk_lt (f : Nat → Bool) (n : Nat) : ymk f n < 2 ^ n := by
  apply Nat.lt_pow_two_of_testBit
  intro i hi
  rw [ymk_bit, decide_eq_false (by omega)]; rfl
theorem ymk_eq {f g : Nat → Bool} {n m : Nat} (h : ∀ i, (decide (i < n) && f i) = (decide (i < m) && g i)) : ymk f n = ymk g m := by
  apply Nat.eq_of_testBit_eq
  intro i
  rw [ymk_bit, ymk_bit]; exact h i
theorem ymk_is {f : Nat → Bool} {n x : Nat} (h : ∀ i, x.testBit i = (decide (i < n) && f i)) : x = ymk f n := by
  apply Nat.eq_of_testBit_eq
  intro i
  rw [ymk_bit]; exact h i
theorem gm_lt (S : yS) (v : Nat) : gm S v < 4096 := ymk_lt _ 12
theorem gm_bit (S : yS) (v i : Nat) : (gm S v).testBit i = (decide (i < 12) && gd S i == v) := ymk_bit _ _ _

