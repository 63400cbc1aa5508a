/-! ===== the reference: the next token ===== -/
/-- the token that is read -/
def TK (M : zM) (b : Nat → Nat) (k : yK) : Prop := (∀ t v, ytx b k = some (t, v) → zi M 136 33 = nI t ∧ (t ≠ 0 → zi M 136 34 = nI v) ∧ zi M 136 38 = nI 0) ∧ (ytx b k = none → zi M 136 38 = nI 1)
theorem TK.s {M : zM} {b : Nat → Nat} {k : yK} {t v : Nat} (e : ytx b k = some (t, v)) (h1 : zi M 136 33 = nI t) (h2 : t ≠ 0 → zi M 136 34 = nI v) (h3 : zi M 136 38 = nI 0) : TK M b k := by
  refine ⟨fun t2 v2 h => ?_, fun h => ?_⟩
  · rw [e] at h
    cases h
    exact ⟨h1, h2, h3⟩
  · rw [e] at h; cases h
theorem TK.n {M : zM} {b : Nat → Nat} {k : yK} (e : ytx b k = none) (h3 : zi M 136 38 = nI 1) : TK M b k := by
  refine ⟨fun t2 v2 h => ?_, fun h => h3⟩
  rw [e] at h; cases h
theorem ytx_s {b : Nat → Nat} {c q e : Nat} (h : c = 59 ∨ c = 123 ∨ c = 124 ∨ c = 125 ∨ c = 33) : ytx b (c, q, e) = some (4, c) := by
  rcases h with rfl | rfl | rfl | rfl | rfl <;> rfl
theorem ytx_1 {b : Nat → Nat} {q e : Nat} (h : e - q = 1 ∧ b q ≤ 102) : ytx b (1, q, e) = some (2, b q - 97) := if_pos h
theorem ytx_2 {b : Nat → Nat} {q e : Nat} (h : ¬ (e - q = 1 ∧ b q ≤ 102)) (h6 : ykw b q e < 6) : ytx b (1, q, e) = some (1, ykw b q e) := (if_neg h).trans (if_pos h6)
theorem ytx_3 {b : Nat → Nat} {q e : Nat} (h : ¬ (e - q = 1 ∧ b q ≤ 102)) (h6 : ¬ ykw b q e < 6) : ytx b (1, q, e) = none := (if_neg h).trans (if_neg h6)
theorem d134_0 : decode (zB 134) 0 = .ok (.aload_n 0, 1) := by decide +kernel
theorem d134_1 : decode (zB 134) 1 = .ok (.getfield 162, 3) := by decide +kernel
theorem d134_4 : decode (zB 134) 4 = .ok (.ifCond .eq 4, 3) := by decide +kernel
theorem d134_7 : decode (zB 134) 7 = .ok (.return_, 1) := by decide +kernel
theorem d134_8 : decode (zB 134) 8 = .ok (.aload_n 0, 1) := by decide +kernel
theorem d134_9 : decode (zB 134) 9 = .ok (.aload_n 0, 1) := by decide +kernel
theorem d134_10 : decode (zB 134) 10 = .ok (.getfield 132, 3) := by decide +kernel
theorem d134_13 : decode (zB 134) 13 = .ok (.invokevirtual 142, 3) := by decide +kernel
theorem d134_16 : decode (zB 134) 16 = .ok (.bipush 32, 2) := by decide +kernel
theorem d134_18 : decode (zB 134) 18 = .ok (.if_icmp .eq 16, 3) := by decide +kernel
theorem d134_21 : decode (zB 134) 21 = .ok (.aload_n 0, 1) := by decide +kernel
theorem d134_22 : decode (zB 134) 22 = .ok (.aload_n 0, 1) := by decide +kernel
theorem d134_23 : decode (zB 134) 23 = .ok (.getfield 132, 3) := by decide +kernel
theorem d134_26 : decode (zB 134) 26 = .ok (.invokevirtual 142, 3) := by decide +kernel
theorem d134_29 : decode (zB 134) 29 = .ok (.bipush 10, 2) := by decide +kernel
theorem d134_31 : decode (zB 134) 31 = .ok (.if_icmp .ne 16, 3) := by decide +kernel
theorem d134_34 : decode (zB 134) 34 = .ok (.aload_n 0, 1) := by decide +kernel
theorem d134_35 : decode (zB 134) 35 = .ok (.dup, 1) := by decide +kernel
theorem d134_36 : decode (zB 134) 36 = .ok (.getfield 132, 3) := by decide +kernel
theorem d134_39 : decode (zB 134) 39 = .ok (.iconst 1, 1) := by decide +kernel
theorem d134_40 : decode (zB 134) 40 = .ok (.iadd, 1) := by decide +kernel
theorem d134_41 : decode (zB 134) 41 = .ok (.putfield 132, 3) := by decide +kernel
theorem d134_44 : decode (zB 134) 44 = .ok (.goto (-36), 3) := by decide +kernel
theorem d134_47 : decode (zB 134) 47 = .ok (.aload_n 0, 1) := by decide +kernel
theorem d134_48 : decode (zB 134) 48 = .ok (.aload_n 0, 1) := by decide +kernel
theorem d134_49 : decode (zB 134) 49 = .ok (.getfield 132, 3) := by decide +kernel
theorem d134_52 : decode (zB 134) 52 = .ok (.putfield 135, 3) := by decide +kernel
theorem d134_55 : decode (zB 134) 55 = .ok (.aload_n 0, 1) := by decide +kernel
theorem d134_56 : decode (zB 134) 56 = .ok (.aload_n 0, 1) := by decide +kernel
theorem d134_57 : decode (zB 134) 57 = .ok (.getfield 132, 3) := by decide +kernel
theorem d134_60 : decode (zB 134) 60 = .ok (.invokevirtual 142, 3) := by decide +kernel
theorem d134_63 : decode (zB 134) 63 = .ok (.istore_n 1, 1) := by decide +kernel
theorem d134_64 : decode (zB 134) 64 = .ok (.iload_n 1, 1) := by decide +kernel
theorem d134_65 : decode (zB 134) 65 = .ok (.iconst (-1), 1) := by decide +kernel
theorem d134_66 : decode (zB 134) 66 = .ok (.if_icmp .ne 11, 3) := by decide +kernel
theorem d134_69 : decode (zB 134) 69 = .ok (.aload_n 0, 1) := by decide +kernel
theorem d134_70 : decode (zB 134) 70 = .ok (.iconst 0, 1) := by decide +kernel
theorem d134_71 : decode (zB 134) 71 = .ok (.putfield 166, 3) := by decide +kernel
theorem d134_74 : decode (zB 134) 74 = .ok (.goto 294, 3) := by decide +kernel
theorem d134_77 : decode (zB 134) 77 = .ok (.iload_n 1, 1) := by decide +kernel
theorem d134_78 : decode (zB 134) 78 = .ok (.bipush 97, 2) := by decide +kernel
theorem d134_80 : decode (zB 134) 80 = .ok (.bipush 122, 2) := by decide +kernel
theorem d134_82 : decode (zB 134) 82 = .ok (.invokestatic 112, 3) := by decide +kernel
theorem d134_85 : decode (zB 134) 85 = .ok (.ifCond .eq 111, 3) := by decide +kernel
theorem d134_88 : decode (zB 134) 88 = .ok (.aload_n 0, 1) := by decide +kernel
theorem d134_89 : decode (zB 134) 89 = .ok (.aload_n 0, 1) := by decide +kernel
theorem d134_90 : decode (zB 134) 90 = .ok (.getfield 132, 3) := by decide +kernel
theorem d134_93 : decode (zB 134) 93 = .ok (.invokevirtual 142, 3) := by decide +kernel
theorem d134_96 : decode (zB 134) 96 = .ok (.bipush 97, 2) := by decide +kernel
theorem d134_98 : decode (zB 134) 98 = .ok (.bipush 122, 2) := by decide +kernel
theorem d134_100 : decode (zB 134) 100 = .ok (.invokestatic 112, 3) := by decide +kernel
theorem d134_103 : decode (zB 134) 103 = .ok (.ifCond .eq 16, 3) := by decide +kernel
theorem d134_106 : decode (zB 134) 106 = .ok (.aload_n 0, 1) := by decide +kernel
theorem d134_107 : decode (zB 134) 107 = .ok (.dup, 1) := by decide +kernel
theorem d134_108 : decode (zB 134) 108 = .ok (.getfield 132, 3) := by decide +kernel
theorem d134_111 : decode (zB 134) 111 = .ok (.iconst 1, 1) := by decide +kernel
theorem d134_112 : decode (zB 134) 112 = .ok (.iadd, 1) := by decide +kernel
theorem d134_113 : decode (zB 134) 113 = .ok (.putfield 132, 3) := by decide +kernel
theorem d134_116 : decode (zB 134) 116 = .ok (.goto (-28), 3) := by decide +kernel
theorem d134_119 : decode (zB 134) 119 = .ok (.aload_n 0, 1) := by decide +kernel
theorem d134_120 : decode (zB 134) 120 = .ok (.getfield 132, 3) := by decide +kernel
theorem d134_123 : decode (zB 134) 123 = .ok (.aload_n 0, 1) := by decide +kernel
theorem d134_124 : decode (zB 134) 124 = .ok (.getfield 135, 3) := by decide +kernel
theorem d134_127 : decode (zB 134) 127 = .ok (.isub, 1) := by decide +kernel
theorem d134_128 : decode (zB 134) 128 = .ok (.iconst 1, 1) := by decide +kernel
theorem d134_129 : decode (zB 134) 129 = .ok (.if_icmp .ne 13, 3) := by decide +kernel
theorem d134_132 : decode (zB 134) 132 = .ok (.iload_n 1, 1) := by decide +kernel
theorem d134_133 : decode (zB 134) 133 = .ok (.bipush 102, 2) := by decide +kernel
theorem d134_135 : decode (zB 134) 135 = .ok (.if_icmp .gt 7, 3) := by decide +kernel
theorem d134_138 : decode (zB 134) 138 = .ok (.iconst 1, 1) := by decide +kernel
theorem d134_139 : decode (zB 134) 139 = .ok (.goto 4, 3) := by decide +kernel
theorem d134_142 : decode (zB 134) 142 = .ok (.iconst 0, 1) := by decide +kernel
theorem d134_143 : decode (zB 134) 143 = .ok (.istore_n 2, 1) := by decide +kernel
theorem d134_144 : decode (zB 134) 144 = .ok (.aload_n 0, 1) := by decide +kernel
theorem d134_145 : decode (zB 134) 145 = .ok (.iload_n 2, 1) := by decide +kernel
theorem d134_146 : decode (zB 134) 146 = .ok (.ifCond .eq 7, 3) := by decide +kernel
theorem d134_149 : decode (zB 134) 149 = .ok (.iconst 2, 1) := by decide +kernel
theorem d134_150 : decode (zB 134) 150 = .ok (.goto 4, 3) := by decide +kernel
theorem d134_153 : decode (zB 134) 153 = .ok (.iconst 1, 1) := by decide +kernel
theorem d134_154 : decode (zB 134) 154 = .ok (.putfield 166, 3) := by decide +kernel
theorem d134_157 : decode (zB 134) 157 = .ok (.aload_n 0, 1) := by decide +kernel
theorem d134_158 : decode (zB 134) 158 = .ok (.iload_n 2, 1) := by decide +kernel
theorem d134_159 : decode (zB 134) 159 = .ok (.ifCond .eq 10, 3) := by decide +kernel
theorem d134_162 : decode (zB 134) 162 = .ok (.iload_n 1, 1) := by decide +kernel
theorem d134_163 : decode (zB 134) 163 = .ok (.bipush 97, 2) := by decide +kernel
theorem d134_165 : decode (zB 134) 165 = .ok (.isub, 1) := by decide +kernel
theorem d134_166 : decode (zB 134) 166 = .ok (.goto 7, 3) := by decide +kernel
theorem d134_169 : decode (zB 134) 169 = .ok (.aload_n 0, 1) := by decide +kernel
theorem d134_170 : decode (zB 134) 170 = .ok (.invokevirtual 169, 3) := by decide +kernel
theorem d134_173 : decode (zB 134) 173 = .ok (.putfield 172, 3) := by decide +kernel
theorem d134_176 : decode (zB 134) 176 = .ok (.aload_n 0, 1) := by decide +kernel
theorem d134_177 : decode (zB 134) 177 = .ok (.aload_n 0, 1) := by decide +kernel
theorem d134_178 : decode (zB 134) 178 = .ok (.getfield 172, 3) := by decide +kernel
theorem d134_181 : decode (zB 134) 181 = .ok (.iconst (-1), 1) := by decide +kernel
theorem d134_182 : decode (zB 134) 182 = .ok (.if_icmp .ne 7, 3) := by decide +kernel
theorem d134_185 : decode (zB 134) 185 = .ok (.iconst 1, 1) := by decide +kernel
theorem d134_186 : decode (zB 134) 186 = .ok (.goto 4, 3) := by decide +kernel
theorem d134_189 : decode (zB 134) 189 = .ok (.iconst 0, 1) := by decide +kernel
theorem d134_190 : decode (zB 134) 190 = .ok (.putfield 162, 3) := by decide +kernel
theorem d134_193 : decode (zB 134) 193 = .ok (.goto 175, 3) := by decide +kernel
theorem d134_196 : decode (zB 134) 196 = .ok (.iload_n 1, 1) := by decide +kernel
theorem d134_197 : decode (zB 134) 197 = .ok (.bipush 48, 2) := by decide +kernel
theorem d134_199 : decode (zB 134) 199 = .ok (.bipush 57, 2) := by decide +kernel
theorem d134_201 : decode (zB 134) 201 = .ok (.invokestatic 112, 3) := by decide +kernel
theorem d134_204 : decode (zB 134) 204 = .ok (.ifCond .eq 105, 3) := by decide +kernel
theorem d134_207 : decode (zB 134) 207 = .ok (.aload_n 0, 1) := by decide +kernel
theorem d134_208 : decode (zB 134) 208 = .ok (.iconst 3, 1) := by decide +kernel
theorem d134_209 : decode (zB 134) 209 = .ok (.putfield 166, 3) := by decide +kernel
theorem d134_212 : decode (zB 134) 212 = .ok (.aload_n 0, 1) := by decide +kernel
theorem d134_213 : decode (zB 134) 213 = .ok (.iconst 0, 1) := by decide +kernel
theorem d134_214 : decode (zB 134) 214 = .ok (.putfield 172, 3) := by decide +kernel
theorem d134_217 : decode (zB 134) 217 = .ok (.aload_n 0, 1) := by decide +kernel
theorem d134_218 : decode (zB 134) 218 = .ok (.aload_n 0, 1) := by decide +kernel
theorem d134_219 : decode (zB 134) 219 = .ok (.getfield 132, 3) := by decide +kernel
theorem d134_222 : decode (zB 134) 222 = .ok (.invokevirtual 142, 3) := by decide +kernel
theorem d134_225 : decode (zB 134) 225 = .ok (.bipush 48, 2) := by decide +kernel
theorem d134_227 : decode (zB 134) 227 = .ok (.bipush 57, 2) := by decide +kernel
theorem d134_229 : decode (zB 134) 229 = .ok (.invokestatic 112, 3) := by decide +kernel
theorem d134_232 : decode (zB 134) 232 = .ok (.ifCond .eq 52, 3) := by decide +kernel
theorem d134_235 : decode (zB 134) 235 = .ok (.aload_n 0, 1) := by decide +kernel
theorem d134_236 : decode (zB 134) 236 = .ok (.getfield 132, 3) := by decide +kernel
theorem d134_239 : decode (zB 134) 239 = .ok (.aload_n 0, 1) := by decide +kernel
theorem d134_240 : decode (zB 134) 240 = .ok (.getfield 135, 3) := by decide +kernel
theorem d134_243 : decode (zB 134) 243 = .ok (.isub, 1) := by decide +kernel
theorem d134_244 : decode (zB 134) 244 = .ok (.iconst 3, 1) := by decide +kernel
theorem d134_245 : decode (zB 134) 245 = .ok (.if_icmp .ge 26, 3) := by decide +kernel
theorem d134_248 : decode (zB 134) 248 = .ok (.aload_n 0, 1) := by decide +kernel
theorem d134_249 : decode (zB 134) 249 = .ok (.bipush 10, 2) := by decide +kernel
theorem d134_251 : decode (zB 134) 251 = .ok (.aload_n 0, 1) := by decide +kernel
theorem d134_252 : decode (zB 134) 252 = .ok (.getfield 172, 3) := by decide +kernel
theorem d134_255 : decode (zB 134) 255 = .ok (.imul, 1) := by decide +kernel
theorem d134_256 : decode (zB 134) 256 = .ok (.aload_n 0, 1) := by decide +kernel
theorem d134_257 : decode (zB 134) 257 = .ok (.aload_n 0, 1) := by decide +kernel
theorem d134_258 : decode (zB 134) 258 = .ok (.getfield 132, 3) := by decide +kernel
theorem d134_261 : decode (zB 134) 261 = .ok (.invokevirtual 142, 3) := by decide +kernel
theorem d134_264 : decode (zB 134) 264 = .ok (.iadd, 1) := by decide +kernel
theorem d134_265 : decode (zB 134) 265 = .ok (.bipush 48, 2) := by decide +kernel
theorem d134_267 : decode (zB 134) 267 = .ok (.isub, 1) := by decide +kernel
theorem d134_268 : decode (zB 134) 268 = .ok (.putfield 172, 3) := by decide +kernel
theorem d134_271 : decode (zB 134) 271 = .ok (.aload_n 0, 1) := by decide +kernel
theorem d134_272 : decode (zB 134) 272 = .ok (.dup, 1) := by decide +kernel
theorem d134_273 : decode (zB 134) 273 = .ok (.getfield 132, 3) := by decide +kernel
theorem d134_276 : decode (zB 134) 276 = .ok (.iconst 1, 1) := by decide +kernel
theorem d134_277 : decode (zB 134) 277 = .ok (.iadd, 1) := by decide +kernel
theorem d134_278 : decode (zB 134) 278 = .ok (.putfield 132, 3) := by decide +kernel
theorem d134_281 : decode (zB 134) 281 = .ok (.goto (-64), 3) := by decide +kernel
theorem d134_284 : decode (zB 134) 284 = .ok (.aload_n 0, 1) := by decide +kernel
theorem d134_285 : decode (zB 134) 285 = .ok (.aload_n 0, 1) := by decide +kernel
theorem d134_286 : decode (zB 134) 286 = .ok (.getfield 132, 3) := by decide +kernel
theorem d134_289 : decode (zB 134) 289 = .ok (.aload_n 0, 1) := by decide +kernel
theorem d134_290 : decode (zB 134) 290 = .ok (.getfield 135, 3) := by decide +kernel
theorem d134_293 : decode (zB 134) 293 = .ok (.isub, 1) := by decide +kernel
theorem d134_294 : decode (zB 134) 294 = .ok (.iconst 3, 1) := by decide +kernel
theorem d134_295 : decode (zB 134) 295 = .ok (.if_icmp .le 7, 3) := by decide +kernel
theorem d134_298 : decode (zB 134) 298 = .ok (.iconst 1, 1) := by decide +kernel
theorem d134_299 : decode (zB 134) 299 = .ok (.goto 4, 3) := by decide +kernel
theorem d134_302 : decode (zB 134) 302 = .ok (.iconst 0, 1) := by decide +kernel
theorem d134_303 : decode (zB 134) 303 = .ok (.putfield 162, 3) := by decide +kernel
theorem d134_306 : decode (zB 134) 306 = .ok (.goto 62, 3) := by decide +kernel
theorem d134_309 : decode (zB 134) 309 = .ok (.aload_n 0, 1) := by decide +kernel
theorem d134_310 : decode (zB 134) 310 = .ok (.iconst 4, 1) := by decide +kernel
theorem d134_311 : decode (zB 134) 311 = .ok (.putfield 166, 3) := by decide +kernel
theorem d134_314 : decode (zB 134) 314 = .ok (.aload_n 0, 1) := by decide +kernel
theorem d134_315 : decode (zB 134) 315 = .ok (.iload_n 1, 1) := by decide +kernel
theorem d134_316 : decode (zB 134) 316 = .ok (.putfield 172, 3) := by decide +kernel
theorem d134_319 : decode (zB 134) 319 = .ok (.aload_n 0, 1) := by decide +kernel
theorem d134_320 : decode (zB 134) 320 = .ok (.dup, 1) := by decide +kernel
theorem d134_321 : decode (zB 134) 321 = .ok (.getfield 132, 3) := by decide +kernel
theorem d134_324 : decode (zB 134) 324 = .ok (.iconst 1, 1) := by decide +kernel
theorem d134_325 : decode (zB 134) 325 = .ok (.iadd, 1) := by decide +kernel
theorem d134_326 : decode (zB 134) 326 = .ok (.putfield 132, 3) := by decide +kernel
theorem d134_329 : decode (zB 134) 329 = .ok (.aload_n 0, 1) := by decide +kernel
theorem d134_330 : decode (zB 134) 330 = .ok (.iload_n 1, 1) := by decide +kernel
theorem d134_331 : decode (zB 134) 331 = .ok (.bipush 59, 2) := by decide +kernel
theorem d134_333 : decode (zB 134) 333 = .ok (.if_icmp .eq 31, 3) := by decide +kernel
theorem d134_336 : decode (zB 134) 336 = .ok (.iload_n 1, 1) := by decide +kernel
theorem d134_337 : decode (zB 134) 337 = .ok (.bipush 123, 2) := by decide +kernel
theorem d134_339 : decode (zB 134) 339 = .ok (.if_icmp .eq 25, 3) := by decide +kernel
theorem d134_342 : decode (zB 134) 342 = .ok (.iload_n 1, 1) := by decide +kernel
theorem d134_343 : decode (zB 134) 343 = .ok (.bipush 124, 2) := by decide +kernel
theorem d134_345 : decode (zB 134) 345 = .ok (.if_icmp .eq 19, 3) := by decide +kernel
theorem d134_348 : decode (zB 134) 348 = .ok (.iload_n 1, 1) := by decide +kernel
theorem d134_349 : decode (zB 134) 349 = .ok (.bipush 125, 2) := by decide +kernel
theorem d134_351 : decode (zB 134) 351 = .ok (.if_icmp .eq 13, 3) := by decide +kernel
theorem d134_354 : decode (zB 134) 354 = .ok (.iload_n 1, 1) := by decide +kernel
theorem d134_355 : decode (zB 134) 355 = .ok (.bipush 33, 2) := by decide +kernel
theorem d134_357 : decode (zB 134) 357 = .ok (.if_icmp .eq 7, 3) := by decide +kernel
theorem d134_360 : decode (zB 134) 360 = .ok (.iconst 1, 1) := by decide +kernel
theorem d134_361 : decode (zB 134) 361 = .ok (.goto 4, 3) := by decide +kernel
theorem d134_364 : decode (zB 134) 364 = .ok (.iconst 0, 1) := by decide +kernel
theorem d134_365 : decode (zB 134) 365 = .ok (.putfield 162, 3) := by decide +kernel
theorem d134_368 : decode (zB 134) 368 = .ok (.return_, 1) := by decide +kernel
theorem c134 {d : Nat} {M : zM} {Q : Option Value → zM → Prop} {n : Nat} {b : Nat → Nat} {p : Nat} (hX : SX M) (ht : TXp M n b) (hp : zi M 136 31 = nI p) (hpn : p ≤ n) (h38 : zi M 136 38 = nI 0) (k : ∀ M', zi M' 136 31 = nI (ltk n b p).2.2 → zi M' 136 32 = nI (ltk n b p).2.1 → TK M' b (ltk n b p) → Fi FN M M' → Q none M') : qC (d + 10) 134 [.ref 136] M Q := by
  refine qC_of (by decide) (Nat.le_of_ble_eq_true rfl) ?_
  refine q_aload_n d134_0 rfl ?_
  refine q_getv (c := 8) (f := 38) d134_1 ⟨rfl, by decide⟩ (xk_136 hX) h38 ?_
  refine n0_eq 8 d134_4 (by decide) (by decide) (fun _ => ?_) (fun q => absurd q (by decide))
  refine l134a hX ht 120 p M (by have := ht.1; omega) hp (Fi.refl _ _) (fun M1 hp1 f1 => ?_) hpn
  have h120 := ht.1
  have hX1 := SX_fi hX f1
  have ht1 := TXp_fi ht f1 FQ_t
  have h381 : zi M1 136 38 = nI 0 := (f1.1 _ _ (by unfold FQ; omega)).trans h38
  have hq0 := lsk_ge (n := n) (b := b) 120 p
  have hq1 := hq0.2 hpn
  obtain ⟨q, hqe⟩ : ∃ q, lsk n b 120 p = q := ⟨_, rfl⟩
  rw [hqe] at hp1 hq0 hq1
  by_cases hq : n ≤ q
  · skip
    refine q_aload_n d134_47 rfl ?_
    refine q_aload_n d134_48 rfl ?_
    refine q_getv (c := 8) (f := 31) d134_49 ⟨rfl, by decide⟩ (xk_136 hX1) hp1 ?_
    refine q_puti (c := 8) (f := 32) d134_52 ⟨rfl, rfl, by decide⟩ (xk_136 hX1) ?_
    have f2 : Fi FN M (zwi M1 136 32 (nI q)) := (f1.mono (fun a k q => FQ_N q)).wi ⟨rfl, by omega⟩
    have hX2 := SX_fi hX f2
    have ht2 := TXp_fi ht f2 FN_t
    have hp2 : zi (zwi M1 136 32 (nI q)) 136 31 = nI q := (wi_n (by omega)).trans hp1
    have hb2 : zi (zwi M1 136 32 (nI q)) 136 32 = nI q := wi_s _ _ _ _
    have h382 : zi (zwi M1 136 32 (nI q)) 136 38 = nI 0 := (wi_n (by omega)).trans h381
    refine q_aload_n d134_55 rfl ?_
    refine q_aload_n d134_56 rfl ?_
    refine q_getv (c := 8) (f := 31) d134_57 ⟨rfl, by decide⟩ (xk_136 hX2) hp2 ?_
    refine q_v1 d134_60 rfl rfl (xk_136 hX2) (Nat.le_of_ble_eq_true rfl) (c135f hX2 ht2 (by omega) (by omega) ?_)
    refine q_istore_n d134_63 (by decide) rfl ?_
    refine q_iload_n d134_64 rfl ?_
    refine q_iconst (x := (-1)) d134_65 rfl ?_
    refine ic_ne 77 d134_66 (by decide) (fun h66 => (False.elim (h66 rfl))) (fun h66 => ?_)
    refine q_aload_n d134_69 rfl ?_
    refine q_iconstN (z := 0) d134_70 ?_
    refine q_puti (c := 8) (f := 33) d134_71 ⟨rfl, rfl, by decide⟩ (xk_136 hX2) ?_
    refine q_goto 368 d134_74 (by decide) ?_
    refine q_ret d134_368 rfl ?_
    rw [show ltk n b p = (0, q, q) by unfold ltk; simp only []; rw [hqe, if_pos hq]] at k
    exact k _ (by (repeat (first | rw [wi_n (Or.inl (by omega))] | rw [wi_n (Or.inr (by omega))] | rw [wi_s] | rw [wr_i] | rw [cp_n (by omega)] | rw [cp_0 (by omega)])); exact hp2) (by (repeat (first | rw [wi_n (Or.inl (by omega))] | rw [wi_n (Or.inr (by omega))] | rw [wi_s] | rw [wr_i] | rw [cp_n (by omega)] | rw [cp_0 (by omega)]))) (TK.s rfl (by (repeat (first | rw [wi_n (Or.inl (by omega))] | rw [wi_n (Or.inr (by omega))] | rw [wi_s] | rw [wr_i] | rw [cp_n (by omega)] | rw [cp_0 (by omega)]))) (fun h => absurd rfl h) (by (repeat (first | rw [wi_n (Or.inl (by omega))] | rw [wi_n (Or.inr (by omega))] | rw [wi_s] | rw [wr_i] | rw [cp_n (by omega)] | rw [cp_0 (by omega)])); exact h382)) (f2.wi ⟨rfl, by omega⟩)
  · have hbq := (ht.2.2 q (by omega)).2
    by_cases hc : 97 ≤ b q ∧ b q ≤ 122
    · skip
      refine q_aload_n d134_47 rfl ?_
      refine q_aload_n d134_48 rfl ?_
      refine q_getv (c := 8) (f := 31) d134_49 ⟨rfl, by decide⟩ (xk_136 hX1) hp1 ?_
      refine q_puti (c := 8) (f := 32) d134_52 ⟨rfl, rfl, by decide⟩ (xk_136 hX1) ?_
      have f2 : Fi FN M (zwi M1 136 32 (nI q)) := (f1.mono (fun a k q => FQ_N q)).wi ⟨rfl, by omega⟩
      have hX2 := SX_fi hX f2
      have ht2 := TXp_fi ht f2 FN_t
      have hp2 : zi (zwi M1 136 32 (nI q)) 136 31 = nI q := (wi_n (by omega)).trans hp1
      have hb2 : zi (zwi M1 136 32 (nI q)) 136 32 = nI q := wi_s _ _ _ _
      have h382 : zi (zwi M1 136 32 (nI q)) 136 38 = nI 0 := (wi_n (by omega)).trans h381
      refine q_aload_n d134_55 rfl ?_
      refine q_aload_n d134_56 rfl ?_
      refine q_getv (c := 8) (f := 31) d134_57 ⟨rfl, by decide⟩ (xk_136 hX2) hp2 ?_
      refine q_v1 d134_60 rfl rfl (xk_136 hX2) (Nat.le_of_ble_eq_true rfl) (c135t hX2 ht2 (by omega) ?_)
      refine q_istore_n d134_63 (by decide) rfl ?_
      refine q_iload_n d134_64 rfl ?_
      refine q_iconst (x := (-1)) d134_65 rfl ?_
      refine ic_ne 77 d134_66 (by decide) (fun h66 => ?_) (fun h66 => (False.elim (nI_m1 (by omega) h66)))
      refine q_iload_n d134_77 rfl ?_
      refine q_bipush (x := nI 97) d134_78 rfl ?_
      refine q_bipush (x := nI 122) d134_80 rfl ?_
      refine q_s3 d134_82 (Or.inl rfl) rfl (Nat.le_of_ble_eq_true rfl) (c131t hc (by omega) ?_)
      refine n0_eq 196 d134_85 (by decide) (by decide) (fun q => absurd q (by decide)) (fun _ => ?_)
      refine l134b hX2 ht2 120 q _ (by omega) hp2 (Fi.refl _ _) (fun M3 hp3 f3 => ?_) (by omega)
      have f4 : Fi FN M M3 := f2.trans (f3.mono (fun a k q => FQ_N q))
      have hX3 := SX_fi hX f4
      have ht3 := TXp_fi ht f4 FN_t
      have hb3 : zi M3 136 32 = nI q := (f3.1 _ _ (by unfold FQ; omega)).trans hb2
      have h383 : zi M3 136 38 = nI 0 := (f3.1 _ _ (by unfold FQ; omega)).trans h382
      have hle := lrn_ge (n := n) (b := b) (lo := 97) (hi := 122) 120 q
      have hle2 := hle.2 (by omega)
      have eL : ltk n b p = (1, q, lrn n b 97 122 120 q) := by unfold ltk; simp only []; rw [hqe, if_neg (by omega), if_pos hc]
      rw [eL] at k
      obtain ⟨e, hee⟩ : ∃ e, lrn n b 97 122 120 q = e := ⟨_, rfl⟩
      rw [hee] at hp3 hle hle2 k eL
      by_cases hone : e - q = 1 ∧ b q ≤ 102
      · skip
        refine q_aload_n d134_119 rfl ?_
        refine q_getv (c := 8) (f := 31) d134_120 ⟨rfl, by decide⟩ (xk_136 hX3) hp3 ?_
        refine q_aload_n d134_123 rfl ?_
        refine q_getv (c := 8) (f := 32) d134_124 ⟨rfl, by decide⟩ (xk_136 hX3) hb3 ?_
        refine n_isub d134_127 (by omega) ?_
        refine q_iconstN (z := 1) d134_128 ?_
        refine nc_ne 142 d134_129 (by decide) (by omega) (by omega) (fun h129 => (False.elim (h129 hone.1))) (fun h129 => ?_)
        refine q_iload_n d134_132 rfl ?_
        refine q_bipush (x := nI 102) d134_133 rfl ?_
        refine nc_gt 142 d134_135 (by decide) (by omega) (by omega) (fun h135 => (False.elim (by omega))) (fun h135 => ?_)
        refine q_iconstN (z := 1) d134_138 ?_
        refine q_goto 143 d134_139 (by decide) ?_
        refine q_istore_n d134_143 (by decide) rfl ?_
        refine q_aload_n d134_144 rfl ?_
        refine q_iload_n d134_145 rfl ?_
        refine n0_eq 153 d134_146 (by decide) (by decide) (fun q => absurd q (by decide)) (fun _ => ?_)
        refine q_iconstN (z := 2) d134_149 ?_
        refine q_goto 154 d134_150 (by decide) ?_
        refine q_puti (c := 8) (f := 33) d134_154 ⟨rfl, rfl, by decide⟩ (xk_136 hX3) ?_
        refine q_aload_n d134_157 rfl ?_
        refine q_iload_n d134_158 rfl ?_
        refine n0_eq 169 d134_159 (by decide) (by decide) (fun q => absurd q (by decide)) (fun _ => ?_)
        refine q_iload_n d134_162 rfl ?_
        refine q_bipush (x := nI 97) d134_163 rfl ?_
        refine n_isub d134_165 (by omega) ?_
        refine q_goto 173 d134_166 (by decide) ?_
        refine q_puti (c := 8) (f := 34) d134_173 ⟨rfl, rfl, by decide⟩ (xk_136 hX3) ?_
        refine q_aload_n d134_176 rfl ?_
        refine q_aload_n d134_177 rfl ?_
        refine q_getv (c := 8) (f := 34) d134_178 ⟨rfl, by decide⟩ (xk_136 hX3) (wi_s _ _ _ _) ?_
        refine q_iconst (x := (-1)) d134_181 rfl ?_
        refine ic_ne 189 d134_182 (by decide) (fun h182 => ?_) (fun h182 => (False.elim (nI_m1 (by omega) h182)))
        refine q_iconstN (z := 0) d134_189 ?_
        refine q_putz (c := 8) (f := 38) d134_190 ⟨rfl, rfl, by decide⟩ (xk_136 hX3) (Or.inl rfl) ?_
        refine q_goto 368 d134_193 (by decide) ?_
        refine q_ret d134_368 rfl ?_
        exact k _ (by (repeat (first | rw [wi_n (Or.inl (by omega))] | rw [wi_n (Or.inr (by omega))] | rw [wi_s] | rw [wr_i] | rw [cp_n (by omega)] | rw [cp_0 (by omega)])); exact hp3) (by (repeat (first | rw [wi_n (Or.inl (by omega))] | rw [wi_n (Or.inr (by omega))] | rw [wi_s] | rw [wr_i] | rw [cp_n (by omega)] | rw [cp_0 (by omega)])); exact hb3) (TK.s (ytx_1 hone) (by (repeat (first | rw [wi_n (Or.inl (by omega))] | rw [wi_n (Or.inr (by omega))] | rw [wi_s] | rw [wr_i] | rw [cp_n (by omega)] | rw [cp_0 (by omega)]))) (fun _ => by (repeat (first | rw [wi_n (Or.inl (by omega))] | rw [wi_n (Or.inr (by omega))] | rw [wi_s] | rw [wr_i] | rw [cp_n (by omega)] | rw [cp_0 (by omega)]))) (by (repeat (first | rw [wi_n (Or.inl (by omega))] | rw [wi_n (Or.inr (by omega))] | rw [wi_s] | rw [wr_i] | rw [cp_n (by omega)] | rw [cp_0 (by omega)])))) (((f4.wi ⟨rfl, by omega⟩).wi ⟨rfl, by omega⟩).wi ⟨rfl, by omega⟩)
      · by_cases h6 : ykw b q e < 6
        · skip
          refine q_aload_n d134_119 rfl ?_
          refine q_getv (c := 8) (f := 31) d134_120 ⟨rfl, by decide⟩ (xk_136 hX3) hp3 ?_
          refine q_aload_n d134_123 rfl ?_
          refine q_getv (c := 8) (f := 32) d134_124 ⟨rfl, by decide⟩ (xk_136 hX3) hb3 ?_
          refine n_isub d134_127 (by omega) ?_
          refine q_iconstN (z := 1) d134_128 ?_
          refine nc_ne 142 d134_129 (by decide) (by omega) (by omega) (fun h129 => ?_) (fun h129 => ?_)
          · refine q_iconstN (z := 0) d134_142 ?_
            refine q_istore_n d134_143 (by decide) rfl ?_
            refine q_aload_n d134_144 rfl ?_
            refine q_iload_n d134_145 rfl ?_
            refine n0_eq 153 d134_146 (by decide) (by decide) (fun _ => ?_) (fun q => absurd q (by decide))
            refine q_iconstN (z := 1) d134_153 ?_
            refine q_puti (c := 8) (f := 33) d134_154 ⟨rfl, rfl, by decide⟩ (xk_136 hX3) ?_
            refine q_aload_n d134_157 rfl ?_
            refine q_iload_n d134_158 rfl ?_
            refine n0_eq 169 d134_159 (by decide) (by decide) (fun _ => ?_) (fun q => absurd q (by decide))
            have f5 : Fi FN M3 (zwi M3 136 33 (nI 1)) := (Fi.refl _ _).wi ⟨rfl, by omega⟩
            have hX5 := SX_fi hX3 f5
            have ht5 := TXp_fi ht3 f5 FN_t
            have hp5 : zi (zwi M3 136 33 (nI 1)) 136 31 = nI e := (wi_n (by omega)).trans hp3
            have hb5 : zi (zwi M3 136 33 (nI 1)) 136 32 = nI q := (wi_n (by omega)).trans hb3
            refine q_aload_n d134_169 rfl ?_
            refine q_v0 d134_170 rfl rfl (xk_136 hX3) (Nat.le_of_ble_eq_true rfl) (c136t hX5 ht5 hp5 hb5 (by omega) (by omega) rfl h6 ?_)
            refine q_puti (c := 8) (f := 34) d134_173 ⟨rfl, rfl, by decide⟩ (xk_136 hX3) ?_
            refine q_aload_n d134_176 rfl ?_
            refine q_aload_n d134_177 rfl ?_
            refine q_getv (c := 8) (f := 34) d134_178 ⟨rfl, by decide⟩ (xk_136 hX3) (wi_s _ _ _ _) ?_
            refine q_iconst (x := (-1)) d134_181 rfl ?_
            refine ic_ne 189 d134_182 (by decide) (fun h182 => ?_) (fun h182 => (False.elim (nI_m1 (by omega) h182)))
            refine q_iconstN (z := 0) d134_189 ?_
            refine q_putz (c := 8) (f := 38) d134_190 ⟨rfl, rfl, by decide⟩ (xk_136 hX3) (Or.inl rfl) ?_
            refine q_goto 368 d134_193 (by decide) ?_
            refine q_ret d134_368 rfl ?_
            exact k _ (by (repeat (first | rw [wi_n (Or.inl (by omega))] | rw [wi_n (Or.inr (by omega))] | rw [wi_s] | rw [wr_i] | rw [cp_n (by omega)] | rw [cp_0 (by omega)])); exact hp3) (by (repeat (first | rw [wi_n (Or.inl (by omega))] | rw [wi_n (Or.inr (by omega))] | rw [wi_s] | rw [wr_i] | rw [cp_n (by omega)] | rw [cp_0 (by omega)])); exact hb3) (TK.s (ytx_2 hone h6) (by (repeat (first | rw [wi_n (Or.inl (by omega))] | rw [wi_n (Or.inr (by omega))] | rw [wi_s] | rw [wr_i] | rw [cp_n (by omega)] | rw [cp_0 (by omega)]))) (fun _ => by (repeat (first | rw [wi_n (Or.inl (by omega))] | rw [wi_n (Or.inr (by omega))] | rw [wi_s] | rw [wr_i] | rw [cp_n (by omega)] | rw [cp_0 (by omega)]))) (by (repeat (first | rw [wi_n (Or.inl (by omega))] | rw [wi_n (Or.inr (by omega))] | rw [wi_s] | rw [wr_i] | rw [cp_n (by omega)] | rw [cp_0 (by omega)])))) (((f4.wi ⟨rfl, by omega⟩).wi ⟨rfl, by omega⟩).wi ⟨rfl, by omega⟩)
          · refine q_iload_n d134_132 rfl ?_
            refine q_bipush (x := nI 102) d134_133 rfl ?_
            refine nc_gt 142 d134_135 (by decide) (by omega) (by omega) (fun h135 => ?_) (fun h135 => (False.elim (hone ⟨h129, by omega⟩)))
            refine q_iconstN (z := 0) d134_142 ?_
            refine q_istore_n d134_143 (by decide) rfl ?_
            refine q_aload_n d134_144 rfl ?_
            refine q_iload_n d134_145 rfl ?_
            refine n0_eq 153 d134_146 (by decide) (by decide) (fun _ => ?_) (fun q => absurd q (by decide))
            refine q_iconstN (z := 1) d134_153 ?_
            refine q_puti (c := 8) (f := 33) d134_154 ⟨rfl, rfl, by decide⟩ (xk_136 hX3) ?_
            refine q_aload_n d134_157 rfl ?_
            refine q_iload_n d134_158 rfl ?_
            refine n0_eq 169 d134_159 (by decide) (by decide) (fun _ => ?_) (fun q => absurd q (by decide))
            have f5 : Fi FN M3 (zwi M3 136 33 (nI 1)) := (Fi.refl _ _).wi ⟨rfl, by omega⟩
            have hX5 := SX_fi hX3 f5
            have ht5 := TXp_fi ht3 f5 FN_t
            have hp5 : zi (zwi M3 136 33 (nI 1)) 136 31 = nI e := (wi_n (by omega)).trans hp3
            have hb5 : zi (zwi M3 136 33 (nI 1)) 136 32 = nI q := (wi_n (by omega)).trans hb3
            refine q_aload_n d134_169 rfl ?_
            refine q_v0 d134_170 rfl rfl (xk_136 hX3) (Nat.le_of_ble_eq_true rfl) (c136t hX5 ht5 hp5 hb5 (by omega) (by omega) rfl h6 ?_)
            refine q_puti (c := 8) (f := 34) d134_173 ⟨rfl, rfl, by decide⟩ (xk_136 hX3) ?_
            refine q_aload_n d134_176 rfl ?_
            refine q_aload_n d134_177 rfl ?_
            refine q_getv (c := 8) (f := 34) d134_178 ⟨rfl, by decide⟩ (xk_136 hX3) (wi_s _ _ _ _) ?_
            refine q_iconst (x := (-1)) d134_181 rfl ?_
            refine ic_ne 189 d134_182 (by decide) (fun h182 => ?_) (fun h182 => (False.elim (nI_m1 (by omega) h182)))
            refine q_iconstN (z := 0) d134_189 ?_
            refine q_putz (c := 8) (f := 38) d134_190 ⟨rfl, rfl, by decide⟩ (xk_136 hX3) (Or.inl rfl) ?_
            refine q_goto 368 d134_193 (by decide) ?_
            refine q_ret d134_368 rfl ?_
            exact k _ (by (repeat (first | rw [wi_n (Or.inl (by omega))] | rw [wi_n (Or.inr (by omega))] | rw [wi_s] | rw [wr_i] | rw [cp_n (by omega)] | rw [cp_0 (by omega)])); exact hp3) (by (repeat (first | rw [wi_n (Or.inl (by omega))] | rw [wi_n (Or.inr (by omega))] | rw [wi_s] | rw [wr_i] | rw [cp_n (by omega)] | rw [cp_0 (by omega)])); exact hb3) (TK.s (ytx_2 hone h6) (by (repeat (first | rw [wi_n (Or.inl (by omega))] | rw [wi_n (Or.inr (by omega))] | rw [wi_s] | rw [wr_i] | rw [cp_n (by omega)] | rw [cp_0 (by omega)]))) (fun _ => by (repeat (first | rw [wi_n (Or.inl (by omega))] | rw [wi_n (Or.inr (by omega))] | rw [wi_s] | rw [wr_i] | rw [cp_n (by omega)] | rw [cp_0 (by omega)]))) (by (repeat (first | rw [wi_n (Or.inl (by omega))] | rw [wi_n (Or.inr (by omega))] | rw [wi_s] | rw [wr_i] | rw [cp_n (by omega)] | rw [cp_0 (by omega)])))) (((f4.wi ⟨rfl, by omega⟩).wi ⟨rfl, by omega⟩).wi ⟨rfl, by omega⟩)
        · skip
          refine q_aload_n d134_119 rfl ?_
          refine q_getv (c := 8) (f := 31) d134_120 ⟨rfl, by decide⟩ (xk_136 hX3) hp3 ?_
          refine q_aload_n d134_123 rfl ?_
          refine q_getv (c := 8) (f := 32) d134_124 ⟨rfl, by decide⟩ (xk_136 hX3) hb3 ?_
          refine n_isub d134_127 (by omega) ?_
          refine q_iconstN (z := 1) d134_128 ?_
          refine nc_ne 142 d134_129 (by decide) (by omega) (by omega) (fun h129 => ?_) (fun h129 => ?_)
          · refine q_iconstN (z := 0) d134_142 ?_
            refine q_istore_n d134_143 (by decide) rfl ?_
            refine q_aload_n d134_144 rfl ?_
            refine q_iload_n d134_145 rfl ?_
            refine n0_eq 153 d134_146 (by decide) (by decide) (fun _ => ?_) (fun q => absurd q (by decide))
            refine q_iconstN (z := 1) d134_153 ?_
            refine q_puti (c := 8) (f := 33) d134_154 ⟨rfl, rfl, by decide⟩ (xk_136 hX3) ?_
            refine q_aload_n d134_157 rfl ?_
            refine q_iload_n d134_158 rfl ?_
            refine n0_eq 169 d134_159 (by decide) (by decide) (fun _ => ?_) (fun q => absurd q (by decide))
            have f5 : Fi FN M3 (zwi M3 136 33 (nI 1)) := (Fi.refl _ _).wi ⟨rfl, by omega⟩
            have hX5 := SX_fi hX3 f5
            have ht5 := TXp_fi ht3 f5 FN_t
            have hp5 : zi (zwi M3 136 33 (nI 1)) 136 31 = nI e := (wi_n (by omega)).trans hp3
            have hb5 : zi (zwi M3 136 33 (nI 1)) 136 32 = nI q := (wi_n (by omega)).trans hb3
            refine q_aload_n d134_169 rfl ?_
            refine q_v0 d134_170 rfl rfl (xk_136 hX3) (Nat.le_of_ble_eq_true rfl) (c136n hX5 ht5 hp5 hb5 (by omega) (by omega) h6 ?_)
            refine q_puti (c := 8) (f := 34) d134_173 ⟨rfl, rfl, by decide⟩ (xk_136 hX3) ?_
            refine q_aload_n d134_176 rfl ?_
            refine q_aload_n d134_177 rfl ?_
            refine q_getv (c := 8) (f := 34) d134_178 ⟨rfl, by decide⟩ (xk_136 hX3) (wi_s _ _ _ _) ?_
            refine q_iconst (x := (-1)) d134_181 rfl ?_
            refine ic_ne 189 d134_182 (by decide) (fun h182 => (False.elim (h182 rfl))) (fun h182 => ?_)
            refine q_iconstN (z := 1) d134_185 ?_
            refine q_goto 190 d134_186 (by decide) ?_
            refine q_putz (c := 8) (f := 38) d134_190 ⟨rfl, rfl, by decide⟩ (xk_136 hX3) (Or.inr rfl) ?_
            refine q_goto 368 d134_193 (by decide) ?_
            refine q_ret d134_368 rfl ?_
            exact k _ (by (repeat (first | rw [wi_n (Or.inl (by omega))] | rw [wi_n (Or.inr (by omega))] | rw [wi_s] | rw [wr_i] | rw [cp_n (by omega)] | rw [cp_0 (by omega)])); exact hp3) (by (repeat (first | rw [wi_n (Or.inl (by omega))] | rw [wi_n (Or.inr (by omega))] | rw [wi_s] | rw [wr_i] | rw [cp_n (by omega)] | rw [cp_0 (by omega)])); exact hb3) (TK.n (ytx_3 hone h6) (by (repeat (first | rw [wi_n (Or.inl (by omega))] | rw [wi_n (Or.inr (by omega))] | rw [wi_s] | rw [wr_i] | rw [cp_n (by omega)] | rw [cp_0 (by omega)])))) (((f4.wi ⟨rfl, by omega⟩).wi ⟨rfl, by omega⟩).wi ⟨rfl, by omega⟩)
          · refine q_iload_n d134_132 rfl ?_
            refine q_bipush (x := nI 102) d134_133 rfl ?_
            refine nc_gt 142 d134_135 (by decide) (by omega) (by omega) (fun h135 => ?_) (fun h135 => (False.elim (hone ⟨h129, by omega⟩)))
            refine q_iconstN (z := 0) d134_142 ?_
            refine q_istore_n d134_143 (by decide) rfl ?_
            refine q_aload_n d134_144 rfl ?_
            refine q_iload_n d134_145 rfl ?_
            refine n0_eq 153 d134_146 (by decide) (by decide) (fun _ => ?_) (fun q => absurd q (by decide))
            refine q_iconstN (z := 1) d134_153 ?_
            refine q_puti (c := 8) (f := 33) d134_154 ⟨rfl, rfl, by decide⟩ (xk_136 hX3) ?_
            refine q_aload_n d134_157 rfl ?_
            refine q_iload_n d134_158 rfl ?_
            refine n0_eq 169 d134_159 (by decide) (by decide) (fun _ => ?_) (fun q => absurd q (by decide))
            have f5 : Fi FN M3 (zwi M3 136 33 (nI 1)) := (Fi.refl _ _).wi ⟨rfl, by omega⟩
            have hX5 := SX_fi hX3 f5
            have ht5 := TXp_fi ht3 f5 FN_t
            have hp5 : zi (zwi M3 136 33 (nI 1)) 136 31 = nI e := (wi_n (by omega)).trans hp3
            have hb5 : zi (zwi M3 136 33 (nI 1)) 136 32 = nI q := (wi_n (by omega)).trans hb3
            refine q_aload_n d134_169 rfl ?_
            refine q_v0 d134_170 rfl rfl (xk_136 hX3) (Nat.le_of_ble_eq_true rfl) (c136n hX5 ht5 hp5 hb5 (by omega) (by omega) h6 ?_)
            refine q_puti (c := 8) (f := 34) d134_173 ⟨rfl, rfl, by decide⟩ (xk_136 hX3) ?_
            refine q_aload_n d134_176 rfl ?_
            refine q_aload_n d134_177 rfl ?_
            refine q_getv (c := 8) (f := 34) d134_178 ⟨rfl, by decide⟩ (xk_136 hX3) (wi_s _ _ _ _) ?_
            refine q_iconst (x := (-1)) d134_181 rfl ?_
            refine ic_ne 189 d134_182 (by decide) (fun h182 => (False.elim (h182 rfl))) (fun h182 => ?_)
            refine q_iconstN (z := 1) d134_185 ?_
            refine q_goto 190 d134_186 (by decide) ?_
            refine q_putz (c := 8) (f := 38) d134_190 ⟨rfl, rfl, by decide⟩ (xk_136 hX3) (Or.inr rfl) ?_
            refine q_goto 368 d134_193 (by decide) ?_
            refine q_ret d134_368 rfl ?_
            exact k _ (by (repeat (first | rw [wi_n (Or.inl (by omega))] | rw [wi_n (Or.inr (by omega))] | rw [wi_s] | rw [wr_i] | rw [cp_n (by omega)] | rw [cp_0 (by omega)])); exact hp3) (by (repeat (first | rw [wi_n (Or.inl (by omega))] | rw [wi_n (Or.inr (by omega))] | rw [wi_s] | rw [wr_i] | rw [cp_n (by omega)] | rw [cp_0 (by omega)])); exact hb3) (TK.n (ytx_3 hone h6) (by (repeat (first | rw [wi_n (Or.inl (by omega))] | rw [wi_n (Or.inr (by omega))] | rw [wi_s] | rw [wr_i] | rw [cp_n (by omega)] | rw [cp_0 (by omega)])))) (((f4.wi ⟨rfl, by omega⟩).wi ⟨rfl, by omega⟩).wi ⟨rfl, by omega⟩)
    · by_cases hd : 48 ≤ b q ∧ b q ≤ 57
      · skip
        refine q_aload_n d134_47 rfl ?_
        refine q_aload_n d134_48 rfl ?_
        refine q_getv (c := 8) (f := 31) d134_49 ⟨rfl, by decide⟩ (xk_136 hX1) hp1 ?_
        refine q_puti (c := 8) (f := 32) d134_52 ⟨rfl, rfl, by decide⟩ (xk_136 hX1) ?_
        have f2 : Fi FN M (zwi M1 136 32 (nI q)) := (f1.mono (fun a k q => FQ_N q)).wi ⟨rfl, by omega⟩
        have hX2 := SX_fi hX f2
        have ht2 := TXp_fi ht f2 FN_t
        have hp2 : zi (zwi M1 136 32 (nI q)) 136 31 = nI q := (wi_n (by omega)).trans hp1
        have hb2 : zi (zwi M1 136 32 (nI q)) 136 32 = nI q := wi_s _ _ _ _
        have h382 : zi (zwi M1 136 32 (nI q)) 136 38 = nI 0 := (wi_n (by omega)).trans h381
        refine q_aload_n d134_55 rfl ?_
        refine q_aload_n d134_56 rfl ?_
        refine q_getv (c := 8) (f := 31) d134_57 ⟨rfl, by decide⟩ (xk_136 hX2) hp2 ?_
        refine q_v1 d134_60 rfl rfl (xk_136 hX2) (Nat.le_of_ble_eq_true rfl) (c135t hX2 ht2 (by omega) ?_)
        refine q_istore_n d134_63 (by decide) rfl ?_
        refine q_iload_n d134_64 rfl ?_
        refine q_iconst (x := (-1)) d134_65 rfl ?_
        refine ic_ne 77 d134_66 (by decide) (fun h66 => ?_) (fun h66 => (False.elim (nI_m1 (by omega) h66)))
        refine q_iload_n d134_77 rfl ?_
        refine q_bipush (x := nI 97) d134_78 rfl ?_
        refine q_bipush (x := nI 122) d134_80 rfl ?_
        refine q_s3 d134_82 (Or.inl rfl) rfl (Nat.le_of_ble_eq_true rfl) (c131n hc (by omega) (by omega) (by omega) ?_)
        refine n0_eq 196 d134_85 (by decide) (by decide) (fun _ => ?_) (fun q => absurd q (by decide))
        refine q_iload_n d134_196 rfl ?_
        refine q_bipush (x := nI 48) d134_197 rfl ?_
        refine q_bipush (x := nI 57) d134_199 rfl ?_
        refine q_s3 d134_201 (Or.inl rfl) rfl (Nat.le_of_ble_eq_true rfl) (c131t hd (by omega) ?_)
        refine n0_eq 309 d134_204 (by decide) (by decide) (fun q => absurd q (by decide)) (fun _ => ?_)
        refine q_aload_n d134_207 rfl ?_
        refine q_iconstN (z := 3) d134_208 ?_
        refine q_puti (c := 8) (f := 33) d134_209 ⟨rfl, rfl, by decide⟩ (xk_136 hX2) ?_
        refine q_aload_n d134_212 rfl ?_
        refine q_iconstN (z := 0) d134_213 ?_
        refine q_puti (c := 8) (f := 34) d134_214 ⟨rfl, rfl, by decide⟩ (xk_136 hX2) ?_
        refine l134c (q := q) (SX_fi hX ((f2.wi ⟨rfl, by omega⟩).wi ⟨rfl, by omega⟩)) (TXp_fi ht ((f2.wi ⟨rfl, by omega⟩).wi ⟨rfl, by omega⟩) FN_t) (by (repeat (first | rw [wi_n (Or.inl (by omega))] | rw [wi_n (Or.inr (by omega))] | rw [wi_s] | rw [wr_i] | rw [cp_n (by omega)] | rw [cp_0 (by omega)])); exact hb2) 120 q _ (by omega) (Nat.le_refl _) (by (repeat (first | rw [wi_n (Or.inl (by omega))] | rw [wi_n (Or.inr (by omega))] | rw [wi_s] | rw [wr_i] | rw [cp_n (by omega)] | rw [cp_0 (by omega)])); exact hp2) (by rw [Nat.sub_self]; exact wi_s _ _ _ _) (Fi.refl _ _) (fun M5 hp5 hv5 f5 => ?_) (by omega)
        have f4 : Fi FN M M5 := ((f2.wi ⟨rfl, by omega⟩).wi ⟨rfl, by omega⟩).trans (f5.mono (fun a k q => FVv_N q))
        have hX5 := SX_fi hX f4
        have ht5 := TXp_fi ht f4 FN_t
        have hb5 : zi M5 136 32 = nI q := (f5.1 _ _ (by unfold FVv; omega)).trans (by (repeat (first | rw [wi_n (Or.inl (by omega))] | rw [wi_n (Or.inr (by omega))] | rw [wi_s] | rw [wr_i] | rw [cp_n (by omega)] | rw [cp_0 (by omega)])); exact hb2)
        have h335 : zi M5 136 33 = nI 3 := (f5.1 _ _ (by unfold FVv; omega)).trans (by (repeat (first | rw [wi_n (Or.inl (by omega))] | rw [wi_n (Or.inr (by omega))] | rw [wi_s] | rw [wr_i] | rw [cp_n (by omega)] | rw [cp_0 (by omega)])))
        have h385 : zi M5 136 38 = nI 0 := (f5.1 _ _ (by unfold FVv; omega)).trans (by (repeat (first | rw [wi_n (Or.inl (by omega))] | rw [wi_n (Or.inr (by omega))] | rw [wi_s] | rw [wr_i] | rw [cp_n (by omega)] | rw [cp_0 (by omega)])); exact h382)
        have hle := lrn_ge (n := n) (b := b) (lo := 48) (hi := 57) 120 q
        have hle2 := hle.2 (by omega)
        have eL : ltk n b p = (if lrn n b 48 57 120 q - q ≤ 3 then 2 else 3, q, lrn n b 48 57 120 q) := by unfold ltk; simp only []; rw [hqe, if_neg (by omega), if_neg hc, if_pos hd]
        rw [eL] at k
        obtain ⟨e, hee⟩ : ∃ e, lrn n b 48 57 120 q = e := ⟨_, rfl⟩
        rw [hee] at hp5 hv5 hle hle2 k eL
        by_cases h3 : e - q ≤ 3
        · rw [if_pos h3] at k
          refine q_aload_n d134_284 rfl ?_
          refine q_aload_n d134_285 rfl ?_
          refine q_getv (c := 8) (f := 31) d134_286 ⟨rfl, by decide⟩ (xk_136 hX5) hp5 ?_
          refine q_aload_n d134_289 rfl ?_
          refine q_getv (c := 8) (f := 32) d134_290 ⟨rfl, by decide⟩ (xk_136 hX5) hb5 ?_
          refine n_isub d134_293 (by omega) ?_
          refine q_iconstN (z := 3) d134_294 ?_
          refine nc_le 302 d134_295 (by decide) (by omega) (by omega) (fun h295 => ?_) (fun h295 => (False.elim (by omega)))
          refine q_iconstN (z := 0) d134_302 ?_
          refine q_putz (c := 8) (f := 38) d134_303 ⟨rfl, rfl, by decide⟩ (xk_136 hX5) (Or.inl rfl) ?_
          refine q_goto 368 d134_306 (by decide) ?_
          refine q_ret d134_368 rfl ?_
          exact k _ (by (repeat (first | rw [wi_n (Or.inl (by omega))] | rw [wi_n (Or.inr (by omega))] | rw [wi_s] | rw [wr_i] | rw [cp_n (by omega)] | rw [cp_0 (by omega)])); exact hp5) (by (repeat (first | rw [wi_n (Or.inl (by omega))] | rw [wi_n (Or.inr (by omega))] | rw [wi_s] | rw [wr_i] | rw [cp_n (by omega)] | rw [cp_0 (by omega)])); exact hb5) (TK.s (t := 3) rfl (by (repeat (first | rw [wi_n (Or.inl (by omega))] | rw [wi_n (Or.inr (by omega))] | rw [wi_s] | rw [wr_i] | rw [cp_n (by omega)] | rw [cp_0 (by omega)])); exact h335) (fun _ => by rw [show min (e - q) 3 = e - q by omega] at hv5; (repeat (first | rw [wi_n (Or.inl (by omega))] | rw [wi_n (Or.inr (by omega))] | rw [wi_s] | rw [wr_i] | rw [cp_n (by omega)] | rw [cp_0 (by omega)])); exact hv5) (by (repeat (first | rw [wi_n (Or.inl (by omega))] | rw [wi_n (Or.inr (by omega))] | rw [wi_s] | rw [wr_i] | rw [cp_n (by omega)] | rw [cp_0 (by omega)])))) (f4.wi ⟨rfl, by omega⟩)
        · rw [if_neg h3] at k
          refine q_aload_n d134_284 rfl ?_
          refine q_aload_n d134_285 rfl ?_
          refine q_getv (c := 8) (f := 31) d134_286 ⟨rfl, by decide⟩ (xk_136 hX5) hp5 ?_
          refine q_aload_n d134_289 rfl ?_
          refine q_getv (c := 8) (f := 32) d134_290 ⟨rfl, by decide⟩ (xk_136 hX5) hb5 ?_
          refine n_isub d134_293 (by omega) ?_
          refine q_iconstN (z := 3) d134_294 ?_
          refine nc_le 302 d134_295 (by decide) (by omega) (by omega) (fun h295 => (False.elim (by omega))) (fun h295 => ?_)
          refine q_iconstN (z := 1) d134_298 ?_
          refine q_goto 303 d134_299 (by decide) ?_
          refine q_putz (c := 8) (f := 38) d134_303 ⟨rfl, rfl, by decide⟩ (xk_136 hX5) (Or.inr rfl) ?_
          refine q_goto 368 d134_306 (by decide) ?_
          refine q_ret d134_368 rfl ?_
          exact k _ (by (repeat (first | rw [wi_n (Or.inl (by omega))] | rw [wi_n (Or.inr (by omega))] | rw [wi_s] | rw [wr_i] | rw [cp_n (by omega)] | rw [cp_0 (by omega)])); exact hp5) (by (repeat (first | rw [wi_n (Or.inl (by omega))] | rw [wi_n (Or.inr (by omega))] | rw [wi_s] | rw [wr_i] | rw [cp_n (by omega)] | rw [cp_0 (by omega)])); exact hb5) (TK.n rfl (by (repeat (first | rw [wi_n (Or.inl (by omega))] | rw [wi_n (Or.inr (by omega))] | rw [wi_s] | rw [wr_i] | rw [cp_n (by omega)] | rw [cp_0 (by omega)])))) (f4.wi ⟨rfl, by omega⟩)
      · skip
        refine q_aload_n d134_47 rfl ?_
        refine q_aload_n d134_48 rfl ?_
        refine q_getv (c := 8) (f := 31) d134_49 ⟨rfl, by decide⟩ (xk_136 hX1) hp1 ?_
        refine q_puti (c := 8) (f := 32) d134_52 ⟨rfl, rfl, by decide⟩ (xk_136 hX1) ?_
        have f2 : Fi FN M (zwi M1 136 32 (nI q)) := (f1.mono (fun a k q => FQ_N q)).wi ⟨rfl, by omega⟩
        have hX2 := SX_fi hX f2
        have ht2 := TXp_fi ht f2 FN_t
        have hp2 : zi (zwi M1 136 32 (nI q)) 136 31 = nI q := (wi_n (by omega)).trans hp1
        have hb2 : zi (zwi M1 136 32 (nI q)) 136 32 = nI q := wi_s _ _ _ _
        have h382 : zi (zwi M1 136 32 (nI q)) 136 38 = nI 0 := (wi_n (by omega)).trans h381
        refine q_aload_n d134_55 rfl ?_
        refine q_aload_n d134_56 rfl ?_
        refine q_getv (c := 8) (f := 31) d134_57 ⟨rfl, by decide⟩ (xk_136 hX2) hp2 ?_
        refine q_v1 d134_60 rfl rfl (xk_136 hX2) (Nat.le_of_ble_eq_true rfl) (c135t hX2 ht2 (by omega) ?_)
        refine q_istore_n d134_63 (by decide) rfl ?_
        refine q_iload_n d134_64 rfl ?_
        refine q_iconst (x := (-1)) d134_65 rfl ?_
        refine ic_ne 77 d134_66 (by decide) (fun h66 => ?_) (fun h66 => (False.elim (nI_m1 (by omega) h66)))
        refine q_iload_n d134_77 rfl ?_
        refine q_bipush (x := nI 97) d134_78 rfl ?_
        refine q_bipush (x := nI 122) d134_80 rfl ?_
        refine q_s3 d134_82 (Or.inl rfl) rfl (Nat.le_of_ble_eq_true rfl) (c131n hc (by omega) (by omega) (by omega) ?_)
        refine n0_eq 196 d134_85 (by decide) (by decide) (fun _ => ?_) (fun q => absurd q (by decide))
        refine q_iload_n d134_196 rfl ?_
        refine q_bipush (x := nI 48) d134_197 rfl ?_
        refine q_bipush (x := nI 57) d134_199 rfl ?_
        refine q_s3 d134_201 (Or.inl rfl) rfl (Nat.le_of_ble_eq_true rfl) (c131n hd (by omega) (by omega) (by omega) ?_)
        refine n0_eq 309 d134_204 (by decide) (by decide) (fun _ => ?_) (fun q => absurd q (by decide))
        refine q_aload_n d134_309 rfl ?_
        refine q_iconstN (z := 4) d134_310 ?_
        refine q_puti (c := 8) (f := 33) d134_311 ⟨rfl, rfl, by decide⟩ (xk_136 hX2) ?_
        refine q_aload_n d134_314 rfl ?_
        refine q_iload_n d134_315 rfl ?_
        refine q_puti (c := 8) (f := 34) d134_316 ⟨rfl, rfl, by decide⟩ (xk_136 hX2) ?_
        refine q_aload_n d134_319 rfl ?_
        refine q_dup d134_320 rfl ?_
        refine q_getv (c := 8) (f := 31) d134_321 ⟨rfl, by decide⟩ (xk_136 hX2) (Eq.trans (by (repeat (first | rw [wi_n (Or.inl (by omega))] | rw [wi_n (Or.inr (by omega))] | rw [wi_s] | rw [wr_i] | rw [cp_n (by omega)]))) hp2) ?_
        refine q_iconstN (z := 1) d134_324 ?_
        refine n_iadd d134_325 ?_
        refine q_puti (c := 8) (f := 31) d134_326 ⟨rfl, rfl, by decide⟩ (xk_136 hX2) ?_
        refine q_aload_n d134_329 rfl ?_
        refine q_iload_n d134_330 rfl ?_
        refine q_bipush (x := nI 59) d134_331 rfl ?_
        refine nc_eq 364 d134_333 (by decide) (by omega) (by omega) (fun h333 => ?_) (fun h333 => ?_)
        · refine q_iconstN (z := 0) d134_364 ?_
          refine q_putz (c := 8) (f := 38) d134_365 ⟨rfl, rfl, by decide⟩ (xk_136 hX2) (by first | exact Or.inl rfl | exact Or.inr rfl) ?_
          refine q_ret d134_368 rfl ?_
          first
          | (have hs : b q = 59 ∨ b q = 123 ∨ b q = 124 ∨ b q = 125 ∨ b q = 33 := by omega
             rw [show ltk n b p = (b q, q, q + 1) by unfold ltk; simp only []; rw [hqe, if_neg (by omega), if_neg hc, if_neg hd, if_pos (ysg_t hs)]] at k
             exact k _ (by (repeat (first | rw [wi_n (Or.inl (by omega))] | rw [wi_n (Or.inr (by omega))] | rw [wi_s] | rw [wr_i] | rw [cp_n (by omega)] | rw [cp_0 (by omega)]))) (by (repeat (first | rw [wi_n (Or.inl (by omega))] | rw [wi_n (Or.inr (by omega))] | rw [wi_s] | rw [wr_i] | rw [cp_n (by omega)] | rw [cp_0 (by omega)]))) (TK.s (ytx_s hs) (by (repeat (first | rw [wi_n (Or.inl (by omega))] | rw [wi_n (Or.inr (by omega))] | rw [wi_s] | rw [wr_i] | rw [cp_n (by omega)] | rw [cp_0 (by omega)]))) (fun _ => by (repeat (first | rw [wi_n (Or.inl (by omega))] | rw [wi_n (Or.inr (by omega))] | rw [wi_s] | rw [wr_i] | rw [cp_n (by omega)] | rw [cp_0 (by omega)]))) (by (repeat (first | rw [wi_n (Or.inl (by omega))] | rw [wi_n (Or.inr (by omega))] | rw [wi_s] | rw [wr_i] | rw [cp_n (by omega)] | rw [cp_0 (by omega)])))) ((((f2.wi ⟨rfl, by omega⟩).wi ⟨rfl, by omega⟩).wi ⟨rfl, by omega⟩).wi ⟨rfl, by omega⟩))
          | (rw [show ltk n b p = (3, q, q + 1) by unfold ltk; simp only []; rw [hqe, if_neg (by omega), if_neg hc, if_neg hd, if_neg (ysg_f (by omega))]] at k
             exact k _ (by (repeat (first | rw [wi_n (Or.inl (by omega))] | rw [wi_n (Or.inr (by omega))] | rw [wi_s] | rw [wr_i] | rw [cp_n (by omega)] | rw [cp_0 (by omega)]))) (by (repeat (first | rw [wi_n (Or.inl (by omega))] | rw [wi_n (Or.inr (by omega))] | rw [wi_s] | rw [wr_i] | rw [cp_n (by omega)] | rw [cp_0 (by omega)]))) (TK.n rfl (by (repeat (first | rw [wi_n (Or.inl (by omega))] | rw [wi_n (Or.inr (by omega))] | rw [wi_s] | rw [wr_i] | rw [cp_n (by omega)] | rw [cp_0 (by omega)])))) ((((f2.wi ⟨rfl, by omega⟩).wi ⟨rfl, by omega⟩).wi ⟨rfl, by omega⟩).wi ⟨rfl, by omega⟩))
        · refine q_iload_n d134_336 rfl ?_
          refine q_bipush (x := nI 123) d134_337 rfl ?_
          refine nc_eq 364 d134_339 (by decide) (by omega) (by omega) (fun h339 => ?_) (fun h339 => ?_)
          · refine q_iconstN (z := 0) d134_364 ?_
            refine q_putz (c := 8) (f := 38) d134_365 ⟨rfl, rfl, by decide⟩ (xk_136 hX2) (by first | exact Or.inl rfl | exact Or.inr rfl) ?_
            refine q_ret d134_368 rfl ?_
            first
            | (have hs : b q = 59 ∨ b q = 123 ∨ b q = 124 ∨ b q = 125 ∨ b q = 33 := by omega
               rw [show ltk n b p = (b q, q, q + 1) by unfold ltk; simp only []; rw [hqe, if_neg (by omega), if_neg hc, if_neg hd, if_pos (ysg_t hs)]] at k
               exact k _ (by (repeat (first | rw [wi_n (Or.inl (by omega))] | rw [wi_n (Or.inr (by omega))] | rw [wi_s] | rw [wr_i] | rw [cp_n (by omega)] | rw [cp_0 (by omega)]))) (by (repeat (first | rw [wi_n (Or.inl (by omega))] | rw [wi_n (Or.inr (by omega))] | rw [wi_s] | rw [wr_i] | rw [cp_n (by omega)] | rw [cp_0 (by omega)]))) (TK.s (ytx_s hs) (by (repeat (first | rw [wi_n (Or.inl (by omega))] | rw [wi_n (Or.inr (by omega))] | rw [wi_s] | rw [wr_i] | rw [cp_n (by omega)] | rw [cp_0 (by omega)]))) (fun _ => by (repeat (first | rw [wi_n (Or.inl (by omega))] | rw [wi_n (Or.inr (by omega))] | rw [wi_s] | rw [wr_i] | rw [cp_n (by omega)] | rw [cp_0 (by omega)]))) (by (repeat (first | rw [wi_n (Or.inl (by omega))] | rw [wi_n (Or.inr (by omega))] | rw [wi_s] | rw [wr_i] | rw [cp_n (by omega)] | rw [cp_0 (by omega)])))) ((((f2.wi ⟨rfl, by omega⟩).wi ⟨rfl, by omega⟩).wi ⟨rfl, by omega⟩).wi ⟨rfl, by omega⟩))
            | (rw [show ltk n b p = (3, q, q + 1) by unfold ltk; simp only []; rw [hqe, if_neg (by omega), if_neg hc, if_neg hd, if_neg (ysg_f (by omega))]] at k
               exact k _ (by (repeat (first | rw [wi_n (Or.inl (by omega))] | rw [wi_n (Or.inr (by omega))] | rw [wi_s] | rw [wr_i] | rw [cp_n (by omega)] | rw [cp_0 (by omega)]))) (by (repeat (first | rw [wi_n (Or.inl (by omega))] | rw [wi_n (Or.inr (by omega))] | rw [wi_s] | rw [wr_i] | rw [cp_n (by omega)] | rw [cp_0 (by omega)]))) (TK.n rfl (by (repeat (first | rw [wi_n (Or.inl (by omega))] | rw [wi_n (Or.inr (by omega))] | rw [wi_s] | rw [wr_i] | rw [cp_n (by omega)] | rw [cp_0 (by omega)])))) ((((f2.wi ⟨rfl, by omega⟩).wi ⟨rfl, by omega⟩).wi ⟨rfl, by omega⟩).wi ⟨rfl, by omega⟩))
          · refine q_iload_n d134_342 rfl ?_
            refine q_bipush (x := nI 124) d134_343 rfl ?_
            refine nc_eq 364 d134_345 (by decide) (by omega) (by omega) (fun h345 => ?_) (fun h345 => ?_)
            · refine q_iconstN (z := 0) d134_364 ?_
              refine q_putz (c := 8) (f := 38) d134_365 ⟨rfl, rfl, by decide⟩ (xk_136 hX2) (by first | exact Or.inl rfl | exact Or.inr rfl) ?_
              refine q_ret d134_368 rfl ?_
              first
              | (have hs : b q = 59 ∨ b q = 123 ∨ b q = 124 ∨ b q = 125 ∨ b q = 33 := by omega
                 rw [show ltk n b p = (b q, q, q + 1) by unfold ltk; simp only []; rw [hqe, if_neg (by omega), if_neg hc, if_neg hd, if_pos (ysg_t hs)]] at k
                 exact k _ (by (repeat (first | rw [wi_n (Or.inl (by omega))] | rw [wi_n (Or.inr (by omega))] | rw [wi_s] | rw [wr_i] | rw [cp_n (by omega)] | rw [cp_0 (by omega)]))) (by (repeat (first | rw [wi_n (Or.inl (by omega))] | rw [wi_n (Or.inr (by omega))] | rw [wi_s] | rw [wr_i] | rw [cp_n (by omega)] | rw [cp_0 (by omega)]))) (TK.s (ytx_s hs) (by (repeat (first | rw [wi_n (Or.inl (by omega))] | rw [wi_n (Or.inr (by omega))] | rw [wi_s] | rw [wr_i] | rw [cp_n (by omega)] | rw [cp_0 (by omega)]))) (fun _ => by (repeat (first | rw [wi_n (Or.inl (by omega))] | rw [wi_n (Or.inr (by omega))] | rw [wi_s] | rw [wr_i] | rw [cp_n (by omega)] | rw [cp_0 (by omega)]))) (by (repeat (first | rw [wi_n (Or.inl (by omega))] | rw [wi_n (Or.inr (by omega))] | rw [wi_s] | rw [wr_i] | rw [cp_n (by omega)] | rw [cp_0 (by omega)])))) ((((f2.wi ⟨rfl, by omega⟩).wi ⟨rfl, by omega⟩).wi ⟨rfl, by omega⟩).wi ⟨rfl, by omega⟩))
              | (rw [show ltk n b p = (3, q, q + 1) by unfold ltk; simp only []; rw [hqe, if_neg (by omega), if_neg hc, if_neg hd, if_neg (ysg_f (by omega))]] at k
                 exact k _ (by (repeat (first | rw [wi_n (Or.inl (by omega))] | rw [wi_n (Or.inr (by omega))] | rw [wi_s] | rw [wr_i] | rw [cp_n (by omega)] | rw [cp_0 (by omega)]))) (by (repeat (first | rw [wi_n (Or.inl (by omega))] | rw [wi_n (Or.inr (by omega))] | rw [wi_s] | rw [wr_i] | rw [cp_n (by omega)] | rw [cp_0 (by omega)]))) (TK.n rfl (by (repeat (first | rw [wi_n (Or.inl (by omega))] | rw [wi_n (Or.inr (by omega))] | rw [wi_s] | rw [wr_i] | rw [cp_n (by omega)] | rw [cp_0 (by omega)])))) ((((f2.wi ⟨rfl, by omega⟩).wi ⟨rfl, by omega⟩).wi ⟨rfl, by omega⟩).wi ⟨rfl, by omega⟩))
            · refine q_iload_n d134_348 rfl ?_
              refine q_bipush (x := nI 125) d134_349 rfl ?_
              refine nc_eq 364 d134_351 (by decide) (by omega) (by omega) (fun h351 => ?_) (fun h351 => ?_)
              · refine q_iconstN (z := 0) d134_364 ?_
                refine q_putz (c := 8) (f := 38) d134_365 ⟨rfl, rfl, by decide⟩ (xk_136 hX2) (by first | exact Or.inl rfl | exact Or.inr rfl) ?_
                refine q_ret d134_368 rfl ?_
                first
                | (have hs : b q = 59 ∨ b q = 123 ∨ b q = 124 ∨ b q = 125 ∨ b q = 33 := by omega
                   rw [show ltk n b p = (b q, q, q + 1) by unfold ltk; simp only []; rw [hqe, if_neg (by omega), if_neg hc, if_neg hd, if_pos (ysg_t hs)]] at k
                   exact k _ (by (repeat (first | rw [wi_n (Or.inl (by omega))] | rw [wi_n (Or.inr (by omega))] | rw [wi_s] | rw [wr_i] | rw [cp_n (by omega)] | rw [cp_0 (by omega)]))) (by (repeat (first | rw [wi_n (Or.inl (by omega))] | rw [wi_n (Or.inr (by omega))] | rw [wi_s] | rw [wr_i] | rw [cp_n (by omega)] | rw [cp_0 (by omega)]))) (TK.s (ytx_s hs) (by (repeat (first | rw [wi_n (Or.inl (by omega))] | rw [wi_n (Or.inr (by omega))] | rw [wi_s] | rw [wr_i] | rw [cp_n (by omega)] | rw [cp_0 (by omega)]))) (fun _ => by (repeat (first | rw [wi_n (Or.inl (by omega))] | rw [wi_n (Or.inr (by omega))] | rw [wi_s] | rw [wr_i] | rw [cp_n (by omega)] | rw [cp_0 (by omega)]))) (by (repeat (first | rw [wi_n (Or.inl (by omega))] | rw [wi_n (Or.inr (by omega))] | rw [wi_s] | rw [wr_i] | rw [cp_n (by omega)] | rw [cp_0 (by omega)])))) ((((f2.wi ⟨rfl, by omega⟩).wi ⟨rfl, by omega⟩).wi ⟨rfl, by omega⟩).wi ⟨rfl, by omega⟩))
                | (rw [show ltk n b p = (3, q, q + 1) by unfold ltk; simp only []; rw [hqe, if_neg (by omega), if_neg hc, if_neg hd, if_neg (ysg_f (by omega))]] at k
                   exact k _ (by (repeat (first | rw [wi_n (Or.inl (by omega))] | rw [wi_n (Or.inr (by omega))] | rw [wi_s] | rw [wr_i] | rw [cp_n (by omega)] | rw [cp_0 (by omega)]))) (by (repeat (first | rw [wi_n (Or.inl (by omega))] | rw [wi_n (Or.inr (by omega))] | rw [wi_s] | rw [wr_i] | rw [cp_n (by omega)] | rw [cp_0 (by omega)]))) (TK.n rfl (by (repeat (first | rw [wi_n (Or.inl (by omega))] | rw [wi_n (Or.inr (by omega))] | rw [wi_s] | rw [wr_i] | rw [cp_n (by omega)] | rw [cp_0 (by omega)])))) ((((f2.wi ⟨rfl, by omega⟩).wi ⟨rfl, by omega⟩).wi ⟨rfl, by omega⟩).wi ⟨rfl, by omega⟩))
              · refine q_iload_n d134_354 rfl ?_
                refine q_bipush (x := nI 33) d134_355 rfl ?_
                refine nc_eq 364 d134_357 (by decide) (by omega) (by omega) (fun h357 => ?_) (fun h357 => ?_)
                · refine q_iconstN (z := 0) d134_364 ?_
                  refine q_putz (c := 8) (f := 38) d134_365 ⟨rfl, rfl, by decide⟩ (xk_136 hX2) (by first | exact Or.inl rfl | exact Or.inr rfl) ?_
                  refine q_ret d134_368 rfl ?_
                  first
                  | (have hs : b q = 59 ∨ b q = 123 ∨ b q = 124 ∨ b q = 125 ∨ b q = 33 := by omega
                     rw [show ltk n b p = (b q, q, q + 1) by unfold ltk; simp only []; rw [hqe, if_neg (by omega), if_neg hc, if_neg hd, if_pos (ysg_t hs)]] at k
                     exact k _ (by (repeat (first | rw [wi_n (Or.inl (by omega))] | rw [wi_n (Or.inr (by omega))] | rw [wi_s] | rw [wr_i] | rw [cp_n (by omega)] | rw [cp_0 (by omega)]))) (by (repeat (first | rw [wi_n (Or.inl (by omega))] | rw [wi_n (Or.inr (by omega))] | rw [wi_s] | rw [wr_i] | rw [cp_n (by omega)] | rw [cp_0 (by omega)]))) (TK.s (ytx_s hs) (by (repeat (first | rw [wi_n (Or.inl (by omega))] | rw [wi_n (Or.inr (by omega))] | rw [wi_s] | rw [wr_i] | rw [cp_n (by omega)] | rw [cp_0 (by omega)]))) (fun _ => by (repeat (first | rw [wi_n (Or.inl (by omega))] | rw [wi_n (Or.inr (by omega))] | rw [wi_s] | rw [wr_i] | rw [cp_n (by omega)] | rw [cp_0 (by omega)]))) (by (repeat (first | rw [wi_n (Or.inl (by omega))] | rw [wi_n (Or.inr (by omega))] | rw [wi_s] | rw [wr_i] | rw [cp_n (by omega)] | rw [cp_0 (by omega)])))) ((((f2.wi ⟨rfl, by omega⟩).wi ⟨rfl, by omega⟩).wi ⟨rfl, by omega⟩).wi ⟨rfl, by omega⟩))
                  | (rw [show ltk n b p = (3, q, q + 1) by unfold ltk; simp only []; rw [hqe, if_neg (by omega), if_neg hc, if_neg hd, if_neg (ysg_f (by omega))]] at k
                     exact k _ (by (repeat (first | rw [wi_n (Or.inl (by omega))] | rw [wi_n (Or.inr (by omega))] | rw [wi_s] | rw [wr_i] | rw [cp_n (by omega)] | rw [cp_0 (by omega)]))) (by (repeat (first | rw [wi_n (Or.inl (by omega))] | rw [wi_n (Or.inr (by omega))] | rw [wi_s] | rw [wr_i] | rw [cp_n (by omega)] | rw [cp_0 (by omega)]))) (TK.n rfl (by (repeat (first | rw [wi_n (Or.inl (by omega))] | rw [wi_n (Or.inr (by omega))] | rw [wi_s] | rw [wr_i] | rw [cp_n (by omega)] | rw [cp_0 (by omega)])))) ((((f2.wi ⟨rfl, by omega⟩).wi ⟨rfl, by omega⟩).wi ⟨rfl, by omega⟩).wi ⟨rfl, by omega⟩))
                · refine q_iconstN (z := 1) d134_360 ?_
                  refine q_goto 365 d134_361 (by decide) ?_
                  refine q_putz (c := 8) (f := 38) d134_365 ⟨rfl, rfl, by decide⟩ (xk_136 hX2) (by first | exact Or.inl rfl | exact Or.inr rfl) ?_
                  refine q_ret d134_368 rfl ?_
                  first
                  | (have hs : b q = 59 ∨ b q = 123 ∨ b q = 124 ∨ b q = 125 ∨ b q = 33 := by omega
                     rw [show ltk n b p = (b q, q, q + 1) by unfold ltk; simp only []; rw [hqe, if_neg (by omega), if_neg hc, if_neg hd, if_pos (ysg_t hs)]] at k
                     exact k _ (by (repeat (first | rw [wi_n (Or.inl (by omega))] | rw [wi_n (Or.inr (by omega))] | rw [wi_s] | rw [wr_i] | rw [cp_n (by omega)] | rw [cp_0 (by omega)]))) (by (repeat (first | rw [wi_n (Or.inl (by omega))] | rw [wi_n (Or.inr (by omega))] | rw [wi_s] | rw [wr_i] | rw [cp_n (by omega)] | rw [cp_0 (by omega)]))) (TK.s (ytx_s hs) (by (repeat (first | rw [wi_n (Or.inl (by omega))] | rw [wi_n (Or.inr (by omega))] | rw [wi_s] | rw [wr_i] | rw [cp_n (by omega)] | rw [cp_0 (by omega)]))) (fun _ => by (repeat (first | rw [wi_n (Or.inl (by omega))] | rw [wi_n (Or.inr (by omega))] | rw [wi_s] | rw [wr_i] | rw [cp_n (by omega)] | rw [cp_0 (by omega)]))) (by (repeat (first | rw [wi_n (Or.inl (by omega))] | rw [wi_n (Or.inr (by omega))] | rw [wi_s] | rw [wr_i] | rw [cp_n (by omega)] | rw [cp_0 (by omega)])))) ((((f2.wi ⟨rfl, by omega⟩).wi ⟨rfl, by omega⟩).wi ⟨rfl, by omega⟩).wi ⟨rfl, by omega⟩))
                  | (rw [show ltk n b p = (3, q, q + 1) by unfold ltk; simp only []; rw [hqe, if_neg (by omega), if_neg hc, if_neg hd, if_neg (ysg_f (by omega))]] at k
                     exact k _ (by (repeat (first | rw [wi_n (Or.inl (by omega))] | rw [wi_n (Or.inr (by omega))] | rw [wi_s] | rw [wr_i] | rw [cp_n (by omega)] | rw [cp_0 (by omega)]))) (by (repeat (first | rw [wi_n (Or.inl (by omega))] | rw [wi_n (Or.inr (by omega))] | rw [wi_s] | rw [wr_i] | rw [cp_n (by omega)] | rw [cp_0 (by omega)]))) (TK.n rfl (by (repeat (first | rw [wi_n (Or.inl (by omega))] | rw [wi_n (Or.inr (by omega))] | rw [wi_s] | rw [wr_i] | rw [cp_n (by omega)] | rw [cp_0 (by omega)])))) ((((f2.wi ⟨rfl, by omega⟩).wi ⟨rfl, by omega⟩).wi ⟨rfl, by omega⟩).wi ⟨rfl, by omega⟩))
theorem c134f {d : Nat} {M : zM} {Q : Option Value → zM → Prop} (hX : SX M) (h38 : zi M 136 38 = nI 1) (k : Q none M) : qC (d + 10) 134 [.ref 136] M Q := by
  refine qC_of (by decide) (Nat.le_of_ble_eq_true rfl) ?_
  refine q_aload_n d134_0 rfl ?_
  refine q_getv (c := 8) (f := 38) d134_1 ⟨rfl, by decide⟩ (xk_136 hX) h38 ?_
  refine n0_eq 8 d134_4 (by decide) (by decide) (fun q => absurd q (by decide)) (fun _ => ?_)
  refine q_ret d134_7 rfl ?_
  exact k
