/-! where the objects lie: 2 the MarbleWorks, 317 the model, 351 out; boards at 19, 42 + 10 i, 277 + 10 i -/
def k0 (a : Nat) : Nat × Nat := ([(8, 0), (9, 0), (1, 11), (1, 8), (3, 18), (4, 1000), (2, 1001), (2, 1001), (3, 1001), (1, 4), (2, 125), (2, 125), (2, 125), (2, 125), (2, 125), (2, 125), (3, 30), (2, 30), (2, 5), (1, 0), (2, 156), (2, 156), (2, 156), (2, 156), (3, 156), (2, 13), (2, 4), (2, 4), (2, 4), (1, 2), (2, 156), (2, 156), (2, 156), (2, 156), (2, 156), (2, 156), (2, 156), (2, 156), (5, 156), (2, 156), (1, 3), (6, 21), (1, 0), (2, 156), (2, 156), (2, 156), (2, 156), (3, 156), (2, 13), (2, 4), (2, 4), (2, 4), (1, 0), (2, 156), (2, 156), (2, 156), (2, 156), (3, 156), (2, 13), (2, 4), (2, 4), (2, 4), (1, 0), (2, 156), (2, 156), (2, 156), (2, 156), (3, 156), (2, 13), (2, 4), (2, 4), (2, 4), (1, 0), (2, 156), (2, 156), (2, 156), (2, 156), (3, 156), (2, 13), (2, 4), (2, 4), (2, 4), (1, 0), (2, 156), (2, 156), (2, 156), (2, 156), (3, 156), (2, 13), (2, 4), (2, 4), (2, 4), (1, 0), (2, 156), (2, 156), (2, 156), (2, 156), (3, 156), (2, 13), (2, 4), (2, 4), (2, 4), (1, 0), (2, 156), (2, 156), (2, 156), (2, 156), (3, 156), (2, 13), (2, 4), (2, 4), (2, 4), (1, 0), (2, 156), (2, 156), (2, 156), (2, 156), (3, 156), (2, 13), (2, 4), (2, 4), (2, 4), (1, 0), (2, 156), (2, 156), (2, 156), (2, 156), (3, 156), (2, 13), (2, 4), (2, 4), (2, 4), (1, 0), (2, 156), (2, 156), (2, 156), (2, 156), (3, 156), (2, 13), (2, 4), (2, 4), (2, 4), (1, 0), (2, 156), (2, 156), (2, 156), (2, 156), (3, 156), (2, 13), (2, 4), (2, 4), (2, 4), (1, 0), (2, 156), (2, 156), (2, 156), (2, 156), (3, 156), (2, 13), (2, 4), (2, 4), (2, 4), (1, 0), (2, 156), (2, 156), (2, 156), (2, 156), (3, 156), (2, 13), (2, 4), (2, 4), (2, 4), (1, 0), (2, 156), (2, 156), (2, 156), (2, 156), (3, 156), (2, 13), (2, 4), (2, 4), (2, 4), (1, 0), (2, 156), (2, 156), (2, 156), (2, 156), (3, 156), (2, 13), (2, 4), (2, 4), (2, 4), (1, 0), (2, 156), (2, 156), (2, 156), (2, 156), (3, 156), (2, 13), (2, 4), (2, 4), (2, 4), (1, 0), (2, 156), (2, 156), (2, 156), (2, 156), (3, 156), (2, 13), (2, 4), (2, 4), (2, 4), (1, 0), (2, 156), (2, 156), (2, 156), (2, 156), (3, 156), (2, 13), (2, 4), (2, 4), (2, 4), (1, 0), (2, 156), (2, 156), (2, 156), (2, 156), (3, 156), (2, 13), (2, 4), (2, 4), (2, 4), (1, 0), (2, 156), (2, 156), (2, 156), (2, 156), (3, 156), (2, 13), (2, 4), (2, 4), (2, 4), (1, 0), (2, 156), (2, 156), (2, 156), (2, 156), (3, 156), (2, 13), (2, 4), (2, 4), (2, 4), (6, 4), (5, 4), (1, 1), (2, 100), (1, 6), (3, 4000), (3, 4000), (2, 4000), (2, 4000), (2, 8192), (2, 4000), (1, 5), (1, 9), (2, 3001), (1, 10), (2, 12), (2, 12), (2, 3001), (1, 7), (2, 60), (2, 60), (2, 17), (3, 17), (3, 17), (2, 17), (1, 0), (2, 156), (2, 156), (2, 156), (2, 156), (3, 156), (2, 13), (2, 4), (2, 4), (2, 4), (1, 0), (2, 156), (2, 156), (2, 156), (2, 156), (3, 156), (2, 13), (2, 4), (2, 4), (2, 4), (1, 0), (2, 156), (2, 156), (2, 156), (2, 156), (3, 156), (2, 13), (2, 4), (2, 4), (2, 4), (1, 0), (2, 156), (2, 156), (2, 156), (2, 156), (3, 156), (2, 13), (2, 4), (2, 4), (2, 4), (1, 12), (2, 1000), (2, 1002), (2, 1002), (3, 1002), (3, 17), (2, 1100), (2, 5500), (2, 1100), (3, 30), (2, 30), (2, 4368), (2, 4368), (2, 4368), (2, 364), (2, 112), (2, 112), (2, 112), (2, 312), (2, 156), (2, 100), (3, 4000), (3, 4000), (2, 4000), (2, 4000), (2, 8192), (5, 4), (2, 3001), (2, 12), (2, 12), (2, 60), (2, 60), (2, 157), (2, 628), (3, 1)] : List (Nat × Nat)).getD a (0, 0)
/-- the addresses of the boards -/
def isB (b : Nat) : Prop := b ∈ ([19, 42, 52, 62, 72, 82, 92, 102, 112, 122, 132, 142, 152, 162, 172, 182, 192, 202, 212, 222, 232, 242, 277, 287, 297, 307] : List Nat)
def r0 (a k : Nat) : Option Nat := match a with
  | 2 => match k with
    | 0 => some 3
    | 1 => some 9
    | 2 => some 19
    | 3 => some 29
    | 4 => some 40
    | 5 => some 252
    | 6 => some 253
    | 7 => some 254
    | 8 => some 256
    | 9 => some 263
    | 10 => some 264
    | 11 => some 266
    | 12 => some 270
    | _ => none
  | 3 => match k with
    | 0 => some 4
    | 1 => some 5
    | 2 => some 6
    | 3 => some 7
    | 4 => some 8
    | _ => none
  | 9 => match k with
    | 0 => some 3
    | 1 => some 10
    | 2 => some 11
    | 3 => some 12
    | 4 => some 13
    | 5 => some 14
    | 6 => some 15
    | 7 => some 16
    | 8 => some 17
    | 9 => some 18
    | _ => none
  | 29 => match k with
    | 0 => some 9
    | 1 => some 19
    | 2 => some 30
    | 3 => some 31
    | 4 => some 32
    | 5 => some 33
    | 6 => some 34
    | 7 => some 35
    | 8 => some 36
    | 9 => some 37
    | 10 => some 38
    | 11 => some 39
    | _ => none
  | 40 => match k with
    | 0 => some 41
    | _ => none
  | 41 => match k with
    | 0 => some 42
    | 1 => some 52
    | 2 => some 62
    | 3 => some 72
    | 4 => some 82
    | 5 => some 92
    | 6 => some 102
    | 7 => some 112
    | 8 => some 122
    | 9 => some 132
    | 10 => some 142
    | 11 => some 152
    | 12 => some 162
    | 13 => some 172
    | 14 => some 182
    | 15 => some 192
    | 16 => some 202
    | 17 => some 212
    | 18 => some 222
    | 19 => some 232
    | 20 => some 242
    | _ => none
  | 252 => match k with
    | 0 => some 277
    | 1 => some 287
    | 2 => some 297
    | 3 => some 307
    | _ => none
  | 254 => match k with
    | 0 => some 255
    | _ => none
  | 256 => match k with
    | 0 => some 257
    | 1 => some 258
    | 2 => some 259
    | 3 => some 260
    | 4 => some 261
    | 5 => some 262
    | _ => none
  | 264 => match k with
    | 0 => some 265
    | _ => none
  | 266 => match k with
    | 0 => some 267
    | 1 => some 268
    | 2 => some 269
    | _ => none
  | 270 => match k with
    | 0 => some 271
    | 1 => some 272
    | 2 => some 273
    | 3 => some 274
    | 4 => some 275
    | 5 => some 276
    | _ => none
  | 317 => match k with
    | 1 => some 318
    | 4 => some 319
    | 5 => some 320
    | 6 => some 321
    | 9 => some 322
    | 11 => some 323
    | 12 => some 324
    | 13 => some 325
    | 15 => some 326
    | 16 => some 327
    | 17 => some 328
    | 18 => some 329
    | 19 => some 330
    | 20 => some 331
    | 21 => some 332
    | 22 => some 333
    | 23 => some 334
    | 29 => some 335
    | 30 => some 336
    | 33 => some 337
    | 34 => some 338
    | 35 => some 339
    | 36 => some 340
    | 37 => some 341
    | 39 => some 342
    | 42 => some 343
    | 43 => some 344
    | 46 => some 345
    | 47 => some 346
    | 49 => some 347
    | 50 => some 348
    | 52 => some 349
    | 53 => some 350
    | _ => none
  | _ => if a ∈ ([19, 42, 52, 62, 72, 82, 92, 102, 112, 122, 132, 142, 152, 162, 172, 182, 192, 202, 212, 222, 232, 242, 277, 287, 297, 307] : List Nat) ∧ k < 9 then some (a + 1 + k) else none
/-- the shape that the constructors leave -/
def sOk (S : pS) : Prop := (∀ a, 2 ≤ a → a < 352 → S.2.1 a = k0 a) ∧ (∀ a k, 2 ≤ a → a < 352 → S.2.2 a k = r0 a k) ∧ 352 ≤ S.1
section LAY
variable {M : pM}
theorem hK_2 (h : sOk M.1) : M.1.2.1 2 = (1, 11) := h.1 2 (by decide) (by decide)
theorem hR_2_0 (h : sOk M.1) : M.1.2.2 2 0 = some 3 := h.2.1 2 0 (by decide) (by decide)
theorem hR_2_1 (h : sOk M.1) : M.1.2.2 2 1 = some 9 := h.2.1 2 1 (by decide) (by decide)
theorem hR_2_2 (h : sOk M.1) : M.1.2.2 2 2 = some 19 := h.2.1 2 2 (by decide) (by decide)
theorem hR_2_3 (h : sOk M.1) : M.1.2.2 2 3 = some 29 := h.2.1 2 3 (by decide) (by decide)
theorem hR_2_4 (h : sOk M.1) : M.1.2.2 2 4 = some 40 := h.2.1 2 4 (by decide) (by decide)
theorem hR_2_5 (h : sOk M.1) : M.1.2.2 2 5 = some 252 := h.2.1 2 5 (by decide) (by decide)
theorem hR_2_6 (h : sOk M.1) : M.1.2.2 2 6 = some 253 := h.2.1 2 6 (by decide) (by decide)
theorem hR_2_7 (h : sOk M.1) : M.1.2.2 2 7 = some 254 := h.2.1 2 7 (by decide) (by decide)
theorem hR_2_8 (h : sOk M.1) : M.1.2.2 2 8 = some 256 := h.2.1 2 8 (by decide) (by decide)
theorem hR_2_9 (h : sOk M.1) : M.1.2.2 2 9 = some 263 := h.2.1 2 9 (by decide) (by decide)
theorem hR_2_10 (h : sOk M.1) : M.1.2.2 2 10 = some 264 := h.2.1 2 10 (by decide) (by decide)
theorem hR_2_11 (h : sOk M.1) : M.1.2.2 2 11 = some 266 := h.2.1 2 11 (by decide) (by decide)
theorem hR_2_12 (h : sOk M.1) : M.1.2.2 2 12 = some 270 := h.2.1 2 12 (by decide) (by decide)
theorem hK_3 (h : sOk M.1) : M.1.2.1 3 = (1, 8) := h.1 3 (by decide) (by decide)
theorem hR_3_0 (h : sOk M.1) : M.1.2.2 3 0 = some 4 := h.2.1 3 0 (by decide) (by decide)
theorem hR_3_1 (h : sOk M.1) : M.1.2.2 3 1 = some 5 := h.2.1 3 1 (by decide) (by decide)
theorem hR_3_2 (h : sOk M.1) : M.1.2.2 3 2 = some 6 := h.2.1 3 2 (by decide) (by decide)
theorem hR_3_3 (h : sOk M.1) : M.1.2.2 3 3 = some 7 := h.2.1 3 3 (by decide) (by decide)
theorem hR_3_4 (h : sOk M.1) : M.1.2.2 3 4 = some 8 := h.2.1 3 4 (by decide) (by decide)
theorem hK_4 (h : sOk M.1) : M.1.2.1 4 = (3, 18) := h.1 4 (by decide) (by decide)
theorem hK_5 (h : sOk M.1) : M.1.2.1 5 = (4, 1000) := h.1 5 (by decide) (by decide)
theorem hK_6 (h : sOk M.1) : M.1.2.1 6 = (2, 1001) := h.1 6 (by decide) (by decide)
theorem hK_7 (h : sOk M.1) : M.1.2.1 7 = (2, 1001) := h.1 7 (by decide) (by decide)
theorem hK_8 (h : sOk M.1) : M.1.2.1 8 = (3, 1001) := h.1 8 (by decide) (by decide)
theorem hK_9 (h : sOk M.1) : M.1.2.1 9 = (1, 4) := h.1 9 (by decide) (by decide)
theorem hR_9_0 (h : sOk M.1) : M.1.2.2 9 0 = some 3 := h.2.1 9 0 (by decide) (by decide)
theorem hR_9_1 (h : sOk M.1) : M.1.2.2 9 1 = some 10 := h.2.1 9 1 (by decide) (by decide)
theorem hR_9_2 (h : sOk M.1) : M.1.2.2 9 2 = some 11 := h.2.1 9 2 (by decide) (by decide)
theorem hR_9_3 (h : sOk M.1) : M.1.2.2 9 3 = some 12 := h.2.1 9 3 (by decide) (by decide)
theorem hR_9_4 (h : sOk M.1) : M.1.2.2 9 4 = some 13 := h.2.1 9 4 (by decide) (by decide)
theorem hR_9_5 (h : sOk M.1) : M.1.2.2 9 5 = some 14 := h.2.1 9 5 (by decide) (by decide)
theorem hR_9_6 (h : sOk M.1) : M.1.2.2 9 6 = some 15 := h.2.1 9 6 (by decide) (by decide)
theorem hR_9_7 (h : sOk M.1) : M.1.2.2 9 7 = some 16 := h.2.1 9 7 (by decide) (by decide)
theorem hR_9_8 (h : sOk M.1) : M.1.2.2 9 8 = some 17 := h.2.1 9 8 (by decide) (by decide)
theorem hR_9_9 (h : sOk M.1) : M.1.2.2 9 9 = some 18 := h.2.1 9 9 (by decide) (by decide)
theorem hK_10 (h : sOk M.1) : M.1.2.1 10 = (2, 125) := h.1 10 (by decide) (by decide)
theorem hK_11 (h : sOk M.1) : M.1.2.1 11 = (2, 125) := h.1 11 (by decide) (by decide)
theorem hK_12 (h : sOk M.1) : M.1.2.1 12 = (2, 125) := h.1 12 (by decide) (by decide)
theorem hK_13 (h : sOk M.1) : M.1.2.1 13 = (2, 125) := h.1 13 (by decide) (by decide)
theorem hK_14 (h : sOk M.1) : M.1.2.1 14 = (2, 125) := h.1 14 (by decide) (by decide)
theorem hK_15 (h : sOk M.1) : M.1.2.1 15 = (2, 125) := h.1 15 (by decide) (by decide)
theorem hK_16 (h : sOk M.1) : M.1.2.1 16 = (3, 30) := h.1 16 (by decide) (by decide)
theorem hK_17 (h : sOk M.1) : M.1.2.1 17 = (2, 30) := h.1 17 (by decide) (by decide)
theorem hK_18 (h : sOk M.1) : M.1.2.1 18 = (2, 5) := h.1 18 (by decide) (by decide)
theorem hK_19 (h : sOk M.1) : M.1.2.1 19 = (1, 0) := h.1 19 (by decide) (by decide)
theorem hR_19_0 (h : sOk M.1) : M.1.2.2 19 0 = some 20 := h.2.1 19 0 (by decide) (by decide)
theorem hR_19_1 (h : sOk M.1) : M.1.2.2 19 1 = some 21 := h.2.1 19 1 (by decide) (by decide)
theorem hR_19_2 (h : sOk M.1) : M.1.2.2 19 2 = some 22 := h.2.1 19 2 (by decide) (by decide)
theorem hR_19_3 (h : sOk M.1) : M.1.2.2 19 3 = some 23 := h.2.1 19 3 (by decide) (by decide)
theorem hR_19_4 (h : sOk M.1) : M.1.2.2 19 4 = some 24 := h.2.1 19 4 (by decide) (by decide)
theorem hR_19_5 (h : sOk M.1) : M.1.2.2 19 5 = some 25 := h.2.1 19 5 (by decide) (by decide)
theorem hR_19_6 (h : sOk M.1) : M.1.2.2 19 6 = some 26 := h.2.1 19 6 (by decide) (by decide)
theorem hR_19_7 (h : sOk M.1) : M.1.2.2 19 7 = some 27 := h.2.1 19 7 (by decide) (by decide)
theorem hR_19_8 (h : sOk M.1) : M.1.2.2 19 8 = some 28 := h.2.1 19 8 (by decide) (by decide)
theorem hK_20 (h : sOk M.1) : M.1.2.1 20 = (2, 156) := h.1 20 (by decide) (by decide)
theorem hK_21 (h : sOk M.1) : M.1.2.1 21 = (2, 156) := h.1 21 (by decide) (by decide)
theorem hK_22 (h : sOk M.1) : M.1.2.1 22 = (2, 156) := h.1 22 (by decide) (by decide)
theorem hK_23 (h : sOk M.1) : M.1.2.1 23 = (2, 156) := h.1 23 (by decide) (by decide)
theorem hK_24 (h : sOk M.1) : M.1.2.1 24 = (3, 156) := h.1 24 (by decide) (by decide)
theorem hK_25 (h : sOk M.1) : M.1.2.1 25 = (2, 13) := h.1 25 (by decide) (by decide)
theorem hK_26 (h : sOk M.1) : M.1.2.1 26 = (2, 4) := h.1 26 (by decide) (by decide)
theorem hK_27 (h : sOk M.1) : M.1.2.1 27 = (2, 4) := h.1 27 (by decide) (by decide)
theorem hK_28 (h : sOk M.1) : M.1.2.1 28 = (2, 4) := h.1 28 (by decide) (by decide)
theorem hK_29 (h : sOk M.1) : M.1.2.1 29 = (1, 2) := h.1 29 (by decide) (by decide)
theorem hR_29_0 (h : sOk M.1) : M.1.2.2 29 0 = some 9 := h.2.1 29 0 (by decide) (by decide)
theorem hR_29_1 (h : sOk M.1) : M.1.2.2 29 1 = some 19 := h.2.1 29 1 (by decide) (by decide)
theorem hR_29_2 (h : sOk M.1) : M.1.2.2 29 2 = some 30 := h.2.1 29 2 (by decide) (by decide)
theorem hR_29_3 (h : sOk M.1) : M.1.2.2 29 3 = some 31 := h.2.1 29 3 (by decide) (by decide)
theorem hR_29_4 (h : sOk M.1) : M.1.2.2 29 4 = some 32 := h.2.1 29 4 (by decide) (by decide)
theorem hR_29_5 (h : sOk M.1) : M.1.2.2 29 5 = some 33 := h.2.1 29 5 (by decide) (by decide)
theorem hR_29_6 (h : sOk M.1) : M.1.2.2 29 6 = some 34 := h.2.1 29 6 (by decide) (by decide)
theorem hR_29_7 (h : sOk M.1) : M.1.2.2 29 7 = some 35 := h.2.1 29 7 (by decide) (by decide)
theorem hR_29_8 (h : sOk M.1) : M.1.2.2 29 8 = some 36 := h.2.1 29 8 (by decide) (by decide)
theorem hR_29_9 (h : sOk M.1) : M.1.2.2 29 9 = some 37 := h.2.1 29 9 (by decide) (by decide)
theorem hR_29_10 (h : sOk M.1) : M.1.2.2 29 10 = some 38 := h.2.1 29 10 (by decide) (by decide)
theorem hR_29_11 (h : sOk M.1) : M.1.2.2 29 11 = some 39 := h.2.1 29 11 (by decide) (by decide)
theorem hK_30 (h : sOk M.1) : M.1.2.1 30 = (2, 156) := h.1 30 (by decide) (by decide)
theorem hK_31 (h : sOk M.1) : M.1.2.1 31 = (2, 156) := h.1 31 (by decide) (by decide)
theorem hK_32 (h : sOk M.1) : M.1.2.1 32 = (2, 156) := h.1 32 (by decide) (by decide)
theorem hK_33 (h : sOk M.1) : M.1.2.1 33 = (2, 156) := h.1 33 (by decide) (by decide)
theorem hK_34 (h : sOk M.1) : M.1.2.1 34 = (2, 156) := h.1 34 (by decide) (by decide)
theorem hK_35 (h : sOk M.1) : M.1.2.1 35 = (2, 156) := h.1 35 (by decide) (by decide)
theorem hK_36 (h : sOk M.1) : M.1.2.1 36 = (2, 156) := h.1 36 (by decide) (by decide)
theorem hK_37 (h : sOk M.1) : M.1.2.1 37 = (2, 156) := h.1 37 (by decide) (by decide)
theorem hK_38 (h : sOk M.1) : M.1.2.1 38 = (5, 156) := h.1 38 (by decide) (by decide)
theorem hK_39 (h : sOk M.1) : M.1.2.1 39 = (2, 156) := h.1 39 (by decide) (by decide)
theorem hK_40 (h : sOk M.1) : M.1.2.1 40 = (1, 3) := h.1 40 (by decide) (by decide)
theorem hR_40_0 (h : sOk M.1) : M.1.2.2 40 0 = some 41 := h.2.1 40 0 (by decide) (by decide)
theorem hK_41 (h : sOk M.1) : M.1.2.1 41 = (6, 21) := h.1 41 (by decide) (by decide)
theorem hR_41_0 (h : sOk M.1) : M.1.2.2 41 0 = some 42 := h.2.1 41 0 (by decide) (by decide)
theorem hR_41_1 (h : sOk M.1) : M.1.2.2 41 1 = some 52 := h.2.1 41 1 (by decide) (by decide)
theorem hR_41_2 (h : sOk M.1) : M.1.2.2 41 2 = some 62 := h.2.1 41 2 (by decide) (by decide)
theorem hR_41_3 (h : sOk M.1) : M.1.2.2 41 3 = some 72 := h.2.1 41 3 (by decide) (by decide)
theorem hR_41_4 (h : sOk M.1) : M.1.2.2 41 4 = some 82 := h.2.1 41 4 (by decide) (by decide)
theorem hR_41_5 (h : sOk M.1) : M.1.2.2 41 5 = some 92 := h.2.1 41 5 (by decide) (by decide)
theorem hR_41_6 (h : sOk M.1) : M.1.2.2 41 6 = some 102 := h.2.1 41 6 (by decide) (by decide)
theorem hR_41_7 (h : sOk M.1) : M.1.2.2 41 7 = some 112 := h.2.1 41 7 (by decide) (by decide)
theorem hR_41_8 (h : sOk M.1) : M.1.2.2 41 8 = some 122 := h.2.1 41 8 (by decide) (by decide)
theorem hR_41_9 (h : sOk M.1) : M.1.2.2 41 9 = some 132 := h.2.1 41 9 (by decide) (by decide)
theorem hR_41_10 (h : sOk M.1) : M.1.2.2 41 10 = some 142 := h.2.1 41 10 (by decide) (by decide)
theorem hR_41_11 (h : sOk M.1) : M.1.2.2 41 11 = some 152 := h.2.1 41 11 (by decide) (by decide)
theorem hR_41_12 (h : sOk M.1) : M.1.2.2 41 12 = some 162 := h.2.1 41 12 (by decide) (by decide)
theorem hR_41_13 (h : sOk M.1) : M.1.2.2 41 13 = some 172 := h.2.1 41 13 (by decide) (by decide)
theorem hR_41_14 (h : sOk M.1) : M.1.2.2 41 14 = some 182 := h.2.1 41 14 (by decide) (by decide)
theorem hR_41_15 (h : sOk M.1) : M.1.2.2 41 15 = some 192 := h.2.1 41 15 (by decide) (by decide)
theorem hR_41_16 (h : sOk M.1) : M.1.2.2 41 16 = some 202 := h.2.1 41 16 (by decide) (by decide)
theorem hR_41_17 (h : sOk M.1) : M.1.2.2 41 17 = some 212 := h.2.1 41 17 (by decide) (by decide)
theorem hR_41_18 (h : sOk M.1) : M.1.2.2 41 18 = some 222 := h.2.1 41 18 (by decide) (by decide)
theorem hR_41_19 (h : sOk M.1) : M.1.2.2 41 19 = some 232 := h.2.1 41 19 (by decide) (by decide)
theorem hR_41_20 (h : sOk M.1) : M.1.2.2 41 20 = some 242 := h.2.1 41 20 (by decide) (by decide)
theorem hK_252 (h : sOk M.1) : M.1.2.1 252 = (6, 4) := h.1 252 (by decide) (by decide)
theorem hR_252_0 (h : sOk M.1) : M.1.2.2 252 0 = some 277 := h.2.1 252 0 (by decide) (by decide)
theorem hR_252_1 (h : sOk M.1) : M.1.2.2 252 1 = some 287 := h.2.1 252 1 (by decide) (by decide)
theorem hR_252_2 (h : sOk M.1) : M.1.2.2 252 2 = some 297 := h.2.1 252 2 (by decide) (by decide)
theorem hR_252_3 (h : sOk M.1) : M.1.2.2 252 3 = some 307 := h.2.1 252 3 (by decide) (by decide)
theorem hK_253 (h : sOk M.1) : M.1.2.1 253 = (5, 4) := h.1 253 (by decide) (by decide)
theorem hK_254 (h : sOk M.1) : M.1.2.1 254 = (1, 1) := h.1 254 (by decide) (by decide)
theorem hR_254_0 (h : sOk M.1) : M.1.2.2 254 0 = some 255 := h.2.1 254 0 (by decide) (by decide)
theorem hK_255 (h : sOk M.1) : M.1.2.1 255 = (2, 100) := h.1 255 (by decide) (by decide)
theorem hK_256 (h : sOk M.1) : M.1.2.1 256 = (1, 6) := h.1 256 (by decide) (by decide)
theorem hR_256_0 (h : sOk M.1) : M.1.2.2 256 0 = some 257 := h.2.1 256 0 (by decide) (by decide)
theorem hR_256_1 (h : sOk M.1) : M.1.2.2 256 1 = some 258 := h.2.1 256 1 (by decide) (by decide)
theorem hR_256_2 (h : sOk M.1) : M.1.2.2 256 2 = some 259 := h.2.1 256 2 (by decide) (by decide)
theorem hR_256_3 (h : sOk M.1) : M.1.2.2 256 3 = some 260 := h.2.1 256 3 (by decide) (by decide)
theorem hR_256_4 (h : sOk M.1) : M.1.2.2 256 4 = some 261 := h.2.1 256 4 (by decide) (by decide)
theorem hR_256_5 (h : sOk M.1) : M.1.2.2 256 5 = some 262 := h.2.1 256 5 (by decide) (by decide)
theorem hK_257 (h : sOk M.1) : M.1.2.1 257 = (3, 4000) := h.1 257 (by decide) (by decide)
theorem hK_258 (h : sOk M.1) : M.1.2.1 258 = (3, 4000) := h.1 258 (by decide) (by decide)
theorem hK_259 (h : sOk M.1) : M.1.2.1 259 = (2, 4000) := h.1 259 (by decide) (by decide)
theorem hK_260 (h : sOk M.1) : M.1.2.1 260 = (2, 4000) := h.1 260 (by decide) (by decide)
theorem hK_261 (h : sOk M.1) : M.1.2.1 261 = (2, 8192) := h.1 261 (by decide) (by decide)
theorem hK_262 (h : sOk M.1) : M.1.2.1 262 = (2, 4000) := h.1 262 (by decide) (by decide)
theorem hK_263 (h : sOk M.1) : M.1.2.1 263 = (1, 5) := h.1 263 (by decide) (by decide)
theorem hK_264 (h : sOk M.1) : M.1.2.1 264 = (1, 9) := h.1 264 (by decide) (by decide)
theorem hR_264_0 (h : sOk M.1) : M.1.2.2 264 0 = some 265 := h.2.1 264 0 (by decide) (by decide)
theorem hK_265 (h : sOk M.1) : M.1.2.1 265 = (2, 3001) := h.1 265 (by decide) (by decide)
theorem hK_266 (h : sOk M.1) : M.1.2.1 266 = (1, 10) := h.1 266 (by decide) (by decide)
theorem hR_266_0 (h : sOk M.1) : M.1.2.2 266 0 = some 267 := h.2.1 266 0 (by decide) (by decide)
theorem hR_266_1 (h : sOk M.1) : M.1.2.2 266 1 = some 268 := h.2.1 266 1 (by decide) (by decide)
theorem hR_266_2 (h : sOk M.1) : M.1.2.2 266 2 = some 269 := h.2.1 266 2 (by decide) (by decide)
theorem hK_267 (h : sOk M.1) : M.1.2.1 267 = (2, 12) := h.1 267 (by decide) (by decide)
theorem hK_268 (h : sOk M.1) : M.1.2.1 268 = (2, 12) := h.1 268 (by decide) (by decide)
theorem hK_269 (h : sOk M.1) : M.1.2.1 269 = (2, 3001) := h.1 269 (by decide) (by decide)
theorem hK_270 (h : sOk M.1) : M.1.2.1 270 = (1, 7) := h.1 270 (by decide) (by decide)
theorem hR_270_0 (h : sOk M.1) : M.1.2.2 270 0 = some 271 := h.2.1 270 0 (by decide) (by decide)
theorem hR_270_1 (h : sOk M.1) : M.1.2.2 270 1 = some 272 := h.2.1 270 1 (by decide) (by decide)
theorem hR_270_2 (h : sOk M.1) : M.1.2.2 270 2 = some 273 := h.2.1 270 2 (by decide) (by decide)
theorem hR_270_3 (h : sOk M.1) : M.1.2.2 270 3 = some 274 := h.2.1 270 3 (by decide) (by decide)
theorem hR_270_4 (h : sOk M.1) : M.1.2.2 270 4 = some 275 := h.2.1 270 4 (by decide) (by decide)
theorem hR_270_5 (h : sOk M.1) : M.1.2.2 270 5 = some 276 := h.2.1 270 5 (by decide) (by decide)
theorem hK_271 (h : sOk M.1) : M.1.2.1 271 = (2, 60) := h.1 271 (by decide) (by decide)
theorem hK_272 (h : sOk M.1) : M.1.2.1 272 = (2, 60) := h.1 272 (by decide) (by decide)
theorem hK_273 (h : sOk M.1) : M.1.2.1 273 = (2, 17) := h.1 273 (by decide) (by decide)
theorem hK_274 (h : sOk M.1) : M.1.2.1 274 = (3, 17) := h.1 274 (by decide) (by decide)
theorem hK_275 (h : sOk M.1) : M.1.2.1 275 = (3, 17) := h.1 275 (by decide) (by decide)
theorem hK_276 (h : sOk M.1) : M.1.2.1 276 = (2, 17) := h.1 276 (by decide) (by decide)
theorem hK_317 (h : sOk M.1) : M.1.2.1 317 = (1, 12) := h.1 317 (by decide) (by decide)
theorem hR_317_1 (h : sOk M.1) : M.1.2.2 317 1 = some 318 := h.2.1 317 1 (by decide) (by decide)
theorem hR_317_4 (h : sOk M.1) : M.1.2.2 317 4 = some 319 := h.2.1 317 4 (by decide) (by decide)
theorem hR_317_5 (h : sOk M.1) : M.1.2.2 317 5 = some 320 := h.2.1 317 5 (by decide) (by decide)
theorem hR_317_6 (h : sOk M.1) : M.1.2.2 317 6 = some 321 := h.2.1 317 6 (by decide) (by decide)
theorem hR_317_9 (h : sOk M.1) : M.1.2.2 317 9 = some 322 := h.2.1 317 9 (by decide) (by decide)
theorem hR_317_11 (h : sOk M.1) : M.1.2.2 317 11 = some 323 := h.2.1 317 11 (by decide) (by decide)
theorem hR_317_12 (h : sOk M.1) : M.1.2.2 317 12 = some 324 := h.2.1 317 12 (by decide) (by decide)
theorem hR_317_13 (h : sOk M.1) : M.1.2.2 317 13 = some 325 := h.2.1 317 13 (by decide) (by decide)
theorem hR_317_15 (h : sOk M.1) : M.1.2.2 317 15 = some 326 := h.2.1 317 15 (by decide) (by decide)
theorem hR_317_16 (h : sOk M.1) : M.1.2.2 317 16 = some 327 := h.2.1 317 16 (by decide) (by decide)
theorem hR_317_17 (h : sOk M.1) : M.1.2.2 317 17 = some 328 := h.2.1 317 17 (by decide) (by decide)
theorem hR_317_18 (h : sOk M.1) : M.1.2.2 317 18 = some 329 := h.2.1 317 18 (by decide) (by decide)
theorem hR_317_19 (h : sOk M.1) : M.1.2.2 317 19 = some 330 := h.2.1 317 19 (by decide) (by decide)
theorem hR_317_20 (h : sOk M.1) : M.1.2.2 317 20 = some 331 := h.2.1 317 20 (by decide) (by decide)
theorem hR_317_21 (h : sOk M.1) : M.1.2.2 317 21 = some 332 := h.2.1 317 21 (by decide) (by decide)
theorem hR_317_22 (h : sOk M.1) : M.1.2.2 317 22 = some 333 := h.2.1 317 22 (by decide) (by decide)
theorem hR_317_23 (h : sOk M.1) : M.1.2.2 317 23 = some 334 := h.2.1 317 23 (by decide) (by decide)
theorem hR_317_29 (h : sOk M.1) : M.1.2.2 317 29 = some 335 := h.2.1 317 29 (by decide) (by decide)
theorem hR_317_30 (h : sOk M.1) : M.1.2.2 317 30 = some 336 := h.2.1 317 30 (by decide) (by decide)
theorem hR_317_33 (h : sOk M.1) : M.1.2.2 317 33 = some 337 := h.2.1 317 33 (by decide) (by decide)
theorem hR_317_34 (h : sOk M.1) : M.1.2.2 317 34 = some 338 := h.2.1 317 34 (by decide) (by decide)
theorem hR_317_35 (h : sOk M.1) : M.1.2.2 317 35 = some 339 := h.2.1 317 35 (by decide) (by decide)
theorem hR_317_36 (h : sOk M.1) : M.1.2.2 317 36 = some 340 := h.2.1 317 36 (by decide) (by decide)
theorem hR_317_37 (h : sOk M.1) : M.1.2.2 317 37 = some 341 := h.2.1 317 37 (by decide) (by decide)
theorem hR_317_39 (h : sOk M.1) : M.1.2.2 317 39 = some 342 := h.2.1 317 39 (by decide) (by decide)
theorem hR_317_42 (h : sOk M.1) : M.1.2.2 317 42 = some 343 := h.2.1 317 42 (by decide) (by decide)
theorem hR_317_43 (h : sOk M.1) : M.1.2.2 317 43 = some 344 := h.2.1 317 43 (by decide) (by decide)
theorem hR_317_46 (h : sOk M.1) : M.1.2.2 317 46 = some 345 := h.2.1 317 46 (by decide) (by decide)
theorem hR_317_47 (h : sOk M.1) : M.1.2.2 317 47 = some 346 := h.2.1 317 47 (by decide) (by decide)
theorem hR_317_49 (h : sOk M.1) : M.1.2.2 317 49 = some 347 := h.2.1 317 49 (by decide) (by decide)
theorem hR_317_50 (h : sOk M.1) : M.1.2.2 317 50 = some 348 := h.2.1 317 50 (by decide) (by decide)
theorem hR_317_52 (h : sOk M.1) : M.1.2.2 317 52 = some 349 := h.2.1 317 52 (by decide) (by decide)
theorem hR_317_53 (h : sOk M.1) : M.1.2.2 317 53 = some 350 := h.2.1 317 53 (by decide) (by decide)
theorem hK_318 (h : sOk M.1) : M.1.2.1 318 = (2, 1000) := h.1 318 (by decide) (by decide)
theorem hK_319 (h : sOk M.1) : M.1.2.1 319 = (2, 1002) := h.1 319 (by decide) (by decide)
theorem hK_320 (h : sOk M.1) : M.1.2.1 320 = (2, 1002) := h.1 320 (by decide) (by decide)
theorem hK_321 (h : sOk M.1) : M.1.2.1 321 = (3, 1002) := h.1 321 (by decide) (by decide)
theorem hK_322 (h : sOk M.1) : M.1.2.1 322 = (3, 17) := h.1 322 (by decide) (by decide)
theorem hK_323 (h : sOk M.1) : M.1.2.1 323 = (2, 1100) := h.1 323 (by decide) (by decide)
theorem hK_324 (h : sOk M.1) : M.1.2.1 324 = (2, 5500) := h.1 324 (by decide) (by decide)
theorem hK_325 (h : sOk M.1) : M.1.2.1 325 = (2, 1100) := h.1 325 (by decide) (by decide)
theorem hK_326 (h : sOk M.1) : M.1.2.1 326 = (3, 30) := h.1 326 (by decide) (by decide)
theorem hK_327 (h : sOk M.1) : M.1.2.1 327 = (2, 30) := h.1 327 (by decide) (by decide)
theorem hK_328 (h : sOk M.1) : M.1.2.1 328 = (2, 4368) := h.1 328 (by decide) (by decide)
theorem hK_329 (h : sOk M.1) : M.1.2.1 329 = (2, 4368) := h.1 329 (by decide) (by decide)
theorem hK_330 (h : sOk M.1) : M.1.2.1 330 = (2, 4368) := h.1 330 (by decide) (by decide)
theorem hK_331 (h : sOk M.1) : M.1.2.1 331 = (2, 364) := h.1 331 (by decide) (by decide)
theorem hK_332 (h : sOk M.1) : M.1.2.1 332 = (2, 112) := h.1 332 (by decide) (by decide)
theorem hK_333 (h : sOk M.1) : M.1.2.1 333 = (2, 112) := h.1 333 (by decide) (by decide)
theorem hK_334 (h : sOk M.1) : M.1.2.1 334 = (2, 112) := h.1 334 (by decide) (by decide)
theorem hK_335 (h : sOk M.1) : M.1.2.1 335 = (2, 312) := h.1 335 (by decide) (by decide)
theorem hK_336 (h : sOk M.1) : M.1.2.1 336 = (2, 156) := h.1 336 (by decide) (by decide)
theorem hK_337 (h : sOk M.1) : M.1.2.1 337 = (2, 100) := h.1 337 (by decide) (by decide)
theorem hK_338 (h : sOk M.1) : M.1.2.1 338 = (3, 4000) := h.1 338 (by decide) (by decide)
theorem hK_339 (h : sOk M.1) : M.1.2.1 339 = (3, 4000) := h.1 339 (by decide) (by decide)
theorem hK_340 (h : sOk M.1) : M.1.2.1 340 = (2, 4000) := h.1 340 (by decide) (by decide)
theorem hK_341 (h : sOk M.1) : M.1.2.1 341 = (2, 4000) := h.1 341 (by decide) (by decide)
theorem hK_342 (h : sOk M.1) : M.1.2.1 342 = (2, 8192) := h.1 342 (by decide) (by decide)
theorem hK_343 (h : sOk M.1) : M.1.2.1 343 = (5, 4) := h.1 343 (by decide) (by decide)
theorem hK_344 (h : sOk M.1) : M.1.2.1 344 = (2, 3001) := h.1 344 (by decide) (by decide)
theorem hK_345 (h : sOk M.1) : M.1.2.1 345 = (2, 12) := h.1 345 (by decide) (by decide)
theorem hK_346 (h : sOk M.1) : M.1.2.1 346 = (2, 12) := h.1 346 (by decide) (by decide)
theorem hK_347 (h : sOk M.1) : M.1.2.1 347 = (2, 60) := h.1 347 (by decide) (by decide)
theorem hK_348 (h : sOk M.1) : M.1.2.1 348 = (2, 60) := h.1 348 (by decide) (by decide)
theorem hK_349 (h : sOk M.1) : M.1.2.1 349 = (2, 157) := h.1 349 (by decide) (by decide)
theorem hK_350 (h : sOk M.1) : M.1.2.1 350 = (2, 628) := h.1 350 (by decide) (by decide)
theorem hK_351 (h : sOk M.1) : M.1.2.1 351 = (3, 1) := h.1 351 (by decide) (by decide)
theorem isB_ge {b : Nat} (h : isB b) : 2 ≤ b := by revert h; unfold isB; simp only [List.mem_cons, List.not_mem_nil, or_false]; omega
theorem isB_lt {b : Nat} (h : isB b) : b + 9 < 352 := by revert h; unfold isB; simp only [List.mem_cons, List.not_mem_nil, or_false]; omega
theorem hKb (h : sOk M.1) {b : Nat} (hb : isB b) : M.1.2.1 b = (1, 0) := (h.1 b (isB_ge hb) (by have := isB_lt hb; omega)).trans ((by decide +kernel : ∀ b ∈ ([19, 42, 52, 62, 72, 82, 92, 102, 112, 122, 132, 142, 152, 162, 172, 182, 192, 202, 212, 222, 232, 242, 277, 287, 297, 307] : List Nat), k0 b = (1, 0)) b hb)
theorem hKb1 (h : sOk M.1) {b : Nat} (hb : isB b) : M.1.2.1 (b + 1) = (2, 156) := (h.1 (b + 1) (by have := isB_ge hb; omega) (by have := isB_lt hb; omega)).trans ((by decide +kernel : ∀ b ∈ ([19, 42, 52, 62, 72, 82, 92, 102, 112, 122, 132, 142, 152, 162, 172, 182, 192, 202, 212, 222, 232, 242, 277, 287, 297, 307] : List Nat), k0 (b + 1) = (2, 156)) b hb)
theorem hRb0 (h : sOk M.1) {b : Nat} (hb : isB b) : M.1.2.2 b 0 = some (b + 1) := (h.2.1 b 0 (isB_ge hb) (by have := isB_lt hb; omega)).trans ((by decide +kernel : ∀ b ∈ ([19, 42, 52, 62, 72, 82, 92, 102, 112, 122, 132, 142, 152, 162, 172, 182, 192, 202, 212, 222, 232, 242, 277, 287, 297, 307] : List Nat), r0 b 0 = some (b + 1)) b hb)
theorem hKb2 (h : sOk M.1) {b : Nat} (hb : isB b) : M.1.2.1 (b + 2) = (2, 156) := (h.1 (b + 2) (by have := isB_ge hb; omega) (by have := isB_lt hb; omega)).trans ((by decide +kernel : ∀ b ∈ ([19, 42, 52, 62, 72, 82, 92, 102, 112, 122, 132, 142, 152, 162, 172, 182, 192, 202, 212, 222, 232, 242, 277, 287, 297, 307] : List Nat), k0 (b + 2) = (2, 156)) b hb)
theorem hRb1 (h : sOk M.1) {b : Nat} (hb : isB b) : M.1.2.2 b 1 = some (b + 2) := (h.2.1 b 1 (isB_ge hb) (by have := isB_lt hb; omega)).trans ((by decide +kernel : ∀ b ∈ ([19, 42, 52, 62, 72, 82, 92, 102, 112, 122, 132, 142, 152, 162, 172, 182, 192, 202, 212, 222, 232, 242, 277, 287, 297, 307] : List Nat), r0 b 1 = some (b + 2)) b hb)
theorem hKb3 (h : sOk M.1) {b : Nat} (hb : isB b) : M.1.2.1 (b + 3) = (2, 156) := (h.1 (b + 3) (by have := isB_ge hb; omega) (by have := isB_lt hb; omega)).trans ((by decide +kernel : ∀ b ∈ ([19, 42, 52, 62, 72, 82, 92, 102, 112, 122, 132, 142, 152, 162, 172, 182, 192, 202, 212, 222, 232, 242, 277, 287, 297, 307] : List Nat), k0 (b + 3) = (2, 156)) b hb)
theorem hRb2 (h : sOk M.1) {b : Nat} (hb : isB b) : M.1.2.2 b 2 = some (b + 3) := (h.2.1 b 2 (isB_ge hb) (by have := isB_lt hb; omega)).trans ((by decide +kernel : ∀ b ∈ ([19, 42, 52, 62, 72, 82, 92, 102, 112, 122, 132, 142, 152, 162, 172, 182, 192, 202, 212, 222, 232, 242, 277, 287, 297, 307] : List Nat), r0 b 2 = some (b + 3)) b hb)
theorem hKb4 (h : sOk M.1) {b : Nat} (hb : isB b) : M.1.2.1 (b + 4) = (2, 156) := (h.1 (b + 4) (by have := isB_ge hb; omega) (by have := isB_lt hb; omega)).trans ((by decide +kernel : ∀ b ∈ ([19, 42, 52, 62, 72, 82, 92, 102, 112, 122, 132, 142, 152, 162, 172, 182, 192, 202, 212, 222, 232, 242, 277, 287, 297, 307] : List Nat), k0 (b + 4) = (2, 156)) b hb)
theorem hRb3 (h : sOk M.1) {b : Nat} (hb : isB b) : M.1.2.2 b 3 = some (b + 4) := (h.2.1 b 3 (isB_ge hb) (by have := isB_lt hb; omega)).trans ((by decide +kernel : ∀ b ∈ ([19, 42, 52, 62, 72, 82, 92, 102, 112, 122, 132, 142, 152, 162, 172, 182, 192, 202, 212, 222, 232, 242, 277, 287, 297, 307] : List Nat), r0 b 3 = some (b + 4)) b hb)
theorem hKb5 (h : sOk M.1) {b : Nat} (hb : isB b) : M.1.2.1 (b + 5) = (3, 156) := (h.1 (b + 5) (by have := isB_ge hb; omega) (by have := isB_lt hb; omega)).trans ((by decide +kernel : ∀ b ∈ ([19, 42, 52, 62, 72, 82, 92, 102, 112, 122, 132, 142, 152, 162, 172, 182, 192, 202, 212, 222, 232, 242, 277, 287, 297, 307] : List Nat), k0 (b + 5) = (3, 156)) b hb)
theorem hRb4 (h : sOk M.1) {b : Nat} (hb : isB b) : M.1.2.2 b 4 = some (b + 5) := (h.2.1 b 4 (isB_ge hb) (by have := isB_lt hb; omega)).trans ((by decide +kernel : ∀ b ∈ ([19, 42, 52, 62, 72, 82, 92, 102, 112, 122, 132, 142, 152, 162, 172, 182, 192, 202, 212, 222, 232, 242, 277, 287, 297, 307] : List Nat), r0 b 4 = some (b + 5)) b hb)
theorem hKb6 (h : sOk M.1) {b : Nat} (hb : isB b) : M.1.2.1 (b + 6) = (2, 13) := (h.1 (b + 6) (by have := isB_ge hb; omega) (by have := isB_lt hb; omega)).trans ((by decide +kernel : ∀ b ∈ ([19, 42, 52, 62, 72, 82, 92, 102, 112, 122, 132, 142, 152, 162, 172, 182, 192, 202, 212, 222, 232, 242, 277, 287, 297, 307] : List Nat), k0 (b + 6) = (2, 13)) b hb)
theorem hRb5 (h : sOk M.1) {b : Nat} (hb : isB b) : M.1.2.2 b 5 = some (b + 6) := (h.2.1 b 5 (isB_ge hb) (by have := isB_lt hb; omega)).trans ((by decide +kernel : ∀ b ∈ ([19, 42, 52, 62, 72, 82, 92, 102, 112, 122, 132, 142, 152, 162, 172, 182, 192, 202, 212, 222, 232, 242, 277, 287, 297, 307] : List Nat), r0 b 5 = some (b + 6)) b hb)
theorem hKb7 (h : sOk M.1) {b : Nat} (hb : isB b) : M.1.2.1 (b + 7) = (2, 4) := (h.1 (b + 7) (by have := isB_ge hb; omega) (by have := isB_lt hb; omega)).trans ((by decide +kernel : ∀ b ∈ ([19, 42, 52, 62, 72, 82, 92, 102, 112, 122, 132, 142, 152, 162, 172, 182, 192, 202, 212, 222, 232, 242, 277, 287, 297, 307] : List Nat), k0 (b + 7) = (2, 4)) b hb)
theorem hRb6 (h : sOk M.1) {b : Nat} (hb : isB b) : M.1.2.2 b 6 = some (b + 7) := (h.2.1 b 6 (isB_ge hb) (by have := isB_lt hb; omega)).trans ((by decide +kernel : ∀ b ∈ ([19, 42, 52, 62, 72, 82, 92, 102, 112, 122, 132, 142, 152, 162, 172, 182, 192, 202, 212, 222, 232, 242, 277, 287, 297, 307] : List Nat), r0 b 6 = some (b + 7)) b hb)
theorem hKb8 (h : sOk M.1) {b : Nat} (hb : isB b) : M.1.2.1 (b + 8) = (2, 4) := (h.1 (b + 8) (by have := isB_ge hb; omega) (by have := isB_lt hb; omega)).trans ((by decide +kernel : ∀ b ∈ ([19, 42, 52, 62, 72, 82, 92, 102, 112, 122, 132, 142, 152, 162, 172, 182, 192, 202, 212, 222, 232, 242, 277, 287, 297, 307] : List Nat), k0 (b + 8) = (2, 4)) b hb)
theorem hRb7 (h : sOk M.1) {b : Nat} (hb : isB b) : M.1.2.2 b 7 = some (b + 8) := (h.2.1 b 7 (isB_ge hb) (by have := isB_lt hb; omega)).trans ((by decide +kernel : ∀ b ∈ ([19, 42, 52, 62, 72, 82, 92, 102, 112, 122, 132, 142, 152, 162, 172, 182, 192, 202, 212, 222, 232, 242, 277, 287, 297, 307] : List Nat), r0 b 7 = some (b + 8)) b hb)
theorem hKb9 (h : sOk M.1) {b : Nat} (hb : isB b) : M.1.2.1 (b + 9) = (2, 4) := (h.1 (b + 9) (by have := isB_ge hb; omega) (by have := isB_lt hb; omega)).trans ((by decide +kernel : ∀ b ∈ ([19, 42, 52, 62, 72, 82, 92, 102, 112, 122, 132, 142, 152, 162, 172, 182, 192, 202, 212, 222, 232, 242, 277, 287, 297, 307] : List Nat), k0 (b + 9) = (2, 4)) b hb)
theorem hRb8 (h : sOk M.1) {b : Nat} (hb : isB b) : M.1.2.2 b 8 = some (b + 9) := (h.2.1 b 8 (isB_ge hb) (by have := isB_lt hb; omega)).trans ((by decide +kernel : ∀ b ∈ ([19, 42, 52, 62, 72, 82, 92, 102, 112, 122, 132, 142, 152, 162, 172, 182, 192, 202, 212, 222, 232, 242, 277, 287, 297, 307] : List Nat), r0 b 8 = some (b + 9)) b hb)
theorem hR_41 (h : sOk M.1) {i : Nat} (hi : i < 21) : M.1.2.2 41 i = some (42 + 10 * i) := (h.2.1 41 i (by decide) (by decide)).trans ((by decide +kernel : ∀ i, i < 21 → r0 41 i = some (42 + 10 * i)) i hi)
theorem hR_252 (h : sOk M.1) {i : Nat} (hi : i < 4) : M.1.2.2 252 i = some (277 + 10 * i) := (h.2.1 252 i (by decide) (by decide)).trans ((by decide +kernel : ∀ i, i < 4 → r0 252 i = some (277 + 10 * i)) i hi)
theorem isB_19 : isB 19 := by unfold isB; decide
theorem isB_past {i : Nat} (hi : i < 21) : isB (42 + 10 * i) := (by unfold isB; decide +kernel : ∀ i, i < 21 → isB (42 + 10 * i)) i hi
theorem isB_shelf {i : Nat} (hi : i < 4) : isB (277 + 10 * i) := (by unfold isB; decide +kernel : ∀ i, i < 4 → isB (277 + 10 * i)) i hi
end LAY
