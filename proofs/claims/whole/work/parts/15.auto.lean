/-! ===== references as they stand behind the constructors; w is THE CASE's cell (4 or 17) ===== -/
def ppT : List (List (Option Nat)) := [[some 1, none, none, some 30, some 37, some 249, some 266, some 270, some 273, some 278], [some 2, some 3], [], [], [none, none, none, none, none, some 5, some 6, some 7, some 8, some 9, some 10], [], [], [], [], [], [some 11, some 12, some 13, some 14, some 15, some 16], [], [], [], [], [], [], [none, none, none, none, none, some 18, some 19, some 20, some 21, some 22, some 23], [], [], [], [], [], [some 24, some 25, some 26, some 27, some 28, some 29], [], [], [], [], [], [], [none, some 31, some 32, some 33, some 34, some 35, some 36], [], [], [], [], [], [], [some 38], [some 39, some 46, some 53, some 60, some 67, some 74, some 81, some 88, some 95, some 102, some 109, some 116, some 123, some 130, some 137, some 144, some 151, some 158, some 165, some 172, some 179, some 186, some 193, some 200, some 207, some 214, some 221, some 228, some 235, some 242], [none, some 40, some 41, some 42, some 43, some 44, some 45], [], [], [], [], [], [], [none, some 47, some 48, some 49, some 50, some 51, some 52], [], [], [], [], [], [], [none, some 54, some 55, some 56, some 57, some 58, some 59], [], [], [], [], [], [], [none, some 61, some 62, some 63, some 64, some 65, some 66], [], [], [], [], [], [], [none, some 68, some 69, some 70, some 71, some 72, some 73], [], [], [], [], [], [], [none, some 75, some 76, some 77, some 78, some 79, some 80], [], [], [], [], [], [], [none, some 82, some 83, some 84, some 85, some 86, some 87], [], [], [], [], [], [], [none, some 89, some 90, some 91, some 92, some 93, some 94], [], [], [], [], [], [], [none, some 96, some 97, some 98, some 99, some 100, some 101], [], [], [], [], [], [], [none, some 103, some 104, some 105, some 106, some 107, some 108], [], [], [], [], [], [], [none, some 110, some 111, some 112, some 113, some 114, some 115], [], [], [], [], [], [], [none, some 117, some 118, some 119, some 120, some 121, some 122], [], [], [], [], [], [], [none, some 124, some 125, some 126, some 127, some 128, some 129], [], [], [], [], [], [], [none, some 131, some 132, some 133, some 134, some 135, some 136], [], [], [], [], [], [], [none, some 138, some 139, some 140, some 141, some 142, some 143], [], [], [], [], [], [], [none, some 145, some 146, some 147, some 148, some 149, some 150], [], [], [], [], [], [], [none, some 152, some 153, some 154, some 155, some 156, some 157], [], [], [], [], [], [], [none, some 159, some 160, some 161, some 162, some 163, some 164], [], [], [], [], [], [], [none, some 166, some 167, some 168, some 169, some 170, some 171], [], [], [], [], [], [], [none, some 173, some 174, some 175, some 176, some 177, some 178], [], [], [], [], [], [], [none, some 180, some 181, some 182, some 183, some 184, some 185], [], [], [], [], [], [], [none, some 187, some 188, some 189, some 190, some 191, some 192], [], [], [], [], [], [], [none, some 194, some 195, some 196, some 197, some 198, some 199], [], [], [], [], [], [], [none, some 201, some 202, some 203, some 204, some 205, some 206], [], [], [], [], [], [], [none, some 208, some 209, some 210, some 211, some 212, some 213], [], [], [], [], [], [], [none, some 215, some 216, some 217, some 218, some 219, some 220], [], [], [], [], [], [], [none, some 222, some 223, some 224, some 225, some 226, some 227], [], [], [], [], [], [], [none, some 229, some 230, some 231, some 232, some 233, some 234], [], [], [], [], [], [], [none, some 236, some 237, some 238, some 239, some 240, some 241], [], [], [], [], [], [], [none, some 243, some 244, some 245, some 246, some 247, some 248], [], [], [], [], [], [], [some 250, some 258], [none, some 251], [none, some 252, some 253, some 254, some 255, some 256, some 257], [], [], [], [], [], [], [none, some 259], [none, some 260, some 261, some 262, some 263, some 264, some 265], [], [], [], [], [], [], [some 267, some 268, some 269], [], [], [], [some 271, some 272], [], [], [some 274, some 275, some 276, some 277], [], [], [], [], [], [none, none, none, some 280, some 281, none, some 282, some 283, some 284, none, none, some 285, some 286, none, some 287, some 288, some 289, some 290, none, none, none, none, none, none, none, some 291, some 292, none, some 293, some 294, none, some 295, some 296, none, some 297, some 298, some 299, some 300, some 301, some 302], [], [], [], [], [], [], [], [], [], [], [], [], [], [], [], [], [], [], [], [], [], [], []]
def PP (w : Nat) : rfm := fun k j => if k = 0 ∧ j = 1 then some w else if k = 0 ∧ j = 2 then some (21 - w) else (ppT.getD k []).getD j none
def onL : List Nat := [30, 39, 46, 53, 60, 67, 74, 81, 88, 95, 102, 109, 116, 123, 130, 137, 144, 151, 158, 165, 172, 179, 186, 193, 200, 207, 214, 221, 228, 235, 242, 251, 259]
def On (a : Nat) : Prop := a ∈ onL
def Cs (w : Nat) : Prop := w = 4 ∨ w = 17
theorem On.all {a : Nat} (h : On a) : a + 6 < 303 ∧ 0 < a ∧ kd a = 6 ∧ (kd (a + 1) = 11 ∧ kd (a + 2) = 11 ∧ kd (a + 3) = 11 ∧ kd (a + 4) = 11 ∧ kd (a + 5) = 11 ∧ kd (a + 6) = 11) ∧ (ln (a + 1) = 12 ∧ ln (a + 2) = 12 ∧ ln (a + 3) = 5 ∧ ln (a + 4) = 5 ∧ ln (a + 5) = 5 ∧ ln (a + 6) = 80) := by
  have q : ∀ a ∈ onL, a + 6 < 303 ∧ 0 < a ∧ kd a = 6 ∧ (kd (a + 1) = 11 ∧ kd (a + 2) = 11 ∧ kd (a + 3) = 11 ∧ kd (a + 4) = 11 ∧ kd (a + 5) = 11 ∧ kd (a + 6) = 11) ∧ (ln (a + 1) = 12 ∧ ln (a + 2) = 12 ∧ ln (a + 3) = 5 ∧ ln (a + 4) = 5 ∧ ln (a + 5) = 5 ∧ ln (a + 6) = 80) := by decide +kernel
  exact q a h
theorem On.k0 {a : Nat} (h : On a) : kd a = 6 := h.all.2.2.1
theorem On.k1 {a : Nat} (h : On a) : kd (a + 1) = 11 := h.all.2.2.2.1.1
theorem On.n1 {a : Nat} (h : On a) : ln (a + 1) = 12 := h.all.2.2.2.2.1
theorem On.l1 {a : Nat} (h : On a) : a + 1 < 303 := by have := h.all.1; omega
theorem On.k2 {a : Nat} (h : On a) : kd (a + 2) = 11 := h.all.2.2.2.1.2.1
theorem On.n2 {a : Nat} (h : On a) : ln (a + 2) = 12 := h.all.2.2.2.2.2.1
theorem On.l2 {a : Nat} (h : On a) : a + 2 < 303 := by have := h.all.1; omega
theorem On.k3 {a : Nat} (h : On a) : kd (a + 3) = 11 := h.all.2.2.2.1.2.2.1
theorem On.n3 {a : Nat} (h : On a) : ln (a + 3) = 5 := h.all.2.2.2.2.2.2.1
theorem On.l3 {a : Nat} (h : On a) : a + 3 < 303 := by have := h.all.1; omega
theorem On.k4 {a : Nat} (h : On a) : kd (a + 4) = 11 := h.all.2.2.2.1.2.2.2.1
theorem On.n4 {a : Nat} (h : On a) : ln (a + 4) = 5 := h.all.2.2.2.2.2.2.2.1
theorem On.l4 {a : Nat} (h : On a) : a + 4 < 303 := by have := h.all.1; omega
theorem On.k5 {a : Nat} (h : On a) : kd (a + 5) = 11 := h.all.2.2.2.1.2.2.2.2.1
theorem On.n5 {a : Nat} (h : On a) : ln (a + 5) = 5 := h.all.2.2.2.2.2.2.2.2.1
theorem On.l5 {a : Nat} (h : On a) : a + 5 < 303 := by have := h.all.1; omega
theorem On.k6 {a : Nat} (h : On a) : kd (a + 6) = 11 := h.all.2.2.2.1.2.2.2.2.2
theorem On.n6 {a : Nat} (h : On a) : ln (a + 6) = 80 := h.all.2.2.2.2.2.2.2.2.2
theorem On.l6 {a : Nat} (h : On a) : a + 6 < 303 := by have := h.all.1; omega
theorem On.l0 {a : Nat} (h : On a) : a < 303 := by have := h.all.1; omega
theorem On.p1 {a : Nat} (h : On a) (w : Nat) : PP w a 1 = some (a + 1) := by
  have q : ∀ a ∈ onL, (ppT.getD a []).getD 1 none = some (a + 1) := by decide +kernel
  have h0 := h.all.2.1
  unfold PP
  rw [if_neg (by omega), if_neg (by omega)]
  exact q a h
theorem On.p2 {a : Nat} (h : On a) (w : Nat) : PP w a 2 = some (a + 2) := by
  have q : ∀ a ∈ onL, (ppT.getD a []).getD 2 none = some (a + 2) := by decide +kernel
  have h0 := h.all.2.1
  unfold PP
  rw [if_neg (by omega), if_neg (by omega)]
  exact q a h
theorem On.p3 {a : Nat} (h : On a) (w : Nat) : PP w a 3 = some (a + 3) := by
  have q : ∀ a ∈ onL, (ppT.getD a []).getD 3 none = some (a + 3) := by decide +kernel
  have h0 := h.all.2.1
  unfold PP
  rw [if_neg (by omega), if_neg (by omega)]
  exact q a h
theorem On.p4 {a : Nat} (h : On a) (w : Nat) : PP w a 4 = some (a + 4) := by
  have q : ∀ a ∈ onL, (ppT.getD a []).getD 4 none = some (a + 4) := by decide +kernel
  have h0 := h.all.2.1
  unfold PP
  rw [if_neg (by omega), if_neg (by omega)]
  exact q a h
theorem On.p5 {a : Nat} (h : On a) (w : Nat) : PP w a 5 = some (a + 5) := by
  have q : ∀ a ∈ onL, (ppT.getD a []).getD 5 none = some (a + 5) := by decide +kernel
  have h0 := h.all.2.1
  unfold PP
  rw [if_neg (by omega), if_neg (by omega)]
  exact q a h
theorem On.p6 {a : Nat} (h : On a) (w : Nat) : PP w a 6 = some (a + 6) := by
  have q : ∀ a ∈ onL, (ppT.getD a []).getD 6 none = some (a + 6) := by decide +kernel
  have h0 := h.all.2.1
  unfold PP
  rw [if_neg (by omega), if_neg (by omega)]
  exact q a h
theorem kd_0 : kd 0 = 9 := by decide +kernel
theorem kd_1 : kd 1 = 7 := by decide +kernel
theorem kd_2 : kd 2 = 11 := by decide +kernel
theorem ln_2 : ln 2 = 240 := by decide +kernel
theorem kd_3 : kd 3 = 11 := by decide +kernel
theorem ln_3 : ln 3 = 8 := by decide +kernel
theorem kd_4 : kd 4 = 1 := by decide +kernel
theorem kd_5 : kd 5 = 11 := by decide +kernel
theorem ln_5 : ln 5 = 12 := by decide +kernel
theorem kd_6 : kd 6 = 11 := by decide +kernel
theorem ln_6 : ln 6 = 12 := by decide +kernel
theorem kd_7 : kd 7 = 11 := by decide +kernel
theorem ln_7 : ln 7 = 5 := by decide +kernel
theorem kd_8 : kd 8 = 11 := by decide +kernel
theorem ln_8 : ln 8 = 5 := by decide +kernel
theorem kd_9 : kd 9 = 11 := by decide +kernel
theorem ln_9 : ln 9 = 6 := by decide +kernel
theorem kd_10 : kd 10 = 15 := by decide +kernel
theorem ln_10 : ln 10 = 6 := by decide +kernel
theorem kd_11 : kd 11 = 11 := by decide +kernel
theorem ln_11 : ln 11 = 8 := by decide +kernel
theorem kd_12 : kd 12 = 11 := by decide +kernel
theorem ln_12 : ln 12 = 8 := by decide +kernel
theorem kd_13 : kd 13 = 11 := by decide +kernel
theorem ln_13 : ln 13 = 8 := by decide +kernel
theorem kd_14 : kd 14 = 11 := by decide +kernel
theorem ln_14 : ln 14 = 8 := by decide +kernel
theorem kd_15 : kd 15 = 11 := by decide +kernel
theorem ln_15 : ln 15 = 8 := by decide +kernel
theorem kd_16 : kd 16 = 11 := by decide +kernel
theorem ln_16 : ln 16 = 8 := by decide +kernel
theorem kd_17 : kd 17 = 1 := by decide +kernel
theorem kd_18 : kd 18 = 11 := by decide +kernel
theorem ln_18 : ln 18 = 12 := by decide +kernel
theorem kd_19 : kd 19 = 11 := by decide +kernel
theorem ln_19 : ln 19 = 12 := by decide +kernel
theorem kd_20 : kd 20 = 11 := by decide +kernel
theorem ln_20 : ln 20 = 5 := by decide +kernel
theorem kd_21 : kd 21 = 11 := by decide +kernel
theorem ln_21 : ln 21 = 5 := by decide +kernel
theorem kd_22 : kd 22 = 11 := by decide +kernel
theorem ln_22 : ln 22 = 6 := by decide +kernel
theorem kd_23 : kd 23 = 15 := by decide +kernel
theorem ln_23 : ln 23 = 6 := by decide +kernel
theorem kd_24 : kd 24 = 11 := by decide +kernel
theorem ln_24 : ln 24 = 8 := by decide +kernel
theorem kd_25 : kd 25 = 11 := by decide +kernel
theorem ln_25 : ln 25 = 8 := by decide +kernel
theorem kd_26 : kd 26 = 11 := by decide +kernel
theorem ln_26 : ln 26 = 8 := by decide +kernel
theorem kd_27 : kd 27 = 11 := by decide +kernel
theorem ln_27 : ln 27 = 8 := by decide +kernel
theorem kd_28 : kd 28 = 11 := by decide +kernel
theorem ln_28 : ln 28 = 8 := by decide +kernel
theorem kd_29 : kd 29 = 11 := by decide +kernel
theorem ln_29 : ln 29 = 8 := by decide +kernel
theorem kd_30 : kd 30 = 6 := by decide +kernel
theorem kd_31 : kd 31 = 11 := by decide +kernel
theorem ln_31 : ln 31 = 12 := by decide +kernel
theorem kd_32 : kd 32 = 11 := by decide +kernel
theorem ln_32 : ln 32 = 12 := by decide +kernel
theorem kd_33 : kd 33 = 11 := by decide +kernel
theorem ln_33 : ln 33 = 5 := by decide +kernel
theorem kd_34 : kd 34 = 11 := by decide +kernel
theorem ln_34 : ln 34 = 5 := by decide +kernel
theorem kd_35 : kd 35 = 11 := by decide +kernel
theorem ln_35 : ln 35 = 5 := by decide +kernel
theorem kd_36 : kd 36 = 11 := by decide +kernel
theorem ln_36 : ln 36 = 80 := by decide +kernel
theorem kd_37 : kd 37 = 2 := by decide +kernel
theorem kd_38 : kd 38 = 13 := by decide +kernel
theorem ln_38 : ln 38 = 30 := by decide +kernel
theorem kd_249 : kd 249 = 14 := by decide +kernel
theorem ln_249 : ln 249 = 2 := by decide +kernel
theorem kd_250 : kd 250 = 5 := by decide +kernel
theorem kd_251 : kd 251 = 6 := by decide +kernel
theorem kd_252 : kd 252 = 11 := by decide +kernel
theorem ln_252 : ln 252 = 12 := by decide +kernel
theorem kd_253 : kd 253 = 11 := by decide +kernel
theorem ln_253 : ln 253 = 12 := by decide +kernel
theorem kd_254 : kd 254 = 11 := by decide +kernel
theorem ln_254 : ln 254 = 5 := by decide +kernel
theorem kd_255 : kd 255 = 11 := by decide +kernel
theorem ln_255 : ln 255 = 5 := by decide +kernel
theorem kd_256 : kd 256 = 11 := by decide +kernel
theorem ln_256 : ln 256 = 5 := by decide +kernel
theorem kd_257 : kd 257 = 11 := by decide +kernel
theorem ln_257 : ln 257 = 80 := by decide +kernel
theorem kd_258 : kd 258 = 5 := by decide +kernel
theorem kd_259 : kd 259 = 6 := by decide +kernel
theorem kd_260 : kd 260 = 11 := by decide +kernel
theorem ln_260 : ln 260 = 12 := by decide +kernel
theorem kd_261 : kd 261 = 11 := by decide +kernel
theorem ln_261 : ln 261 = 12 := by decide +kernel
theorem kd_262 : kd 262 = 11 := by decide +kernel
theorem ln_262 : ln 262 = 5 := by decide +kernel
theorem kd_263 : kd 263 = 11 := by decide +kernel
theorem ln_263 : ln 263 = 5 := by decide +kernel
theorem kd_264 : kd 264 = 11 := by decide +kernel
theorem ln_264 : ln 264 = 5 := by decide +kernel
theorem kd_265 : kd 265 = 11 := by decide +kernel
theorem ln_265 : ln 265 = 80 := by decide +kernel
theorem kd_266 : kd 266 = 4 := by decide +kernel
theorem kd_267 : kd 267 = 11 := by decide +kernel
theorem ln_267 : ln 267 = 6 := by decide +kernel
theorem kd_268 : kd 268 = 11 := by decide +kernel
theorem ln_268 : ln 268 = 6 := by decide +kernel
theorem kd_269 : kd 269 = 12 := by decide +kernel
theorem ln_269 : ln 269 = 6 := by decide +kernel
theorem kd_270 : kd 270 = 0 := by decide +kernel
theorem kd_271 : kd 271 = 11 := by decide +kernel
theorem ln_271 : ln 271 = 20 := by decide +kernel
theorem kd_272 : kd 272 = 11 := by decide +kernel
theorem ln_272 : ln 272 = 20 := by decide +kernel
theorem kd_273 : kd 273 = 8 := by decide +kernel
theorem kd_274 : kd 274 = 11 := by decide +kernel
theorem ln_274 : ln 274 = 13 := by decide +kernel
theorem kd_275 : kd 275 = 11 := by decide +kernel
theorem ln_275 : ln 275 = 13 := by decide +kernel
theorem kd_276 : kd 276 = 11 := by decide +kernel
theorem ln_276 : ln 276 = 5 := by decide +kernel
theorem kd_277 : kd 277 = 11 := by decide +kernel
theorem ln_277 : ln 277 = 6 := by decide +kernel
theorem kd_278 : kd 278 = 3 := by decide +kernel
theorem kd_279 : kd 279 = 10 := by decide +kernel
theorem kd_280 : kd 280 = 11 := by decide +kernel
theorem ln_280 : ln 280 = 5 := by decide +kernel
theorem kd_281 : kd 281 = 11 := by decide +kernel
theorem ln_281 : ln 281 = 5 := by decide +kernel
theorem kd_282 : kd 282 = 11 := by decide +kernel
theorem ln_282 : ln 282 = 6 := by decide +kernel
theorem kd_283 : kd 283 = 11 := by decide +kernel
theorem ln_283 : ln 283 = 48 := by decide +kernel
theorem kd_284 : kd 284 = 11 := by decide +kernel
theorem ln_284 : ln 284 = 125 := by decide +kernel
theorem kd_285 : kd 285 = 11 := by decide +kernel
theorem ln_285 : ln 285 = 20 := by decide +kernel
theorem kd_286 : kd 286 = 11 := by decide +kernel
theorem ln_286 : ln 286 = 20 := by decide +kernel
theorem kd_287 : kd 287 = 11 := by decide +kernel
theorem ln_287 : ln 287 = 6 := by decide +kernel
theorem kd_288 : kd 288 = 11 := by decide +kernel
theorem ln_288 : ln 288 = 6 := by decide +kernel
theorem kd_289 : kd 289 = 11 := by decide +kernel
theorem ln_289 : ln 289 = 6 := by decide +kernel
theorem kd_290 : kd 290 = 11 := by decide +kernel
theorem ln_290 : ln 290 = 240 := by decide +kernel
theorem kd_291 : kd 291 = 11 := by decide +kernel
theorem ln_291 : ln 291 = 12 := by decide +kernel
theorem kd_292 : kd 292 = 11 := by decide +kernel
theorem ln_292 : ln 292 = 12 := by decide +kernel
theorem kd_293 : kd 293 = 11 := by decide +kernel
theorem ln_293 : ln 293 = 5 := by decide +kernel
theorem kd_294 : kd 294 = 11 := by decide +kernel
theorem ln_294 : ln 294 = 5 := by decide +kernel
theorem kd_295 : kd 295 = 11 := by decide +kernel
theorem ln_295 : ln 295 = 6 := by decide +kernel
theorem kd_296 : kd 296 = 11 := by decide +kernel
theorem ln_296 : ln 296 = 48 := by decide +kernel
theorem kd_297 : kd 297 = 11 := by decide +kernel
theorem ln_297 : ln 297 = 3750 := by decide +kernel
theorem kd_298 : kd 298 = 11 := by decide +kernel
theorem ln_298 : ln 298 = 78 := by decide +kernel
theorem kd_299 : kd 299 = 11 := by decide +kernel
theorem ln_299 : ln 299 = 14 := by decide +kernel
theorem kd_300 : kd 300 = 11 := by decide +kernel
theorem ln_300 : ln 300 = 5 := by decide +kernel
theorem kd_301 : kd 301 = 11 := by decide +kernel
theorem ln_301 : ln 301 = 252 := by decide +kernel
theorem kd_302 : kd 302 = 12 := by decide +kernel
theorem ln_302 : ln 302 = 2 := by decide +kernel
theorem pp_0_0 (w : Nat) : PP w 0 0 = some 1 := rfl
theorem pp_0_3 (w : Nat) : PP w 0 3 = some 30 := rfl
theorem pp_0_4 (w : Nat) : PP w 0 4 = some 37 := rfl
theorem pp_0_5 (w : Nat) : PP w 0 5 = some 249 := rfl
theorem pp_0_6 (w : Nat) : PP w 0 6 = some 266 := rfl
theorem pp_0_7 (w : Nat) : PP w 0 7 = some 270 := rfl
theorem pp_0_8 (w : Nat) : PP w 0 8 = some 273 := rfl
theorem pp_0_9 (w : Nat) : PP w 0 9 = some 278 := rfl
theorem pp_1_0 (w : Nat) : PP w 1 0 = some 2 := rfl
theorem pp_1_1 (w : Nat) : PP w 1 1 = some 3 := rfl
theorem pp_4_5 (w : Nat) : PP w 4 5 = some 5 := rfl
theorem pp_4_6 (w : Nat) : PP w 4 6 = some 6 := rfl
theorem pp_4_7 (w : Nat) : PP w 4 7 = some 7 := rfl
theorem pp_4_8 (w : Nat) : PP w 4 8 = some 8 := rfl
theorem pp_4_9 (w : Nat) : PP w 4 9 = some 9 := rfl
theorem pp_4_10 (w : Nat) : PP w 4 10 = some 10 := rfl
theorem pp_10_0 (w : Nat) : PP w 10 0 = some 11 := rfl
theorem pp_10_1 (w : Nat) : PP w 10 1 = some 12 := rfl
theorem pp_10_2 (w : Nat) : PP w 10 2 = some 13 := rfl
theorem pp_10_3 (w : Nat) : PP w 10 3 = some 14 := rfl
theorem pp_10_4 (w : Nat) : PP w 10 4 = some 15 := rfl
theorem pp_10_5 (w : Nat) : PP w 10 5 = some 16 := rfl
theorem pp_17_5 (w : Nat) : PP w 17 5 = some 18 := rfl
theorem pp_17_6 (w : Nat) : PP w 17 6 = some 19 := rfl
theorem pp_17_7 (w : Nat) : PP w 17 7 = some 20 := rfl
theorem pp_17_8 (w : Nat) : PP w 17 8 = some 21 := rfl
theorem pp_17_9 (w : Nat) : PP w 17 9 = some 22 := rfl
theorem pp_17_10 (w : Nat) : PP w 17 10 = some 23 := rfl
theorem pp_23_0 (w : Nat) : PP w 23 0 = some 24 := rfl
theorem pp_23_1 (w : Nat) : PP w 23 1 = some 25 := rfl
theorem pp_23_2 (w : Nat) : PP w 23 2 = some 26 := rfl
theorem pp_23_3 (w : Nat) : PP w 23 3 = some 27 := rfl
theorem pp_23_4 (w : Nat) : PP w 23 4 = some 28 := rfl
theorem pp_23_5 (w : Nat) : PP w 23 5 = some 29 := rfl
theorem pp_30_1 (w : Nat) : PP w 30 1 = some 31 := rfl
theorem pp_30_2 (w : Nat) : PP w 30 2 = some 32 := rfl
theorem pp_30_3 (w : Nat) : PP w 30 3 = some 33 := rfl
theorem pp_30_4 (w : Nat) : PP w 30 4 = some 34 := rfl
theorem pp_30_5 (w : Nat) : PP w 30 5 = some 35 := rfl
theorem pp_30_6 (w : Nat) : PP w 30 6 = some 36 := rfl
theorem pp_37_0 (w : Nat) : PP w 37 0 = some 38 := rfl
theorem pp_250_1 (w : Nat) : PP w 250 1 = some 251 := rfl
theorem pp_251_1 (w : Nat) : PP w 251 1 = some 252 := rfl
theorem pp_251_2 (w : Nat) : PP w 251 2 = some 253 := rfl
theorem pp_251_3 (w : Nat) : PP w 251 3 = some 254 := rfl
theorem pp_251_4 (w : Nat) : PP w 251 4 = some 255 := rfl
theorem pp_251_5 (w : Nat) : PP w 251 5 = some 256 := rfl
theorem pp_251_6 (w : Nat) : PP w 251 6 = some 257 := rfl
theorem pp_258_1 (w : Nat) : PP w 258 1 = some 259 := rfl
theorem pp_259_1 (w : Nat) : PP w 259 1 = some 260 := rfl
theorem pp_259_2 (w : Nat) : PP w 259 2 = some 261 := rfl
theorem pp_259_3 (w : Nat) : PP w 259 3 = some 262 := rfl
theorem pp_259_4 (w : Nat) : PP w 259 4 = some 263 := rfl
theorem pp_259_5 (w : Nat) : PP w 259 5 = some 264 := rfl
theorem pp_259_6 (w : Nat) : PP w 259 6 = some 265 := rfl
theorem pp_266_0 (w : Nat) : PP w 266 0 = some 267 := rfl
theorem pp_266_1 (w : Nat) : PP w 266 1 = some 268 := rfl
theorem pp_266_2 (w : Nat) : PP w 266 2 = some 269 := rfl
theorem pp_270_0 (w : Nat) : PP w 270 0 = some 271 := rfl
theorem pp_270_1 (w : Nat) : PP w 270 1 = some 272 := rfl
theorem pp_273_0 (w : Nat) : PP w 273 0 = some 274 := rfl
theorem pp_273_1 (w : Nat) : PP w 273 1 = some 275 := rfl
theorem pp_273_2 (w : Nat) : PP w 273 2 = some 276 := rfl
theorem pp_273_3 (w : Nat) : PP w 273 3 = some 277 := rfl
theorem pp_279_3 (w : Nat) : PP w 279 3 = some 280 := rfl
theorem pp_279_4 (w : Nat) : PP w 279 4 = some 281 := rfl
theorem pp_279_6 (w : Nat) : PP w 279 6 = some 282 := rfl
theorem pp_279_7 (w : Nat) : PP w 279 7 = some 283 := rfl
theorem pp_279_8 (w : Nat) : PP w 279 8 = some 284 := rfl
theorem pp_279_11 (w : Nat) : PP w 279 11 = some 285 := rfl
theorem pp_279_12 (w : Nat) : PP w 279 12 = some 286 := rfl
theorem pp_279_14 (w : Nat) : PP w 279 14 = some 287 := rfl
theorem pp_279_15 (w : Nat) : PP w 279 15 = some 288 := rfl
theorem pp_279_16 (w : Nat) : PP w 279 16 = some 289 := rfl
theorem pp_279_17 (w : Nat) : PP w 279 17 = some 290 := rfl
theorem pp_279_25 (w : Nat) : PP w 279 25 = some 291 := rfl
theorem pp_279_26 (w : Nat) : PP w 279 26 = some 292 := rfl
theorem pp_279_28 (w : Nat) : PP w 279 28 = some 293 := rfl
theorem pp_279_29 (w : Nat) : PP w 279 29 = some 294 := rfl
theorem pp_279_31 (w : Nat) : PP w 279 31 = some 295 := rfl
theorem pp_279_32 (w : Nat) : PP w 279 32 = some 296 := rfl
theorem pp_279_34 (w : Nat) : PP w 279 34 = some 297 := rfl
theorem pp_279_35 (w : Nat) : PP w 279 35 = some 298 := rfl
theorem pp_279_36 (w : Nat) : PP w 279 36 = some 299 := rfl
theorem pp_279_37 (w : Nat) : PP w 279 37 = some 300 := rfl
theorem pp_279_38 (w : Nat) : PP w 279 38 = some 301 := rfl
theorem pp_279_39 (w : Nat) : PP w 279 39 = some 302 := rfl
theorem pp_0_1 (w : Nat) : PP w 0 1 = some w := rfl
theorem pp_0_2 (w : Nat) : PP w 0 2 = some (21 - w) := rfl
theorem look_miss {x a o d : Int} {r : List (Int × Int)} (h : ¬ x = a) : Op.lookupswitch.offset ((a, o) :: r) d x = Op.lookupswitch.offset r d x := by
  rw [Op.lookupswitch.offset_cons, if_neg (fun q => h q.symm)]
theorem Cs.l {w j : Nat} (h : Cs w) (hj : j ≤ 12) : w + j < 303 := by rcases h with rfl | rfl <;> omega
theorem Cs.l0 {w : Nat} (h : Cs w) : w < 303 := by rcases h with rfl | rfl <;> decide
theorem Cs.k0 {w : Nat} (h : Cs w) : kd w = 1 := by rcases h with rfl | rfl <;> decide +kernel
theorem Cs.k1 {w : Nat} (h : Cs w) : kd (w + 1) = 11 := by rcases h with rfl | rfl <;> decide +kernel
theorem Cs.n1 {w : Nat} (h : Cs w) : ln (w + 1) = 12 := by rcases h with rfl | rfl <;> decide +kernel
theorem Cs.k2 {w : Nat} (h : Cs w) : kd (w + 2) = 11 := by rcases h with rfl | rfl <;> decide +kernel
theorem Cs.n2 {w : Nat} (h : Cs w) : ln (w + 2) = 12 := by rcases h with rfl | rfl <;> decide +kernel
theorem Cs.k3 {w : Nat} (h : Cs w) : kd (w + 3) = 11 := by rcases h with rfl | rfl <;> decide +kernel
theorem Cs.n3 {w : Nat} (h : Cs w) : ln (w + 3) = 5 := by rcases h with rfl | rfl <;> decide +kernel
theorem Cs.k4 {w : Nat} (h : Cs w) : kd (w + 4) = 11 := by rcases h with rfl | rfl <;> decide +kernel
theorem Cs.n4 {w : Nat} (h : Cs w) : ln (w + 4) = 5 := by rcases h with rfl | rfl <;> decide +kernel
theorem Cs.k5 {w : Nat} (h : Cs w) : kd (w + 5) = 11 := by rcases h with rfl | rfl <;> decide +kernel
theorem Cs.n5 {w : Nat} (h : Cs w) : ln (w + 5) = 6 := by rcases h with rfl | rfl <;> decide +kernel
theorem Cs.k6 {w : Nat} (h : Cs w) : kd (w + 6) = 15 := by rcases h with rfl | rfl <;> decide +kernel
theorem Cs.n6 {w : Nat} (h : Cs w) : ln (w + 6) = 6 := by rcases h with rfl | rfl <;> decide +kernel
theorem Cs.p5 {w : Nat} (h : Cs w) (v : Nat) : PP v w 5 = some (w + 1) := by
  unfold PP
  rcases h with rfl | rfl <;> rfl
theorem Cs.p6 {w : Nat} (h : Cs w) (v : Nat) : PP v w 6 = some (w + 2) := by
  unfold PP
  rcases h with rfl | rfl <;> rfl
theorem Cs.p7 {w : Nat} (h : Cs w) (v : Nat) : PP v w 7 = some (w + 3) := by
  unfold PP
  rcases h with rfl | rfl <;> rfl
theorem Cs.p8 {w : Nat} (h : Cs w) (v : Nat) : PP v w 8 = some (w + 4) := by
  unfold PP
  rcases h with rfl | rfl <;> rfl
theorem Cs.p9 {w : Nat} (h : Cs w) (v : Nat) : PP v w 9 = some (w + 5) := by
  unfold PP
  rcases h with rfl | rfl <;> rfl
theorem Cs.p10 {w : Nat} (h : Cs w) (v : Nat) : PP v w 10 = some (w + 6) := by
  unfold PP
  rcases h with rfl | rfl <;> rfl
theorem Cs.kt {w t : Nat} (h : Cs w) (ht : t < 6) : kd (w + 7 + t) = 11 := by
  have q : ∀ t, t < 6 → kd (4 + 7 + t) = 11 ∧ kd (17 + 7 + t) = 11 := by decide +kernel
  rcases h with rfl | rfl
  · exact (q t ht).1
  · exact (q t ht).2
theorem Cs.nt {w t : Nat} (h : Cs w) (ht : t < 6) : ln (w + 7 + t) = 8 := by
  have q : ∀ t, t < 6 → ln (4 + 7 + t) = 8 ∧ ln (17 + 7 + t) = 8 := by decide +kernel
  rcases h with rfl | rfl
  · exact (q t ht).1
  · exact (q t ht).2
theorem Cs.lt {w t : Nat} (h : Cs w) (ht : t < 6) : w + 7 + t < 303 := by rcases h with rfl | rfl <;> omega
theorem Cs.pt {w t : Nat} (h : Cs w) (v : Nat) (ht : t < 6) : PP v (w + 6) t = some (w + 7 + t) := by
  have q : ∀ t, t < 6 → (ppT.getD (4 + 6) []).getD t none = some (4 + 7 + t) ∧ (ppT.getD (17 + 6) []).getD t none = some (17 + 7 + t) := by decide +kernel
  unfold PP
  rcases h with rfl | rfl
  · rw [if_neg (by omega), if_neg (by omega)]
    exact (q t ht).1
  · rw [if_neg (by omega), if_neg (by omega)]
    exact (q t ht).2
theorem PP_bef (w : Nat) {i : Nat} (h : i < 30) : PP w 38 i = some (39 + 7 * i) := by
  have q : ∀ i, i < 30 → (ppT.getD 38 []).getD i none = some (39 + 7 * i) := by decide +kernel
  unfold PP
  rw [if_neg (by omega), if_neg (by omega)]
  exact q i h
theorem On_bef {i : Nat} (h : i < 30) : On (39 + 7 * i) := by
  have q : ∀ i, i < 30 → 39 + 7 * i ∈ onL := by decide +kernel
  exact q i h
theorem PP_img (w : Nat) {i : Nat} (h : i < 2) : PP w 249 i = some (250 + 8 * i) := by
  have q : ∀ i, i < 2 → (ppT.getD 249 []).getD i none = some (250 + 8 * i) := by decide +kernel
  unfold PP
  rw [if_neg (by omega), if_neg (by omega)]
  exact q i h
theorem PP_imo (w : Nat) {i : Nat} (h : i < 2) : PP w (250 + 8 * i) 1 = some (251 + 8 * i) := by
  have q : ∀ i, i < 2 → (ppT.getD (250 + 8 * i) []).getD 1 none = some (251 + 8 * i) := by decide +kernel
  unfold PP
  rw [if_neg (by omega), if_neg (by omega)]
  exact q i h
theorem kd_img {i : Nat} (h : i < 2) : kd (250 + 8 * i) = 5 := by
  have q : ∀ i, i < 2 → kd (250 + 8 * i) = 5 := by decide +kernel
  exact q i h
theorem On_img {i : Nat} (h : i < 2) : On (251 + 8 * i) := by
  have q : ∀ i, i < 2 → 251 + 8 * i ∈ onL := by decide +kernel
  exact q i h
theorem On_30 : On 30 := by unfold On; decide
theorem up2_same {α : Type} {f : Nat → Nat → α} {a i : Nat} {v : α} : up2 f a i v a i = v := by simp [up2]
theorem up2_ne {α : Type} {f : Nat → Nat → α} {a i x j : Nat} {v : α} (h : x ≠ a ∨ j ≠ i) : up2 f a i v x j = f x j := by
  unfold up2
  rw [if_neg (by omega)]
/-- a loop's state behind n rounds -/
def fo {α : Type} (f : Nat → α → α) : Nat → α → α
  | 0, a => a
  | n + 1, a => f n (fo f n a)
theorem fo_congr {α : Type} {f g : Nat → α → α} : ∀ (n : Nat) (a : α), (∀ k x, k < n → f k x = g k x) → fo f n a = fo g n a
  | 0, _, _ => rfl
  | n + 1, a, h => by
    show f n (fo f n a) = g n (fo g n a)
    rw [fo_congr n a (fun k x hk => h k x (by omega)), h n _ (by omega)]
section GoAuto
variable {S : Nat × (Nat → Int32)} {y : MethodName} {cc : ByteArray} {nL t mc ms : Nat} {ret : Option FieldType} {pc : Nat} {lv : List (Nat × PV)} {st : List PV} {n : Nat} {P : rfm} {M : inm} {Q : Post}
theorem gx_iadd {x z v : Int} (d : decode cc pc = .ok (.iadd, 1)) (hv : x + z = v) (h : inR v) (k : Go S y cc nL t mc ms ret (pc + 1) lv (vI v :: st) n P M Q) : Go S y cc nL t mc ms ret pc lv (vI z :: vI x :: st) n P M Q := by
  subst hv
  exact go_iadd d h k
theorem gx_isub {x z v : Int} (d : decode cc pc = .ok (.isub, 1)) (hv : x - z = v) (h : inR v) (k : Go S y cc nL t mc ms ret (pc + 1) lv (vI v :: st) n P M Q) : Go S y cc nL t mc ms ret pc lv (vI z :: vI x :: st) n P M Q := by
  subst hv
  exact go_isub d h k
theorem gx_imul {x z v : Int} (d : decode cc pc = .ok (.imul, 1)) (hv : x * z = v) (h : inR v) (k : Go S y cc nL t mc ms ret (pc + 1) lv (vI v :: st) n P M Q) : Go S y cc nL t mc ms ret pc lv (vI z :: vI x :: st) n P M Q := by
  subst hv
  exact go_imul d h k
theorem gx_idiv {x z v : Int} (d : decode cc pc = .ok (.idiv, 1)) (hv : x / z = v) (h0 : 0 ≤ x) (h1 : 0 < z) (k : Go S y cc nL t mc ms ret (pc + 1) lv (vI v :: st) n P M Q) : Go S y cc nL t mc ms ret pc lv (vI z :: vI x :: st) n P M Q := by
  subst hv
  exact go_idiv d h0 h1 k
theorem gx_irem {x z v : Int} (d : decode cc pc = .ok (.irem, 1)) (hv : x % z = v) (h0 : 0 ≤ x) (h1 : 0 < z) (k : Go S y cc nL t mc ms ret (pc + 1) lv (vI v :: st) n P M Q) : Go S y cc nL t mc ms ret pc lv (vI z :: vI x :: st) n P M Q := by
  subst hv
  exact go_irem d h0 h1 k
theorem gx_iinc {i : Nat} {z dz v : Int} {lv' : List (Nat × PV)} (j : Nat) (d : decode cc pc = .ok (.iinc i dz, 3)) (hj : lv[j]? = some (i, vI z)) (hv : z + dz = v) (hz : inR v) (hn : i < nL) (h : (i, vI v) :: lv.filter (fun q => !(q.1 == i) && !(q.1 + 1 == i && isL q.2)) = lv') (k : Go S y cc nL t mc ms ret (pc + 3) lv' st n P M Q) : Go S y cc nL t mc ms ret pc lv st n P M Q := by
  subst hv
  exact go_iinc j d hj hz hn h k
theorem gx_getI {idx ci f a : Nat} {v : Int} (d : decode cc pc = .ok (.getfield idx, 3)) (hL : Lk y.cls idx ci f) (hk : kd a = ci) (ha : a < n) (hr : rfq ci f = false) (hv : M a f = v) (k : Go S y cc nL t mc ms ret (pc + 3) lv (vI v :: st) n P M Q) : Go S y cc nL t mc ms ret pc lv (vR a :: st) n P M Q := by
  subst hv
  exact go_getI d hL hk ha hr k
theorem gx_iaload {a N : Nat} {i v : Int} (j : Nat) (d : decode cc pc = .ok (.iaload, 1)) (hk : kd a = 11) (ha : a < n) (hN : ln a = N) (hi : i = (j : Int)) (h1 : j < N) (hv : M a j = v) (k : Go S y cc nL t mc ms ret (pc + 1) lv (vI v :: st) n P M Q) : Go S y cc nL t mc ms ret pc lv (vI i :: vR a :: st) n P M Q := by
  subst hv
  subst hi
  subst hN
  exact go_iaload d hk ha (by omega) (by omega) k
theorem gx_baload {a N : Nat} {i v : Int} (j : Nat) (d : decode cc pc = .ok (.baload, 1)) (hk : kd a = 12) (ha : a < n) (hN : ln a = N) (hi : i = (j : Int)) (h1 : j < N) (hv : M a j = v) (k : Go S y cc nL t mc ms ret (pc + 1) lv (vI v :: st) n P M Q) : Go S y cc nL t mc ms ret pc lv (vI i :: vR a :: st) n P M Q := by
  subst hv
  subst hi
  subst hN
  exact go_baload d hk ha (by omega) (by omega) k
theorem gx_aaload {a r c0 N : Nat} {i : Int} (j : Nat) (d : decode cc pc = .ok (.aaload, 1)) (hk : kd a = c0 + 11) (hc : 2 ≤ c0) (hc2 : c0 < 5) (ha : a < n) (hN : ln a = N) (hi : i = (j : Int)) (h1 : j < N) (hp : P a j = some r) (k : Go S y cc nL t mc ms ret (pc + 1) lv (vR r :: st) n P M Q) : Go S y cc nL t mc ms ret pc lv (vI i :: vR a :: st) n P M Q := by
  subst hi
  subst hN
  exact go_aaload d hk hc hc2 ha (by omega) (by omega) hp k
theorem gx_iastore {a N : Nat} {i z : Int} (j : Nat) (d : decode cc pc = .ok (.iastore, 1)) (hk : kd a = 11) (ha : a < n) (hN : ln a = N) (hi : i = (j : Int)) (h1 : j < N) (k : Go S y cc nL t mc ms ret (pc + 1) lv st n P (up2 M a j z) Q) : Go S y cc nL t mc ms ret pc lv (vI z :: vI i :: vR a :: st) n P M Q := by
  subst hi
  subst hN
  exact go_iastore d hk ha (by omega) (by omega) k
theorem gx_bastore {a N : Nat} {i z : Int} (j : Nat) (d : decode cc pc = .ok (.bastore, 1)) (hk : kd a = 12) (ha : a < n) (hn3 : n = 303) (hN : ln a = N) (hi : i = (j : Int)) (h1 : j < N) (h01 : z = 0 ∨ z = 1) (k : Go S y cc nL t mc ms ret (pc + 1) lv st n P (up2 M a j z) Q) : Go S y cc nL t mc ms ret pc lv (vI z :: vI i :: vR a :: st) n P M Q := by
  subst hi
  subst hN
  exact go_bastore d hk ha hn3 (by omega) (by omega) h01 k
theorem gx_shl {z v : Int} (j : Nat) (d : decode cc pc = .ok (.ishl, 1)) (hz : z = (j : Int)) (hj : j ≤ 30) (hv : ((2 ^ j : Nat) : Int) = v) (k : Go S y cc nL t mc ms ret (pc + 1) lv (vI v :: st) n P M Q) : Go S y cc nL t mc ms ret pc lv (vI z :: vI 1 :: st) n P M Q := by
  subst hv
  subst hz
  exact go_shl1 d (by omega) (by omega) k
theorem gx_ior {x z : Int} {a b : Nat} (d : decode cc pc = .ok (.ior, 1)) (hx : x = (a : Int)) (hz : z = (b : Int)) (k : Go S y cc nL t mc ms ret (pc + 1) lv (vI ((a ||| b : Nat) : Int) :: st) n P M Q) : Go S y cc nL t mc ms ret pc lv (vI z :: vI x :: st) n P M Q := by
  subst hx
  subst hz
  exact go_ior d (by omega) (by omega) k
theorem gx_iand {x z : Int} {a b : Nat} (d : decode cc pc = .ok (.iand, 1)) (hx : x = (a : Int)) (hz : z = (b : Int)) (k : Go S y cc nL t mc ms ret (pc + 1) lv (vI ((a &&& b : Nat) : Int) :: st) n P M Q) : Go S y cc nL t mc ms ret pc lv (vI z :: vI x :: st) n P M Q := by
  subst hx
  subst hz
  exact go_iand d (by omega) (by omega) k
theorem gx_ishr {x z : Int} {a b : Nat} (d : decode cc pc = .ok (.ishr, 1)) (hx : x = (a : Int)) (hz : z = (b : Int)) (hb : b ≤ 31) (k : Go S y cc nL t mc ms ret (pc + 1) lv (vI ((a / 2 ^ b : Nat) : Int) :: st) n P M Q) : Go S y cc nL t mc ms ret pc lv (vI z :: vI x :: st) n P M Q := by
  subst hx
  subst hz
  exact go_ishr d (by omega) (by omega) (by omega) k
theorem gx_copy {idx a0 a1 N0 N1 : Nat} {sp dp len : Int} (i j u : Nat) (d : decode cc pc = .ok (.invokestatic idx, 3)) (hl0 : Cond.methodLink y.cls idx arraycopyName ∈ TB) (ht : 1 ≤ t) (k0 : kd a0 = 11) (k1 : kd a1 = 11) (ha0 : a0 < n) (ha1 : a1 < n) (hn3 : n = 303) (hN0 : ln a0 = N0) (hN1 : ln a1 = N1) (h1 : sp = (i : Int)) (h2 : dp = (j : Int)) (h3 : len = (u : Int)) (h4 : i + u ≤ N0) (h5 : j + u ≤ N1) (h8 : avw st ≤ 8) (k : Go S y cc nL t mc ms ret (pc + 3) lv st n P (cp2 M a0 i a1 j u) Q) : Go S y cc nL t mc ms ret pc lv (vI len :: vI dp :: vR a1 :: vI sp :: vR a0 :: st) n P M Q := by
  subst h1
  subst h2
  subst h3
  subst hN0
  subst hN1
  exact go_copy d hl0 w_copy_in ht k0 k1 ha0 ha1 hn3 (by omega) (by omega) (by omega) (by omega) (by omega) h8 k
theorem gx_min {idx : Nat} {x z v : Int} (d : decode cc pc = .ok (.invokestatic idx, 3)) (hl0 : Cond.methodLink y.cls idx Lib.Math.min.name ∈ TB) (ht : 1 ≤ t) (h8 : avw st ≤ 8) (hv : min x z = v) (k : Go S y cc nL t mc ms ret (pc + 3) lv (vI v :: st) n P M Q) : Go S y cc nL t mc ms ret pc lv (vI z :: vI x :: st) n P M Q := by
  subst hv
  exact go_min d hl0 w_math_in ht h8 k
theorem gx_max {idx : Nat} {x z v : Int} (d : decode cc pc = .ok (.invokestatic idx, 3)) (hl0 : Cond.methodLink y.cls idx Lib.Math.max.name ∈ TB) (ht : 1 ≤ t) (h8 : avw st ≤ 8) (hv : max x z = v) (k : Go S y cc nL t mc ms ret (pc + 3) lv (vI v :: st) n P M Q) : Go S y cc nL t mc ms ret pc lv (vI z :: vI x :: st) n P M Q := by
  subst hv
  exact go_max d hl0 w_math_in ht h8 k
end GoAuto
