/-! WHAT NEVER CHANGES behind the constructors: where the rows lie; the gorges (2 and 13), the herds (24, 39, 49 + 6 k, 303, 309, 315) -/
def z_fixl : List (Int × Int × Int) := [(1, 3, 30), (1, 4, 33), (1, 5, 34), (1, 6, 38), (1, 7, 47), (1, 8, 289), (1, 9, 294), (1, 10, 301), (1, 11, 302), (24, 0, 25), (24, 1, 26), (24, 2, 27), (24, 3, 28), (24, 4, 29), (30, 0, 31), (30, 1, 32), (33, 0, 30), (34, 0, 35), (34, 1, 36), (34, 2, 37), (38, 0, 34), (38, 1, 39), (38, 2, 45), (38, 3, 46), (39, 0, 40), (39, 1, 41), (39, 2, 42), (39, 3, 43), (39, 4, 44), (47, 0, 48), (49, 0, 50), (49, 1, 51), (49, 2, 52), (49, 3, 53), (49, 4, 54), (55, 0, 56), (55, 1, 57), (55, 2, 58), (55, 3, 59), (55, 4, 60), (61, 0, 62), (61, 1, 63), (61, 2, 64), (61, 3, 65), (61, 4, 66), (67, 0, 68), (67, 1, 69), (67, 2, 70), (67, 3, 71), (67, 4, 72), (73, 0, 74), (73, 1, 75), (73, 2, 76), (73, 3, 77), (73, 4, 78), (79, 0, 80), (79, 1, 81), (79, 2, 82), (79, 3, 83), (79, 4, 84), (85, 0, 86), (85, 1, 87), (85, 2, 88), (85, 3, 89), (85, 4, 90), (91, 0, 92), (91, 1, 93), (91, 2, 94), (91, 3, 95), (91, 4, 96), (97, 0, 98), (97, 1, 99), (97, 2, 100), (97, 3, 101), (97, 4, 102), (103, 0, 104), (103, 1, 105), (103, 2, 106), (103, 3, 107), (103, 4, 108), (109, 0, 110), (109, 1, 111), (109, 2, 112), (109, 3, 113), (109, 4, 114), (115, 0, 116), (115, 1, 117), (115, 2, 118), (115, 3, 119), (115, 4, 120), (121, 0, 122), (121, 1, 123), (121, 2, 124), (121, 3, 125), (121, 4, 126), (127, 0, 128), (127, 1, 129), (127, 2, 130), (127, 3, 131), (127, 4, 132), (133, 0, 134), (133, 1, 135), (133, 2, 136), (133, 3, 137), (133, 4, 138), (139, 0, 140), (139, 1, 141), (139, 2, 142), (139, 3, 143), (139, 4, 144), (145, 0, 146), (145, 1, 147), (145, 2, 148), (145, 3, 149), (145, 4, 150), (151, 0, 152), (151, 1, 153), (151, 2, 154), (151, 3, 155), (151, 4, 156), (157, 0, 158), (157, 1, 159), (157, 2, 160), (157, 3, 161), (157, 4, 162), (163, 0, 164), (163, 1, 165), (163, 2, 166), (163, 3, 167), (163, 4, 168), (169, 0, 170), (169, 1, 171), (169, 2, 172), (169, 3, 173), (169, 4, 174), (175, 0, 176), (175, 1, 177), (175, 2, 178), (175, 3, 179), (175, 4, 180), (181, 0, 182), (181, 1, 183), (181, 2, 184), (181, 3, 185), (181, 4, 186), (187, 0, 188), (187, 1, 189), (187, 2, 190), (187, 3, 191), (187, 4, 192), (193, 0, 194), (193, 1, 195), (193, 2, 196), (193, 3, 197), (193, 4, 198), (199, 0, 200), (199, 1, 201), (199, 2, 202), (199, 3, 203), (199, 4, 204), (205, 0, 206), (205, 1, 207), (205, 2, 208), (205, 3, 209), (205, 4, 210), (211, 0, 212), (211, 1, 213), (211, 2, 214), (211, 3, 215), (211, 4, 216), (217, 0, 218), (217, 1, 219), (217, 2, 220), (217, 3, 221), (217, 4, 222), (223, 0, 224), (223, 1, 225), (223, 2, 226), (223, 3, 227), (223, 4, 228), (229, 0, 230), (229, 1, 231), (229, 2, 232), (229, 3, 233), (229, 4, 234), (235, 0, 236), (235, 1, 237), (235, 2, 238), (235, 3, 239), (235, 4, 240), (241, 0, 242), (241, 1, 243), (241, 2, 244), (241, 3, 245), (241, 4, 246), (247, 0, 248), (247, 1, 249), (247, 2, 250), (247, 3, 251), (247, 4, 252), (253, 0, 254), (253, 1, 255), (253, 2, 256), (253, 3, 257), (253, 4, 258), (259, 0, 260), (259, 1, 261), (259, 2, 262), (259, 3, 263), (259, 4, 264), (265, 0, 266), (265, 1, 267), (265, 2, 268), (265, 3, 269), (265, 4, 270), (271, 0, 272), (271, 1, 273), (271, 2, 274), (271, 3, 275), (271, 4, 276), (277, 0, 278), (277, 1, 279), (277, 2, 280), (277, 3, 281), (277, 4, 282), (283, 0, 284), (283, 1, 285), (283, 2, 286), (283, 3, 287), (283, 4, 288), (289, 0, 290), (289, 1, 291), (289, 2, 292), (289, 3, 293), (294, 0, 295), (294, 1, 296), (294, 2, 297), (294, 3, 298), (294, 4, 299), (294, 5, 300), (301, 0, 303), (301, 1, 309), (301, 2, 315), (303, 0, 304), (303, 1, 305), (303, 2, 306), (303, 3, 307), (303, 4, 308), (309, 0, 310), (309, 1, 311), (309, 2, 312), (309, 3, 313), (309, 4, 314), (315, 0, 316), (315, 1, 317), (315, 2, 318), (315, 3, 319), (315, 4, 320), (321, 0, 322), (321, 10, 323), (321, 11, 324), (321, 12, 325), (321, 13, 326), (321, 14, 327), (321, 15, 328), (321, 16, 329), (321, 24, 330), (321, 25, 331), (321, 26, 332), (321, 27, 333), (321, 28, 334), (321, 29, 335), (321, 30, 336), (321, 31, 337), (321, 32, 338), (321, 33, 339), (321, 34, 340), (321, 35, 341), (321, 60, 342), (321, 61, 343), (321, 62, 344), (321, 63, 345), (321, 66, 346), (321, 67, 347), (321, 69, 348), (321, 70, 349), (321, 71, 350), (321, 72, 351), (321, 73, 352), (321, 74, 353), (321, 75, 354), (321, 78, 355), (321, 79, 356), (321, 80, 357)]
def z_fix (M : z_M) : Prop := ∀ p ∈ z_fixl, M p.1 p.2.1 = p.2.2
theorem fx_1_3 {M : z_M} (h : z_fix M) : M 1 3 = 30 := h (1, 3, 30) (List.mem_of_getElem? (i := 0) rfl)
theorem fx_1_4 {M : z_M} (h : z_fix M) : M 1 4 = 33 := h (1, 4, 33) (List.mem_of_getElem? (i := 1) rfl)
theorem fx_1_5 {M : z_M} (h : z_fix M) : M 1 5 = 34 := h (1, 5, 34) (List.mem_of_getElem? (i := 2) rfl)
theorem fx_1_6 {M : z_M} (h : z_fix M) : M 1 6 = 38 := h (1, 6, 38) (List.mem_of_getElem? (i := 3) rfl)
theorem fx_1_7 {M : z_M} (h : z_fix M) : M 1 7 = 47 := h (1, 7, 47) (List.mem_of_getElem? (i := 4) rfl)
theorem fx_1_8 {M : z_M} (h : z_fix M) : M 1 8 = 289 := h (1, 8, 289) (List.mem_of_getElem? (i := 5) rfl)
theorem fx_1_9 {M : z_M} (h : z_fix M) : M 1 9 = 294 := h (1, 9, 294) (List.mem_of_getElem? (i := 6) rfl)
theorem fx_1_10 {M : z_M} (h : z_fix M) : M 1 10 = 301 := h (1, 10, 301) (List.mem_of_getElem? (i := 7) rfl)
theorem fx_1_11 {M : z_M} (h : z_fix M) : M 1 11 = 302 := h (1, 11, 302) (List.mem_of_getElem? (i := 8) rfl)
theorem fx_30_0 {M : z_M} (h : z_fix M) : M 30 0 = 31 := h (30, 0, 31) (List.mem_of_getElem? (i := 14) rfl)
theorem fx_30_1 {M : z_M} (h : z_fix M) : M 30 1 = 32 := h (30, 1, 32) (List.mem_of_getElem? (i := 15) rfl)
theorem fx_33_0 {M : z_M} (h : z_fix M) : M 33 0 = 30 := h (33, 0, 30) (List.mem_of_getElem? (i := 16) rfl)
theorem fx_34_0 {M : z_M} (h : z_fix M) : M 34 0 = 35 := h (34, 0, 35) (List.mem_of_getElem? (i := 17) rfl)
theorem fx_34_1 {M : z_M} (h : z_fix M) : M 34 1 = 36 := h (34, 1, 36) (List.mem_of_getElem? (i := 18) rfl)
theorem fx_34_2 {M : z_M} (h : z_fix M) : M 34 2 = 37 := h (34, 2, 37) (List.mem_of_getElem? (i := 19) rfl)
theorem fx_38_0 {M : z_M} (h : z_fix M) : M 38 0 = 34 := h (38, 0, 34) (List.mem_of_getElem? (i := 20) rfl)
theorem fx_38_1 {M : z_M} (h : z_fix M) : M 38 1 = 39 := h (38, 1, 39) (List.mem_of_getElem? (i := 21) rfl)
theorem fx_38_2 {M : z_M} (h : z_fix M) : M 38 2 = 45 := h (38, 2, 45) (List.mem_of_getElem? (i := 22) rfl)
theorem fx_38_3 {M : z_M} (h : z_fix M) : M 38 3 = 46 := h (38, 3, 46) (List.mem_of_getElem? (i := 23) rfl)
theorem fx_39_0 {M : z_M} (h : z_fix M) : M 39 0 = 40 := h (39, 0, 40) (List.mem_of_getElem? (i := 24) rfl)
theorem fx_39_1 {M : z_M} (h : z_fix M) : M 39 1 = 41 := h (39, 1, 41) (List.mem_of_getElem? (i := 25) rfl)
theorem fx_39_2 {M : z_M} (h : z_fix M) : M 39 2 = 42 := h (39, 2, 42) (List.mem_of_getElem? (i := 26) rfl)
theorem fx_39_3 {M : z_M} (h : z_fix M) : M 39 3 = 43 := h (39, 3, 43) (List.mem_of_getElem? (i := 27) rfl)
theorem fx_39_4 {M : z_M} (h : z_fix M) : M 39 4 = 44 := h (39, 4, 44) (List.mem_of_getElem? (i := 28) rfl)
theorem fx_47_0 {M : z_M} (h : z_fix M) : M 47 0 = 48 := h (47, 0, 48) (List.mem_of_getElem? (i := 29) rfl)
theorem fx_289_0 {M : z_M} (h : z_fix M) : M 289 0 = 290 := h (289, 0, 290) (List.mem_of_getElem? (i := 230) rfl)
theorem fx_289_1 {M : z_M} (h : z_fix M) : M 289 1 = 291 := h (289, 1, 291) (List.mem_of_getElem? (i := 231) rfl)
theorem fx_289_2 {M : z_M} (h : z_fix M) : M 289 2 = 292 := h (289, 2, 292) (List.mem_of_getElem? (i := 232) rfl)
theorem fx_289_3 {M : z_M} (h : z_fix M) : M 289 3 = 293 := h (289, 3, 293) (List.mem_of_getElem? (i := 233) rfl)
theorem fx_294_0 {M : z_M} (h : z_fix M) : M 294 0 = 295 := h (294, 0, 295) (List.mem_of_getElem? (i := 234) rfl)
theorem fx_294_1 {M : z_M} (h : z_fix M) : M 294 1 = 296 := h (294, 1, 296) (List.mem_of_getElem? (i := 235) rfl)
theorem fx_294_2 {M : z_M} (h : z_fix M) : M 294 2 = 297 := h (294, 2, 297) (List.mem_of_getElem? (i := 236) rfl)
theorem fx_294_3 {M : z_M} (h : z_fix M) : M 294 3 = 298 := h (294, 3, 298) (List.mem_of_getElem? (i := 237) rfl)
theorem fx_294_4 {M : z_M} (h : z_fix M) : M 294 4 = 299 := h (294, 4, 299) (List.mem_of_getElem? (i := 238) rfl)
theorem fx_294_5 {M : z_M} (h : z_fix M) : M 294 5 = 300 := h (294, 5, 300) (List.mem_of_getElem? (i := 239) rfl)
theorem fx_301_0 {M : z_M} (h : z_fix M) : M 301 0 = 303 := h (301, 0, 303) (List.mem_of_getElem? (i := 240) rfl)
theorem fx_301_1 {M : z_M} (h : z_fix M) : M 301 1 = 309 := h (301, 1, 309) (List.mem_of_getElem? (i := 241) rfl)
theorem fx_301_2 {M : z_M} (h : z_fix M) : M 301 2 = 315 := h (301, 2, 315) (List.mem_of_getElem? (i := 242) rfl)
theorem fx_321_0 {M : z_M} (h : z_fix M) : M 321 0 = 322 := h (321, 0, 322) (List.mem_of_getElem? (i := 258) rfl)
theorem fx_321_10 {M : z_M} (h : z_fix M) : M 321 10 = 323 := h (321, 10, 323) (List.mem_of_getElem? (i := 259) rfl)
theorem fx_321_11 {M : z_M} (h : z_fix M) : M 321 11 = 324 := h (321, 11, 324) (List.mem_of_getElem? (i := 260) rfl)
theorem fx_321_12 {M : z_M} (h : z_fix M) : M 321 12 = 325 := h (321, 12, 325) (List.mem_of_getElem? (i := 261) rfl)
theorem fx_321_13 {M : z_M} (h : z_fix M) : M 321 13 = 326 := h (321, 13, 326) (List.mem_of_getElem? (i := 262) rfl)
theorem fx_321_14 {M : z_M} (h : z_fix M) : M 321 14 = 327 := h (321, 14, 327) (List.mem_of_getElem? (i := 263) rfl)
theorem fx_321_15 {M : z_M} (h : z_fix M) : M 321 15 = 328 := h (321, 15, 328) (List.mem_of_getElem? (i := 264) rfl)
theorem fx_321_16 {M : z_M} (h : z_fix M) : M 321 16 = 329 := h (321, 16, 329) (List.mem_of_getElem? (i := 265) rfl)
theorem fx_321_24 {M : z_M} (h : z_fix M) : M 321 24 = 330 := h (321, 24, 330) (List.mem_of_getElem? (i := 266) rfl)
theorem fx_321_25 {M : z_M} (h : z_fix M) : M 321 25 = 331 := h (321, 25, 331) (List.mem_of_getElem? (i := 267) rfl)
theorem fx_321_26 {M : z_M} (h : z_fix M) : M 321 26 = 332 := h (321, 26, 332) (List.mem_of_getElem? (i := 268) rfl)
theorem fx_321_27 {M : z_M} (h : z_fix M) : M 321 27 = 333 := h (321, 27, 333) (List.mem_of_getElem? (i := 269) rfl)
theorem fx_321_28 {M : z_M} (h : z_fix M) : M 321 28 = 334 := h (321, 28, 334) (List.mem_of_getElem? (i := 270) rfl)
theorem fx_321_29 {M : z_M} (h : z_fix M) : M 321 29 = 335 := h (321, 29, 335) (List.mem_of_getElem? (i := 271) rfl)
theorem fx_321_30 {M : z_M} (h : z_fix M) : M 321 30 = 336 := h (321, 30, 336) (List.mem_of_getElem? (i := 272) rfl)
theorem fx_321_31 {M : z_M} (h : z_fix M) : M 321 31 = 337 := h (321, 31, 337) (List.mem_of_getElem? (i := 273) rfl)
theorem fx_321_32 {M : z_M} (h : z_fix M) : M 321 32 = 338 := h (321, 32, 338) (List.mem_of_getElem? (i := 274) rfl)
theorem fx_321_33 {M : z_M} (h : z_fix M) : M 321 33 = 339 := h (321, 33, 339) (List.mem_of_getElem? (i := 275) rfl)
theorem fx_321_34 {M : z_M} (h : z_fix M) : M 321 34 = 340 := h (321, 34, 340) (List.mem_of_getElem? (i := 276) rfl)
theorem fx_321_35 {M : z_M} (h : z_fix M) : M 321 35 = 341 := h (321, 35, 341) (List.mem_of_getElem? (i := 277) rfl)
theorem fx_321_60 {M : z_M} (h : z_fix M) : M 321 60 = 342 := h (321, 60, 342) (List.mem_of_getElem? (i := 278) rfl)
theorem fx_321_61 {M : z_M} (h : z_fix M) : M 321 61 = 343 := h (321, 61, 343) (List.mem_of_getElem? (i := 279) rfl)
theorem fx_321_62 {M : z_M} (h : z_fix M) : M 321 62 = 344 := h (321, 62, 344) (List.mem_of_getElem? (i := 280) rfl)
theorem fx_321_63 {M : z_M} (h : z_fix M) : M 321 63 = 345 := h (321, 63, 345) (List.mem_of_getElem? (i := 281) rfl)
theorem fx_321_66 {M : z_M} (h : z_fix M) : M 321 66 = 346 := h (321, 66, 346) (List.mem_of_getElem? (i := 282) rfl)
theorem fx_321_67 {M : z_M} (h : z_fix M) : M 321 67 = 347 := h (321, 67, 347) (List.mem_of_getElem? (i := 283) rfl)
theorem fx_321_69 {M : z_M} (h : z_fix M) : M 321 69 = 348 := h (321, 69, 348) (List.mem_of_getElem? (i := 284) rfl)
theorem fx_321_70 {M : z_M} (h : z_fix M) : M 321 70 = 349 := h (321, 70, 349) (List.mem_of_getElem? (i := 285) rfl)
theorem fx_321_71 {M : z_M} (h : z_fix M) : M 321 71 = 350 := h (321, 71, 350) (List.mem_of_getElem? (i := 286) rfl)
theorem fx_321_72 {M : z_M} (h : z_fix M) : M 321 72 = 351 := h (321, 72, 351) (List.mem_of_getElem? (i := 287) rfl)
theorem fx_321_73 {M : z_M} (h : z_fix M) : M 321 73 = 352 := h (321, 73, 352) (List.mem_of_getElem? (i := 288) rfl)
theorem fx_321_74 {M : z_M} (h : z_fix M) : M 321 74 = 353 := h (321, 74, 353) (List.mem_of_getElem? (i := 289) rfl)
theorem fx_321_75 {M : z_M} (h : z_fix M) : M 321 75 = 354 := h (321, 75, 354) (List.mem_of_getElem? (i := 290) rfl)
theorem fx_321_78 {M : z_M} (h : z_fix M) : M 321 78 = 355 := h (321, 78, 355) (List.mem_of_getElem? (i := 291) rfl)
theorem fx_321_79 {M : z_M} (h : z_fix M) : M 321 79 = 356 := h (321, 79, 356) (List.mem_of_getElem? (i := 292) rfl)
theorem fx_321_80 {M : z_M} (h : z_fix M) : M 321 80 = 357 := h (321, 80, 357) (List.mem_of_getElem? (i := 293) rfl)
def z_gor (M : z_M) (g : Int) : Prop := (g = 2 ∨ g = 13) ∧ ∀ k : Int, 0 ≤ k → k < 10 → M g k = g + (k + 1)
def z_ish (h : Int) : Prop := h = 24 ∨ h = 39 ∨ (49 ≤ h ∧ h ≤ 283 ∧ (h - 49) % 6 = 0) ∨ (303 ≤ h ∧ h ≤ 315 ∧ (h - 303) % 6 = 0)
def z_her (M : z_M) (h : Int) : Prop := z_ish h ∧ ∀ k : Int, 0 ≤ k → k < 5 → M h k = h + (k + 1)
theorem z_gr {M : z_M} {g : Int} (h : z_gor M g) : g = 2 ∨ g = 13 := h.1
theorem z_hr {M : z_M} {h : Int} (q : z_her M h) : h = 24 ∨ h = 39 ∨ (49 ≤ h ∧ h ≤ 283 ∧ (h - 49) % 6 = 0) ∨ (303 ≤ h ∧ h ≤ 315 ∧ (h - 303) % 6 = 0) := q.1
theorem z_gf0 {M : z_M} {g : Int} (h : z_gor M g) : M g 0 = g + 1 := h.2 0 (by decide) (by decide)
theorem z_gf1 {M : z_M} {g : Int} (h : z_gor M g) : M g 1 = g + 2 := h.2 1 (by decide) (by decide)
theorem z_gf2 {M : z_M} {g : Int} (h : z_gor M g) : M g 2 = g + 3 := h.2 2 (by decide) (by decide)
theorem z_gf3 {M : z_M} {g : Int} (h : z_gor M g) : M g 3 = g + 4 := h.2 3 (by decide) (by decide)
theorem z_gf4 {M : z_M} {g : Int} (h : z_gor M g) : M g 4 = g + 5 := h.2 4 (by decide) (by decide)
theorem z_gf5 {M : z_M} {g : Int} (h : z_gor M g) : M g 5 = g + 6 := h.2 5 (by decide) (by decide)
theorem z_gf6 {M : z_M} {g : Int} (h : z_gor M g) : M g 6 = g + 7 := h.2 6 (by decide) (by decide)
theorem z_gf7 {M : z_M} {g : Int} (h : z_gor M g) : M g 7 = g + 8 := h.2 7 (by decide) (by decide)
theorem z_gf8 {M : z_M} {g : Int} (h : z_gor M g) : M g 8 = g + 9 := h.2 8 (by decide) (by decide)
theorem z_gf9 {M : z_M} {g : Int} (h : z_gor M g) : M g 9 = g + 10 := h.2 9 (by decide) (by decide)
theorem z_hf0 {M : z_M} {h : Int} (q : z_her M h) : M h 0 = h + 1 := q.2 0 (by decide) (by decide)
theorem z_hf1 {M : z_M} {h : Int} (q : z_her M h) : M h 1 = h + 2 := q.2 1 (by decide) (by decide)
theorem z_hf2 {M : z_M} {h : Int} (q : z_her M h) : M h 2 = h + 3 := q.2 2 (by decide) (by decide)
theorem z_hf3 {M : z_M} {h : Int} (q : z_her M h) : M h 3 = h + 4 := q.2 3 (by decide) (by decide)
theorem z_hf4 {M : z_M} {h : Int} (q : z_her M h) : M h 4 = h + 5 := q.2 4 (by decide) (by decide)
theorem z_gl0 {M : z_M} {g : Int} (h : z_gor M g) : z_lay z_LL (g) = some (6, 20) := by
  rcases h.1 with rfl | rfl <;> rfl
theorem z_gl1 {M : z_M} {g : Int} (h : z_gor M g) : z_lay z_LL (g + 1) = some (1, 6) := by
  rcases h.1 with rfl | rfl <;> rfl
theorem z_gl2 {M : z_M} {g : Int} (h : z_gor M g) : z_lay z_LL (g + 2) = some (0, 6) := by
  rcases h.1 with rfl | rfl <;> rfl
theorem z_gl3 {M : z_M} {g : Int} (h : z_gor M g) : z_lay z_LL (g + 3) = some (0, 6) := by
  rcases h.1 with rfl | rfl <;> rfl
theorem z_gl4 {M : z_M} {g : Int} (h : z_gor M g) : z_lay z_LL (g + 4) = some (0, 6) := by
  rcases h.1 with rfl | rfl <;> rfl
theorem z_gl5 {M : z_M} {g : Int} (h : z_gor M g) : z_lay z_LL (g + 5) = some (0, 6) := by
  rcases h.1 with rfl | rfl <;> rfl
theorem z_gl6 {M : z_M} {g : Int} (h : z_gor M g) : z_lay z_LL (g + 6) = some (0, 36) := by
  rcases h.1 with rfl | rfl <;> rfl
theorem z_gl7 {M : z_M} {g : Int} (h : z_gor M g) : z_lay z_LL (g + 7) = some (0, 25) := by
  rcases h.1 with rfl | rfl <;> rfl
theorem z_gl8 {M : z_M} {g : Int} (h : z_gor M g) : z_lay z_LL (g + 8) = some (0, 270) := by
  rcases h.1 with rfl | rfl <;> rfl
theorem z_gl9 {M : z_M} {g : Int} (h : z_gor M g) : z_lay z_LL (g + 9) = some (0, 100) := by
  rcases h.1 with rfl | rfl <;> rfl
theorem z_gl10 {M : z_M} {g : Int} (h : z_gor M g) : z_lay z_LL (g + 10) = some (0, 150) := by
  rcases h.1 with rfl | rfl <;> rfl
theorem z_ish_l {h : Int} (q : z_ish h) : ∃ n : Nat, n < 316 ∧ h = (n : Int) ∧ (n = 24 ∨ n = 39 ∨ (49 ≤ n ∧ n ≤ 283 ∧ (n - 49) % 6 = 0) ∨ (303 ≤ n ∧ n ≤ 315 ∧ (n - 303) % 6 = 0)) := by
  unfold z_ish at q
  refine ⟨h.toNat, by omega, by omega, by omega⟩
def z_hlb (n : Nat) : Bool := !(decide (n = 24) || decide (n = 39) || (decide (49 ≤ n) && decide (n ≤ 283) && decide ((n - 49) % 6 = 0)) || (decide (303 ≤ n) && decide (n ≤ 315) && decide ((n - 303) % 6 = 0))) || (decide (z_lay z_LL (n : Int) = some (7, 8)) && decide (z_lay z_LL ((n : Int) + 1) = some (0, 6)) && decide (z_lay z_LL ((n : Int) + 2) = some (0, 6)) && decide (z_lay z_LL ((n : Int) + 3) = some (0, 25)) && decide (z_lay z_LL ((n : Int) + 4) = some (0, 25)) && decide (z_lay z_LL ((n : Int) + 5) = some (0, 36)))
theorem z_hlb_all : (List.range 316).all z_hlb = true := by decide +kernel
theorem z_hl_all (n : Nat) (h : n < 316) (q : n = 24 ∨ n = 39 ∨ (49 ≤ n ∧ n ≤ 283 ∧ (n - 49) % 6 = 0) ∨ (303 ≤ n ∧ n ≤ 315 ∧ (n - 303) % 6 = 0)) : z_lay z_LL (n : Int) = some (7, 8) ∧ z_lay z_LL ((n : Int) + 1) = some (0, 6) ∧ z_lay z_LL ((n : Int) + 2) = some (0, 6) ∧ z_lay z_LL ((n : Int) + 3) = some (0, 25) ∧ z_lay z_LL ((n : Int) + 4) = some (0, 25) ∧ z_lay z_LL ((n : Int) + 5) = some (0, 36) := by
  have h1 := List.all_eq_true.mp z_hlb_all n (List.mem_range.mpr h)
  unfold z_hlb at h1
  simp only [Bool.or_eq_true, Bool.not_eq_true', Bool.and_eq_true, decide_eq_true_eq, Bool.or_eq_false_iff, Bool.and_eq_false_iff, decide_eq_false_iff_not] at h1
  rcases h1 with h1 | h1
  · exfalso
    omega
  · exact ⟨h1.1.1.1.1.1, h1.1.1.1.1.2, h1.1.1.1.2, h1.1.1.2, h1.1.2, h1.2⟩
theorem z_hl0 {M : z_M} {h : Int} (q : z_her M h) : z_lay z_LL (h) = some (7, 8) := by
  obtain ⟨n, h1, rfl, h2⟩ := z_ish_l q.1
  exact (z_hl_all n h1 h2).1
theorem z_hl1 {M : z_M} {h : Int} (q : z_her M h) : z_lay z_LL (h + 1) = some (0, 6) := by
  obtain ⟨n, h1, rfl, h2⟩ := z_ish_l q.1
  exact (z_hl_all n h1 h2).2.1
theorem z_hl2 {M : z_M} {h : Int} (q : z_her M h) : z_lay z_LL (h + 2) = some (0, 6) := by
  obtain ⟨n, h1, rfl, h2⟩ := z_ish_l q.1
  exact (z_hl_all n h1 h2).2.2.1
theorem z_hl3 {M : z_M} {h : Int} (q : z_her M h) : z_lay z_LL (h + 3) = some (0, 25) := by
  obtain ⟨n, h1, rfl, h2⟩ := z_ish_l q.1
  exact (z_hl_all n h1 h2).2.2.2.1
theorem z_hl4 {M : z_M} {h : Int} (q : z_her M h) : z_lay z_LL (h + 4) = some (0, 25) := by
  obtain ⟨n, h1, rfl, h2⟩ := z_ish_l q.1
  exact (z_hl_all n h1 h2).2.2.2.2.1
theorem z_hl5 {M : z_M} {h : Int} (q : z_her M h) : z_lay z_LL (h + 5) = some (0, 36) := by
  obtain ⟨n, h1, rfl, h2⟩ := z_ish_l q.1
  exact (z_hl_all n h1 h2).2.2.2.2.2
theorem z_cpq {M : z_M} {q0 s0 q1 s1 n a b x : Int} (h : ¬ a = q1) (k : M a b = x) : z_cpy M q0 s0 q1 s1 n a b = x := by
  unfold z_cpy
  rw [if_neg (fun c => h c.1)]
  exact k
theorem wp_reta {xs : List Int} {d : Nat} {μ : z_D} {pc : Nat} {ls : List z_V} {L : z_L} {M : z_M} {P : Option z_V → z_L → z_M → Prop} {c : z_C} {x : Int} (hat : z_at μ pc = some c) (hc : c.1 = .areturn ∧ μ.2.2.2.1 = 2) (h : 0 < x) (k : P (some (2, x)) L M) : wp xs d μ pc ls [(2, x)] L M P := by
  refine wp_ret (r := some (2, x)) hat ?_ k
  obtain ⟨i, n, a, b⟩ := c
  obtain ⟨h1, h2⟩ := hc
  dsimp only at h1
  subst h1
  unfold z_ret
  dsimp only
  rw [if_pos ⟨rfl, h2, h⟩]
