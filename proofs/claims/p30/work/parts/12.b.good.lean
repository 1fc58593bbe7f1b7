theorem goodIn_cons {big a : List Cond} {c : Cond} (hm : c ∈ big) (hg : goodWord c = true) (ha : GoodIn big a) : GoodIn big (c :: a) := fun w h => (List.mem_cons.mp h).elim (fun e => e ▸ ⟨hm, good_of_word hg⟩) (ha w)
set_option maxRecDepth 20000 in
theorem ggL_law_X4_init : GoodIn wsL_law wsX4_init := goodIn_r _ [6, 7, 8, 9, 10, 11, 12, 13, 14, 15, 16, 17, 18, 19, 20, 21, 22, 23, 24, 25, 26, 27, 28, 29, 3, 30, 31, 32, 33, 34, 35, 36, 37, 38, 39, 40, 41, 42, 43, 44, 45, 46, 47, 48, 49, 50, 51, 52, 53, 54, 55, 56, 57, 58, 59, 60, 61, 62, 63, 64, 65, 453, 454, 449, 450, 451, 452, 455, 456, 457, 458, 459, 460, 461, 462, 463] (by decide +kernel) (by decide +kernel)
set_option maxRecDepth 20000 in
theorem gL_law_X4_init : GoodIn wsL_law (wsX4_init) := ggL_law_X4_init
set_option maxRecDepth 20000 in
theorem ggL_law_L_flat : GoodIn wsL_law wsL_flat := goodIn_r _ [69] (by decide +kernel) (by decide +kernel)
set_option maxRecDepth 20000 in
theorem gL_law_L_flat : GoodIn wsL_law (va_wsS RL 123 yL_flat wsL_flat) := goodIn_app (goodIn_of _ (by decide +kernel)) ggL_law_L_flat
set_option maxRecDepth 20000 in
theorem ggL_law_L_cell : GoodIn wsL_law wsL_cell := goodIn_r _ [72, 73, 74] (by decide +kernel) (by decide +kernel)
set_option maxRecDepth 20000 in
theorem gL_law_L_cell : GoodIn wsL_law (va_wsS RL 176 yL_cell wsL_cell) := goodIn_app (goodIn_of _ (by decide +kernel)) ggL_law_L_cell
set_option maxRecDepth 20000 in
theorem ggL_law_L_some : GoodIn wsL_law wsL_some := goodIn_r _ [77] (by decide +kernel) (by decide +kernel)
set_option maxRecDepth 20000 in
theorem gL_law_L_some : GoodIn wsL_law (va_wsS RL 109 yL_some wsL_some) := goodIn_app (goodIn_of _ (by decide +kernel)) ggL_law_L_some
set_option maxRecDepth 20000 in
theorem gr_L_acts_r1 : GoodIn wsL_law wsL_acts_r1 := goodIn_r _ [81, 82, 83, 84, 85, 75, 76, 68, 77, 86, 87, 88, 89, 90, 91, 92, 93, 94, 2, 95, 96, 97, 98, 99] (by decide +kernel) (by decide +kernel)
set_option maxRecDepth 20000 in
theorem gr_L_acts_r2 : GoodIn wsL_law wsL_acts_r2 := goodIn_r _ [100, 101, 13, 102, 103, 104, 12, 105, 31, 106, 107, 108, 109, 110, 111, 112, 30, 113, 114, 115, 116, 117, 118, 119] (by decide +kernel) (by decide +kernel)
set_option maxRecDepth 20000 in
theorem gr_L_acts_r3 : GoodIn wsL_law wsL_acts_r3 := goodIn_r _ [120, 17, 121, 122, 123, 124, 125, 126, 16, 127, 36, 128, 129, 130, 131, 132, 133, 134, 135, 136, 137, 138, 139, 140] (by decide +kernel) (by decide +kernel)
set_option maxRecDepth 20000 in
theorem gr_L_acts_r4 : GoodIn wsL_law wsL_acts_r4 := goodIn_r _ [141, 142, 143, 144, 145, 146, 147, 148, 149, 150, 151, 152, 153, 154, 155, 156, 157, 158, 159, 160, 161, 162, 163, 164] (by decide +kernel) (by decide +kernel)
set_option maxRecDepth 20000 in
theorem gr_L_acts_r5 : GoodIn wsL_law wsL_acts_r5 := goodIn_r _ [165, 166, 167, 168, 169, 170, 171, 172, 173, 174, 175, 176, 177, 178, 179, 180, 181, 182, 183, 184, 21, 185, 186, 187] (by decide +kernel) (by decide +kernel)
set_option maxRecDepth 20000 in
theorem gr_L_acts_r6 : GoodIn wsL_law wsL_acts_r6 := goodIn_r _ [20, 188, 41, 189, 190, 191, 192, 193, 194, 195, 196, 197, 198, 199, 200, 201, 202, 203, 204, 205, 206, 207, 208, 25] (by decide +kernel) (by decide +kernel)
set_option maxRecDepth 20000 in
theorem gr_L_acts_r7 : GoodIn wsL_law wsL_acts_r7 := goodIn_r _ [209, 210, 211, 24, 212, 55, 213, 214, 215, 216, 56, 217, 218, 219, 220, 221, 222, 223, 224, 225, 66, 67, 69, 226] (by decide +kernel) (by decide +kernel)
set_option maxRecDepth 20000 in
theorem gr_L_acts_r8 : GoodIn wsL_law wsL_acts_r8 := goodIn_r _ [227, 228, 229, 230, 231, 232, 233, 52, 53, 54, 57, 58, 59, 60, 46, 47, 48, 50, 61, 62, 63, 64, 65, 234] (by decide +kernel) (by decide +kernel)
set_option maxRecDepth 20000 in
theorem gr_L_acts_r9 : GoodIn wsL_law wsL_acts_r9 := goodIn_r _ [235, 236, 237, 238, 239, 240, 241, 242, 243, 244, 245, 246, 247, 248, 249, 250, 251, 252, 253, 254, 255, 256, 257, 258] (by decide +kernel) (by decide +kernel)
set_option maxRecDepth 20000 in
theorem gr_L_acts_r10 : GoodIn wsL_law wsL_acts_r10 := goodIn_r _ [259, 260, 261, 262, 263, 264, 265, 266, 267, 268, 269, 270, 271, 272, 273, 274, 275, 276, 277, 278, 279] (by decide +kernel) (by decide +kernel)
set_option maxRecDepth 20000 in
theorem ggL_law_L_acts : GoodIn wsL_law wsL_acts := goodIn_cons (List.mem_append_left _ (List.mem_append_left _ (List.mem_append_left _ (List.mem_append_left _ (List.mem_append_left _ (List.mem_append_left _ (List.mem_append_left _ (List.mem_append_left _ (List.mem_append_left _ (List.mem_append_right _ (List.mem_append_right _ (List.mem_append_right _ (List.mem_append_left _ (List.mem_of_getElem? (i := 8) rfl)))))))))))))) rfl (goodIn_app (goodIn_app (goodIn_app (goodIn_app (goodIn_app (goodIn_app (goodIn_app (goodIn_app (goodIn_app gr_L_acts_r1 (goodIn_app gr_L_acts_r2 (goodIn_app gr_L_acts_r3 (goodIn_app gr_L_acts_r4 (goodIn_app gr_L_acts_r5 (goodIn_app gr_L_acts_r6 (goodIn_app gr_L_acts_r7 (goodIn_app gr_L_acts_r8 (goodIn_app gr_L_acts_r9 gr_L_acts_r10))))))))) (goodIn_sub inlX4 (by decide +kernel))) (goodIn_sub inlX2 (by decide +kernel))) (goodIn_sub inlX0 (by decide +kernel))) (goodIn_sub inlX3 (by decide +kernel))) (goodIn_sub inlX1 (by decide +kernel))) (goodIn_sub (fun _ h => List.mem_append_left _ (List.mem_append_left _ (List.mem_append_right _ h))) (by decide +kernel))) (goodIn_sub (fun _ h => List.mem_append_left _ (List.mem_append_right _ h)) (by decide +kernel))) (goodIn_sub (fun _ h => List.mem_append_right _ h) (by decide +kernel)))
set_option maxRecDepth 20000 in
theorem gL_law_L_acts : GoodIn wsL_law (va_wsS RL 179 yL_acts wsL_acts) := goodIn_app (goodIn_of _ (by decide +kernel)) ggL_law_L_acts
set_option maxRecDepth 20000 in
theorem gr_L_maps_r1 : GoodIn wsL_law wsL_maps_r1 := goodIn_r _ [81, 283, 284, 285, 286, 287, 75, 76, 68, 77, 132, 133, 134, 90, 135, 136, 137, 2, 138, 13, 139, 140, 141, 98] (by decide +kernel) (by decide +kernel)
set_option maxRecDepth 20000 in
theorem gr_L_maps_r2 : GoodIn wsL_law wsL_maps_r2 := goodIn_r _ [99, 142, 143, 144, 145, 146, 147, 12, 148, 30, 149, 150, 151, 152, 153, 154, 155, 106, 107, 108, 156, 157, 158, 159] (by decide +kernel) (by decide +kernel)
set_option maxRecDepth 20000 in
theorem gr_L_maps_r3 : GoodIn wsL_law wsL_maps_r3 := goodIn_r _ [160, 161, 162, 163, 31, 164, 165, 166, 167, 168, 169, 170, 171, 172, 173, 174, 175, 176, 177, 178, 179, 180, 181, 182] (by decide +kernel) (by decide +kernel)
set_option maxRecDepth 20000 in
theorem gr_L_maps_r4 : GoodIn wsL_law wsL_maps_r4 := goodIn_r _ [183, 184, 21, 185, 186, 187, 20, 188, 41, 189, 190, 191, 192, 193, 194, 195, 196, 197, 198, 199, 200, 201, 202, 203] (by decide +kernel) (by decide +kernel)
set_option maxRecDepth 20000 in
theorem gr_L_maps_r5 : GoodIn wsL_law wsL_maps_r5 := goodIn_r _ [204, 205, 206, 207, 208, 25, 209, 210, 211, 24, 212, 55, 213, 214, 215, 216, 56, 217, 218, 219, 220, 221, 222, 223] (by decide +kernel) (by decide +kernel)
set_option maxRecDepth 20000 in
theorem gr_L_maps_r6 : GoodIn wsL_law wsL_maps_r6 := goodIn_r _ [224, 225, 288, 289, 290, 291, 292, 293, 294, 295, 296, 297, 298, 299, 91, 300, 301, 302, 303, 100, 101, 304, 305, 306] (by decide +kernel) (by decide +kernel)
set_option maxRecDepth 20000 in
theorem gr_L_maps_r7 : GoodIn wsL_law wsL_maps_r7 := goodIn_r _ [307, 308, 309, 310, 311, 312, 313, 314, 315, 316, 317, 318, 319, 320, 321, 322, 323, 324, 325, 326, 327, 328, 329, 330] (by decide +kernel) (by decide +kernel)
set_option maxRecDepth 20000 in
theorem gr_L_maps_r8 : GoodIn wsL_law wsL_maps_r8 := goodIn_r _ [331, 332, 333, 334] (by decide +kernel) (by decide +kernel)
set_option maxRecDepth 20000 in
theorem ggL_law_L_maps : GoodIn wsL_law wsL_maps := goodIn_cons (List.mem_append_left _ (List.mem_append_left _ (List.mem_append_left _ (List.mem_append_left _ (List.mem_append_left _ (List.mem_append_left _ (List.mem_append_left _ (List.mem_append_left _ (List.mem_append_left _ (List.mem_append_right _ (List.mem_append_right _ (List.mem_append_right _ (List.mem_append_right _ (List.mem_append_right _ (List.mem_append_right _ (List.mem_append_right _ (List.mem_append_right _ (List.mem_append_right _ (List.mem_append_right _ (List.mem_append_right _ (List.mem_append_left _ (List.mem_of_getElem? (i := 18) rfl)))))))))))))))))))))) rfl (goodIn_app (goodIn_app (goodIn_app (goodIn_app (goodIn_app (goodIn_app (goodIn_app gr_L_maps_r1 (goodIn_app gr_L_maps_r2 (goodIn_app gr_L_maps_r3 (goodIn_app gr_L_maps_r4 (goodIn_app gr_L_maps_r5 (goodIn_app gr_L_maps_r6 (goodIn_app gr_L_maps_r7 gr_L_maps_r8))))))) (goodIn_sub inlX4 (by decide +kernel))) (goodIn_sub inlX2 (by decide +kernel))) (goodIn_sub inlX3 (by decide +kernel))) (goodIn_sub inlX1 (by decide +kernel))) (goodIn_sub (fun _ h => List.mem_append_left _ (List.mem_append_right _ h)) (by decide +kernel))) (goodIn_sub (fun _ h => List.mem_append_right _ h) (by decide +kernel)))
set_option maxRecDepth 20000 in
theorem gL_law_L_maps : GoodIn wsL_law (va_wsS RL 183 yL_maps wsL_maps) := goodIn_app (goodIn_of _ (by decide +kernel)) ggL_law_L_maps
set_option maxRecDepth 20000 in
theorem gr_L_rings_r1 : GoodIn wsL_law wsL_rings_r1 := goodIn_r _ [81, 75, 76, 68, 77, 132, 133, 134, 90, 135, 136, 137, 2, 138, 13, 139, 140, 141, 98, 99, 142, 143, 144, 145] (by decide +kernel) (by decide +kernel)
set_option maxRecDepth 20000 in
theorem gr_L_rings_r2 : GoodIn wsL_law wsL_rings_r2 := goodIn_r _ [146, 147, 12, 148, 30, 149, 150, 151, 152, 153, 154, 155, 106, 107, 108, 156, 157, 158, 159, 160, 161, 162, 163, 31] (by decide +kernel) (by decide +kernel)
set_option maxRecDepth 20000 in
theorem gr_L_rings_r3 : GoodIn wsL_law wsL_rings_r3 := goodIn_r _ [164, 165, 166, 167, 168, 169, 170, 171, 172, 173, 174, 175, 176, 177, 178, 179, 180, 181, 182, 183, 184, 21, 185, 186] (by decide +kernel) (by decide +kernel)
set_option maxRecDepth 20000 in
theorem gr_L_rings_r4 : GoodIn wsL_law wsL_rings_r4 := goodIn_r _ [187, 20, 188, 41, 189, 190, 191, 192, 193, 194, 195, 196, 197, 198, 199, 200, 201, 202, 203, 204, 205, 206, 207, 208] (by decide +kernel) (by decide +kernel)
set_option maxRecDepth 20000 in
theorem gr_L_rings_r5 : GoodIn wsL_law wsL_rings_r5 := goodIn_r _ [25, 209, 210, 211, 24, 212, 55, 213, 214, 215, 216, 56, 217, 218, 219, 220, 221, 222, 223, 224, 225, 288, 289, 290] (by decide +kernel) (by decide +kernel)
set_option maxRecDepth 20000 in
theorem gr_L_rings_r6 : GoodIn wsL_law wsL_rings_r6 := goodIn_r _ [291, 292, 293] (by decide +kernel) (by decide +kernel)
set_option maxRecDepth 20000 in
theorem ggL_law_L_rings : GoodIn wsL_law wsL_rings := goodIn_cons (List.mem_append_left _ (List.mem_append_left _ (List.mem_append_left _ (List.mem_append_left _ (List.mem_append_left _ (List.mem_append_left _ (List.mem_append_left _ (List.mem_append_left _ (List.mem_append_left _ (List.mem_append_right _ (List.mem_append_right _ (List.mem_append_right _ (List.mem_append_right _ (List.mem_append_right _ (List.mem_append_right _ (List.mem_append_right _ (List.mem_append_right _ (List.mem_append_right _ (List.mem_append_right _ (List.mem_append_right _ (List.mem_append_right _ (List.mem_append_right _ (List.mem_append_right _ (List.mem_append_left _ (List.mem_of_getElem? (i := 1) rfl))))))))))))))))))))))))) rfl (goodIn_app (goodIn_app (goodIn_app (goodIn_app (goodIn_app (goodIn_app gr_L_rings_r1 (goodIn_app gr_L_rings_r2 (goodIn_app gr_L_rings_r3 (goodIn_app gr_L_rings_r4 (goodIn_app gr_L_rings_r5 gr_L_rings_r6))))) (goodIn_sub inlX4 (by decide +kernel))) (goodIn_sub inlX2 (by decide +kernel))) (goodIn_sub inlX3 (by decide +kernel))) (goodIn_sub inlX1 (by decide +kernel))) (goodIn_sub (fun _ h => List.mem_append_left _ (List.mem_append_right _ h)) (by decide +kernel)))
set_option maxRecDepth 20000 in
theorem gL_law_L_rings : GoodIn wsL_law (va_wsS RL 187 yL_rings wsL_rings) := goodIn_app (goodIn_of _ (by decide +kernel)) ggL_law_L_rings
set_option maxRecDepth 20000 in
theorem gr_L_sheets_r1 : GoodIn wsL_law wsL_sheets_r1 := goodIn_r _ [81, 341, 342, 68, 343, 89, 344, 345, 346, 2, 347, 25, 348, 349, 350, 351, 96, 97, 352, 353, 354, 24, 355, 55] (by decide +kernel) (by decide +kernel)
set_option maxRecDepth 20000 in
theorem gr_L_sheets_r2 : GoodIn wsL_law wsL_sheets_r2 := goodIn_r _ [56, 356, 357, 358, 359, 46, 360, 62, 63, 64, 65, 361, 362, 363, 364, 365, 366, 367, 368, 47, 369, 370, 371, 372] (by decide +kernel) (by decide +kernel)
set_option maxRecDepth 20000 in
theorem gr_L_sheets_r3 : GoodIn wsL_law wsL_sheets_r3 := goodIn_r _ [373, 374, 375, 376, 377, 378, 379, 380, 48, 258, 259, 260, 261, 381, 382, 383, 384, 385, 386, 387, 388, 50, 75, 76] (by decide +kernel) (by decide +kernel)
set_option maxRecDepth 20000 in
theorem gr_L_sheets_r4 : GoodIn wsL_law wsL_sheets_r4 := goodIn_r _ [77, 389, 390, 391, 392, 393, 394, 395, 396, 266, 267, 151, 268, 397, 398, 399, 400, 401, 402, 403, 404, 132, 133, 134] (by decide +kernel) (by decide +kernel)
set_option maxRecDepth 20000 in
theorem gr_L_sheets_r5 : GoodIn wsL_law wsL_sheets_r5 := goodIn_r _ [90, 135, 136, 137, 138, 13, 139, 140, 141, 98, 99, 142, 143, 144, 145, 146, 147, 12, 148, 30, 149, 150, 152, 153] (by decide +kernel) (by decide +kernel)
set_option maxRecDepth 20000 in
theorem gr_L_sheets_r6 : GoodIn wsL_law wsL_sheets_r6 := goodIn_r _ [154, 155, 106, 107, 108, 156, 157, 158, 159, 160, 161, 162, 163, 31, 164, 165, 166, 167, 168, 169, 170, 171, 172, 173] (by decide +kernel) (by decide +kernel)
set_option maxRecDepth 20000 in
theorem gr_L_sheets_r7 : GoodIn wsL_law wsL_sheets_r7 := goodIn_r _ [174, 175, 176, 177, 178, 179, 180, 181, 182, 183, 184, 21, 185, 186, 187, 20, 188, 41, 189, 190, 191, 192, 193, 194] (by decide +kernel) (by decide +kernel)
set_option maxRecDepth 20000 in
theorem gr_L_sheets_r8 : GoodIn wsL_law wsL_sheets_r8 := goodIn_r _ [195, 196, 197, 198, 199, 200, 201, 202, 203, 204, 205, 206, 207, 208, 209, 210, 211, 212, 213, 214, 215, 216, 217, 218] (by decide +kernel) (by decide +kernel)
set_option maxRecDepth 20000 in
theorem gr_L_sheets_r9 : GoodIn wsL_law wsL_sheets_r9 := goodIn_r _ [219, 220, 221, 222, 223, 224, 225] (by decide +kernel) (by decide +kernel)
set_option maxRecDepth 20000 in
theorem ggL_law_L_sheets : GoodIn wsL_law wsL_sheets := goodIn_cons (List.mem_append_left _ (List.mem_append_left _ (List.mem_append_left _ (List.mem_append_left _ (List.mem_append_left _ (List.mem_append_left _ (List.mem_append_left _ (List.mem_append_left _ (List.mem_append_left _ (List.mem_append_right _ (List.mem_append_right _ (List.mem_append_right _ (List.mem_append_right _ (List.mem_append_right _ (List.mem_append_right _ (List.mem_append_right _ (List.mem_append_right _ (List.mem_append_right _ (List.mem_append_right _ (List.mem_append_right _ (List.mem_append_right _ (List.mem_append_right _ (List.mem_append_right _ (List.mem_append_left _ (List.mem_of_getElem? (i := 4) rfl))))))))))))))))))))))))) rfl (goodIn_app (goodIn_app (goodIn_app (goodIn_app (goodIn_app (goodIn_app (goodIn_app gr_L_sheets_r1 (goodIn_app gr_L_sheets_r2 (goodIn_app gr_L_sheets_r3 (goodIn_app gr_L_sheets_r4 (goodIn_app gr_L_sheets_r5 (goodIn_app gr_L_sheets_r6 (goodIn_app gr_L_sheets_r7 (goodIn_app gr_L_sheets_r8 gr_L_sheets_r9)))))))) (goodIn_sub inlX4 (by decide +kernel))) (goodIn_sub inlX1 (by decide +kernel))) (goodIn_sub inlX2 (by decide +kernel))) (goodIn_sub inlX3 (by decide +kernel))) (goodIn_sub (fun _ h => List.mem_append_left _ (List.mem_append_left _ (List.mem_append_right _ h))) (by decide +kernel))) (goodIn_sub (fun _ h => List.mem_append_left _ (List.mem_append_right _ h)) (by decide +kernel)))
set_option maxRecDepth 20000 in
theorem gL_law_L_sheets : GoodIn wsL_law (va_wsS RL 190 yL_sheets wsL_sheets) := goodIn_app (goodIn_of _ (by decide +kernel)) ggL_law_L_sheets
set_option maxRecDepth 20000 in
theorem gr_L_bands_r1 : GoodIn wsL_law wsL_bands_r1 := goodIn_r _ [408, 311, 312, 68, 313, 294, 295, 296, 291, 292, 293, 288, 289, 290, 409, 410, 411, 89, 412, 413, 414, 2, 415, 17] (by decide +kernel) (by decide +kernel)
set_option maxRecDepth 20000 in
theorem gr_L_bands_r2 : GoodIn wsL_law wsL_bands_r2 := goodIn_r _ [13, 121, 122, 123, 96, 97, 416, 417, 418, 16, 419, 420, 421, 422, 12, 423, 30, 31, 424, 106, 107, 108, 128, 129] (by decide +kernel) (by decide +kernel)
set_option maxRecDepth 20000 in
theorem gr_L_bands_r3 : GoodIn wsL_law wsL_bands_r3 := goodIn_r _ [130, 131, 36, 425, 426, 427, 428, 429, 430, 431, 432, 433, 434, 435, 436, 437, 438, 439, 440, 441, 442, 443, 444, 445] (by decide +kernel) (by decide +kernel)
set_option maxRecDepth 20000 in
theorem gr_L_bands_r4 : GoodIn wsL_law wsL_bands_r4 := goodIn_r _ [446, 447, 448] (by decide +kernel) (by decide +kernel)
set_option maxRecDepth 20000 in
theorem ggL_law_L_bands : GoodIn wsL_law wsL_bands := goodIn_cons (List.mem_append_left _ (List.mem_append_left _ (List.mem_append_left _ (List.mem_append_left _ (List.mem_append_left _ (List.mem_append_left _ (List.mem_append_left _ (List.mem_append_left _ (List.mem_append_left _ (List.mem_append_right _ (List.mem_append_right _ (List.mem_append_right _ (List.mem_append_right _ (List.mem_append_right _ (List.mem_append_right _ (List.mem_append_right _ (List.mem_append_right _ (List.mem_append_right _ (List.mem_append_right _ (List.mem_append_right _ (List.mem_append_right _ (List.mem_append_right _ (List.mem_append_right _ (List.mem_append_right _ (List.mem_append_right _ (List.mem_append_left _ (List.mem_of_getElem? (i := 23) rfl))))))))))))))))))))))))))) rfl (goodIn_app (goodIn_app (goodIn_app (goodIn_app (goodIn_app gr_L_bands_r1 (goodIn_app gr_L_bands_r2 (goodIn_app gr_L_bands_r3 gr_L_bands_r4))) (goodIn_sub inlX4 (by decide +kernel))) (goodIn_sub inlX2 (by decide +kernel))) (goodIn_sub inlX0 (by decide +kernel))) (goodIn_sub (fun _ h => List.mem_append_left _ (List.mem_append_left _ (List.mem_append_right _ h))) (by decide +kernel)))
set_option maxRecDepth 20000 in
theorem gL_law_L_bands : GoodIn wsL_law (va_wsS RL 194 yL_bands wsL_bands) := goodIn_app (goodIn_of _ (by decide +kernel)) ggL_law_L_bands
