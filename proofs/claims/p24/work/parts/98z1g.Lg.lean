/-! the words of the law are good, once for all -/
theorem gw_app {a b : List Cond} (ha : ∀ w, w ∈ a → goodWord w = true) (hb : ∀ w, w ∈ b → goodWord w = true) : ∀ w, w ∈ a ++ b → goodWord w = true := fun w h => (List.mem_append.mp h).elim (ha w) (hb w)
theorem gw_of {a : List Cond} (h : a.all goodWord = true) : ∀ w, w ∈ a → goodWord w = true := fun w hw => List.all_eq_true.mp h w hw
set_option maxRecDepth 20000 in
theorem gw_wsL_law_r1 : ∀ w, w ∈ wsL_law_r1 → goodWord w = true := gw_of (by decide +kernel)
set_option maxRecDepth 20000 in
theorem gw_wsL_law_r2 : ∀ w, w ∈ wsL_law_r2 → goodWord w = true := gw_of (by decide +kernel)
set_option maxRecDepth 20000 in
theorem gw_wsL_law_r3 : ∀ w, w ∈ wsL_law_r3 → goodWord w = true := gw_of (by decide +kernel)
set_option maxRecDepth 20000 in
theorem gw_wsL_law_r4 : ∀ w, w ∈ wsL_law_r4 → goodWord w = true := gw_of (by decide +kernel)
set_option maxRecDepth 20000 in
theorem gw_wsL_law_r5 : ∀ w, w ∈ wsL_law_r5 → goodWord w = true := gw_of (by decide +kernel)
set_option maxRecDepth 20000 in
theorem gw_wsL_law_r6 : ∀ w, w ∈ wsL_law_r6 → goodWord w = true := gw_of (by decide +kernel)
set_option maxRecDepth 20000 in
theorem gw_wsL_law_r7 : ∀ w, w ∈ wsL_law_r7 → goodWord w = true := gw_of (by decide +kernel)
set_option maxRecDepth 20000 in
theorem gw_wsL_law_r8 : ∀ w, w ∈ wsL_law_r8 → goodWord w = true := gw_of (by decide +kernel)
set_option maxRecDepth 20000 in
theorem gw_wsL_law_r9 : ∀ w, w ∈ wsL_law_r9 → goodWord w = true := gw_of (by decide +kernel)
set_option maxRecDepth 20000 in
theorem gw_wsL_law_r10 : ∀ w, w ∈ wsL_law_r10 → goodWord w = true := gw_of (by decide +kernel)
set_option maxRecDepth 20000 in
theorem gw_wsL_law_r11 : ∀ w, w ∈ wsL_law_r11 → goodWord w = true := gw_of (by decide +kernel)
set_option maxRecDepth 20000 in
theorem gw_wsL_law_r12 : ∀ w, w ∈ wsL_law_r12 → goodWord w = true := gw_of (by decide +kernel)
set_option maxRecDepth 20000 in
theorem gw_wsL_law_r13 : ∀ w, w ∈ wsL_law_r13 → goodWord w = true := gw_of (by decide +kernel)
set_option maxRecDepth 20000 in
theorem gw_wsL_law_r14 : ∀ w, w ∈ wsL_law_r14 → goodWord w = true := gw_of (by decide +kernel)
set_option maxRecDepth 20000 in
theorem gw_wsL_law_r15 : ∀ w, w ∈ wsL_law_r15 → goodWord w = true := gw_of (by decide +kernel)
set_option maxRecDepth 20000 in
theorem gw_wsL_law_r16 : ∀ w, w ∈ wsL_law_r16 → goodWord w = true := gw_of (by decide +kernel)
set_option maxRecDepth 20000 in
theorem gw_wsL_law_r17 : ∀ w, w ∈ wsL_law_r17 → goodWord w = true := gw_of (by decide +kernel)
set_option maxRecDepth 20000 in
theorem gw_wsL_law_r18 : ∀ w, w ∈ wsL_law_r18 → goodWord w = true := gw_of (by decide +kernel)
set_option maxRecDepth 20000 in
theorem gw_wsL_law_r19 : ∀ w, w ∈ wsL_law_r19 → goodWord w = true := gw_of (by decide +kernel)
set_option maxRecDepth 20000 in
theorem gw_wsL_law_r20 : ∀ w, w ∈ wsL_law_r20 → goodWord w = true := gw_of (by decide +kernel)
set_option maxRecDepth 20000 in
theorem gw_wsL_law_r21 : ∀ w, w ∈ wsL_law_r21 → goodWord w = true := gw_of (by decide +kernel)
set_option maxRecDepth 20000 in
theorem gw_wsX70 : ∀ w, w ∈ wsX70 → goodWord w = true := gw_of (by decide +kernel)
set_option maxRecDepth 20000 in
theorem gw_wsX00 : ∀ w, w ∈ wsX00 → goodWord w = true := gw_of (by decide +kernel)
set_option maxRecDepth 20000 in
theorem gw_wsX30 : ∀ w, w ∈ wsX30 → goodWord w = true := gw_of (by decide +kernel)
set_option maxRecDepth 20000 in
theorem gw_wsX40 : ∀ w, w ∈ wsX40 → goodWord w = true := gw_of (by decide +kernel)
set_option maxRecDepth 20000 in
theorem gw_wsX20 : ∀ w, w ∈ wsX20 → goodWord w = true := gw_of (by decide +kernel)
set_option maxRecDepth 20000 in
theorem gw_wsX60 : ∀ w, w ∈ wsX60 → goodWord w = true := gw_of (by decide +kernel)
set_option maxRecDepth 20000 in
theorem gw_wsX50 : ∀ w, w ∈ wsX50 → goodWord w = true := gw_of (by decide +kernel)
set_option maxRecDepth 20000 in
theorem gw_wsX10 : ∀ w, w ∈ wsX10 → goodWord w = true := gw_of (by decide +kernel)
theorem gw_law : ∀ w, w ∈ wsL_law → goodWord w = true := gw_app (gw_app (gw_app (gw_app (gw_app (gw_app (gw_app (gw_app (gw_app (gw_app gw_wsL_law_r1 (gw_app gw_wsL_law_r2 (gw_app gw_wsL_law_r3 (gw_app gw_wsL_law_r4 (gw_app gw_wsL_law_r5 (gw_app gw_wsL_law_r6 (gw_app gw_wsL_law_r7 (gw_app gw_wsL_law_r8 (gw_app gw_wsL_law_r9 (gw_app gw_wsL_law_r10 (gw_app gw_wsL_law_r11 (gw_app gw_wsL_law_r12 (gw_app gw_wsL_law_r13 (gw_app gw_wsL_law_r14 (gw_app gw_wsL_law_r15 (gw_app gw_wsL_law_r16 (gw_app gw_wsL_law_r17 (gw_app gw_wsL_law_r18 (gw_app gw_wsL_law_r19 (gw_app gw_wsL_law_r20 (gw_wsL_law_r21))))))))))))))))))))) gw_wsX70) gw_wsX00) gw_wsX30) gw_wsX40) gw_wsX20) gw_wsX60) gw_wsX50) gw_wsX10) (fun w h => by cases h)
theorem goodIn_m (ws : List Cond) (ps : List Nat) (hp : ws = ps.filterMap (fun i => wsL_law[i]?)) : GoodIn wsL_law ws := by
  intro w hw
  rw [hp] at hw
  obtain ⟨i, -, hi⟩ := List.mem_filterMap.mp hw
  have hm : w ∈ wsL_law := by first | exact List.mem_of_getElem? hi | exact List.getElem?_mem hi
  exact ⟨hm, good_of_word (gw_law w hm)⟩
set_option maxRecDepth 20000 in
theorem ggL_law_X7_init : GoodIn wsL_law wsX7_init := goodIn_m _ [5, 6, 7, 8, 9, 10, 11, 12, 13, 14, 15, 16, 17, 18, 19, 20, 21, 22, 23, 24, 25, 26, 27, 28, 29, 30, 31, 32, 33, 34, 35, 36, 37, 38, 39, 40, 41, 42, 43, 44, 45, 46, 47, 48, 49, 50, 51, 52, 53, 54, 55, 56, 57, 58, 59, 60, 61, 62, 63, 64, 65, 66, 67, 68, 69, 70, 71, 72, 73, 74, 75, 76, 77, 78, 79, 80, 81, 82, 83, 84, 85, 86, 87, 88, 89, 90, 91, 92, 93, 94, 95, 96, 97, 98, 99, 100, 101, 102, 103, 104, 498, 499, 500, 501, 502, 503, 504, 505, 506, 507, 508, 492, 493, 494, 495, 496, 497, 509, 510, 511, 512, 513, 514, 515, 516, 517, 518, 519, 520, 521, 522, 523, 524, 525, 526, 527, 528, 529, 530, 531, 532, 533, 534, 535] rfl
set_option maxRecDepth 20000 in
theorem gL_law_X7_init : GoodIn wsL_law (wsX7_init) := ggL_law_X7_init
set_option maxRecDepth 20000 in
theorem ggL_law_L_cell : GoodIn wsL_law wsL_cell := goodIn_m _ [108, 109, 110] rfl
set_option maxRecDepth 20000 in
theorem gL_law_L_cell : GoodIn wsL_law (va_wsS RL 27 yL_cell wsL_cell) := goodIn_app (goodIn_of _ (by decide +kernel)) ggL_law_L_cell
set_option maxRecDepth 20000 in
theorem ggL_law_L_low : GoodIn wsL_law wsL_low := goodIn_m _ [113, 114] rfl
set_option maxRecDepth 20000 in
theorem gL_law_L_low : GoodIn wsL_law (va_wsS RL 33 yL_low wsL_low) := goodIn_app (goodIn_of _ (by decide +kernel)) ggL_law_L_low
set_option maxRecDepth 20000 in
theorem ggL_law_L_before : GoodIn wsL_law wsL_before := goodIn_m _ [117, 118, 119, 120, 2, 121, 12, 24, 122, 23, 123, 124, 102, 125, 126, 127, 128, 129, 130, 131, 28, 132, 133, 62, 63, 57, 134, 135, 136, 137, 138, 139, 59, 60, 61, 64, 65, 66, 67, 111, 112, 107, 113, 114, 140, 141, 142, 143, 144, 145, 146, 147, 148, 149, 150, 151, 152, 153, 154, 155, 156, 157, 158, 11, 159, 160, 36, 161, 162, 163, 164, 165, 40, 166, 39, 167, 168, 169, 73, 170, 171, 172, 173, 174, 175, 176, 177, 178, 179, 180, 181, 182, 183, 184, 185, 186, 187, 188, 189, 190, 191, 192, 193, 194, 195, 196, 197, 198, 199, 48, 200, 201, 202, 203, 46, 47, 204, 205, 206, 207, 208, 209, 210, 211, 212, 213, 214, 215, 216, 44, 217, 218, 219, 220, 221, 222, 223, 224, 51, 225, 226, 227, 228, 229, 230, 231, 232, 233, 234, 235, 236, 237, 238, 239, 49, 45, 240, 241, 242, 243, 244, 245, 246, 247, 492, 493, 494, 495, 496, 497, 498, 499, 500, 501, 502, 503, 504, 505, 506, 507, 508, 522, 523, 524, 519, 520, 521, 525, 526, 527] rfl
set_option maxRecDepth 20000 in
theorem gL_law_L_before : GoodIn wsL_law (va_wsS RL 161 yL_before wsL_before) := goodIn_app (goodIn_of _ (by decide +kernel)) ggL_law_L_before
set_option maxRecDepth 20000 in
theorem ggL_law_L_build : GoodIn wsL_law wsL_build := goodIn_m _ [250, 105, 106, 107, 108, 109, 110, 111, 112, 113, 114, 251, 252, 253, 2, 254, 12, 16, 24, 255, 256, 257, 258, 259, 231, 232, 260, 261, 262, 263, 197, 11, 198, 199, 48, 200, 201, 202, 203, 36, 46, 47, 204, 205, 206, 207, 161, 162, 208, 209, 210, 211, 212, 213, 118, 119, 120, 121, 122, 23, 123, 124, 102, 125, 126, 127, 128, 129, 130, 131, 28, 132, 133, 62, 63, 57, 134, 135, 136, 137, 138, 139, 59, 60, 61, 64, 65, 66, 67, 140, 141, 142, 143, 144, 145, 146, 147, 148, 149, 150, 264, 265, 266, 267, 155, 156, 157, 151, 152, 153, 154, 158, 159, 160, 163, 164, 165, 40, 166, 39, 167, 168, 169, 73, 170, 171, 172, 173, 174, 175, 176, 177, 178, 179, 180, 181, 182, 183, 184, 185, 186, 187, 188, 189, 190, 191, 192, 193, 194, 195, 196, 214, 215, 216, 44, 217, 218, 219, 220, 221, 222, 223, 224, 51, 225, 226, 227, 228, 229, 230, 268, 269, 270, 271, 272, 273, 274, 275, 276, 277, 278, 279, 280, 281, 492, 493, 494, 495, 496, 497, 498, 499, 500, 501, 502, 503, 504, 505, 506, 507, 508, 522, 523, 524, 509, 510, 511, 512, 513, 514, 515, 519, 520, 521, 525, 526, 527] rfl
set_option maxRecDepth 20000 in
theorem gL_law_L_build : GoodIn wsL_law (va_wsS RL 165 yL_build wsL_build) := goodIn_app (goodIn_of _ (by decide +kernel)) ggL_law_L_build
set_option maxRecDepth 20000 in
theorem ggL_law_L_equations : GoodIn wsL_law wsL_equations := goodIn_m _ [284, 285, 286, 287, 288, 289, 290, 291, 292, 293, 294, 295, 296, 297, 298, 299, 300, 301, 302, 303, 304, 305, 306, 307, 107, 308, 251, 252, 253, 2, 254, 12, 16, 24, 255, 256, 257, 258, 259, 231, 232, 260, 261, 262, 263, 197, 11, 198, 199, 48, 200, 201, 202, 203, 36, 46, 47, 204, 205, 206, 207, 161, 162, 208, 209, 210, 211, 212, 213, 309, 310, 311, 312, 313, 314, 315, 316, 317, 15, 318, 319, 320, 321, 322, 323, 79, 324, 325, 326, 327, 328, 329, 330, 331, 332, 333, 334, 335, 336, 337, 338, 339, 340, 341, 342, 343, 344, 345, 346, 347, 348, 349, 350, 351, 352, 80, 353, 354, 355, 356, 357, 358, 359, 360, 361, 362, 363, 364, 365, 366, 367, 368, 20, 369, 370, 371, 372, 19, 373, 374, 375, 86, 376, 88, 377, 378, 379, 380, 381, 382, 383, 384, 385, 94, 386, 387, 388, 389, 390, 391, 392, 393, 394, 95, 96, 241, 242, 243, 244, 245, 246, 247, 395, 396, 397, 40, 166, 39, 167, 168, 169, 73, 170, 171, 172, 173, 174, 175, 176, 177, 178, 179, 180, 181, 182, 183, 184, 185, 186, 187, 188, 189, 190, 191, 192, 193, 278, 279, 280, 281, 218, 219, 220, 221, 398, 399, 400, 401, 402, 403, 404, 405, 406, 407, 408, 89, 409, 410, 411, 134, 135, 136, 137, 138, 139, 412, 413, 414, 415, 416, 417, 418, 419, 420, 421, 422, 423, 144, 145, 146, 122, 23, 123, 124, 102, 125, 126, 127, 128, 129, 130, 131, 28, 132, 133, 62, 63, 57, 424, 233, 234, 235, 236, 237, 238, 239, 49, 45, 240, 158, 159, 160, 492, 493, 494, 495, 496, 497, 498, 499, 500, 501, 502, 503, 504, 505, 506, 507, 508, 522, 523, 524, 509, 510, 511, 512, 513, 514, 515, 519, 520, 521, 516, 517, 518, 528, 529, 530, 531, 532, 533, 534, 535, 525, 526, 527] rfl
set_option maxRecDepth 20000 in
theorem gL_law_L_equations : GoodIn wsL_law (va_wsS RL 169 yL_equations wsL_equations) := goodIn_app (goodIn_of _ (by decide +kernel)) ggL_law_L_equations
set_option maxRecDepth 20000 in
theorem ggL_law_L_inverses : GoodIn wsL_law wsL_inverses := goodIn_m _ [427, 428, 429, 430, 431, 432, 433, 151, 152, 153, 2, 154, 12, 155, 156, 157, 158, 11, 159, 160, 36, 161, 162, 163, 164, 165, 40, 166, 39, 167, 168, 169, 73, 170, 171, 172, 173, 174, 175, 176, 177, 178, 179, 180, 181, 182, 183, 184, 185, 186, 187, 188, 189, 190, 191, 192, 193, 194, 195, 196, 197, 198, 199, 48, 200, 201, 202, 203, 46, 47, 204, 205, 206, 207, 208, 209, 210, 211, 212, 213, 214, 215, 216, 44, 217, 134, 135, 136, 137, 138, 139, 218, 219, 220, 221, 222, 223, 224, 51, 225, 226, 227, 228, 229, 230, 231, 232, 251, 252, 253, 254, 16, 24, 255, 256, 257, 258, 259, 260, 261, 262, 263, 306, 307, 107, 308, 309, 310, 311, 312, 313, 314, 315, 316, 317, 15, 318, 319, 320, 321, 322, 323, 79, 324, 325, 326, 327, 328, 329, 330, 331, 332, 333, 334, 335, 336, 337, 338, 339, 340, 341, 342, 343, 344, 345, 346, 347, 348, 349, 350, 351, 352, 80, 353, 354, 355, 356, 357, 358, 359, 360, 361, 362, 363, 364, 416, 417, 418, 419, 20, 372, 19, 373, 374, 375, 86, 376, 88, 377, 378, 379, 380, 381, 382, 383, 384, 385, 94, 386, 387, 369, 370, 371, 388, 389, 390, 391, 392, 393, 394, 95, 96, 241, 242, 243, 244, 245, 246, 247, 395, 396, 397, 278, 279, 280, 281, 398, 399, 400, 401, 402, 403, 404, 405, 406, 407, 408, 89, 409, 410, 411, 365, 366, 367, 368, 412, 413, 414, 415, 434, 435, 436, 437, 438, 439, 440, 144, 145, 146, 147, 148, 149, 150, 441, 442, 443, 264, 265, 266, 267, 492, 493, 494, 495, 496, 497, 498, 499, 500, 501, 502, 503, 504, 505, 506, 507, 508, 522, 523, 524, 525, 526, 527, 509, 510, 511, 512, 513, 514, 515, 519, 520, 521, 516, 517, 518, 528, 529, 530, 531, 532, 533, 534, 535] rfl
set_option maxRecDepth 20000 in
theorem gL_law_L_inverses : GoodIn wsL_law (va_wsS RL 173 yL_inverses wsL_inverses) := goodIn_app (goodIn_of _ (by decide +kernel)) ggL_law_L_inverses
set_option maxRecDepth 20000 in
theorem ggL_law_L_powers : GoodIn wsL_law wsL_powers := goodIn_m _ [446, 434, 435, 107, 436, 251, 252, 253, 2, 254, 12, 16, 24, 255, 256, 257, 258, 259, 231, 232, 260, 261, 262, 263, 197, 11, 198, 199, 48, 200, 201, 202, 203, 36, 46, 47, 204, 205, 206, 207, 161, 162, 208, 209, 210, 211, 212, 213, 437, 438, 439, 440, 144, 145, 146, 147, 148, 149, 150, 441, 442, 443, 44, 218, 219, 220, 221, 134, 135, 136, 137, 138, 139, 264, 265, 266, 267, 155, 156, 157, 151, 152, 153, 154, 158, 159, 160, 163, 164, 165, 40, 166, 39, 167, 168, 169, 73, 170, 171, 172, 173, 174, 175, 176, 177, 178, 179, 180, 181, 182, 183, 184, 185, 186, 187, 188, 189, 190, 191, 192, 193, 194, 195, 196, 214, 215, 216, 217, 222, 223, 224, 51, 225, 226, 227, 228, 229, 230, 492, 493, 494, 495, 496, 497, 498, 499, 500, 501, 502, 503, 504, 505, 506, 507, 508, 522, 523, 524, 509, 510, 511, 512, 513, 514, 515, 519, 520, 521, 525, 526, 527] rfl
set_option maxRecDepth 20000 in
theorem gL_law_L_powers : GoodIn wsL_law (va_wsS RL 176 yL_powers wsL_powers) := goodIn_app (goodIn_of _ (by decide +kernel)) ggL_law_L_powers
set_option maxRecDepth 20000 in
theorem ggL_law_L_squares : GoodIn wsL_law wsL_squares := goodIn_m _ [449, 450, 451, 452, 453, 454, 455, 456, 457, 458, 459, 251, 252, 253, 2, 254, 12, 16, 24, 255, 256, 257, 258, 259, 231, 232, 260, 261, 262, 263, 197, 11, 198, 199, 48, 200, 201, 202, 203, 36, 46, 47, 204, 205, 206, 207, 161, 162, 208, 209, 210, 211, 212, 213, 111, 112, 107, 113, 114, 264, 265, 266, 267, 155, 156, 157, 147, 148, 149, 150, 140, 141, 142, 143, 144, 145, 146, 122, 23, 123, 124, 102, 125, 126, 127, 128, 129, 130, 131, 28, 132, 133, 62, 63, 57, 134, 135, 136, 137, 138, 139, 151, 152, 153, 154, 158, 159, 160, 163, 164, 165, 40, 166, 39, 167, 168, 169, 73, 170, 171, 172, 173, 174, 175, 176, 177, 178, 179, 180, 181, 182, 183, 184, 185, 186, 187, 188, 189, 190, 191, 192, 193, 194, 195, 196, 214, 215, 216, 44, 217, 218, 219, 220, 221, 222, 223, 224, 51, 225, 226, 227, 228, 229, 230, 306, 307, 308, 309, 310, 311, 312, 313, 314, 315, 316, 317, 15, 318, 319, 320, 321, 322, 323, 79, 324, 325, 326, 327, 328, 329, 330, 331, 332, 333, 334, 335, 336, 337, 338, 339, 340, 341, 342, 343, 344, 345, 346, 347, 348, 349, 350, 351, 352, 80, 353, 354, 355, 356, 357, 358, 359, 360, 361, 362, 363, 364, 365, 366, 367, 368, 20, 369, 370, 371, 372, 19, 373, 374, 375, 86, 376, 88, 377, 378, 379, 380, 381, 382, 383, 384, 385, 94, 386, 387, 388, 389, 390, 391, 392, 393, 394, 95, 96, 241, 242, 243, 244, 245, 246, 247, 395, 396, 397, 278, 279, 280, 281, 398, 399, 400, 401, 402, 403, 404, 405, 406, 407, 408, 89, 409, 410, 411, 412, 413, 414, 415, 460, 461, 462, 463, 464, 465, 466, 43, 240, 424, 467, 468, 469, 470, 471, 472, 473, 474, 475, 476, 477, 478, 479, 480, 492, 493, 494, 495, 496, 497, 498, 499, 500, 501, 502, 503, 504, 505, 506, 507, 508, 522, 523, 524, 509, 510, 511, 512, 513, 514, 515, 519, 520, 521, 525, 526, 527, 516, 517, 518, 528, 529, 530, 531, 532, 533, 534, 535] rfl
set_option maxRecDepth 20000 in
theorem gL_law_L_squares : GoodIn wsL_law (va_wsS RL 179 yL_squares wsL_squares) := goodIn_app (goodIn_of _ (by decide +kernel)) ggL_law_L_squares
set_option maxRecDepth 20000 in
theorem ggL_law_X7_of : GoodIn wsL_law wsX7_of := goodIn_m _ [154, 12, 155, 156, 2, 157, 158, 11, 159, 160, 36, 161, 162, 163, 164, 165, 40, 166, 39, 167, 168, 169, 73, 170, 171, 172, 173, 174, 175, 176, 177, 178, 179, 180, 181, 182, 183, 184, 185, 186, 187, 188, 189, 190, 191, 192, 193, 194, 195, 196, 197, 198, 199, 48, 200, 201, 202, 203, 46, 47, 204, 205, 206, 207, 208, 209, 210, 211, 212, 213, 214, 215, 216, 44, 217, 134, 135, 136, 137, 138, 139, 218, 219, 220, 221, 222, 223, 224, 51, 225, 226, 227, 228, 229, 230, 231, 232, 492, 493, 494, 495, 496, 497, 498, 499, 500, 501, 502, 503, 504, 505, 506, 507, 508, 522, 523, 524, 525, 526, 527] rfl
set_option maxRecDepth 20000 in
theorem gL_law_X7_of : GoodIn wsL_law (wsV RL 48 RX7 yX7_of wsX7_of) := goodIn_app (goodIn_of _ (by decide +kernel)) ggL_law_X7_of
set_option maxRecDepth 20000 in
theorem ggL_law_X7_split : GoodIn wsL_law wsX7_split := goodIn_m _ [463, 12, 24, 144, 145, 2, 146, 197, 11, 198, 199, 48, 200, 201, 202, 203, 36, 46, 47, 204, 205, 206, 207, 161, 162, 208, 209, 210, 211, 212, 213, 122, 23, 123, 124, 102, 125, 126, 127, 128, 129, 130, 131, 28, 132, 133, 62, 63, 57, 134, 135, 136, 137, 138, 139, 464, 465, 466, 43, 240, 241, 242, 243, 244, 245, 246, 247, 218, 219, 220, 221, 424, 259, 231, 232, 492, 493, 494, 495, 496, 497, 498, 499, 500, 501, 502, 503, 504, 505, 506, 507, 508, 522, 523, 524, 519, 520, 521] rfl
set_option maxRecDepth 20000 in
theorem gL_law_X7_split : GoodIn wsL_law (wsV RL 133 RX7 yX7_split wsX7_split) := goodIn_app (goodIn_of _ (by decide +kernel)) ggL_law_X7_split
set_option maxRecDepth 20000 in
theorem ggL_law_X7_partSize : GoodIn wsL_law wsX7_partSize := goodIn_m _ [470, 12, 144, 145, 2, 146, 197, 11, 198, 199, 48, 200, 201, 202, 203, 36, 46, 47, 204, 205, 206, 207, 161, 162, 208, 209, 210, 211, 212, 213, 194, 195, 196, 40, 166, 39, 167, 168, 169, 73, 170, 171, 172, 173, 174, 175, 176, 177, 178, 179, 180, 181, 182, 183, 184, 185, 186, 187, 188, 189, 190, 191, 192, 193, 471, 472, 473, 492, 493, 494, 495, 496, 497, 498, 499, 500, 501, 502, 503, 504, 505, 506, 507, 508, 522, 523, 524, 525, 526, 527] rfl
set_option maxRecDepth 20000 in
theorem gL_law_X7_partSize : GoodIn wsL_law (wsV RL 154 RX7 yX7_partSize wsX7_partSize) := goodIn_app (goodIn_of _ (by decide +kernel)) ggL_law_X7_partSize
set_option maxRecDepth 20000 in
theorem ggL_law_X7_count : GoodIn wsL_law wsX7_count := goodIn_m _ [254, 12, 16, 24, 255, 256, 257, 2, 258, 259, 231, 232, 260, 261, 262, 263, 197, 11, 198, 199, 48, 200, 201, 202, 203, 36, 46, 47, 204, 205, 206, 207, 161, 162, 208, 209, 210, 211, 212, 213, 492, 493, 494, 495, 496, 497, 498, 499, 500, 501, 502, 503, 504, 505, 506, 507, 508, 522, 523, 524, 509, 510, 511, 512, 513, 514, 515, 519, 520, 521] rfl
set_option maxRecDepth 20000 in
theorem gL_law_X7_count : GoodIn wsL_law (wsV RL 10 RX7 yX7_count wsX7_count) := goodIn_app (goodIn_of _ (by decide +kernel)) ggL_law_X7_count
set_option maxRecDepth 20000 in
theorem ggL_law_X7_howMany : GoodIn wsL_law wsX7_howMany := goodIn_m _ [484, 12, 485, 11, 486, 487, 36, 50, 488, 489, 490, 491, 48, 217, 163, 164, 165, 40, 166, 39, 167, 168, 169, 73, 170, 171, 172, 173, 174, 175, 176, 177, 178, 179, 180, 181, 182, 183, 184, 185, 186, 187, 188, 189, 161, 2, 162, 190, 191, 192, 193, 200, 201, 202, 203, 46, 47, 204, 205, 206, 207, 208, 209, 210, 211, 231, 232, 218, 219, 220, 221, 212, 213, 492, 493, 494, 495, 496, 497, 498, 499, 500, 501, 502, 503, 504, 505, 506, 507, 508, 522, 523, 524, 525, 526, 527] rfl
set_option maxRecDepth 20000 in
theorem gL_law_X7_howMany : GoodIn wsL_law (wsV RL 182 RX7 yX7_howMany wsX7_howMany) := goodIn_app (goodIn_of _ (by decide +kernel)) ggL_law_X7_howMany
theorem goodIn_n {big0 big : List Cond} (g : GoodIn big0 big) (ws : List Cond) (ps : List Nat) (hp : ws = ps.filterMap (fun i => big[i]?)) : GoodIn big ws := by
  intro w hw
  rw [hp] at hw
  obtain ⟨i, -, hi⟩ := List.mem_filterMap.mp hw
  have hm : w ∈ big := by first | exact List.mem_of_getElem? hi | exact List.getElem?_mem hi
  exact ⟨hm, (g w hm).2⟩
set_option maxRecDepth 20000 in
theorem ggL_build_L_cell : GoodIn wsL_build wsL_cell := goodIn_n ggL_law_L_build _ [4, 5, 6] rfl
set_option maxRecDepth 20000 in
theorem gL_build_L_cell : GoodIn wsL_build (va_wsS RL 27 yL_cell wsL_cell) := goodIn_app (goodIn_of _ (by decide +kernel)) ggL_build_L_cell
set_option maxRecDepth 20000 in
theorem ggL_build_L_low : GoodIn wsL_build wsL_low := goodIn_n ggL_law_L_build _ [9, 10] rfl
set_option maxRecDepth 20000 in
theorem gL_build_L_low : GoodIn wsL_build (va_wsS RL 33 yL_low wsL_low) := goodIn_app (goodIn_of _ (by decide +kernel)) ggL_build_L_low
set_option maxRecDepth 20000 in
theorem ggL_build_X7_count : GoodIn wsL_build wsX7_count := goodIn_n ggL_law_L_build _ [15, 16, 17, 18, 19, 20, 21, 14, 22, 23, 24, 25, 26, 27, 28, 29, 30, 31, 32, 33, 34, 35, 36, 37, 38, 39, 40, 41, 42, 43, 44, 45, 46, 47, 48, 49, 50, 51, 52, 53, 184, 185, 186, 187, 188, 189, 190, 191, 192, 193, 194, 195, 196, 197, 198, 199, 200, 201, 202, 203, 204, 205, 206, 207, 208, 209, 210, 211, 212, 213] rfl
set_option maxRecDepth 20000 in
theorem gL_build_X7_count : GoodIn wsL_build (wsV RL 10 RX7 yX7_count wsX7_count) := goodIn_app (goodIn_of _ (by decide +kernel)) ggL_build_X7_count
set_option maxRecDepth 20000 in
theorem ggL_build_X7_begin : GoodIn wsL_build wsX7_begin := goodIn_n ggL_law_L_build _ [57, 16, 18, 58, 59, 60, 61, 62, 63, 64, 65, 66, 67, 68, 69, 70, 71, 72, 73, 74, 75, 76, 14, 77, 78, 79, 80, 81, 82, 83, 84, 85, 86, 87, 88, 184, 185, 186, 187, 188, 189, 190, 191, 192, 193, 194, 195, 196, 197, 198, 199, 200, 201, 202, 203, 211, 212, 213] rfl
set_option maxRecDepth 20000 in
theorem gL_build_X7_begin : GoodIn wsL_build (wsV RL 37 RX7 yX7_begin wsX7_begin) := goodIn_app (goodIn_of _ (by decide +kernel)) ggL_build_X7_begin
set_option maxRecDepth 20000 in
theorem ggL_build_X7_set : GoodIn wsL_build wsX7_set := goodIn_n ggL_law_L_build _ [92, 16, 18, 93, 94, 14, 95, 96, 97, 98, 99, 58, 59, 60, 61, 62, 63, 64, 65, 66, 67, 68, 69, 70, 71, 72, 73, 74, 75, 76, 77, 78, 79, 80, 81, 184, 185, 186, 187, 188, 189, 190, 191, 192, 193, 194, 195, 196, 197, 198, 199, 200, 201, 202, 203, 211, 212, 213] rfl
set_option maxRecDepth 20000 in
theorem gL_build_X7_set : GoodIn wsL_build (wsV RL 40 RX7 yX7_set wsX7_set) := goodIn_app (goodIn_of _ (by decide +kernel)) ggL_build_X7_set
set_option maxRecDepth 20000 in
theorem ggL_build_X7_entry : GoodIn wsL_build wsX7_entry := goodIn_n ggL_law_L_build _ [103, 16, 104, 105, 14, 106, 96, 97, 98, 99, 184, 185, 186, 187, 188, 189, 190, 191, 192, 193, 194, 195, 196, 197, 198, 199, 200, 201, 202, 203] rfl
set_option maxRecDepth 20000 in
theorem gL_build_X7_entry : GoodIn wsL_build (wsV RL 44 RX7 yX7_entry wsX7_entry) := goodIn_app (goodIn_of _ (by decide +kernel)) ggL_build_X7_entry
set_option maxRecDepth 20000 in
theorem ggL_build_X7_of : GoodIn wsL_build wsX7_of := goodIn_n ggL_law_L_build _ [110, 16, 104, 105, 14, 106, 111, 31, 112, 113, 39, 46, 47, 114, 115, 116, 117, 118, 119, 120, 121, 122, 123, 124, 125, 126, 127, 128, 129, 130, 131, 132, 133, 134, 135, 136, 137, 138, 139, 140, 141, 142, 143, 144, 145, 146, 147, 148, 149, 150, 30, 32, 33, 34, 35, 36, 37, 38, 40, 41, 42, 43, 44, 45, 48, 49, 50, 51, 52, 53, 151, 152, 153, 154, 155, 76, 77, 78, 79, 80, 81, 156, 157, 158, 159, 160, 161, 162, 163, 164, 165, 166, 167, 168, 169, 24, 25, 184, 185, 186, 187, 188, 189, 190, 191, 192, 193, 194, 195, 196, 197, 198, 199, 200, 201, 202, 203, 214, 215, 216] rfl
set_option maxRecDepth 20000 in
theorem gL_build_X7_of : GoodIn wsL_build (wsV RL 48 RX7 yX7_of wsX7_of) := goodIn_app (goodIn_of _ (by decide +kernel)) ggL_build_X7_of
set_option maxRecDepth 20000 in
theorem ggL_build_X7_base : GoodIn wsL_build wsX7_base := goodIn_n ggL_law_L_build _ [173, 16, 18, 93, 94, 14, 95, 114, 31, 115, 116, 117, 39, 118, 119, 120, 121, 122, 123, 124, 125, 126, 127, 128, 129, 130, 131, 132, 133, 134, 135, 136, 137, 138, 139, 140, 141, 142, 143, 46, 47, 144, 145, 146, 147, 58, 59, 60, 61, 62, 63, 64, 65, 66, 67, 68, 69, 70, 71, 72, 73, 74, 75, 76, 77, 78, 79, 80, 81, 174, 175, 176, 86, 87, 88, 156, 157, 158, 159, 177, 178, 179, 155, 180, 181, 182, 183, 184, 185, 186, 187, 188, 189, 190, 191, 192, 193, 194, 195, 196, 197, 198, 199, 200, 201, 202, 203, 214, 215, 216, 211, 212, 213] rfl
set_option maxRecDepth 20000 in
theorem gL_build_X7_base : GoodIn wsL_build (wsV RL 51 RX7 yX7_base wsX7_base) := goodIn_app (goodIn_of _ (by decide +kernel)) ggL_build_X7_base
set_option maxRecDepth 20000 in
theorem ggL_before_X7_begin : GoodIn wsL_before wsX7_begin := goodIn_n ggL_law_L_before _ [5, 6, 7, 8, 9, 10, 11, 12, 13, 14, 15, 16, 17, 18, 19, 20, 21, 22, 23, 24, 25, 26, 4, 27, 28, 29, 30, 31, 32, 33, 34, 35, 36, 37, 38, 164, 165, 166, 167, 168, 169, 170, 171, 172, 173, 174, 175, 176, 177, 178, 179, 180, 181, 182, 183, 184, 185, 186] rfl
set_option maxRecDepth 20000 in
theorem gL_before_X7_begin : GoodIn wsL_before (wsV RL 37 RX7 yX7_begin wsX7_begin) := goodIn_app (goodIn_of _ (by decide +kernel)) ggL_before_X7_begin
set_option maxRecDepth 20000 in
theorem ggL_before_L_low : GoodIn wsL_before wsL_low := goodIn_n ggL_law_L_before _ [42, 43] rfl
set_option maxRecDepth 20000 in
theorem gL_before_L_low : GoodIn wsL_before (va_wsS RL 33 yL_low wsL_low) := goodIn_app (goodIn_of _ (by decide +kernel)) ggL_before_L_low
set_option maxRecDepth 20000 in
theorem ggL_before_X7_set : GoodIn wsL_before wsX7_set := goodIn_n ggL_law_L_before _ [47, 6, 7, 48, 49, 4, 50, 51, 52, 53, 54, 8, 9, 10, 11, 12, 13, 14, 15, 16, 17, 18, 19, 20, 21, 22, 23, 24, 25, 26, 27, 28, 29, 30, 31, 164, 165, 166, 167, 168, 169, 170, 171, 172, 173, 174, 175, 176, 177, 178, 179, 180, 181, 182, 183, 184, 185, 186] rfl
set_option maxRecDepth 20000 in
theorem gL_before_X7_set : GoodIn wsL_before (wsV RL 40 RX7 yX7_set wsX7_set) := goodIn_app (goodIn_of _ (by decide +kernel)) ggL_before_X7_set
set_option maxRecDepth 20000 in
theorem ggL_before_X7_of : GoodIn wsL_before wsX7_of := goodIn_n ggL_law_L_before _ [58, 6, 59, 60, 4, 61, 62, 63, 64, 65, 66, 67, 68, 69, 70, 71, 72, 73, 74, 75, 76, 77, 78, 79, 80, 81, 82, 83, 84, 85, 86, 87, 88, 89, 90, 91, 92, 93, 94, 95, 96, 97, 98, 99, 100, 101, 102, 103, 104, 105, 106, 107, 108, 109, 110, 111, 112, 113, 114, 115, 116, 117, 118, 119, 120, 121, 122, 123, 124, 125, 126, 127, 128, 129, 130, 26, 27, 28, 29, 30, 31, 131, 132, 133, 134, 135, 136, 137, 138, 139, 140, 141, 142, 143, 144, 145, 146, 164, 165, 166, 167, 168, 169, 170, 171, 172, 173, 174, 175, 176, 177, 178, 179, 180, 181, 182, 183, 187, 188, 189] rfl
set_option maxRecDepth 20000 in
theorem gL_before_X7_of : GoodIn wsL_before (wsV RL 48 RX7 yX7_of wsX7_of) := goodIn_app (goodIn_of _ (by decide +kernel)) ggL_before_X7_of
set_option maxRecDepth 20000 in
theorem ggL_before_X7_rule : GoodIn wsL_before wsX7_rule := goodIn_n ggL_law_L_before _ [150, 6, 48, 49, 4, 50, 151, 63, 152, 153, 154, 155, 156, 157, 158, 159, 160, 161, 162, 163, 66, 114, 115, 116, 117, 118, 119, 67, 68, 120, 121, 122, 123, 124, 125, 62, 64, 65, 164, 165, 166, 167, 168, 169, 170, 171, 172, 173, 174, 175, 176, 177, 178, 179, 180, 181, 182, 183] rfl
set_option maxRecDepth 20000 in
theorem gL_before_X7_rule : GoodIn wsL_before (wsV RL 54 RX7 yX7_rule wsX7_rule) := goodIn_app (goodIn_of _ (by decide +kernel)) ggL_before_X7_rule
set_option maxRecDepth 20000 in
theorem ggL_equations_L_says : GoodIn wsL_equations wsL_says := goodIn_n ggL_law_L_equations _ [25, 26, 27, 28, 29, 30, 31, 32, 33, 34, 35, 36, 37, 38, 39, 40, 41, 42, 43, 44, 45, 46, 47, 48, 49, 50, 51, 52, 53, 54, 55, 56, 57, 58, 59, 60, 61, 62, 63, 64, 65, 66, 67, 68, 69, 70, 71, 72, 73, 74, 75, 76, 77, 78, 79, 80, 81, 82, 83, 84, 85, 86, 87, 88, 89, 90, 91, 92, 93, 94, 95, 96, 97, 98, 99, 100, 101, 102, 103, 104, 105, 106, 107, 108, 109, 110, 111, 112, 113, 114, 115, 116, 117, 118, 119, 120, 121, 122, 123, 124, 125, 126, 127, 282, 283, 284, 285, 286, 287, 288, 289, 290, 291, 292, 293, 294, 295, 296, 297, 298, 299, 300, 301, 302, 303, 304, 305, 306, 307, 308, 309, 310, 311] rfl
set_option maxRecDepth 20000 in
theorem gL_equations_L_says : GoodIn wsL_equations (va_wsS RL 61 yL_says wsL_says) := goodIn_app (goodIn_of _ (by decide +kernel)) ggL_equations_L_says
set_option maxRecDepth 20000 in
theorem ggL_equations_X7_holds : GoodIn wsL_equations wsX7_holds := goodIn_n ggL_law_L_equations _ [131, 32, 132, 31, 90, 78, 91, 92, 93, 94, 95, 96, 84, 85, 97, 98, 99, 100, 101, 102, 103, 104, 105, 106, 107, 108, 109, 29, 110, 111, 112, 113, 114, 115, 116, 117, 118, 119, 120, 121, 122, 123, 124, 125, 126, 127, 133, 134, 135, 136, 137, 138, 139, 140, 141, 142, 143, 144, 145, 146, 147, 148, 149, 150, 151, 152, 153, 154, 155, 156, 157, 158, 159, 160, 161, 162, 163, 164, 51, 46, 52, 53, 54, 55, 56, 57, 58, 59, 60, 61, 62, 63, 64, 65, 66, 165, 166, 167, 168, 169, 170, 171, 172, 173, 174, 175, 176, 177, 178, 179, 180, 181, 182, 183, 184, 185, 186, 187, 188, 189, 190, 191, 192, 193, 194, 195, 196, 197, 198, 199, 200, 201, 202, 203, 204, 205, 206, 207, 208, 209, 210, 211, 212, 213, 214, 215, 216, 217, 218, 219, 220, 221, 222, 223, 224, 225, 226, 227, 228, 229, 230, 231, 232, 233, 234, 235, 236, 237, 238, 67, 68, 282, 283, 284, 285, 286, 287, 312, 313, 314, 302, 303, 304, 305, 306, 307, 308, 315, 316, 317, 318, 319, 320, 321, 322, 288, 289, 290, 291, 292, 293, 294, 295, 296, 297, 298, 299, 300, 301, 323, 324, 325] rfl
set_option maxRecDepth 20000 in
theorem gL_equations_X7_holds : GoodIn wsL_equations (wsV RL 65 RX7 yX7_holds wsX7_holds) := goodIn_app (goodIn_of _ (by decide +kernel)) ggL_equations_X7_holds
set_option maxRecDepth 20000 in
theorem ggL_equations_X7_stops : GoodIn wsL_equations wsX7_stops := goodIn_n ggL_law_L_equations _ [242, 32, 132, 31, 90, 78, 91, 92, 93, 94, 95, 96, 84, 85, 97, 98, 99, 100, 101, 102, 103, 104, 105, 106, 107, 108, 109, 29, 110, 111, 112, 113, 114, 115, 116, 117, 118, 119, 120, 121, 122, 123, 124, 125, 126, 127, 136, 137, 138, 139, 140, 141, 142, 143, 144, 145, 146, 147, 148, 149, 150, 151, 152, 153, 154, 155, 133, 134, 135, 156, 157, 158, 159, 160, 161, 162, 163, 164, 51, 46, 52, 53, 54, 55, 56, 57, 58, 59, 60, 61, 62, 63, 64, 65, 66, 165, 166, 167, 168, 169, 170, 171, 172, 173, 174, 175, 176, 177, 178, 179, 180, 181, 182, 183, 184, 185, 186, 187, 188, 189, 190, 191, 192, 193, 194, 195, 196, 197, 198, 199, 200, 201, 202, 203, 204, 205, 206, 207, 208, 209, 210, 211, 212, 213, 214, 215, 216, 217, 218, 219, 220, 221, 222, 223, 224, 225, 226, 227, 228, 229, 230, 231, 232, 233, 234, 282, 283, 284, 285, 286, 287, 302, 303, 304, 305, 306, 307, 308, 312, 313, 314, 315, 316, 317, 318, 319, 320, 321, 322, 288, 289, 290, 291, 292, 293, 294, 295, 296, 297, 298, 299, 300, 301, 323, 324, 325] rfl
set_option maxRecDepth 20000 in
theorem gL_equations_X7_stops : GoodIn wsL_equations (wsV RL 106 RX7 yX7_stops wsX7_stops) := goodIn_app (goodIn_of _ (by decide +kernel)) ggL_equations_X7_stops
set_option maxRecDepth 20000 in
theorem ggL_equations_X7_run : GoodIn wsL_equations wsX7_run := goodIn_n ggL_law_L_equations _ [246, 32, 132, 31, 33, 90, 78, 91, 92, 93, 94, 95, 96, 84, 85, 97, 98, 99, 100, 101, 102, 103, 104, 105, 106, 107, 108, 109, 29, 110, 111, 112, 113, 114, 115, 116, 117, 118, 119, 120, 121, 122, 123, 124, 125, 126, 127, 133, 134, 135, 247, 248, 249, 136, 137, 138, 139, 140, 141, 142, 143, 144, 145, 146, 147, 148, 149, 150, 151, 152, 153, 154, 155, 156, 157, 158, 159, 160, 161, 162, 163, 164, 51, 46, 52, 53, 54, 55, 56, 57, 58, 59, 60, 61, 62, 63, 64, 65, 66, 165, 166, 167, 168, 169, 170, 171, 172, 173, 174, 175, 176, 177, 178, 179, 180, 181, 182, 183, 184, 185, 186, 187, 188, 189, 190, 191, 192, 193, 194, 195, 196, 197, 198, 199, 200, 201, 202, 203, 204, 205, 206, 207, 208, 209, 210, 211, 212, 213, 214, 215, 216, 217, 218, 219, 220, 221, 222, 223, 224, 225, 226, 227, 228, 229, 230, 231, 232, 233, 234, 250, 251, 252, 253, 254, 255, 256, 257, 258, 259, 260, 261, 262, 263, 264, 265, 266, 267, 235, 236, 237, 268, 282, 283, 284, 285, 286, 287, 288, 289, 290, 291, 292, 293, 294, 295, 296, 297, 298, 299, 300, 301, 302, 303, 304, 305, 306, 307, 308, 312, 313, 314, 315, 316, 317, 318, 319, 320, 321, 322, 323, 324, 325, 309, 310, 311] rfl
set_option maxRecDepth 20000 in
theorem gL_equations_X7_run : GoodIn wsL_equations (wsV RL 109 RX7 yX7_run wsX7_run) := goodIn_app (goodIn_of _ (by decide +kernel)) ggL_equations_X7_run
set_option maxRecDepth 20000 in
theorem ggL_equations_X7_rule : GoodIn wsL_equations wsX7_rule := goodIn_n ggL_law_L_equations _ [272, 31, 247, 248, 29, 249, 273, 46, 274, 275, 276, 277, 278, 165, 166, 167, 168, 169, 170, 171, 54, 55, 56, 57, 58, 59, 60, 61, 62, 63, 64, 65, 66, 67, 68, 279, 280, 281, 282, 283, 284, 285, 286, 287, 288, 289, 290, 291, 292, 293, 294, 295, 296, 297, 298, 299, 300, 301] rfl
set_option maxRecDepth 20000 in
theorem gL_equations_X7_rule : GoodIn wsL_equations (wsV RL 54 RX7 yX7_rule wsX7_rule) := goodIn_app (goodIn_of _ (by decide +kernel)) ggL_equations_X7_rule
set_option maxRecDepth 20000 in
theorem ggL_inverses_X7_of : GoodIn wsL_inverses wsX7_of := goodIn_n ggL_law_L_inverses _ [11, 12, 13, 14, 10, 15, 16, 17, 18, 19, 20, 21, 22, 23, 24, 25, 26, 27, 28, 29, 30, 31, 32, 33, 34, 35, 36, 37, 38, 39, 40, 41, 42, 43, 44, 45, 46, 47, 48, 49, 50, 51, 52, 53, 54, 55, 56, 57, 58, 59, 60, 61, 62, 63, 64, 65, 66, 67, 68, 69, 70, 71, 72, 73, 74, 75, 76, 77, 78, 79, 80, 81, 82, 83, 84, 85, 86, 87, 88, 89, 90, 91, 92, 93, 94, 95, 96, 97, 98, 99, 100, 101, 102, 103, 104, 105, 106, 280, 281, 282, 283, 284, 285, 286, 287, 288, 289, 290, 291, 292, 293, 294, 295, 296, 297, 298, 299, 300, 301, 302] rfl
set_option maxRecDepth 20000 in
theorem gL_inverses_X7_of : GoodIn wsL_inverses (wsV RL 48 RX7 yX7_of wsX7_of) := goodIn_app (goodIn_of _ (by decide +kernel)) ggL_inverses_X7_of
set_option maxRecDepth 20000 in
theorem ggL_inverses_X7_count : GoodIn wsL_inverses wsX7_count := goodIn_n ggL_law_L_inverses _ [110, 12, 111, 112, 113, 114, 115, 10, 116, 117, 105, 106, 118, 119, 120, 121, 60, 17, 61, 62, 63, 64, 65, 66, 67, 20, 68, 69, 70, 71, 72, 73, 21, 22, 74, 75, 76, 77, 78, 79, 280, 281, 282, 283, 284, 285, 286, 287, 288, 289, 290, 291, 292, 293, 294, 295, 296, 297, 298, 299, 303, 304, 305, 306, 307, 308, 309, 310, 311, 312] rfl
set_option maxRecDepth 20000 in
theorem gL_inverses_X7_count : GoodIn wsL_inverses (wsV RL 10 RX7 yX7_count wsX7_count) := goodIn_app (goodIn_of _ (by decide +kernel)) ggL_inverses_X7_count
set_option maxRecDepth 20000 in
theorem ggL_inverses_L_says : GoodIn wsL_inverses wsL_says := goodIn_n ggL_law_L_inverses _ [125, 107, 108, 109, 10, 110, 12, 111, 112, 113, 114, 115, 116, 117, 105, 106, 118, 119, 120, 121, 60, 17, 61, 62, 63, 64, 65, 66, 67, 20, 68, 69, 70, 71, 72, 73, 21, 22, 74, 75, 76, 77, 78, 79, 126, 127, 128, 129, 130, 131, 132, 133, 134, 135, 136, 137, 138, 139, 140, 141, 142, 143, 144, 145, 146, 147, 148, 149, 150, 151, 152, 153, 154, 155, 156, 157, 158, 159, 160, 161, 162, 163, 164, 165, 166, 167, 168, 169, 170, 171, 172, 173, 174, 175, 176, 177, 178, 179, 180, 181, 182, 183, 184, 280, 281, 282, 283, 284, 285, 286, 287, 288, 289, 290, 291, 292, 293, 294, 295, 296, 297, 298, 299, 303, 304, 305, 306, 307, 308, 309, 310, 311, 312] rfl
set_option maxRecDepth 20000 in
theorem gL_inverses_L_says : GoodIn wsL_inverses (va_wsS RL 61 yL_says wsL_says) := goodIn_app (goodIn_of _ (by decide +kernel)) ggL_inverses_L_says
set_option maxRecDepth 20000 in
theorem ggL_inverses_X7_stops : GoodIn wsL_inverses wsX7_stops := goodIn_n ggL_law_L_inverses _ [188, 111, 189, 12, 147, 135, 148, 149, 150, 151, 152, 153, 141, 142, 154, 155, 156, 157, 158, 159, 160, 161, 162, 163, 164, 165, 166, 10, 167, 168, 169, 170, 171, 172, 173, 174, 175, 176, 177, 178, 179, 180, 181, 182, 183, 184, 190, 191, 192, 193, 194, 195, 196, 197, 198, 199, 200, 201, 202, 203, 204, 205, 206, 207, 208, 209, 210, 211, 212, 213, 214, 215, 216, 217, 218, 219, 220, 221, 65, 17, 66, 67, 20, 68, 69, 70, 71, 72, 73, 21, 22, 74, 75, 76, 77, 222, 223, 224, 225, 226, 227, 228, 229, 230, 231, 26, 27, 28, 29, 30, 31, 32, 33, 34, 35, 36, 37, 38, 39, 40, 41, 42, 43, 44, 45, 46, 47, 48, 49, 50, 51, 52, 53, 54, 55, 56, 232, 233, 234, 235, 91, 92, 93, 94, 236, 237, 238, 239, 240, 241, 242, 243, 244, 245, 246, 247, 248, 249, 250, 85, 86, 87, 88, 89, 90, 280, 281, 282, 283, 284, 285, 303, 304, 305, 306, 307, 308, 309, 313, 314, 315, 316, 317, 318, 319, 320, 321, 322, 323, 286, 287, 288, 289, 290, 291, 292, 293, 294, 295, 296, 297, 298, 299, 300, 301, 302] rfl
set_option maxRecDepth 20000 in
theorem gL_inverses_X7_stops : GoodIn wsL_inverses (wsV RL 106 RX7 yX7_stops wsX7_stops) := goodIn_app (goodIn_of _ (by decide +kernel)) ggL_inverses_X7_stops
set_option maxRecDepth 20000 in
theorem ggL_inverses_X7_holds : GoodIn wsL_inverses wsX7_holds := goodIn_n ggL_law_L_inverses _ [254, 111, 189, 12, 147, 135, 148, 149, 150, 151, 152, 153, 141, 142, 154, 155, 156, 157, 158, 159, 160, 161, 162, 163, 164, 165, 166, 10, 167, 168, 169, 170, 171, 172, 173, 174, 175, 176, 177, 178, 179, 180, 181, 182, 183, 184, 210, 211, 212, 190, 191, 192, 193, 194, 195, 196, 197, 198, 199, 200, 201, 202, 203, 204, 205, 206, 207, 208, 209, 213, 214, 215, 216, 217, 218, 219, 220, 221, 65, 17, 66, 67, 20, 68, 69, 70, 71, 72, 73, 21, 22, 74, 75, 76, 77, 222, 223, 224, 225, 226, 227, 228, 229, 230, 231, 26, 27, 28, 29, 30, 31, 32, 33, 34, 35, 36, 37, 38, 39, 40, 41, 42, 43, 44, 45, 46, 47, 48, 49, 50, 51, 52, 53, 54, 55, 56, 232, 233, 234, 235, 91, 92, 93, 94, 236, 237, 238, 239, 240, 241, 242, 243, 244, 245, 246, 247, 248, 249, 250, 85, 86, 87, 88, 89, 90, 255, 256, 257, 258, 78, 79, 280, 281, 282, 283, 284, 285, 313, 314, 315, 303, 304, 305, 306, 307, 308, 309, 316, 317, 318, 319, 320, 321, 322, 323, 286, 287, 288, 289, 290, 291, 292, 293, 294, 295, 296, 297, 298, 299, 300, 301, 302] rfl
set_option maxRecDepth 20000 in
theorem gL_inverses_X7_holds : GoodIn wsL_inverses (wsV RL 65 RX7 yX7_holds wsX7_holds) := goodIn_app (goodIn_of _ (by decide +kernel)) ggL_inverses_X7_holds
set_option maxRecDepth 20000 in
theorem ggL_inverses_L_isUnit : GoodIn wsL_inverses wsL_isUnit := goodIn_n ggL_law_L_inverses _ [261, 107, 108, 109, 10, 110, 12, 111, 112, 113, 114, 115, 116, 117, 105, 106, 118, 119, 120, 121, 60, 17, 61, 62, 63, 64, 65, 66, 67, 20, 68, 69, 70, 71, 72, 73, 21, 22, 74, 75, 76, 77, 78, 79, 262, 263, 264, 265, 266, 267, 268, 269, 270, 271, 272, 273, 274, 275, 83, 91, 92, 93, 94, 85, 86, 87, 88, 89, 90, 276, 277, 278, 279, 13, 14, 15, 280, 281, 282, 283, 284, 285, 286, 287, 288, 289, 290, 291, 292, 293, 294, 295, 296, 297, 298, 299, 303, 304, 305, 306, 307, 308, 309, 310, 311, 312] rfl
set_option maxRecDepth 20000 in
theorem gL_inverses_L_isUnit : GoodIn wsL_inverses (va_wsS RL 124 yL_isUnit wsL_isUnit) := goodIn_app (goodIn_of _ (by decide +kernel)) ggL_inverses_L_isUnit
set_option maxRecDepth 20000 in
theorem ggL_powers_L_isUnit : GoodIn wsL_powers wsL_isUnit := goodIn_n ggL_law_L_powers _ [4, 5, 6, 7, 8, 9, 10, 11, 12, 13, 14, 15, 16, 17, 18, 19, 20, 21, 22, 23, 24, 25, 26, 27, 28, 29, 30, 31, 32, 33, 34, 35, 36, 37, 38, 39, 40, 41, 42, 43, 44, 45, 46, 47, 48, 49, 50, 51, 52, 53, 54, 55, 56, 57, 58, 59, 60, 61, 62, 63, 64, 65, 66, 67, 68, 69, 70, 71, 72, 73, 74, 75, 76, 77, 78, 79, 138, 139, 140, 141, 142, 143, 144, 145, 146, 147, 148, 149, 150, 151, 152, 153, 154, 155, 156, 157, 158, 159, 160, 161, 162, 163, 164, 165, 166, 167] rfl
set_option maxRecDepth 20000 in
theorem gL_powers_L_isUnit : GoodIn wsL_powers (va_wsS RL 124 yL_isUnit wsL_isUnit) := goodIn_app (goodIn_of _ (by decide +kernel)) ggL_powers_L_isUnit
set_option maxRecDepth 20000 in
theorem ggL_powers_X7_of : GoodIn wsL_powers wsX7_of := goodIn_n ggL_law_L_powers _ [83, 10, 77, 78, 8, 79, 84, 25, 85, 86, 33, 40, 41, 87, 88, 89, 90, 91, 92, 93, 94, 95, 96, 97, 98, 99, 100, 101, 102, 103, 104, 105, 106, 107, 108, 109, 110, 111, 112, 113, 114, 115, 116, 117, 118, 119, 120, 121, 122, 123, 24, 26, 27, 28, 29, 30, 31, 32, 34, 35, 36, 37, 38, 39, 42, 43, 44, 45, 46, 47, 124, 125, 126, 62, 127, 67, 68, 69, 70, 71, 72, 63, 64, 65, 66, 128, 129, 130, 131, 132, 133, 134, 135, 136, 137, 18, 19, 138, 139, 140, 141, 142, 143, 144, 145, 146, 147, 148, 149, 150, 151, 152, 153, 154, 155, 156, 157, 168, 169, 170] rfl
set_option maxRecDepth 20000 in
theorem gL_powers_X7_of : GoodIn wsL_powers (wsV RL 48 RX7 yX7_of wsX7_of) := goodIn_app (goodIn_of _ (by decide +kernel)) ggL_powers_X7_of
set_option maxRecDepth 20000 in
theorem ggL_powers_X7_count : GoodIn wsL_powers wsX7_count := goodIn_n ggL_law_L_powers _ [9, 10, 11, 12, 13, 14, 15, 8, 16, 17, 18, 19, 20, 21, 22, 23, 24, 25, 26, 27, 28, 29, 30, 31, 32, 33, 34, 35, 36, 37, 38, 39, 40, 41, 42, 43, 44, 45, 46, 47, 138, 139, 140, 141, 142, 143, 144, 145, 146, 147, 148, 149, 150, 151, 152, 153, 154, 155, 156, 157, 158, 159, 160, 161, 162, 163, 164, 165, 166, 167] rfl
set_option maxRecDepth 20000 in
theorem gL_powers_X7_count : GoodIn wsL_powers (wsV RL 10 RX7 yX7_count wsX7_count) := goodIn_app (goodIn_of _ (by decide +kernel)) ggL_powers_X7_count
set_option maxRecDepth 20000 in
theorem ggL_powers_X7_power : GoodIn wsL_powers wsX7_power := goodIn_n ggL_law_L_powers _ [51, 10, 52, 53, 8, 54, 55, 56, 57, 58, 59, 25, 60, 61, 62, 28, 63, 64, 65, 66, 33, 67, 68, 69, 70, 71, 72, 29, 30, 31, 32, 34, 35, 36, 37, 38, 39, 40, 41, 42, 43, 44, 45, 138, 139, 140, 141, 142, 143, 144, 145, 146, 147, 148, 149, 150, 151, 152, 153, 154, 155, 156, 157] rfl
set_option maxRecDepth 20000 in
theorem gL_powers_X7_power : GoodIn wsL_powers (wsV RL 128 RX7 yX7_power wsX7_power) := goodIn_app (goodIn_of _ (by decide +kernel)) ggL_powers_X7_power
set_option maxRecDepth 20000 in
theorem ggL_powers_X7_entry : GoodIn wsL_powers wsX7_entry := goodIn_n ggL_law_L_powers _ [76, 10, 77, 78, 8, 79, 55, 56, 57, 58, 138, 139, 140, 141, 142, 143, 144, 145, 146, 147, 148, 149, 150, 151, 152, 153, 154, 155, 156, 157] rfl
set_option maxRecDepth 20000 in
theorem gL_powers_X7_entry : GoodIn wsL_powers (wsV RL 44 RX7 yX7_entry wsX7_entry) := goodIn_app (goodIn_of _ (by decide +kernel)) ggL_powers_X7_entry
set_option maxRecDepth 20000 in
theorem ggL_squares_X7_count : GoodIn wsL_squares wsX7_count := goodIn_n ggL_law_L_squares _ [15, 16, 17, 18, 19, 20, 21, 14, 22, 23, 24, 25, 26, 27, 28, 29, 30, 31, 32, 33, 34, 35, 36, 37, 38, 39, 40, 41, 42, 43, 44, 45, 46, 47, 48, 49, 50, 51, 52, 53, 320, 321, 322, 323, 324, 325, 326, 327, 328, 329, 330, 331, 332, 333, 334, 335, 336, 337, 338, 339, 340, 341, 342, 343, 344, 345, 346, 347, 348, 349] rfl
set_option maxRecDepth 20000 in
theorem gL_squares_X7_count : GoodIn wsL_squares (wsV RL 10 RX7 yX7_count wsX7_count) := goodIn_app (goodIn_of _ (by decide +kernel)) ggL_squares_X7_count
set_option maxRecDepth 20000 in
theorem ggL_squares_L_low : GoodIn wsL_squares wsL_low := goodIn_n ggL_law_L_squares _ [57, 58] rfl
set_option maxRecDepth 20000 in
theorem gL_squares_L_low : GoodIn wsL_squares (va_wsS RL 33 yL_low wsL_low) := goodIn_app (goodIn_of _ (by decide +kernel)) ggL_squares_L_low
set_option maxRecDepth 20000 in
theorem ggL_squares_X7_entry : GoodIn wsL_squares wsX7_entry := goodIn_n ggL_law_L_squares _ [62, 16, 63, 64, 14, 65, 66, 67, 68, 69, 320, 321, 322, 323, 324, 325, 326, 327, 328, 329, 330, 331, 332, 333, 334, 335, 336, 337, 338, 339] rfl
set_option maxRecDepth 20000 in
theorem gL_squares_X7_entry : GoodIn wsL_squares (wsV RL 44 RX7 yX7_entry wsX7_entry) := goodIn_app (goodIn_of _ (by decide +kernel)) ggL_squares_X7_entry
set_option maxRecDepth 20000 in
theorem ggL_squares_X7_set : GoodIn wsL_squares wsX7_set := goodIn_n ggL_law_L_squares _ [73, 16, 18, 74, 75, 14, 76, 66, 67, 68, 69, 77, 78, 79, 80, 81, 82, 83, 84, 85, 86, 87, 88, 89, 90, 91, 92, 93, 94, 95, 96, 97, 98, 99, 100, 320, 321, 322, 323, 324, 325, 326, 327, 328, 329, 330, 331, 332, 333, 334, 335, 336, 337, 338, 339, 347, 348, 349] rfl
set_option maxRecDepth 20000 in
theorem gL_squares_X7_set : GoodIn wsL_squares (wsV RL 40 RX7 yX7_set wsX7_set) := goodIn_app (goodIn_of _ (by decide +kernel)) ggL_squares_X7_set
set_option maxRecDepth 20000 in
theorem ggL_squares_X7_of : GoodIn wsL_squares wsX7_of := goodIn_n ggL_law_L_squares _ [104, 16, 63, 64, 14, 65, 105, 31, 106, 107, 39, 46, 47, 108, 109, 110, 111, 112, 113, 114, 115, 116, 117, 118, 119, 120, 121, 122, 123, 124, 125, 126, 127, 128, 129, 130, 131, 132, 133, 134, 135, 136, 137, 138, 139, 140, 141, 142, 143, 144, 30, 32, 33, 34, 35, 36, 37, 38, 40, 41, 42, 43, 44, 45, 48, 49, 50, 51, 52, 53, 145, 146, 147, 148, 149, 95, 96, 97, 98, 99, 100, 150, 151, 152, 153, 154, 155, 156, 157, 158, 159, 160, 161, 162, 163, 24, 25, 320, 321, 322, 323, 324, 325, 326, 327, 328, 329, 330, 331, 332, 333, 334, 335, 336, 337, 338, 339, 350, 351, 352] rfl
set_option maxRecDepth 20000 in
theorem gL_squares_X7_of : GoodIn wsL_squares (wsV RL 48 RX7 yX7_of wsX7_of) := goodIn_app (goodIn_of _ (by decide +kernel)) ggL_squares_X7_of
set_option maxRecDepth 20000 in
theorem ggL_squares_L_says : GoodIn wsL_squares wsL_says := goodIn_n ggL_law_L_squares _ [166, 11, 12, 13, 14, 15, 16, 17, 18, 19, 20, 21, 22, 23, 24, 25, 26, 27, 28, 29, 30, 31, 32, 33, 34, 35, 36, 37, 38, 39, 40, 41, 42, 43, 44, 45, 46, 47, 48, 49, 50, 51, 52, 53, 167, 168, 169, 170, 171, 172, 173, 174, 175, 176, 177, 178, 179, 180, 181, 182, 183, 184, 185, 186, 187, 188, 189, 190, 191, 192, 193, 194, 195, 196, 197, 198, 199, 200, 201, 202, 203, 204, 205, 206, 207, 208, 209, 210, 211, 212, 213, 214, 215, 216, 217, 218, 219, 220, 221, 222, 223, 224, 225, 320, 321, 322, 323, 324, 325, 326, 327, 328, 329, 330, 331, 332, 333, 334, 335, 336, 337, 338, 339, 340, 341, 342, 343, 344, 345, 346, 347, 348, 349] rfl
set_option maxRecDepth 20000 in
theorem gL_squares_L_says : GoodIn wsL_squares (va_wsS RL 61 yL_says wsL_says) := goodIn_app (goodIn_of _ (by decide +kernel)) ggL_squares_L_says
set_option maxRecDepth 20000 in
theorem ggL_squares_X7_holds : GoodIn wsL_squares wsX7_holds := goodIn_n ggL_law_L_squares _ [229, 17, 230, 16, 188, 176, 189, 190, 191, 192, 193, 194, 182, 183, 195, 196, 197, 198, 199, 200, 201, 202, 203, 204, 205, 206, 207, 14, 208, 209, 210, 211, 212, 213, 214, 215, 216, 217, 218, 219, 220, 221, 222, 223, 224, 225, 231, 232, 233, 234, 235, 236, 237, 238, 239, 240, 241, 242, 243, 244, 245, 246, 247, 248, 249, 250, 251, 252, 253, 254, 255, 256, 257, 258, 259, 260, 261, 262, 36, 31, 37, 38, 39, 40, 41, 42, 43, 44, 45, 46, 47, 48, 49, 50, 51, 263, 264, 265, 266, 267, 268, 269, 270, 271, 272, 111, 112, 113, 114, 115, 116, 117, 118, 119, 120, 121, 122, 123, 124, 125, 126, 127, 128, 129, 130, 131, 132, 133, 134, 135, 136, 137, 138, 139, 140, 141, 273, 274, 275, 276, 150, 151, 152, 153, 277, 278, 279, 280, 281, 282, 283, 284, 285, 286, 287, 288, 289, 290, 291, 95, 96, 97, 98, 99, 100, 292, 293, 294, 295, 52, 53, 320, 321, 322, 323, 324, 325, 353, 354, 355, 340, 341, 342, 343, 344, 345, 346, 356, 357, 358, 359, 360, 361, 362, 363, 326, 327, 328, 329, 330, 331, 332, 333, 334, 335, 336, 337, 338, 339, 350, 351, 352] rfl
set_option maxRecDepth 20000 in
theorem gL_squares_X7_holds : GoodIn wsL_squares (wsV RL 65 RX7 yX7_holds wsX7_holds) := goodIn_app (goodIn_of _ (by decide +kernel)) ggL_squares_X7_holds
set_option maxRecDepth 20000 in
theorem ggL_squares_X7_split : GoodIn wsL_squares wsX7_split := goodIn_n ggL_law_L_squares _ [299, 16, 18, 74, 75, 14, 76, 30, 31, 32, 33, 34, 35, 36, 37, 38, 39, 40, 41, 42, 43, 44, 45, 46, 47, 48, 49, 50, 51, 52, 53, 77, 78, 79, 80, 81, 82, 83, 84, 85, 86, 87, 88, 89, 90, 91, 92, 93, 94, 95, 96, 97, 98, 99, 100, 300, 301, 302, 303, 304, 263, 264, 265, 266, 267, 268, 269, 150, 151, 152, 153, 305, 23, 24, 25, 320, 321, 322, 323, 324, 325, 326, 327, 328, 329, 330, 331, 332, 333, 334, 335, 336, 337, 338, 339, 347, 348, 349] rfl
set_option maxRecDepth 20000 in
theorem gL_squares_X7_split : GoodIn wsL_squares (wsV RL 133 RX7 yX7_split wsX7_split) := goodIn_app (goodIn_of _ (by decide +kernel)) ggL_squares_X7_split
set_option maxRecDepth 20000 in
theorem ggL_squares_X7_partSize : GoodIn wsL_squares wsX7_partSize := goodIn_n ggL_law_L_squares _ [309, 16, 74, 75, 14, 76, 30, 31, 32, 33, 34, 35, 36, 37, 38, 39, 40, 41, 42, 43, 44, 45, 46, 47, 48, 49, 50, 51, 52, 53, 142, 143, 144, 111, 112, 113, 114, 115, 116, 117, 118, 119, 120, 121, 122, 123, 124, 125, 126, 127, 128, 129, 130, 131, 132, 133, 134, 135, 136, 137, 138, 139, 140, 141, 310, 311, 312, 320, 321, 322, 323, 324, 325, 326, 327, 328, 329, 330, 331, 332, 333, 334, 335, 336, 337, 338, 339, 350, 351, 352] rfl
set_option maxRecDepth 20000 in
theorem gL_squares_X7_partSize : GoodIn wsL_squares (wsV RL 154 RX7 yX7_partSize wsX7_partSize) := goodIn_app (goodIn_of _ (by decide +kernel)) ggL_squares_X7_partSize
set_option maxRecDepth 20000 in
theorem ggL_squares_X7_undo : GoodIn wsL_squares wsX7_undo := goodIn_n ggL_law_L_squares _ [316, 18, 16, 317, 78, 318, 319, 83, 82, 81, 88, 89, 90, 91, 92, 93, 94, 95, 14, 96, 97, 98, 99, 100, 320, 321, 322, 323, 324, 325, 347, 348, 349, 326, 327, 328, 329, 330, 331, 332, 333, 334, 335, 336, 337, 338, 339] rfl
set_option maxRecDepth 20000 in
theorem gL_squares_X7_undo : GoodIn wsL_squares (wsV RL 157 RX7 yX7_undo wsX7_undo) := goodIn_app (goodIn_of _ (by decide +kernel)) ggL_squares_X7_undo
set_option maxRecDepth 20000 in
theorem ggL_says_X7_count : GoodIn wsL_says wsX7_count := goodIn_n ggL_equations_L_says _ [5, 6, 7, 8, 9, 10, 11, 4, 12, 13, 14, 15, 16, 17, 18, 19, 20, 21, 22, 23, 24, 25, 26, 27, 28, 29, 30, 31, 32, 33, 34, 35, 36, 37, 38, 39, 40, 41, 42, 43, 103, 104, 105, 106, 107, 108, 109, 110, 111, 112, 113, 114, 115, 116, 117, 118, 119, 120, 121, 122, 123, 124, 125, 126, 127, 128, 129, 130, 131, 132] rfl
set_option maxRecDepth 20000 in
theorem gL_says_X7_count : GoodIn wsL_says (wsV RL 10 RX7 yX7_count wsX7_count) := goodIn_app (goodIn_of _ (by decide +kernel)) ggL_says_X7_count
set_option maxRecDepth 20000 in
theorem ggL_says_X7_wipe : GoodIn wsL_says wsX7_wipe := goodIn_n ggL_equations_L_says _ [47, 7, 103, 104, 105, 106, 107, 108, 123, 124, 125, 126, 127, 128, 129] rfl
set_option maxRecDepth 20000 in
theorem gL_says_X7_wipe : GoodIn wsL_says (wsV RL 16 RX7 yX7_wipe wsX7_wipe) := goodIn_app (goodIn_of _ (by decide +kernel)) ggL_says_X7_wipe
set_option maxRecDepth 20000 in
theorem ggL_says_X7_put : GoodIn wsL_says wsX7_put := goodIn_n ggL_equations_L_says _ [51, 7, 52, 53, 54, 55, 56, 57, 58, 59, 60, 103, 104, 105, 106, 107, 108, 123, 124, 125, 126, 127, 128, 129] rfl
set_option maxRecDepth 20000 in
theorem gL_says_X7_put : GoodIn wsL_says (wsV RL 20 RX7 yX7_put wsX7_put) := goodIn_app (goodIn_of _ (by decide +kernel)) ggL_says_X7_put
set_option maxRecDepth 20000 in
theorem ggL_says_X7_fault : GoodIn wsL_says wsX7_fault := goodIn_n ggL_equations_L_says _ [64, 7, 65, 53, 66, 67, 68, 69, 70, 71, 59, 60, 72, 73, 74, 75, 76, 77, 78, 79, 80, 81, 82, 83, 84, 4, 85, 86, 87, 88, 89, 90, 91, 92, 93, 94, 95, 96, 97, 98, 99, 100, 101, 102, 103, 104, 105, 106, 107, 108, 123, 124, 125, 126, 127, 128, 129] rfl
set_option maxRecDepth 20000 in
theorem gL_says_X7_fault : GoodIn wsL_says (wsV RL 24 RX7 yX7_fault wsX7_fault) := goodIn_app (goodIn_of _ (by decide +kernel)) ggL_says_X7_fault
set_option maxRecDepth 20000 in
theorem ggL_isUnit_X7_count : GoodIn wsL_isUnit wsX7_count := goodIn_n ggL_powers_L_isUnit _ [5, 6, 7, 8, 9, 10, 11, 4, 12, 13, 14, 15, 16, 17, 18, 19, 20, 21, 22, 23, 24, 25, 26, 27, 28, 29, 30, 31, 32, 33, 34, 35, 36, 37, 38, 39, 40, 41, 42, 43, 76, 77, 78, 79, 80, 81, 82, 83, 84, 85, 86, 87, 88, 89, 90, 91, 92, 93, 94, 95, 96, 97, 98, 99, 100, 101, 102, 103, 104, 105] rfl
set_option maxRecDepth 20000 in
theorem gL_isUnit_X7_count : GoodIn wsL_isUnit (wsV RL 10 RX7 yX7_count wsX7_count) := goodIn_app (goodIn_of _ (by decide +kernel)) ggL_isUnit_X7_count

set_option maxRecDepth 20000 in
theorem ggL_isUnit_X7_power : GoodIn wsL_isUnit wsX7_power := goodIn_n ggL_powers_L_isUnit _ [47, 6, 48, 49, 4, 50, 51, 52, 53, 54, 55, 21, 56, 57, 58, 24, 59, 60, 61, 62, 29, 63, 64, 65, 66, 67, 68, 25, 26, 27, 28, 30, 31, 32, 33, 34, 35, 36, 37, 38, 39, 40, 41, 76, 77, 78, 79, 80, 81, 82, 83, 84, 85, 86, 87, 88, 89, 90, 91, 92, 93, 94, 95] rfl
set_option maxRecDepth 20000 in
theorem gL_isUnit_X7_power : GoodIn wsL_isUnit (wsV RL 128 RX7 yX7_power wsX7_power) := goodIn_app (goodIn_of _ (by decide +kernel)) ggL_isUnit_X7_power
set_option maxRecDepth 20000 in
theorem ggL_isUnit_X7_entry : GoodIn wsL_isUnit wsX7_entry := goodIn_n ggL_powers_L_isUnit _ [72, 6, 73, 74, 4, 75, 51, 52, 53, 54, 76, 77, 78, 79, 80, 81, 82, 83, 84, 85, 86, 87, 88, 89, 90, 91, 92, 93, 94, 95] rfl
set_option maxRecDepth 20000 in
theorem gL_isUnit_X7_entry : GoodIn wsL_isUnit (wsV RL 44 RX7 yX7_entry wsX7_entry) := goodIn_app (goodIn_of _ (by decide +kernel)) ggL_isUnit_X7_entry
