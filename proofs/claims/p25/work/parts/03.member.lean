theorem ml_pos {big : List Cond} (ws : List Cond) (ps : List Nat) (hp : ws = ps.filterMap (fun i => big[i]?)) : ∀ w ∈ ws, w ∈ big := by
  intro w hw
  rw [hp] at hw
  obtain ⟨i, -, hi⟩ := List.mem_filterMap.mp hw
  first | exact List.mem_of_getElem? hi | exact List.getElem?_mem hi
theorem ml_td {P : Cond → Prop} (n : Nat) (l : List Cond) (h1 : ∀ w ∈ l.take n, P w) (h2 : ∀ w ∈ l.drop n, P w) : ∀ w ∈ l, P w := fun w h => by
  rw [← List.take_append_drop n l] at h
  exact (List.mem_append.mp h).elim (h1 w) (h2 w)
theorem ml_one {P : Cond → Prop} {c : Cond} {l : List Cond} (h : l = [c]) (hc : P c) : ∀ w ∈ l, P w := fun w hw => by
  rw [h] at hw
  rw [List.mem_singleton.mp hw]; exact hc
set_option maxRecDepth 20000 in
theorem ml_r1 : ∀ w ∈ wsL_law_r1, w ∈ lw_tbl := ml_pos _ [17, 18, 10, 19, 20, 21, 22, 23, 24, 25, 26, 11, 167, 104, 105, 14, 168, 169, 139, 170, 124, 125, 15, 171] (by decide +kernel)
set_option maxRecDepth 20000 in
theorem ml_r2 : ∀ w ∈ wsL_law_r2, w ∈ lw_tbl := ml_pos _ [141, 142, 16, 172, 27, 28, 29, 30, 103, 42, 44, 46, 48, 50, 52, 54, 56, 58, 60, 62, 64, 66, 68, 70] (by decide +kernel)
set_option maxRecDepth 20000 in
theorem ml_r3 : ∀ w ∈ wsL_law_r3, w ∈ lw_tbl := ml_pos _ [34, 35, 36, 37, 12, 38, 39, 41, 40, 13, 106, 107, 108, 109, 110, 113, 114, 115, 112, 127, 128, 129, 140, 130] (by decide +kernel)
set_option maxRecDepth 20000 in
theorem ml_r4 : ∀ w ∈ wsL_law_r4, w ∈ lw_tbl := ml_pos _ [132, 144, 145, 146, 147, 148, 150, 152, 154, 223, 224, 225, 226, 116, 227, 228, 229, 230, 231, 232, 233, 234, 240, 241] (by decide +kernel)
set_option maxRecDepth 20000 in
theorem ml_r5 : ∀ w ∈ wsL_law_r5, w ∈ lw_tbl := ml_pos _ [242, 243, 71, 191, 192, 193, 244, 245, 246, 247, 248, 239, 186, 187, 188, 189, 190, 43, 45, 61, 69, 57, 59, 55] (by decide +kernel)
set_option maxRecDepth 20000 in
theorem ml_r6 : ∀ w ∈ wsL_law_r6, w ∈ lw_tbl := ml_pos _ [67, 133, 194, 195, 196, 197, 198, 199, 200, 201, 202, 203, 204, 205, 206, 207, 208, 220, 221, 222, 209, 210, 211, 212] (by decide +kernel)
set_option maxRecDepth 20000 in
theorem ml_r7 : ∀ w ∈ wsL_law_r7, w ∈ lw_tbl := ml_pos _ [214, 215, 216, 217, 218, 219, 300, 301, 9, 302, 255, 256, 257, 258, 259, 260, 261, 262, 263, 63, 65, 264, 265, 266] (by decide +kernel)
set_option maxRecDepth 20000 in
theorem ml_r8 : ∀ w ∈ wsL_law_r8, w ∈ lw_tbl := ml_pos _ [267, 268, 269, 270, 271, 272, 273, 274, 275, 276, 277, 278, 279, 47, 49, 51, 280, 281, 282, 283, 284, 285, 286, 287] (by decide +kernel)
set_option maxRecDepth 20000 in
theorem ml_r9 : ∀ w ∈ wsL_law_r9, w ∈ lw_tbl := ml_td 8 _ (ml_pos _ [288, 289, 290, 291, 292, 293, 303, 304] (by decide +kernel)) (ml_td 1 _ (ml_one rfl (List.mem_of_getElem? (i := 305) rfl)) (ml_pos _ [306, 307, 308, 309, 310, 312, 314, 315, 316, 317, 318, 319, 320, 321, 322] (by decide +kernel)))
set_option maxRecDepth 20000 in
theorem ml_r10 : ∀ w ∈ wsL_law_r10, w ∈ lw_tbl := ml_pos _ [323, 324, 325, 326, 327, 328, 329, 330, 332, 0, 333, 334, 335, 336, 337, 338, 339, 340, 341, 342, 343, 344, 345, 346] (by decide +kernel)
set_option maxRecDepth 20000 in
theorem ml_r11 : ∀ w ∈ wsL_law_r11, w ∈ lw_tbl := ml_pos _ [347, 348, 349, 350, 351, 352, 353, 354, 355, 356, 357, 358, 359, 360, 361, 362, 363, 364, 365, 366, 367, 368, 369, 370] (by decide +kernel)
set_option maxRecDepth 20000 in
theorem ml_r12 : ∀ w ∈ wsL_law_r12, w ∈ lw_tbl := ml_pos _ [371, 372, 373, 374, 375, 376, 377, 378, 379, 380, 381, 382, 383, 384, 385, 386, 387, 388, 389, 390, 391, 392, 235, 236] (by decide +kernel)
set_option maxRecDepth 20000 in
theorem ml_r13 : ∀ w ∈ wsL_law_r13, w ∈ lw_tbl := ml_pos _ [237, 238, 393, 394, 395, 396, 397, 398, 399, 400, 131, 401, 402, 403, 404, 405, 406, 407, 408, 409, 410, 411, 412, 413] (by decide +kernel)
set_option maxRecDepth 20000 in
theorem ml_r14 : ∀ w ∈ wsL_law_r14, w ∈ lw_tbl := ml_pos _ [415, 1, 416, 417, 418, 419, 421, 423, 2, 424, 425, 427, 3, 428, 429, 431, 4, 432, 433, 435, 5, 436, 437, 439] (by decide +kernel)
set_option maxRecDepth 20000 in
theorem ml_r15 : ∀ w ∈ wsL_law_r15, w ∈ lw_tbl := ml_pos _ [6, 440, 441, 443, 7, 444, 445, 446, 447, 448, 449, 451, 8, 452, 151, 149, 155, 153, 453, 249, 250, 251, 252, 253] (by decide +kernel)
set_option maxRecDepth 20000 in
theorem ml_r16 : ∀ w ∈ wsL_law_r16, w ∈ lw_tbl := ml_td 3 _ (ml_pos _ [254, 454, 455] (by decide +kernel)) (ml_td 1 _ (ml_one rfl (List.mem_of_getElem? (i := 456) rfl)) (ml_td 11 _ (ml_pos _ [457, 458, 459, 460, 53, 461, 462, 463, 464, 294, 295] (by decide +kernel)) (ml_td 1 _ (ml_one rfl (List.mem_of_getElem? (i := 296) rfl)) (ml_pos _ [297, 298, 299] (by decide +kernel)))))
set_option maxRecDepth 20000 in
theorem inX0 : ∀ w ∈ wsX00, w ∈ lw_tbl := ml_pos _ [117, 119, 121] (by decide +kernel)
set_option maxRecDepth 20000 in
theorem inX1 : ∀ w ∈ wsX10, w ∈ lw_tbl := ml_pos _ [134, 136] (by decide +kernel)
set_option maxRecDepth 20000 in
theorem inX2 : ∀ w ∈ wsX20, w ∈ lw_tbl := ml_pos _ [156, 158, 160, 162, 164] (by decide +kernel)
set_option maxRecDepth 20000 in
theorem inX3 : ∀ w ∈ wsX30, w ∈ lw_tbl := ml_pos _ [72, 74, 76, 78, 80, 82, 84, 86, 88, 90, 92, 94, 96, 98, 100] (by decide +kernel)
set_option maxRecDepth 20000 in
theorem inX4 : ∀ w ∈ wsX40, w ∈ lw_tbl := ml_pos _ [173, 175, 177, 179, 181, 183] (by decide +kernel)
theorem wsL_law_in : ∀ w ∈ wsL_law, w ∈ lw_tbl := List.forall_mem_append.mpr ⟨List.forall_mem_append.mpr ⟨List.forall_mem_append.mpr ⟨List.forall_mem_append.mpr ⟨List.forall_mem_append.mpr ⟨List.forall_mem_append.mpr ⟨List.forall_mem_append.mpr ⟨ml_r1, List.forall_mem_append.mpr ⟨ml_r2, List.forall_mem_append.mpr ⟨ml_r3, List.forall_mem_append.mpr ⟨ml_r4, List.forall_mem_append.mpr ⟨ml_r5, List.forall_mem_append.mpr ⟨ml_r6, List.forall_mem_append.mpr ⟨ml_r7, List.forall_mem_append.mpr ⟨ml_r8, List.forall_mem_append.mpr ⟨ml_r9, List.forall_mem_append.mpr ⟨ml_r10, List.forall_mem_append.mpr ⟨ml_r11, List.forall_mem_append.mpr ⟨ml_r12, List.forall_mem_append.mpr ⟨ml_r13, List.forall_mem_append.mpr ⟨ml_r14, List.forall_mem_append.mpr ⟨ml_r15, ml_r16⟩⟩⟩⟩⟩⟩⟩⟩⟩⟩⟩⟩⟩⟩⟩, inX4⟩, inX3⟩, inX0⟩, inX1⟩, inX2⟩, fun _ h => absurd h List.not_mem_nil⟩
