theorem ml_pos {big : List Cond} (ws : List Cond) (ps : List Nat) (hp : ws = ps.filterMap (fun i => big[i]?)) : ∀ w ∈ ws, w ∈ big := by
  intro w hw
  rw [hp] at hw
  obtain ⟨i, -, hi⟩ := List.mem_filterMap.mp hw
  first | exact List.mem_of_getElem? hi | exact List.getElem?_mem hi
set_option maxRecDepth 20000 in
theorem ml_r1 : ∀ w ∈ wsL_law_r1, w ∈ lw_tbl := ml_pos _ [46, 47, 38, 482, 483, 45, 738, 48, 49, 50, 51, 52, 53, 54, 55, 39, 196, 133, 134, 42, 197, 198, 168, 199] (by decide +kernel)
set_option maxRecDepth 20000 in
theorem ml_r2 : ∀ w ∈ wsL_law_r2, w ∈ lw_tbl := ml_pos _ [153, 154, 43, 200, 170, 171, 44, 201, 56, 57, 58, 59, 132, 71, 73, 75, 77, 79, 81, 83, 85, 87, 89, 91] (by decide +kernel)
set_option maxRecDepth 20000 in
theorem ml_r3 : ∀ w ∈ wsL_law_r3, w ∈ lw_tbl := ml_pos _ [93, 95, 97, 99, 63, 64, 65, 66, 40, 67, 68, 70, 69, 41, 135, 136, 137, 138, 139, 142, 143, 144, 141, 156] (by decide +kernel)
set_option maxRecDepth 20000 in
theorem ml_r4 : ∀ w ∈ wsL_law_r4, w ∈ lw_tbl := ml_pos _ [157, 158, 169, 159, 161, 173, 174, 175, 176, 177, 179, 181, 183, 484, 485, 486, 487, 492, 493, 495, 496, 497, 488, 490] (by decide +kernel)
set_option maxRecDepth 20000 in
theorem ml_r5 : ∀ w ∈ wsL_law_r5, w ∈ lw_tbl := ml_pos _ [9, 491, 215, 216, 217, 218, 219, 223, 225, 72, 220, 221, 222, 227, 228, 229, 230, 235, 231, 232, 233, 234, 551, 552] (by decide +kernel)
set_option maxRecDepth 20000 in
theorem ml_r6 : ∀ w ∈ wsL_law_r6, w ∈ lw_tbl := ml_pos _ [553, 554, 555, 556, 557, 540, 541, 542, 547, 549, 10, 550, 494, 533, 534, 535, 236, 237, 238, 239, 74, 240, 241, 242] (by decide +kernel)
set_option maxRecDepth 20000 in
theorem ml_r7 : ∀ w ∈ wsL_law_r7, w ∈ lw_tbl := ml_pos _ [243, 558, 559, 560, 561, 244, 245, 246, 247, 78, 248, 249, 250, 251, 562, 563, 564, 565, 566, 568, 11, 569, 570, 572] (by decide +kernel)
set_option maxRecDepth 20000 in
theorem ml_r8 : ∀ w ∈ wsL_law_r8, w ∈ lw_tbl := ml_pos _ [12, 573, 252, 253, 254, 255, 256, 258, 0, 259, 260, 261, 262, 263, 264, 265, 266, 267, 268, 269, 270, 271, 272, 273] (by decide +kernel)
set_option maxRecDepth 20000 in
theorem ml_r9 : ∀ w ∈ wsL_law_r9, w ∈ lw_tbl := ml_pos _ [274, 275, 276, 277, 278, 279, 280, 281, 282, 294, 295, 296, 283, 284, 285, 286, 288, 289, 290, 291, 292, 293, 297, 298] (by decide +kernel)
set_option maxRecDepth 20000 in
theorem ml_r10 : ∀ w ∈ wsL_law_r10, w ∈ lw_tbl := ml_pos _ [299, 300, 301, 302, 303, 304, 305, 306, 307, 308, 309, 310, 311, 312, 313, 314, 315, 316, 317, 574, 575, 576, 577, 578] (by decide +kernel)
set_option maxRecDepth 20000 in
theorem ml_r11 : ∀ w ∈ wsL_law_r11, w ∈ lw_tbl := ml_pos _ [580, 13, 581, 582, 583, 584, 585, 587, 14, 588, 589, 591, 15, 592, 593, 595, 16, 596, 597, 599, 17, 600, 601, 603] (by decide +kernel)
set_option maxRecDepth 20000 in
theorem ml_r12 : ∀ w ∈ wsL_law_r12, w ∈ lw_tbl := ml_pos _ [18, 604, 605, 607, 19, 608, 609, 611, 20, 612, 613, 615, 21, 616, 617, 619, 22, 620, 621, 623, 23, 624, 625, 627] (by decide +kernel)
set_option maxRecDepth 20000 in
theorem ml_r13 : ∀ w ∈ wsL_law_r13, w ∈ lw_tbl := ml_pos _ [24, 628, 629, 631, 25, 632, 318, 319, 320, 321, 86, 88, 633, 634, 635, 636, 322, 323, 324, 325, 82, 326, 327, 328] (by decide +kernel)
set_option maxRecDepth 20000 in
theorem ml_r14 : ∀ w ∈ wsL_law_r14, w ∈ lw_tbl := ml_pos _ [329, 330, 331, 332, 637, 638, 639, 640, 333, 334, 335, 336, 162, 160, 337, 338, 339, 340, 341, 342, 343, 344, 345, 346] (by decide +kernel)
set_option maxRecDepth 20000 in
theorem ml_r15 : ∀ w ∈ wsL_law_r15, w ∈ lw_tbl := ml_pos _ [347, 348, 349, 351, 1, 352, 353, 354, 355, 357, 359, 2, 360, 361, 363, 3, 364, 365, 367, 4, 368, 369, 371, 5] (by decide +kernel)
set_option maxRecDepth 20000 in
theorem ml_r16 : ∀ w ∈ wsL_law_r16, w ∈ lw_tbl := ml_pos _ [372, 373, 375, 6, 376, 377, 379, 7, 380, 381, 382, 383, 384, 385, 387, 8, 388, 180, 178, 184, 182, 678, 679, 680] (by decide +kernel)
set_option maxRecDepth 20000 in
theorem ml_r17 : ∀ w ∈ wsL_law_r17, w ∈ lw_tbl := ml_pos _ [681, 498, 654, 656, 26, 657, 499, 501, 500, 503, 502, 658, 660, 27, 661, 662, 664, 28, 665, 666, 668, 29, 669, 670] (by decide +kernel)
set_option maxRecDepth 20000 in
theorem ml_r18 : ∀ w ∈ wsL_law_r18, w ∈ lw_tbl := ml_pos _ [672, 30, 673, 674, 676, 31, 677, 389, 390, 391, 392, 76, 80, 393, 394, 395, 396, 397, 682, 683, 684, 685, 686, 688] (by decide +kernel)
set_option maxRecDepth 20000 in
theorem ml_r19 : ∀ w ∈ wsL_law_r19, w ∈ lw_tbl := ml_pos _ [32, 689, 398, 399, 400, 401, 84, 90, 92, 94, 96, 402, 403, 404, 405, 406, 690, 691, 692, 693, 694, 696, 33, 697] (by decide +kernel)
set_option maxRecDepth 20000 in
theorem ml_r20 : ∀ w ∈ wsL_law_r20, w ∈ lw_tbl := ml_pos _ [407, 408, 409, 410, 411, 698, 699, 700, 701, 412, 413, 414, 415, 416, 702, 703, 704, 705, 417, 418, 419, 420, 421, 706] (by decide +kernel)
set_option maxRecDepth 20000 in
theorem ml_r21 : ∀ w ∈ wsL_law_r21, w ∈ lw_tbl := ml_pos _ [707, 708, 709, 422, 423, 424, 425, 98, 100, 145, 426, 427, 428, 429, 430, 431, 432, 433, 710, 711, 712, 713, 714, 716] (by decide +kernel)
set_option maxRecDepth 20000 in
theorem ml_r22 : ∀ w ∈ wsL_law_r22, w ∈ lw_tbl := ml_pos _ [34, 717, 718, 720, 35, 721, 722, 724, 36, 725, 434, 435, 436, 437, 726, 727, 728, 729, 438, 439, 440, 441, 730, 731] (by decide +kernel)
set_option maxRecDepth 20000 in
theorem ml_r23 : ∀ w ∈ wsL_law_r23, w ∈ lw_tbl := ml_pos _ [732, 733, 442, 443, 444, 445, 734, 735, 736, 737, 446, 447, 448, 449, 450, 451, 452, 453, 454, 455, 456, 457, 458, 459] (by decide +kernel)
set_option maxRecDepth 20000 in
theorem ml_r24 : ∀ w ∈ wsL_law_r24, w ∈ lw_tbl := ml_pos _ [641, 642, 643, 644, 645, 460, 461, 462, 463, 646, 647, 648, 649, 464, 650, 651, 652, 653, 465, 466, 467, 468, 469, 470] (by decide +kernel)
set_option maxRecDepth 20000 in
theorem ml_r25 : ∀ w ∈ wsL_law_r25, w ∈ lw_tbl := ml_pos _ [471, 472, 529, 530, 531, 532, 473, 474, 475, 476, 477, 536, 537, 538, 539, 478, 479, 480, 481, 543, 544, 545, 546] (by decide +kernel)
set_option maxRecDepth 20000 in
theorem inX0 : ∀ w ∈ wsX00, w ∈ lw_tbl := ml_pos _ [146, 148, 150] (by decide +kernel)
set_option maxRecDepth 20000 in
theorem inX1 : ∀ w ∈ wsX10, w ∈ lw_tbl := ml_pos _ [163, 165] (by decide +kernel)
set_option maxRecDepth 20000 in
theorem inX2 : ∀ w ∈ wsX20, w ∈ lw_tbl := ml_pos _ [185, 187, 189, 191, 193] (by decide +kernel)
set_option maxRecDepth 20000 in
theorem inX3 : ∀ w ∈ wsX30, w ∈ lw_tbl := ml_pos _ [101, 103, 105, 107, 109, 111, 113, 115, 117, 119, 121, 123, 125, 127, 129] (by decide +kernel)
set_option maxRecDepth 20000 in
theorem inX4 : ∀ w ∈ wsX40, w ∈ lw_tbl := ml_pos _ [202, 204, 206, 208, 210, 212] (by decide +kernel)
set_option maxRecDepth 20000 in
theorem inX5 : ∀ w ∈ wsX50, w ∈ lw_tbl := ml_pos _ [504, 506, 508, 510, 512, 514, 516, 518, 520, 522, 524, 526] (by decide +kernel)
theorem wsL_law_in : ∀ w ∈ wsL_law, w ∈ lw_tbl := List.forall_mem_append.mpr ⟨List.forall_mem_append.mpr ⟨List.forall_mem_append.mpr ⟨List.forall_mem_append.mpr ⟨List.forall_mem_append.mpr ⟨List.forall_mem_append.mpr ⟨List.forall_mem_append.mpr ⟨List.forall_mem_append.mpr ⟨ml_r1, List.forall_mem_append.mpr ⟨ml_r2, List.forall_mem_append.mpr ⟨ml_r3, List.forall_mem_append.mpr ⟨ml_r4, List.forall_mem_append.mpr ⟨ml_r5, List.forall_mem_append.mpr ⟨ml_r6, List.forall_mem_append.mpr ⟨ml_r7, List.forall_mem_append.mpr ⟨ml_r8, List.forall_mem_append.mpr ⟨ml_r9, List.forall_mem_append.mpr ⟨ml_r10, List.forall_mem_append.mpr ⟨ml_r11, List.forall_mem_append.mpr ⟨ml_r12, List.forall_mem_append.mpr ⟨ml_r13, List.forall_mem_append.mpr ⟨ml_r14, List.forall_mem_append.mpr ⟨ml_r15, List.forall_mem_append.mpr ⟨ml_r16, List.forall_mem_append.mpr ⟨ml_r17, List.forall_mem_append.mpr ⟨ml_r18, List.forall_mem_append.mpr ⟨ml_r19, List.forall_mem_append.mpr ⟨ml_r20, List.forall_mem_append.mpr ⟨ml_r21, List.forall_mem_append.mpr ⟨ml_r22, List.forall_mem_append.mpr ⟨ml_r23, List.forall_mem_append.mpr ⟨ml_r24, ml_r25⟩⟩⟩⟩⟩⟩⟩⟩⟩⟩⟩⟩⟩⟩⟩⟩⟩⟩⟩⟩⟩⟩⟩⟩, inX4⟩, inX5⟩, inX3⟩, inX0⟩, inX1⟩, inX2⟩, fun _ h => absurd h List.not_mem_nil⟩
