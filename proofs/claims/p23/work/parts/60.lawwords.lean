theorem mem_by {big : List Cond} (ws : List Cond) (ps : List Nat) (hp : ws = ps.filterMap (fun i => big[i]?)) : ∀ w ∈ ws, w ∈ big := by
  intro w hw
  rw [hp] at hw
  obtain ⟨i, -, hi⟩ := List.mem_filterMap.mp hw
  exact List.mem_of_getElem? hi
set_option maxRecDepth 20000 in
theorem wsL_in_r1 : ∀ w ∈ wsL_law_r1, w ∈ lw_tbl := mem_by wsL_law_r1 [47, 48, 40, 492, 493, 45, 49, 50, 51, 52, 53, 54, 55, 56, 41, 262, 112, 113, 42, 263, 264, 111, 265, 160] (by decide +kernel)
set_option maxRecDepth 20000 in
theorem wsL_in_r2 : ∀ w ∈ wsL_law_r2, w ∈ lw_tbl := mem_by wsL_law_r2 [161, 43, 266, 267, 268, 296, 269, 57, 58, 59, 60, 65, 68, 84, 87, 115, 116, 117, 118, 120, 131, 132, 133, 134] (by decide +kernel)
set_option maxRecDepth 20000 in
theorem wsL_in_r3 : ∀ w ∈ wsL_law_r3, w ∈ lw_tbl := mem_by wsL_law_r3 [162, 163, 164, 165, 166, 167, 44, 168, 169, 170, 176, 178, 0, 179, 63, 61, 180, 181, 182, 183, 66, 121, 69, 123] (by decide +kernel)
set_option maxRecDepth 20000 in
theorem wsL_in_r4 : ∀ w ∈ wsL_law_r4, w ∈ lw_tbl := mem_by wsL_law_r4 [71, 125, 74, 127, 77, 128, 129, 85, 184, 185, 186, 187, 83, 188, 189, 190, 191, 192, 193, 194, 195, 196, 197, 198] (by decide +kernel)
set_option maxRecDepth 20000 in
theorem wsL_in_r5 : ∀ w ∈ wsL_law_r5, w ∈ lw_tbl := mem_by wsL_law_r5 [199, 200, 201, 202, 203, 204, 205, 206, 211, 212, 213, 214, 207, 209, 1, 210, 215, 217, 2, 218, 219, 221, 3, 222] (by decide +kernel)
set_option maxRecDepth 20000 in
theorem wsL_in_r6 : ∀ w ∈ wsL_law_r6, w ∈ lw_tbl := mem_by wsL_law_r6 [223, 224, 225, 226, 227, 228, 229, 230, 231, 233, 4, 234, 235, 236, 237, 238, 239, 241, 5, 242, 243, 244, 245, 246] (by decide +kernel)
set_option maxRecDepth 20000 in
theorem wsL_in_r7 : ∀ w ∈ wsL_law_r7, w ∈ lw_tbl := mem_by wsL_law_r7 [247, 249, 6, 250, 251, 252, 253, 254, 255, 256, 258, 7, 259, 261, 260, 494, 495, 496, 497, 498, 499, 501, 502, 503] (by decide +kernel)
set_option maxRecDepth 20000 in
theorem wsL_in_r8 : ∀ w ∈ wsL_law_r8, w ∈ lw_tbl := mem_by wsL_law_r8 [504, 506, 507, 508, 509, 297, 298, 299, 300, 67, 70, 72, 75, 78, 82, 80, 271, 310, 301, 303, 8, 304, 309, 305] (by decide +kernel)
set_option maxRecDepth 20000 in
theorem wsL_in_r9 : ∀ w ∈ wsL_law_r9, w ∈ lw_tbl := mem_by wsL_law_r9 [307, 9, 308, 723, 724, 725, 726, 549, 545, 546, 547, 727, 729, 36, 730, 625, 500, 594, 596, 27, 597, 573, 575, 22] (by decide +kernel)
set_option maxRecDepth 20000 in
theorem wsL_in_r10 : ∀ w ∈ wsL_law_r10, w ∈ lw_tbl := mem_by wsL_law_r10 [576, 577, 579, 23, 580, 585, 581, 583, 24, 584, 510, 550, 552, 17, 553, 554, 556, 18, 557, 558, 560, 19, 561, 562] (by decide +kernel)
set_option maxRecDepth 20000 in
theorem wsL_in_r11 : ∀ w ∈ wsL_law_r11, w ∈ lw_tbl := mem_by wsL_law_r11 [563, 564, 586, 588, 25, 589, 622, 623, 624, 731, 733, 37, 734, 590, 592, 26, 593, 735, 737, 38, 738, 598, 600, 28] (by decide +kernel)
set_option maxRecDepth 20000 in
theorem wsL_in_r12 : ∀ w ∈ wsL_law_r12, w ∈ lw_tbl := mem_by wsL_law_r12 [601, 311, 312, 313, 314, 318, 119, 86, 315, 316, 317, 319, 320, 321, 322, 323, 325, 10, 326, 327, 329, 11, 330, 331] (by decide +kernel)
set_option maxRecDepth 20000 in
theorem wsL_in_r13 : ∀ w ∈ wsL_law_r13, w ∈ lw_tbl := mem_by wsL_law_r13 [333, 12, 334, 335, 336, 337, 338, 538, 539, 540, 541, 548, 542, 543, 544, 565, 567, 20, 568, 569, 571, 21, 572, 602] (by decide +kernel)
set_option maxRecDepth 20000 in
theorem wsL_in_r14 : ∀ w ∈ wsL_law_r14, w ∈ lw_tbl := mem_by wsL_law_r14 [604, 29, 605, 606, 608, 30, 609, 339, 340, 341, 342, 343, 345, 13, 346, 347, 348, 349, 350, 351, 352, 610, 611, 612] (by decide +kernel)
set_option maxRecDepth 20000 in
theorem wsL_in_r15 : ∀ w ∈ wsL_law_r15, w ∈ lw_tbl := mem_by wsL_law_r15 [613, 614, 616, 31, 617, 353, 354, 355, 356, 357, 358, 359, 360, 361, 362, 618, 619, 620, 621, 363, 364, 365, 366, 367] (by decide +kernel)
set_option maxRecDepth 20000 in
theorem wsL_in_r16 : ∀ w ∈ wsL_law_r16, w ∈ lw_tbl := mem_by wsL_law_r16 [626, 627, 628, 629, 368, 369, 370, 371, 372, 374, 14, 375, 270, 390, 376, 377, 44, 378, 379, 380, 381, 382, 383, 384] (by decide +kernel)
set_option maxRecDepth 20000 in
theorem wsL_in_r17 : ∀ w ∈ wsL_law_r17, w ∈ lw_tbl := mem_by wsL_law_r17 [385, 386, 62, 64, 73, 76, 79, 81, 387, 389, 388, 46, 630, 631, 632, 633, 634, 636, 32, 637, 638, 639, 640, 391] (by decide +kernel)
set_option maxRecDepth 20000 in
theorem wsL_in_r18 : ∀ w ∈ wsL_law_r18, w ∈ lw_tbl := mem_by wsL_law_r18 [392, 393, 394, 641, 642, 643, 644, 395, 396, 397, 398, 645, 646, 647, 648, 649, 651, 33, 652, 399, 400, 401, 402, 653] (by decide +kernel)
set_option maxRecDepth 20000 in
theorem wsL_in_r19 : ∀ w ∈ wsL_law_r19, w ∈ lw_tbl := mem_by wsL_law_r19 [654, 655, 656, 403, 404, 405, 406, 657, 658, 659, 660, 407, 408, 409, 410, 661, 662, 663, 664, 411, 412, 413, 414, 415] (by decide +kernel)
set_option maxRecDepth 20000 in
theorem wsL_in_r20 : ∀ w ∈ wsL_law_r20, w ∈ lw_tbl := mem_by wsL_law_r20 [416, 417, 418, 419, 665, 666, 667, 668, 669, 670, 672, 34, 673, 420, 421, 422, 423, 424, 425, 426, 427, 674, 675, 676] (by decide +kernel)
set_option maxRecDepth 20000 in
theorem wsL_in_r21 : ∀ w ∈ wsL_law_r21, w ∈ lw_tbl := mem_by wsL_law_r21 [677, 428, 429, 430, 431, 432, 433, 678, 679, 680, 681, 682, 434, 435, 436, 437, 438, 440, 15, 441, 442, 444, 16, 445] (by decide +kernel)
set_option maxRecDepth 20000 in
theorem wsL_in_r22 : ∀ w ∈ wsL_law_r22, w ∈ lw_tbl := mem_by wsL_law_r22 [272, 446, 447, 448, 683, 684, 685, 686, 687, 689, 35, 690, 505, 691, 692, 693, 694, 449, 450, 451, 452, 453, 454, 455] (by decide +kernel)
set_option maxRecDepth 20000 in
theorem wsL_in_r23 : ∀ w ∈ wsL_law_r23, w ∈ lw_tbl := mem_by wsL_law_r23 [456, 457, 458, 459, 460, 695, 696, 697, 698, 461, 462, 463, 464, 122, 124, 126, 465, 466, 467, 468, 699, 700, 701, 702] (by decide +kernel)
set_option maxRecDepth 20000 in
theorem wsL_in_r24 : ∀ w ∈ wsL_law_r24, w ∈ lw_tbl := mem_by wsL_law_r24 [469, 470, 471, 472, 130, 703, 704, 705, 706, 473, 474, 475, 476, 707, 708, 709, 710, 477, 478, 479, 480, 711, 712, 713] (by decide +kernel)
set_option maxRecDepth 20000 in
theorem wsL_in_r25 : ∀ w ∈ wsL_law_r25, w ∈ lw_tbl := mem_by wsL_law_r25 [714, 481, 482, 483, 484, 485, 486, 487, 715, 716, 717, 718, 488, 489, 490, 491, 719, 720, 721, 722] (by decide +kernel)
set_option maxRecDepth 20000 in
theorem wsL_in_X3 : ∀ w ∈ wsX30, w ∈ lw_tbl := by decide +kernel
set_option maxRecDepth 20000 in
theorem wsL_in_X4 : ∀ w ∈ wsX40, w ∈ lw_tbl := by decide +kernel
set_option maxRecDepth 20000 in
theorem wsL_in_X2 : ∀ w ∈ wsX20, w ∈ lw_tbl := by decide +kernel
set_option maxRecDepth 20000 in
theorem wsL_in_X1 : ∀ w ∈ wsX10, w ∈ lw_tbl := by decide +kernel
set_option maxRecDepth 20000 in
theorem wsL_in_X0 : ∀ w ∈ wsX00, w ∈ lw_tbl := by decide +kernel
theorem wsL_law_in : ∀ w ∈ wsL_law, w ∈ lw_tbl := (List.forall_mem_append.mpr ⟨(List.forall_mem_append.mpr ⟨(List.forall_mem_append.mpr ⟨(List.forall_mem_append.mpr ⟨(List.forall_mem_append.mpr ⟨(List.forall_mem_append.mpr ⟨(List.forall_mem_append.mpr ⟨wsL_in_r1, (List.forall_mem_append.mpr ⟨wsL_in_r2, (List.forall_mem_append.mpr ⟨wsL_in_r3, (List.forall_mem_append.mpr ⟨wsL_in_r4, (List.forall_mem_append.mpr ⟨wsL_in_r5, (List.forall_mem_append.mpr ⟨wsL_in_r6, (List.forall_mem_append.mpr ⟨wsL_in_r7, (List.forall_mem_append.mpr ⟨wsL_in_r8, (List.forall_mem_append.mpr ⟨wsL_in_r9, (List.forall_mem_append.mpr ⟨wsL_in_r10, (List.forall_mem_append.mpr ⟨wsL_in_r11, (List.forall_mem_append.mpr ⟨wsL_in_r12, (List.forall_mem_append.mpr ⟨wsL_in_r13, (List.forall_mem_append.mpr ⟨wsL_in_r14, (List.forall_mem_append.mpr ⟨wsL_in_r15, (List.forall_mem_append.mpr ⟨wsL_in_r16, (List.forall_mem_append.mpr ⟨wsL_in_r17, (List.forall_mem_append.mpr ⟨wsL_in_r18, (List.forall_mem_append.mpr ⟨wsL_in_r19, (List.forall_mem_append.mpr ⟨wsL_in_r20, (List.forall_mem_append.mpr ⟨wsL_in_r21, (List.forall_mem_append.mpr ⟨wsL_in_r22, (List.forall_mem_append.mpr ⟨wsL_in_r23, (List.forall_mem_append.mpr ⟨wsL_in_r24, wsL_in_r25⟩)⟩)⟩)⟩)⟩)⟩)⟩)⟩)⟩)⟩)⟩)⟩)⟩)⟩)⟩)⟩)⟩)⟩)⟩)⟩)⟩)⟩)⟩)⟩), wsL_in_X3⟩), wsL_in_X4⟩), wsL_in_X2⟩), wsL_in_X1⟩), wsL_in_X0⟩), fun _ h => absurd h List.not_mem_nil⟩)
theorem inlX0 : ∀ w ∈ wsX00, w ∈ wsL_law := fun _ h => List.mem_append_left _ (List.mem_append_right _ h)
theorem inX0 : ∀ w ∈ wsX00, w ∈ lw_tbl := fun w h => wsL_law_in w (inlX0 w h)
theorem inlX1 : ∀ w ∈ wsX10, w ∈ wsL_law := fun _ h => List.mem_append_left _ (List.mem_append_left _ (List.mem_append_right _ h))
theorem inX1 : ∀ w ∈ wsX10, w ∈ lw_tbl := fun w h => wsL_law_in w (inlX1 w h)
theorem inlX2 : ∀ w ∈ wsX20, w ∈ wsL_law := fun _ h => List.mem_append_left _ (List.mem_append_left _ (List.mem_append_left _ (List.mem_append_right _ h)))
theorem inX2 : ∀ w ∈ wsX20, w ∈ lw_tbl := fun w h => wsL_law_in w (inlX2 w h)
theorem inlX3 : ∀ w ∈ wsX30, w ∈ wsL_law := fun _ h => List.mem_append_left _ (List.mem_append_left _ (List.mem_append_left _ (List.mem_append_left _ (List.mem_append_left _ (List.mem_append_right _ h)))))
theorem inX3 : ∀ w ∈ wsX30, w ∈ lw_tbl := fun w h => wsL_law_in w (inlX3 w h)
theorem inlX4 : ∀ w ∈ wsX40, w ∈ wsL_law := fun _ h => List.mem_append_left _ (List.mem_append_left _ (List.mem_append_left _ (List.mem_append_left _ (List.mem_append_right _ h))))
theorem inX4 : ∀ w ∈ wsX40, w ∈ lw_tbl := fun w h => wsL_law_in w (inlX4 w h)
theorem inJ9 : ∀ w ∈ wsJ90, w ∈ lw_tbl := by decide +kernel
theorem inJ10 : ∀ w ∈ wsJ100, w ∈ lw_tbl := by decide +kernel
