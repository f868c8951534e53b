theorem pn_memp {big ws : List Cond} (ps : List Nat) (h : ws.map some = ps.map (fun i => big[i]?)) : ∀ w ∈ ws, w ∈ big := by
  intro w hw
  have h1 : some w ∈ ps.map (fun i => big[i]?) := by rw [← h]; exact List.mem_map.mpr ⟨w, hw, rfl⟩
  obtain ⟨i, -, hi⟩ := List.mem_map.mp h1
  exact List.mem_of_getElem? hi
theorem pn_mapp {α : Type} {p : α → Prop} {a b : List α} (h1 : ∀ x ∈ a, p x) (h2 : ∀ x ∈ b, p x) : ∀ x ∈ a ++ b, p x := fun x h => (List.mem_append.mp h).elim (h1 x) (h2 x)
set_option maxRecDepth 20000 in
theorem pn_wl1 : ∀ w ∈ wsL_law_r1, w ∈ lw_tbl := pn_memp [35, 36, 28, 409, 410, 31, 37, 38, 39, 40, 41, 42, 43, 44, 29, 87, 88, 77, 78, 30, 89, 90, 91, 46] (by decide +kernel)
set_option maxRecDepth 20000 in
theorem pn_wl2 : ∀ w ∈ wsL_law_r2, w ∈ lw_tbl := pn_memp [47, 48, 74, 49, 50, 51, 52, 53, 75, 54, 55, 56, 80, 81, 82, 83, 411, 412, 413, 414, 415, 416, 464, 417] (by decide +kernel)
set_option maxRecDepth 20000 in
theorem pn_wl3 : ∀ w ∈ wsL_law_r3, w ∈ lw_tbl := pn_memp [418, 420, 421, 422, 424, 426, 428, 430, 103, 104, 105, 106, 107, 108, 109, 110, 111, 112, 113, 114, 115, 465, 466, 467] (by decide +kernel)
set_option maxRecDepth 20000 in
theorem pn_wl4 : ∀ w ∈ wsL_law_r4, w ∈ lw_tbl := pn_memp [468, 419, 469, 470, 471, 116, 117, 118, 119, 472, 473, 474, 475, 120, 121, 122, 123, 124, 125, 126, 127, 128, 129, 130] (by decide +kernel)
set_option maxRecDepth 20000 in
theorem pn_wl5 : ∀ w ∈ wsL_law_r5, w ∈ lw_tbl := pn_memp [131, 133, 0, 134, 135, 136, 137, 138, 139, 140, 141, 142, 143, 144, 145, 146, 147, 148, 149, 150, 151, 152, 153, 154] (by decide +kernel)
set_option maxRecDepth 20000 in
theorem pn_wl6 : ∀ w ∈ wsL_law_r6, w ∈ lw_tbl := pn_memp [155, 156, 157, 158, 160, 1, 161, 162, 163, 164, 165, 166, 167, 168, 169, 170, 476, 477, 478, 479, 480, 482, 5, 483] (by decide +kernel)
set_option maxRecDepth 20000 in
theorem pn_wl7 : ∀ w ∈ wsL_law_r7, w ∈ lw_tbl := pn_memp [484, 485, 486, 487, 489, 6, 490, 491, 493, 7, 494, 495, 497, 8, 498, 499, 501, 9, 502, 503, 505, 10, 506, 507] (by decide +kernel)
set_option maxRecDepth 20000 in
theorem pn_wl8 : ∀ w ∈ wsL_law_r8, w ∈ lw_tbl := pn_memp [509, 11, 510, 171, 172, 173, 174, 175, 176, 177, 178, 179, 180, 181, 182, 183, 184, 511, 512, 513, 514, 515, 517, 12] (by decide +kernel)
set_option maxRecDepth 20000 in
theorem pn_wl9 : ∀ w ∈ wsL_law_r9, w ∈ lw_tbl := pn_memp [518, 185, 186, 187, 188, 519, 520, 521, 522, 189, 190, 191, 192, 523, 524, 525, 526, 193, 194, 195, 196, 197, 198, 199] (by decide +kernel)
set_option maxRecDepth 20000 in
theorem pn_wl10 : ∀ w ∈ wsL_law_r10, w ∈ lw_tbl := pn_memp [200, 201, 202, 203, 204, 527, 528, 529, 530, 205, 206, 207, 208, 209, 210, 211, 212, 531, 532, 533, 534, 213, 214, 215] (by decide +kernel)
set_option maxRecDepth 20000 in
theorem pn_wl11 : ∀ w ∈ wsL_law_r11, w ∈ lw_tbl := pn_memp [216, 217, 218, 219, 220, 221, 222, 223, 224, 225, 226, 227, 229, 230, 535, 536, 537, 538, 539, 540, 541, 542, 544, 13] (by decide +kernel)
set_option maxRecDepth 20000 in
theorem pn_wl12 : ∀ w ∈ wsL_law_r12, w ∈ lw_tbl := pn_memp [545, 231, 232, 233, 234, 235, 546, 547, 548, 549, 236, 237, 238, 239, 240, 241, 242, 243, 244, 245, 246, 247, 248, 249] (by decide +kernel)
set_option maxRecDepth 20000 in
theorem pn_wl13 : ∀ w ∈ wsL_law_r13, w ∈ lw_tbl := pn_memp [250, 251, 252, 253, 254, 255, 256, 257, 550, 551, 552, 553, 554, 556, 14, 557, 558, 560, 15, 561, 258, 259, 260, 261] (by decide +kernel)
set_option maxRecDepth 20000 in
theorem pn_wl14 : ∀ w ∈ wsL_law_r14, w ∈ lw_tbl := pn_memp [262, 263, 264, 265, 266, 267, 268, 269, 270, 271, 272, 273, 274, 275, 562, 563, 564, 565, 427, 566, 568, 16, 569, 423] (by decide +kernel)
set_option maxRecDepth 20000 in
theorem pn_wl15 : ∀ w ∈ wsL_law_r15, w ∈ lw_tbl := pn_memp [570, 571, 572, 573, 574, 575, 276, 277, 278, 279, 280, 281, 282, 283, 284, 285, 286, 287, 288, 289, 290, 291, 292, 293] (by decide +kernel)
set_option maxRecDepth 20000 in
theorem pn_wl16 : ∀ w ∈ wsL_law_r16, w ∈ lw_tbl := pn_memp [294, 295, 296, 297, 298, 299, 300, 301, 32, 302, 303, 304, 305, 576, 577, 578, 579, 580, 582, 17, 583, 584, 585, 586] (by decide +kernel)
set_option maxRecDepth 20000 in
theorem pn_wl17 : ∀ w ∈ wsL_law_r17, w ∈ lw_tbl := pn_memp [306, 307, 308, 309, 310, 311, 312, 313, 314, 315, 316, 318, 2, 319, 325, 326, 33, 327, 329, 330, 331, 320, 321, 322] (by decide +kernel)
set_option maxRecDepth 20000 in
theorem pn_wl18 : ∀ w ∈ wsL_law_r18, w ∈ lw_tbl := pn_memp [323, 324, 328, 332, 333, 334, 335, 336, 337, 338, 339, 340, 341, 587, 588, 589, 590, 591, 592, 593, 594, 596, 18, 597] (by decide +kernel)
set_option maxRecDepth 20000 in
theorem pn_wl19 : ∀ w ∈ wsL_law_r19, w ∈ lw_tbl := pn_memp [425, 429, 598, 600, 19, 601, 602, 604, 20, 605, 606, 608, 21, 609, 610, 612, 22, 613, 614, 615, 616, 342, 343, 344] (by decide +kernel)
set_option maxRecDepth 20000 in
theorem pn_wl20 : ∀ w ∈ wsL_law_r20, w ∈ lw_tbl := pn_memp [345, 346, 347, 348, 349, 350, 617, 618, 619, 620, 351, 352, 353, 354, 355, 621, 622, 623, 624, 356, 357, 358, 359, 360] (by decide +kernel)
set_option maxRecDepth 20000 in
theorem pn_wl21 : ∀ w ∈ wsL_law_r21, w ∈ lw_tbl := pn_memp [361, 362, 363, 364, 366, 3, 367, 625, 626, 627, 628, 629, 631, 23, 632, 368, 369, 370, 371, 372, 633, 634, 635, 636] (by decide +kernel)
set_option maxRecDepth 20000 in
theorem pn_wl22 : ∀ w ∈ wsL_law_r22, w ∈ lw_tbl := pn_memp [373, 374, 375, 376, 377, 378, 379, 380, 381, 383, 382, 34, 637, 638, 639, 640, 384, 385, 386, 387, 641, 642, 643, 644] (by decide +kernel)
set_option maxRecDepth 20000 in
theorem pn_wl23 : ∀ w ∈ wsL_law_r23, w ∈ lw_tbl := pn_memp [388, 389, 390, 391, 392, 393, 394, 395, 396, 397, 398, 399, 400, 401, 403, 4, 404, 405, 406, 407, 408, 645, 646, 647] (by decide +kernel)
set_option maxRecDepth 20000 in
theorem pn_wl24 : ∀ w ∈ wsL_law_r24, w ∈ lw_tbl := pn_memp [648, 649, 651, 24, 652, 653, 655, 25, 656, 657, 659, 26, 660] (by decide +kernel)
set_option maxRecDepth 20000 in
theorem inX0 : ∀ w ∈ wsX00, w ∈ lw_tbl := by decide +kernel
set_option maxRecDepth 20000 in
theorem inX1 : ∀ w ∈ wsX10, w ∈ lw_tbl := by decide +kernel
set_option maxRecDepth 20000 in
theorem inX2 : ∀ w ∈ wsX20, w ∈ lw_tbl := by decide +kernel
set_option maxRecDepth 20000 in
theorem inX3 : ∀ w ∈ wsX30, w ∈ lw_tbl := by decide +kernel
theorem wsL_law_in : ∀ w ∈ wsL_law, w ∈ lw_tbl := pn_mapp (pn_mapp (pn_mapp (pn_mapp (pn_mapp (pn_mapp pn_wl1 (pn_mapp pn_wl2 (pn_mapp pn_wl3 (pn_mapp pn_wl4 (pn_mapp pn_wl5 (pn_mapp pn_wl6 (pn_mapp pn_wl7 (pn_mapp pn_wl8 (pn_mapp pn_wl9 (pn_mapp pn_wl10 (pn_mapp pn_wl11 (pn_mapp pn_wl12 (pn_mapp pn_wl13 (pn_mapp pn_wl14 (pn_mapp pn_wl15 (pn_mapp pn_wl16 (pn_mapp pn_wl17 (pn_mapp pn_wl18 (pn_mapp pn_wl19 (pn_mapp pn_wl20 (pn_mapp pn_wl21 (pn_mapp pn_wl22 (pn_mapp pn_wl23 pn_wl24))))))))))))))))))))))) inX2) inX3) inX0) inX1) (fun _ h => absurd h List.not_mem_nil)
