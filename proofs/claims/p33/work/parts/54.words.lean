/-! the words of the law stand in the tables -/
theorem mem_by {l t : List Cond} (ks : List Nat) (h : ks.map (fun i => t[i]?) = l.map some) : ∀ w ∈ l, w ∈ t := by
  intro w hw
  have h1 : some w ∈ l.map some := List.mem_map_of_mem hw
  rw [← h] at h1
  obtain ⟨i, -, e⟩ := List.mem_map.mp h1
  exact List.mem_of_getElem? e
theorem app_in {a b t : List Cond} (h1 : ∀ w ∈ a, w ∈ t) (h2 : ∀ w ∈ b, w ∈ t) : ∀ w ∈ a ++ b, w ∈ t := fun w h => (List.mem_append.mp h).elim (h1 w) (h2 w)
theorem lwi_1 : ∀ w ∈ wsL_law0_r1, w ∈ lw_tbl := mem_by [25, 26, 11, 27, 28, 29, 30, 31, 32, 33, 34, 12, 170, 46, 47, 13, 171, 114, 115, 14, 172, 139, 140, 15] (by decide +kernel)
theorem lwi_2 : ∀ w ∈ wsL_law0_r2, w ∈ lw_tbl := mem_by [173, 151, 152, 16, 174, 175, 192, 176, 36, 37, 38, 45, 39, 48, 49, 50, 51, 113, 61, 62, 63, 64, 65, 66] (by decide +kernel)
theorem lwi_3 : ∀ w ∈ wsL_law0_r3, w ∈ lw_tbl := mem_by [67, 68, 69, 70, 52, 53, 54, 55, 71, 72, 73, 74, 75, 76, 77, 56, 57, 58, 117, 118, 119, 120, 121, 122] (by decide +kernel)
theorem lwi_4 : ∀ w ∈ wsL_law0_r4, w ∈ lw_tbl := mem_by [142, 143, 144, 145, 147, 146, 153, 154, 155, 156, 157, 160, 159, 193, 194, 195, 196, 229, 20, 197, 198, 199, 200, 201] (by decide +kernel)
theorem lwi_5 : ∀ w ∈ wsL_law0_r5, w ∈ lw_tbl := mem_by [202, 203, 204, 205, 206, 207, 208, 209, 210, 211, 212, 213, 214, 215, 216, 217, 218, 219, 220, 221, 222, 223, 224, 225] (by decide +kernel)
theorem lwi_6 : ∀ w ∈ wsL_law0_r6, w ∈ lw_tbl := mem_by [226, 227, 228, 350, 351, 10, 352, 353, 346, 347, 348, 349, 297, 298, 299, 300, 301, 302, 303, 304, 305, 306, 307, 308] (by decide +kernel)
theorem lwi_7 : ∀ w ∈ wsL_law0_r7, w ∈ lw_tbl := mem_by [309, 310, 311, 312, 123, 124, 125, 313, 314, 315, 316, 317, 318, 319, 320, 321, 322, 323, 324, 325, 326, 21, 327, 328] (by decide +kernel)
theorem lwi_8 : ∀ w ∈ wsL_law0_r8, w ∈ lw_tbl := mem_by [329, 330, 331, 333, 1, 334, 339, 340, 22, 341, 335, 337, 2, 338, 342, 344, 3, 345, 354, 355, 356, 357, 358, 359] (by decide +kernel)
theorem lwi_9 : ∀ w ∈ wsL_law0_r9, w ∈ lw_tbl := mem_by [360, 361, 362, 364, 4, 365, 366, 23, 382, 383, 384, 385, 162, 161, 386, 387, 388, 389, 390, 391, 392, 393, 394, 395] (by decide +kernel)
theorem lwi_10 : ∀ w ∈ wsL_law0_r10, w ∈ lw_tbl := mem_by [396, 397, 398, 399, 401, 5, 402, 403, 404, 405, 406, 407, 408, 409, 410, 411, 413, 6, 414, 415, 416, 417, 418, 536] (by decide +kernel)
theorem lwi_11 : ∀ w ∈ wsL_law0_r11, w ∈ lw_tbl := mem_by [537, 538, 539, 540, 541, 542, 543, 544, 545, 546, 547, 548, 550, 551, 552, 553, 555, 556, 557, 558, 559, 560, 561, 562] (by decide +kernel)
theorem lwi_12 : ∀ w ∈ wsL_law0_r12, w ∈ lw_tbl := mem_by [563, 564, 565, 566, 567, 569, 570, 571, 572, 573, 574, 575, 576, 577, 578, 579, 580, 581, 582, 583, 584, 585, 586, 587] (by decide +kernel)
theorem lwi_13 : ∀ w ∈ wsL_law0_r13, w ∈ lw_tbl := mem_by [588, 589, 590, 591, 592, 594, 595, 596, 597, 598, 599, 600, 601, 602, 603, 604, 605, 606, 608, 610, 611, 612, 613, 614] (by decide +kernel)
theorem lwi_14 : ∀ w ∈ wsL_law0_r14, w ∈ lw_tbl := mem_by [615, 616, 617, 618, 619, 620, 621, 472, 474, 8, 475, 434, 24, 476, 426, 428, 7, 429, 430, 431, 432, 433, 502, 503] (by decide +kernel)
theorem lwi_15 : ∀ w ∈ wsL_law0_r15, w ∈ lw_tbl := mem_by [504, 505, 622, 623, 624, 625, 626, 627, 628, 629, 630, 454, 455, 456, 457, 631, 632, 633, 634, 635, 636, 637, 638, 639] (by decide +kernel)
theorem lwi_16 : ∀ w ∈ wsL_law0_r16, w ∈ lw_tbl := mem_by [640, 641, 642, 643, 644, 645, 646, 647, 648, 649, 650, 651, 652, 653, 655, 656, 657, 658, 659, 660, 661, 663, 664, 665] (by decide +kernel)
theorem lwi_17 : ∀ w ∈ wsL_law0_r17, w ∈ lw_tbl := mem_by [666, 419, 420, 421, 422, 423, 424, 425, 450, 451, 452, 453, 458, 459, 460, 461, 462, 463, 464, 465, 466, 468, 469, 470] (by decide +kernel)
theorem lwi_18 : ∀ w ∈ wsL_law0_r18, w ∈ lw_tbl := mem_by [471, 478, 479, 480, 481, 482, 483, 484, 485, 486, 487, 488, 489, 490, 491, 492, 493, 494, 495, 496, 498, 499, 500, 501] (by decide +kernel)
theorem lwi_19 : ∀ w ∈ wsL_law0_r19, w ∈ lw_tbl := mem_by [506, 507, 508, 509, 510, 512, 513, 514, 515, 516, 517, 518, 519, 520, 521, 522, 523, 524, 525, 526, 528, 529, 530, 531] (by decide +kernel)
theorem lwi_20 : ∀ w ∈ wsL_law0_r20, w ∈ lw_tbl := mem_by [532, 534, 9, 535] (by decide +kernel)
theorem lwi_wsX50 : ∀ w ∈ wsX50, w ∈ lw_tbl := by decide +kernel
theorem lwi_wsX30 : ∀ w ∈ wsX30, w ∈ lw_tbl := by decide +kernel
theorem lwi_wsX20 : ∀ w ∈ wsX20, w ∈ lw_tbl := by decide +kernel
theorem lwi_wsX00 : ∀ w ∈ wsX00, w ∈ lw_tbl := by decide +kernel
theorem lwi_wsX40 : ∀ w ∈ wsX40, w ∈ lw_tbl := by decide +kernel
theorem lwi_wsX10 : ∀ w ∈ wsX10, w ∈ lw_tbl := by decide +kernel
theorem lwi_0 : ∀ w ∈ wsL_law0, w ∈ lw_tbl := (app_in (app_in (app_in (app_in (app_in (app_in (app_in (app_in lwi_1 (app_in lwi_2 (app_in lwi_3 (app_in lwi_4 (app_in lwi_5 (app_in lwi_6 (app_in lwi_7 (app_in lwi_8 (app_in lwi_9 (app_in lwi_10 (app_in lwi_11 (app_in lwi_12 (app_in lwi_13 (app_in lwi_14 (app_in lwi_15 (app_in lwi_16 (app_in lwi_17 (app_in lwi_18 (app_in lwi_19 lwi_20))))))))))))))))))) lwi_wsX50) lwi_wsX30) lwi_wsX20) lwi_wsX00) lwi_wsX40) lwi_wsX10) (fun _ h => absurd h List.not_mem_nil))
theorem lwi_x0 : ∀ w ∈ (vx_atS RX5 119 "java/lang/IllegalArgumentException" ["java/lang/RuntimeException", "java/lang/Exception"]).filter goodWord, w ∈ lw_tbl := by decide +kernel
theorem lwi_x1 : ∀ w ∈ (vx_atS RX5 64 "java/lang/IllegalStateException" ["java/lang/RuntimeException", "java/lang/Exception"]).filter goodWord, w ∈ lw_tbl := by decide +kernel
theorem lwi_x2 : ∀ w ∈ (vx_atS RX5 313 "java/lang/IndexOutOfBoundsException" ["java/lang/RuntimeException", "java/lang/Exception"]).filter goodWord, w ∈ lw_tbl := by decide +kernel
theorem lwi_all : ∀ w ∈ wsL_law, w ∈ lw_tbl := app_in (app_in (app_in lwi_0 lwi_x0) lwi_x1) lwi_x2
