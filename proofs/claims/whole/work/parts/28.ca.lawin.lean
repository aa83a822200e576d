theorem lin_of (ws : List Cond) (ps : List Nat) (hp : ws = ps.filterMap (fun i => lw_tbl[i]?)) : ∀ w ∈ ws, w ∈ lw_tbl := by
  intro w hw
  rw [hp] at hw
  obtain ⟨i, -, hi⟩ := List.mem_filterMap.mp hw
  exact List.mem_of_getElem? hi
set_option maxRecDepth 100000 in
theorem lin_1 : ∀ w ∈ wsL_law0_r1, w ∈ lw_tbl := lin_of _ [56, 57, 43, 644, 645, 47, 885, 58, 59, 60, 61, 62, 63, 64, 65, 44, 194, 195, 67, 68, 69, 173, 175, 177] (by decide +kernel)
set_option maxRecDepth 100000 in
theorem lin_2 : ∀ w ∈ wsL_law0_r2, w ∈ lw_tbl := lin_of _ [70, 71, 45, 179, 106, 107, 46, 181, 73, 74, 75, 76, 105, 78, 81, 83, 86, 89, 109, 110, 111, 112, 115, 118] (by decide +kernel)
set_option maxRecDepth 100000 in
theorem lin_3 : ∀ w ∈ wsL_law0_r3, w ∈ lw_tbl := lin_of _ [121, 123, 126, 129, 132, 135, 138, 141, 143, 144, 646, 647, 648, 649, 653, 654, 655, 656, 657, 457, 458, 42, 459, 460] (by decide +kernel)
set_option maxRecDepth 100000 in
theorem lin_4 : ∀ w ∈ wsL_law0_r4, w ∈ lw_tbl := lin_of _ [461, 462, 463, 464, 465, 466, 51, 180, 482, 483, 484, 485, 486, 52, 679, 680, 681, 682, 650, 651, 683, 684, 685, 686] (by decide +kernel)
set_option maxRecDepth 100000 in
theorem lin_5 : ∀ w ∈ wsL_law0_r5, w ∈ lw_tbl := lin_of _ [688, 13, 689, 690, 692, 14, 693, 675, 676, 677, 678, 502, 503, 504, 505, 506, 507, 508, 509, 182, 510, 511, 512, 368] (by decide +kernel)
set_option maxRecDepth 100000 in
theorem lin_6 : ∀ w ∈ wsL_law0_r6, w ∈ lw_tbl := lin_of _ [53, 517, 518, 519, 520, 521, 694, 695, 696, 697, 652, 698, 700, 15, 701, 524, 525, 526, 527, 528, 529, 530, 130, 451] (by decide +kernel)
set_option maxRecDepth 100000 in
theorem lin_7 : ∀ w ∈ wsL_law0_r7, w ∈ lw_tbl := lin_of _ [453, 11, 454, 114, 440, 442, 10, 443, 444, 258, 259, 260, 702, 703, 704, 705, 706, 708, 16, 709, 710, 712, 17, 713] (by decide +kernel)
