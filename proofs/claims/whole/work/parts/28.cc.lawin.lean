set_option maxRecDepth 100000 in
theorem lin_15 : ∀ w ∈ wsL_law0_r15, w ∈ lw_tbl := lin_of _ [608, 609, 364, 365, 366, 367, 209, 211, 0, 212, 229, 230, 231, 232, 113, 139, 233, 235, 1, 236, 119, 237, 241, 243] (by decide +kernel)
set_option maxRecDepth 100000 in
theorem lin_16 : ∀ w ∈ wsL_law0_r16, w ∈ lw_tbl := lin_of _ [2, 244, 116, 245, 246, 247, 248, 249, 251, 3, 252, 253, 261, 262, 263, 264, 265, 267, 4, 268, 269, 270, 271, 272] (by decide +kernel)
set_option maxRecDepth 100000 in
theorem lin_17 : ∀ w ∈ wsL_law0_r17, w ∈ lw_tbl := lin_of _ [277, 278, 279, 273, 280, 287, 292, 296, 298, 5, 299, 131, 300, 301, 302, 303, 304, 305, 306, 307, 308, 309, 310, 312] (by decide +kernel)
set_option maxRecDepth 100000 in
theorem lin_18 : ∀ w ∈ wsL_law0_r18, w ∈ lw_tbl := lin_of _ [6, 313, 79, 314, 319, 321, 7, 322, 88, 85, 323, 324, 325, 326, 327, 329, 8, 330, 331, 332, 333, 334, 335, 336] (by decide +kernel)
set_option maxRecDepth 100000 in
theorem lin_19 : ∀ w ∈ wsL_law0_r19, w ∈ lw_tbl := lin_of _ [337, 338, 339, 340, 775, 776, 777, 778, 779, 781, 26, 782, 783, 785, 27, 786, 787, 789, 28, 790, 803, 791, 793, 29] (by decide +kernel)
set_option maxRecDepth 100000 in
theorem lin_20 : ∀ w ∈ wsL_law0_r20, w ∈ lw_tbl := lin_of _ [794, 795, 797, 30, 798, 799, 801, 31, 802, 804, 806, 32, 807, 808, 810, 33, 811, 812, 814, 34, 815, 816, 818, 35] (by decide +kernel)
set_option maxRecDepth 100000 in
theorem lin_21 : ∀ w ∈ wsL_law0_r21, w ∈ lw_tbl := lin_of _ [819, 611, 612, 613, 614, 448, 449, 450, 120, 122, 128, 134, 140, 142, 145, 820, 821, 822, 823, 824, 826, 36, 827, 615] (by decide +kernel)
