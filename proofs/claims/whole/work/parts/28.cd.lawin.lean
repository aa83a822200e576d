set_option maxRecDepth 100000 in
theorem lin_22 : ∀ w ∈ wsL_law0_r22, w ∈ lw_tbl := lin_of _ [616, 617, 618, 437, 438, 439, 80, 82, 84, 87, 91, 828, 829, 830, 831, 832, 834, 37, 835, 619, 620, 621, 622, 356] (by decide +kernel)
set_option maxRecDepth 100000 in
theorem lin_23 : ∀ w ∈ wsL_law0_r23, w ∈ lw_tbl := lin_of _ [357, 358, 174, 77, 359, 360, 361, 362, 363, 205, 206, 207, 208, 836, 837, 838, 839, 840, 842, 38, 843, 844, 846, 39] (by decide +kernel)
set_option maxRecDepth 100000 in
theorem lin_24 : ∀ w ∈ wsL_law0_r24, w ∈ lw_tbl := lin_of _ [847, 623, 624, 625, 626, 627, 628, 629, 213, 214, 215, 216, 217, 218, 219, 220, 222, 223, 224, 225, 226, 227, 848, 849] (by decide +kernel)
set_option maxRecDepth 100000 in
theorem lin_25 : ∀ w ∈ wsL_law0_r25, w ∈ lw_tbl := lin_of _ [850, 851, 852, 854, 40, 855, 856, 858, 857, 55, 859, 861, 41, 862, 630, 631, 632, 633, 634, 635, 636, 863, 864, 865] (by decide +kernel)
set_option maxRecDepth 100000 in
theorem lin_26 : ∀ w ∈ wsL_law0_r26, w ∈ lw_tbl := lin_of _ [866, 201, 202, 203, 204, 867, 868, 869, 870, 637, 638, 639, 640, 641, 642, 643, 871, 872, 873, 874, 341, 342, 343, 344] (by decide +kernel)
set_option maxRecDepth 100000 in
theorem lin_27 : ∀ w ∈ wsL_law0_r27, w ∈ lw_tbl := lin_of _ [345, 346, 347, 348, 875, 876, 877, 878, 349, 350, 351, 352, 353, 354, 355, 436, 447, 879, 880, 881, 882, 883, 884] (by decide +kernel)
theorem lin_X0 : ∀ w ∈ wsX00, w ∈ lw_tbl := by decide +kernel
theorem lin_X1 : ∀ w ∈ wsX10, w ∈ lw_tbl := by decide +kernel
theorem lin_X2 : ∀ w ∈ wsX20, w ∈ lw_tbl := by decide +kernel
theorem lin_X3 : ∀ w ∈ wsX30, w ∈ lw_tbl := by decide +kernel
theorem lin_X4 : ∀ w ∈ wsX40, w ∈ lw_tbl := by decide +kernel
