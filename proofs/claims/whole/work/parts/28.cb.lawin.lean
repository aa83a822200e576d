set_option maxRecDepth 100000 in
theorem lin_8 : ∀ w ∈ wsL_law0_r8, w ∈ lw_tbl := lin_of _ [714, 716, 18, 717, 531, 532, 533, 534, 535, 536, 537, 176, 718, 719, 720, 721, 722, 724, 19, 725, 539, 540, 541, 542] (by decide +kernel)
set_option maxRecDepth 100000 in
theorem lin_9 : ∀ w ∈ wsL_law0_r9, w ∈ lw_tbl := lin_of _ [543, 544, 545, 178, 726, 727, 728, 729, 547, 548, 549, 550, 551, 552, 553, 125, 555, 281, 282, 283, 284, 285, 54, 286] (by decide +kernel)
set_option maxRecDepth 100000 in
theorem lin_10 : ∀ w ∈ wsL_law0_r10, w ∈ lw_tbl := lin_of _ [730, 731, 732, 733, 734, 736, 20, 737, 738, 556, 557, 558, 559, 560, 561, 562, 564, 563, 274, 275, 276, 567, 315, 316] (by decide +kernel)
set_option maxRecDepth 100000 in
theorem lin_11 : ∀ w ∈ wsL_law0_r11, w ∈ lw_tbl := lin_of _ [317, 127, 318, 739, 740, 741, 742, 743, 745, 21, 746, 568, 569, 570, 571, 572, 573, 574, 575, 288, 289, 290, 124, 291] (by decide +kernel)
set_option maxRecDepth 100000 in
theorem lin_12 : ∀ w ∈ wsL_law0_r12, w ∈ lw_tbl := lin_of _ [577, 293, 294, 295, 747, 748, 749, 750, 751, 753, 22, 754, 755, 757, 23, 758, 759, 761, 24, 762, 578, 579, 580, 581] (by decide +kernel)
set_option maxRecDepth 100000 in
theorem lin_13 : ∀ w ∈ wsL_law0_r13, w ∈ lw_tbl := lin_of _ [582, 583, 584, 137, 585, 238, 239, 240, 587, 254, 255, 256, 136, 90, 133, 257, 763, 764, 765, 766, 767, 769, 25, 770] (by decide +kernel)
set_option maxRecDepth 100000 in
theorem lin_14 : ∀ w ∈ wsL_law0_r14, w ∈ lw_tbl := lin_of _ [588, 589, 590, 591, 592, 593, 594, 117, 595, 597, 12, 598, 771, 772, 773, 774, 600, 601, 602, 603, 604, 605, 606, 607] (by decide +kernel)
