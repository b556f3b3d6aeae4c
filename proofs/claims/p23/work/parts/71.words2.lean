/-! the same, further -/
set_option maxRecDepth 100000 in
theorem in3_13 : ∀ w ∈ wsL_law0_r13, w ∈ lw_tb3 := mem_fm (ps := [512, 514, 15, 515, 516, 826, 834, 517, 518, 519, 520, 522, 523, 524, 525, 526, 527, 528, 529, 530, 532, 16, 533, 534]) (by decide +kernel)
set_option maxRecDepth 100000 in
theorem in3_14 : ∀ w ∈ wsL_law0_r14, w ∈ lw_tb3 := mem_fm (ps := [535, 536, 537, 396, 540, 46, 546, 541, 542, 543, 544, 545, 547, 474, 549, 551, 553, 566, 567, 568, 569, 516, 570, 47]) (by decide +kernel)
set_option maxRecDepth 100000 in
theorem in3_15 : ∀ w ∈ wsL_law0_r15, w ∈ lw_tb3 := mem_fm (ps := [824, 571, 572, 573, 574, 823, 462, 825, 827, 829, 575, 576, 49, 475, 341, 831, 833, 577, 578, 579, 580, 581, 48, 582]) (by decide +kernel)
set_option maxRecDepth 100000 in
theorem in3_16 : ∀ w ∈ wsL_law0_r16, w ∈ lw_tb3 := mem_fm (ps := [583, 584, 310, 593, 594, 586, 587, 51, 588, 589, 590, 591, 592, 606, 607, 608, 609, 610, 999, 605, 611, 612, 596, 613]) (by decide +kernel)
set_option maxRecDepth 100000 in
theorem in3_17 : ∀ w ∈ wsL_law0_r17, w ∈ lw_tb3 := mem_fm (ps := [614, 53, 615, 616, 1000, 0, 618, 619, 620, 1001, 1, 622, 623, 625, 624, 626, 627, 628, 629, 630, 631, 632, 633, 635]) (by decide +kernel)
set_option maxRecDepth 100000 in
theorem in3_18 : ∀ w ∈ wsL_law0_r18, w ∈ lw_tb3 := mem_fm (ps := [636, 638, 639, 637, 640, 641, 642, 643, 644, 646, 648, 649, 650, 672, 651, 652, 653, 654, 655, 656, 657, 658, 50, 659]) (by decide +kernel)
set_option maxRecDepth 100000 in
theorem in3_19 : ∀ w ∈ wsL_law0_r19, w ∈ lw_tb3 := mem_fm (ps := [660, 662, 663, 664, 665, 666, 667, 668, 678, 669, 670, 671, 674, 676, 679, 680, 681, 682, 683, 1002, 684, 685, 686, 687]) (by decide +kernel)
set_option maxRecDepth 100000 in
theorem in3_20 : ∀ w ∈ wsL_law0_r20, w ∈ lw_tb3 := mem_fm (ps := [54, 688, 689, 1003, 2, 691, 692, 693, 694, 695, 696, 697, 698, 699, 700, 701, 702, 703, 704, 705, 706, 707, 708, 709]) (by decide +kernel)
set_option maxRecDepth 100000 in
theorem in3_21 : ∀ w ∈ wsL_law0_r21, w ∈ lw_tb3 := mem_fm (ps := [710, 711, 712, 713, 714, 715, 716, 717, 718, 719, 720, 721, 722, 723, 724, 725, 726, 727, 728, 729, 730, 813, 812, 781]) (by decide +kernel)
set_option maxRecDepth 100000 in
theorem in3_22 : ∀ w ∈ wsL_law0_r22, w ∈ lw_tb3 := mem_fm (ps := [595, 731, 733, 734, 732, 735, 736, 738, 737, 739, 740, 741, 742, 737, 743, 744, 745, 746, 747, 748, 749, 750, 751, 752]) (by decide +kernel)
set_option maxRecDepth 100000 in
theorem in3_23 : ∀ w ∈ wsL_law0_r23, w ∈ lw_tb3 := mem_fm (ps := [753, 755, 799, 800, 801, 802, 803, 804, 805, 806, 807, 808, 809, 810, 811, 848, 849, 850, 851, 828, 830, 852, 854, 17]) (by decide +kernel)
set_option maxRecDepth 100000 in
theorem in3_24 : ∀ w ∈ wsL_law0_r24, w ∈ lw_tb3 := mem_fm (ps := [855, 859, 860, 861, 862, 98, 863, 864, 865, 866, 868, 870, 18, 871, 471, 872, 874, 19, 875, 876, 878, 20, 879, 880]) (by decide +kernel)

