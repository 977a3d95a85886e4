theorem lwi_mem {ws : List Cond} (ps : List Nat) (hp : ws = ps.filterMap (fun i => lw_tbl[i]?)) : ∀ w ∈ ws, w ∈ lw_tbl := by
  intro w hw
  rw [hp] at hw
  obtain ⟨i, -, hi⟩ := List.mem_filterMap.mp hw
  exact List.mem_of_getElem? hi
set_option maxRecDepth 100000 in
set_option maxHeartbeats 4000000 in
theorem lwi_wsL_law_r1 : ∀ w ∈ wsL_law_r1, w ∈ lw_tbl := lwi_mem [92, 93, 80, 673, 674, 86, 1057, 94, 95, 96, 97, 98, 99, 100, 101, 81, 297, 120, 121, 82, 298, 155, 156, 83] (by decide +kernel)
set_option maxRecDepth 100000 in
set_option maxHeartbeats 4000000 in
theorem lwi_wsL_law_r2 : ∀ w ∈ wsL_law_r2, w ∈ lw_tbl := lwi_mem [299, 202, 203, 84, 300, 266, 267, 85, 301, 103, 104, 105, 119, 106, 108, 123, 124, 125, 154, 128, 131, 133, 126, 135] (by decide +kernel)
set_option maxRecDepth 100000 in
set_option maxHeartbeats 4000000 in
theorem lwi_wsL_law_r3 : ∀ w ∈ wsL_law_r3, w ∈ lw_tbl := lwi_mem [136, 158, 159, 160, 161, 164, 167, 170, 173, 201, 176, 179, 205, 206, 207, 211, 213, 215, 216, 217, 218, 219, 220, 221] (by decide +kernel)
set_option maxRecDepth 100000 in
set_option maxHeartbeats 4000000 in
theorem lwi_wsL_law_r4 : ∀ w ∈ wsL_law_r4, w ∈ lw_tbl := lwi_mem [223, 224, 225, 226, 208, 209, 210, 269, 270, 271, 272, 273, 274, 296, 279, 280, 675, 676, 677, 678, 693, 694, 695, 696] (by decide +kernel)
set_option maxRecDepth 100000 in
set_option maxHeartbeats 4000000 in
theorem lwi_wsL_law_r5 : ∀ w ∈ wsL_law_r5, w ∈ lw_tbl := lwi_mem [698, 700, 701, 702, 703, 705, 706, 707, 708, 709, 710, 711, 712, 713, 714, 716, 717, 719, 720, 721, 722, 723, 724, 725] (by decide +kernel)
set_option maxRecDepth 100000 in
set_option maxHeartbeats 4000000 in
theorem lwi_wsL_law_r6 : ∀ w ∈ wsL_law_r6, w ∈ lw_tbl := lwi_mem [726, 727, 729, 679, 684, 685, 686, 687, 688, 689, 690, 691, 680, 682, 48, 683, 313, 314, 315, 316, 317, 318, 319, 322] (by decide +kernel)
set_option maxRecDepth 100000 in
set_option maxHeartbeats 4000000 in
theorem lwi_wsL_law_r7 : ∀ w ∈ wsL_law_r7, w ∈ lw_tbl := lwi_mem [0, 323, 110, 825, 826, 827, 828, 829, 830, 834, 692, 831, 832, 833, 324, 325, 326, 327, 835, 836, 837, 838, 328, 329] (by decide +kernel)
set_option maxRecDepth 100000 in
set_option maxHeartbeats 4000000 in
theorem lwi_wsL_law_r8 : ∀ w ∈ wsL_law_r8, w ∈ lw_tbl := lwi_mem [330, 331, 334, 1, 335, 129, 839, 840, 841, 842, 843, 697, 844, 336, 337, 338, 339, 340, 341, 342, 345, 2, 346, 137] (by decide +kernel)
set_option maxRecDepth 100000 in
set_option maxHeartbeats 4000000 in
theorem lwi_wsL_law_r9 : ∀ w ∈ wsL_law_r9, w ∈ lw_tbl := lwi_mem [347, 349, 3, 350, 351, 353, 4, 354, 355, 357, 5, 358, 359, 361, 6, 362, 363, 364, 365, 375, 377, 7, 378, 379] (by decide +kernel)
set_option maxRecDepth 100000 in
set_option maxHeartbeats 4000000 in
theorem lwi_wsL_law_r10 : ∀ w ∈ wsL_law_r10, w ∈ lw_tbl := lwi_mem [380, 381, 87, 382, 1058, 383, 384, 385, 386, 387, 1059, 389, 390, 391, 392, 393, 394, 395, 396, 397, 398, 88, 399, 400] (by decide +kernel)
set_option maxRecDepth 100000 in
set_option maxHeartbeats 4000000 in
theorem lwi_wsL_law_r11 : ∀ w ∈ wsL_law_r11, w ∈ lw_tbl := lwi_mem [401, 402, 403, 405, 406, 89, 407, 408, 409, 90, 410, 411, 412, 413, 414, 415, 416, 417, 418, 419, 420, 421, 423, 425] (by decide +kernel)
set_option maxRecDepth 100000 in
set_option maxHeartbeats 4000000 in
theorem lwi_wsL_law_r12 : ∀ w ∈ wsL_law_r12, w ∈ lw_tbl := lwi_mem [427, 429, 8, 430, 431, 433, 9, 434, 845, 846, 847, 848, 699, 852, 853, 849, 850, 851, 854, 856, 49, 857, 858, 859] (by decide +kernel)
set_option maxRecDepth 100000 in
set_option maxHeartbeats 4000000 in
theorem lwi_wsL_law_r13 : ∀ w ∈ wsL_law_r13, w ∈ lw_tbl := lwi_mem [860, 862, 50, 863, 435, 436, 437, 438, 864, 865, 866, 867, 439, 440, 441, 442, 445, 10, 446, 447, 868, 869, 870, 871] (by decide +kernel)
set_option maxRecDepth 100000 in
set_option maxHeartbeats 4000000 in
theorem lwi_wsL_law_r14 : ∀ w ∈ wsL_law_r14, w ∈ lw_tbl := lwi_mem [872, 873, 875, 51, 876, 877, 879, 52, 880, 449, 450, 451, 452, 455, 11, 456, 881, 882, 883, 884, 885, 887, 53, 888] (by decide +kernel)
set_option maxRecDepth 100000 in
set_option maxHeartbeats 4000000 in
theorem lwi_wsL_law_r15 : ∀ w ∈ wsL_law_r15, w ∈ lw_tbl := lwi_mem [457, 458, 459, 460, 461, 463, 12, 464, 465, 466, 467, 468, 469, 470, 473, 13, 474, 181, 889, 890, 891, 892, 893, 902] (by decide +kernel)
set_option maxRecDepth 100000 in
set_option maxHeartbeats 4000000 in
theorem lwi_wsL_law_r16 : ∀ w ∈ wsL_law_r16, w ∈ lw_tbl := lwi_mem [903, 704, 894, 896, 54, 897, 898, 899, 900, 901, 475, 476, 477, 478, 479, 481, 14, 482, 904, 905, 906, 907, 908, 910] (by decide +kernel)
set_option maxRecDepth 100000 in
set_option maxHeartbeats 4000000 in
theorem lwi_wsL_law_r17 : ∀ w ∈ wsL_law_r17, w ∈ lw_tbl := lwi_mem [55, 911, 483, 484, 485, 486, 912, 913, 914, 915, 487, 488, 489, 490, 491, 493, 15, 494, 495, 497, 16, 498, 501, 17] (by decide +kernel)
set_option maxRecDepth 100000 in
set_option maxHeartbeats 4000000 in
theorem lwi_wsL_law_r18 : ∀ w ∈ wsL_law_r18, w ∈ lw_tbl := lwi_mem [502, 503, 505, 18, 506, 507, 509, 19, 510, 511, 513, 20, 514, 517, 519, 21, 520, 521, 523, 22, 524, 525, 527, 23] (by decide +kernel)
set_option maxRecDepth 100000 in
set_option maxHeartbeats 4000000 in
theorem lwi_wsL_law_r19 : ∀ w ∈ wsL_law_r19, w ∈ lw_tbl := lwi_mem [528, 529, 531, 24, 532, 533, 535, 25, 536, 537, 539, 26, 540, 541, 543, 27, 544, 227, 545, 547, 28, 548, 228, 553] (by decide +kernel)
set_option maxRecDepth 100000 in
set_option maxHeartbeats 4000000 in
theorem lwi_wsL_law_r20 : ∀ w ∈ wsL_law_r20, w ∈ lw_tbl := lwi_mem [554, 91, 555, 556, 557, 558, 549, 551, 29, 552, 559, 561, 30, 562, 563, 565, 31, 566, 567, 569, 32, 570, 571, 573] (by decide +kernel)
set_option maxRecDepth 100000 in
set_option maxHeartbeats 4000000 in
theorem lwi_wsL_law_r21 : ∀ w ∈ wsL_law_r21, w ∈ lw_tbl := lwi_mem [33, 574, 916, 917, 918, 919, 920, 922, 56, 923, 924, 925, 927, 57, 928, 929, 931, 58, 932, 718, 728, 715, 933, 935] (by decide +kernel)
set_option maxRecDepth 100000 in
set_option maxHeartbeats 4000000 in
theorem lwi_wsL_law_r22 : ∀ w ∈ wsL_law_r22, w ∈ lw_tbl := lwi_mem [59, 936, 937, 939, 60, 940, 941, 943, 61, 944, 945, 946, 947, 948, 950, 62, 951, 952, 954, 63, 955, 956, 958, 64] (by decide +kernel)
set_option maxRecDepth 100000 in
set_option maxHeartbeats 4000000 in
theorem lwi_wsL_law_r23 : ∀ w ∈ wsL_law_r23, w ∈ lw_tbl := lwi_mem [959, 960, 962, 65, 963, 964, 966, 66, 967, 968, 970, 67, 971, 972, 974, 68, 975, 976, 978, 69, 979, 980, 982, 70] (by decide +kernel)
set_option maxRecDepth 100000 in
set_option maxHeartbeats 4000000 in
theorem lwi_wsL_law_r24 : ∀ w ∈ wsL_law_r24, w ∈ lw_tbl := lwi_mem [983, 984, 986, 71, 987, 988, 990, 72, 991, 992, 994, 73, 995, 575, 576, 577, 578, 581, 34, 582, 583, 585, 35, 586] (by decide +kernel)
set_option maxRecDepth 100000 in
set_option maxHeartbeats 4000000 in
theorem lwi_wsL_law_r25 : ∀ w ∈ wsL_law_r25, w ∈ lw_tbl := lwi_mem [589, 36, 590, 593, 37, 594, 597, 38, 598, 996, 997, 998, 999, 1000, 1002, 74, 1003, 599, 600, 601, 602, 606, 39, 607] (by decide +kernel)
set_option maxRecDepth 100000 in
set_option maxHeartbeats 4000000 in
theorem lwi_wsL_law_r26 : ∀ w ∈ wsL_law_r26, w ∈ lw_tbl := lwi_mem [611, 40, 612, 1004, 1005, 1006, 1007, 1008, 1009, 1011, 75, 1012, 614, 615, 616, 617, 1013, 1014, 1015, 1016, 1017, 1019, 76, 1020] (by decide +kernel)
set_option maxRecDepth 100000 in
set_option maxHeartbeats 4000000 in
theorem lwi_wsL_law_r27 : ∀ w ∈ wsL_law_r27, w ∈ lw_tbl := lwi_mem [618, 619, 620, 621, 1021, 1022, 1023, 1024, 622, 623, 624, 625, 626, 627, 628, 631, 41, 632, 1025, 1026, 1027, 1028, 1032, 1033] (by decide +kernel)
set_option maxRecDepth 100000 in
set_option maxHeartbeats 4000000 in
theorem lwi_wsL_law_r28 : ∀ w ∈ wsL_law_r28, w ∈ lw_tbl := lwi_mem [1029, 1030, 1031, 633, 634, 635, 636, 639, 42, 640, 641, 643, 43, 644, 1034, 1035, 1036, 1037, 645, 646, 647, 648, 651, 44] (by decide +kernel)
set_option maxRecDepth 100000 in
set_option maxHeartbeats 4000000 in
theorem lwi_wsL_law_r29 : ∀ w ∈ wsL_law_r29, w ∈ lw_tbl := lwi_mem [652, 275, 277, 653, 655, 45, 656, 1038, 1039, 1040, 1041, 1042, 734, 735, 1043, 1045, 77, 1046, 730, 733, 731, 732, 1047, 1049] (by decide +kernel)
set_option maxRecDepth 100000 in
set_option maxHeartbeats 4000000 in
theorem lwi_wsL_law_r30 : ∀ w ∈ wsL_law_r30, w ∈ lw_tbl := lwi_mem [78, 1050, 658, 659, 660, 661, 662, 668, 665, 46, 666, 667, 671, 47, 672, 1051, 1052, 1053, 1054, 1055, 1056] (by decide +kernel)
set_option maxRecDepth 100000 in
set_option maxHeartbeats 4000000 in
theorem lwi_X0 : ∀ w ∈ wsX00, w ∈ lw_tbl := lwi_mem [184, 186, 188, 190, 192, 194, 196, 198] (by decide +kernel)
set_option maxRecDepth 100000 in
set_option maxHeartbeats 4000000 in
theorem lwi_X1 : ∀ w ∈ wsX10, w ∈ lw_tbl := lwi_mem [281, 283, 285, 287, 289, 291, 293] (by decide +kernel)
set_option maxRecDepth 100000 in
set_option maxHeartbeats 4000000 in
theorem lwi_X2 : ∀ w ∈ wsX20, w ∈ lw_tbl := lwi_mem [139, 141, 143, 145, 147, 149, 151] (by decide +kernel)
set_option maxRecDepth 100000 in
set_option maxHeartbeats 4000000 in
theorem lwi_X3 : ∀ w ∈ wsX30, w ∈ lw_tbl := lwi_mem [112, 114, 116] (by decide +kernel)
set_option maxRecDepth 100000 in
set_option maxHeartbeats 4000000 in
theorem lwi_X4 : ∀ w ∈ wsX40, w ∈ lw_tbl := lwi_mem [229, 231, 233, 235, 237, 239, 241, 243, 245, 247, 249, 251, 253, 255, 257, 259, 261, 263] (by decide +kernel)
set_option maxRecDepth 100000 in
set_option maxHeartbeats 4000000 in
theorem lwi_X5 : ∀ w ∈ wsX50, w ∈ lw_tbl := lwi_mem [302, 304, 306, 308, 310] (by decide +kernel)
set_option maxRecDepth 100000 in
set_option maxHeartbeats 4000000 in
theorem lwi_X6 : ∀ w ∈ wsX60, w ∈ lw_tbl := lwi_mem [736, 738, 740, 742, 744, 746, 748, 750, 752, 754, 756, 758, 760, 762, 764, 766, 768, 770, 772, 774, 776, 778, 780, 782, 784, 786, 788, 790, 792, 794, 796, 798, 800, 802, 804, 806, 808, 810, 812, 814, 816, 818, 820, 822] (by decide +kernel)
theorem wsL_law_in : ∀ w ∈ wsL_law, w ∈ lw_tbl := List.forall_mem_append.mpr ⟨List.forall_mem_append.mpr ⟨List.forall_mem_append.mpr ⟨List.forall_mem_append.mpr ⟨List.forall_mem_append.mpr ⟨List.forall_mem_append.mpr ⟨List.forall_mem_append.mpr ⟨List.forall_mem_append.mpr ⟨List.forall_mem_append.mpr ⟨lwi_wsL_law_r1, List.forall_mem_append.mpr ⟨lwi_wsL_law_r2, List.forall_mem_append.mpr ⟨lwi_wsL_law_r3, List.forall_mem_append.mpr ⟨lwi_wsL_law_r4, List.forall_mem_append.mpr ⟨lwi_wsL_law_r5, List.forall_mem_append.mpr ⟨lwi_wsL_law_r6, List.forall_mem_append.mpr ⟨lwi_wsL_law_r7, List.forall_mem_append.mpr ⟨lwi_wsL_law_r8, List.forall_mem_append.mpr ⟨lwi_wsL_law_r9, List.forall_mem_append.mpr ⟨lwi_wsL_law_r10, List.forall_mem_append.mpr ⟨lwi_wsL_law_r11, List.forall_mem_append.mpr ⟨lwi_wsL_law_r12, List.forall_mem_append.mpr ⟨lwi_wsL_law_r13, List.forall_mem_append.mpr ⟨lwi_wsL_law_r14, List.forall_mem_append.mpr ⟨lwi_wsL_law_r15, List.forall_mem_append.mpr ⟨lwi_wsL_law_r16, List.forall_mem_append.mpr ⟨lwi_wsL_law_r17, List.forall_mem_append.mpr ⟨lwi_wsL_law_r18, List.forall_mem_append.mpr ⟨lwi_wsL_law_r19, List.forall_mem_append.mpr ⟨lwi_wsL_law_r20, List.forall_mem_append.mpr ⟨lwi_wsL_law_r21, List.forall_mem_append.mpr ⟨lwi_wsL_law_r22, List.forall_mem_append.mpr ⟨lwi_wsL_law_r23, List.forall_mem_append.mpr ⟨lwi_wsL_law_r24, List.forall_mem_append.mpr ⟨lwi_wsL_law_r25, List.forall_mem_append.mpr ⟨lwi_wsL_law_r26, List.forall_mem_append.mpr ⟨lwi_wsL_law_r27, List.forall_mem_append.mpr ⟨lwi_wsL_law_r28, List.forall_mem_append.mpr ⟨lwi_wsL_law_r29, lwi_wsL_law_r30⟩⟩⟩⟩⟩⟩⟩⟩⟩⟩⟩⟩⟩⟩⟩⟩⟩⟩⟩⟩⟩⟩⟩⟩⟩⟩⟩⟩⟩, lwi_X5⟩, lwi_X6⟩, lwi_X3⟩, lwi_X2⟩, lwi_X0⟩, lwi_X4⟩, lwi_X1⟩, fun _ h => absurd h List.not_mem_nil⟩
theorem inlX0 : ∀ w ∈ wsX00, w ∈ wsL_law := fun _ h => List.mem_append_left _ (List.mem_append_left _ (List.mem_append_left _ (List.mem_append_right _ h)))
theorem inX0 : ∀ w ∈ wsX00, w ∈ lw_tbl := fun w h => wsL_law_in w (inlX0 w h)
theorem inlX1 : ∀ w ∈ wsX10, w ∈ wsL_law := fun _ h => List.mem_append_left _ (List.mem_append_right _ h)
theorem inX1 : ∀ w ∈ wsX10, w ∈ lw_tbl := fun w h => wsL_law_in w (inlX1 w h)
theorem inlX2 : ∀ w ∈ wsX20, w ∈ wsL_law := fun _ h => List.mem_append_left _ (List.mem_append_left _ (List.mem_append_left _ (List.mem_append_left _ (List.mem_append_right _ h))))
theorem inX2 : ∀ w ∈ wsX20, w ∈ lw_tbl := fun w h => wsL_law_in w (inlX2 w h)
theorem inlX3 : ∀ w ∈ wsX30, w ∈ wsL_law := fun _ h => List.mem_append_left _ (List.mem_append_left _ (List.mem_append_left _ (List.mem_append_left _ (List.mem_append_left _ (List.mem_append_right _ h)))))
theorem inX3 : ∀ w ∈ wsX30, w ∈ lw_tbl := fun w h => wsL_law_in w (inlX3 w h)
theorem inlX4 : ∀ w ∈ wsX40, w ∈ wsL_law := fun _ h => List.mem_append_left _ (List.mem_append_left _ (List.mem_append_right _ h))
theorem inX4 : ∀ w ∈ wsX40, w ∈ lw_tbl := fun w h => wsL_law_in w (inlX4 w h)
theorem inlX5 : ∀ w ∈ wsX50, w ∈ wsL_law := fun _ h => List.mem_append_left _ (List.mem_append_left _ (List.mem_append_left _ (List.mem_append_left _ (List.mem_append_left _ (List.mem_append_left _ (List.mem_append_left _ (List.mem_append_right _ h)))))))
theorem inX5 : ∀ w ∈ wsX50, w ∈ lw_tbl := fun w h => wsL_law_in w (inlX5 w h)
theorem inlX6 : ∀ w ∈ wsX60, w ∈ wsL_law := fun _ h => List.mem_append_left _ (List.mem_append_left _ (List.mem_append_left _ (List.mem_append_left _ (List.mem_append_left _ (List.mem_append_left _ (List.mem_append_right _ h))))))
theorem inX6 : ∀ w ∈ wsX60, w ∈ lw_tbl := fun w h => wsL_law_in w (inlX6 w h)
theorem inJ9 : ∀ w ∈ wsJ90, w ∈ lw_tbl := by decide +kernel
theorem inJ0 : ∀ w ∈ wsJ00, w ∈ lw_tbl := by decide +kernel
theorem inJ1 : ∀ w ∈ wsJ10, w ∈ lw_tbl := by decide +kernel
theorem inJ2 : ∀ w ∈ wsJ20, w ∈ lw_tbl := by decide +kernel
theorem inJ3 : ∀ w ∈ wsJ30, w ∈ lw_tbl := by decide +kernel
