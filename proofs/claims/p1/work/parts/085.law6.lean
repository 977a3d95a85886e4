set_option maxRecDepth 20000 in
theorem ggL_law_X5_digest : GoodIn wsL_law wsX5_digest := goodIn_r _ [627, 28, 398, 399, 400, 2, 401, 24, 140, 141, 142, 402, 403, 404, 405, 406, 27, 407, 408, 78, 64, 409, 410, 411, 412, 65, 71, 72, 74, 75, 413, 414, 415, 416, 417, 418, 419, 420, 77, 76, 66, 67, 68, 70, 325, 19, 326, 327, 191, 45, 48, 304, 305, 306, 47, 307, 421, 422, 423, 424, 63, 425, 426, 427, 428, 73, 429, 430, 431, 432, 433, 434, 435, 436, 437, 438, 439, 440, 441, 442, 443, 444, 445, 446, 447, 448, 449, 450, 451, 452, 453, 454, 455, 456, 457, 458, 459, 460, 461, 462, 463, 464, 465, 466, 467, 468, 469, 69, 470, 471, 472, 473, 474, 475, 476, 477, 478, 479, 480, 481, 717, 718, 719, 720, 721, 784, 785, 786, 787, 788, 789, 790, 791, 792, 793, 794, 795, 796, 797, 798, 799, 800, 801, 776, 777, 778, 779, 780, 781, 782, 783, 766, 767, 768, 769, 770, 771, 772, 773, 774, 775] (by decide +kernel) (by decide +kernel)
set_option maxRecDepth 20000 in
theorem gL_law_X5_digest : GoodIn wsL_law (wsV RL 78 RX5 yX5_digest wsX5_digest) := goodIn_app (goodIn_of _ (by decide +kernel)) ggL_law_X5_digest
set_option maxRecDepth 20000 in
theorem ggL_law_X6_digest : GoodIn wsL_law wsX6_digest := goodIn_r _ [631, 111, 486, 487, 488, 5, 489, 490, 361, 155, 156, 157, 491, 492, 493, 494, 495, 496, 497, 498, 499, 112, 120, 500, 501, 110, 502, 503, 504, 505, 106, 101, 506, 507, 508, 509, 103, 102, 510, 511, 512, 513, 104, 92, 93, 94, 113, 114, 115, 116, 117, 118, 119, 332, 333, 334, 335, 276, 97, 317, 318, 319, 320, 313, 314, 315, 316, 99, 98, 514, 515, 516, 517, 518, 519, 520, 521, 522, 523, 524, 121, 525, 526, 527, 528, 529, 530, 531, 532, 533, 534, 535, 536, 537, 538, 539, 540, 541, 542, 543, 544, 122, 105, 545, 546, 547, 548, 549, 550, 551, 552, 553, 554, 555, 556, 557, 558, 559, 560, 561, 562, 563, 564, 620, 621, 622, 623, 722, 723, 724, 725, 726, 727, 728, 729, 730, 731, 732, 733, 734, 735, 736, 737, 738, 739, 740, 741, 742, 743, 744, 745, 746, 747, 748, 749, 750, 751, 752, 753, 754, 755, 756, 757, 758, 759, 760, 761, 762, 763, 764, 765] (by decide +kernel) (by decide +kernel)
set_option maxRecDepth 20000 in
theorem gL_law_X6_digest : GoodIn wsL_law (wsV RL 81 RX6 yX6_digest wsX6_digest) := goodIn_app (goodIn_of _ (by decide +kernel)) ggL_law_X6_digest
set_option maxRecDepth 20000 in
theorem ggL_law_X5_corner : GoodIn wsL_law wsX5_corner := goodIn_r _ [635, 32, 636, 637, 2, 638, 140, 141, 142, 639, 31, 640, 641, 82, 83, 84, 717, 718, 719, 720, 721, 802, 803, 804, 805, 806, 807, 808] (by decide +kernel) (by decide +kernel)
set_option maxRecDepth 20000 in
theorem gL_law_X5_corner : GoodIn wsL_law (wsV RL 82 RX5 yX5_corner wsX5_corner) := goodIn_app (goodIn_of _ (by decide +kernel)) ggL_law_X5_corner
set_option maxRecDepth 20000 in
theorem ggL_law_X6_corner : GoodIn wsL_law wsX6_corner := goodIn_r _ [645, 646, 647, 107, 108, 109, 648, 649, 5, 650, 178, 155, 156, 157, 722, 723, 724, 725, 726, 727, 728, 729, 730, 731, 732, 733, 734, 735, 736, 737, 738, 739, 740, 741, 742, 743, 744, 745, 746, 747, 748, 749, 750, 751, 752, 753, 754, 755, 756, 757, 758, 759, 760, 761, 762, 763, 764, 765] (by decide +kernel) (by decide +kernel)
set_option maxRecDepth 20000 in
theorem gL_law_X6_corner : GoodIn wsL_law (wsV RL 85 RX6 yX6_corner wsX6_corner) := goodIn_app (goodIn_of _ (by decide +kernel)) ggL_law_X6_corner
set_option maxRecDepth 20000 in
theorem ggL_law_X5_lose : GoodIn wsL_law wsX5_lose := goodIn_r _ [654, 32, 636, 637, 2, 638, 140, 141, 142, 655, 31, 656, 657, 82, 658, 659, 660, 661, 717, 718, 719, 720, 721, 802, 803, 804, 805, 806, 807, 808] (by decide +kernel) (by decide +kernel)
set_option maxRecDepth 20000 in
theorem gL_law_X5_lose : GoodIn wsL_law (wsV RL 86 RX5 yX5_lose wsX5_lose) := goodIn_app (goodIn_of _ (by decide +kernel)) ggL_law_X5_lose
