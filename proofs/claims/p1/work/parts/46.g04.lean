theorem gp_X5_digest_c : GoodIn wsL_law [.code yX5_digest cX5_digest 6 (some .long)] := goodIn_r _ [870] (by decide +kernel) (by decide +kernel)
set_option maxRecDepth 20000 in
theorem gp_wsX5_digest_r1 : GoodIn wsL_law wsX5_digest_r1 := goodIn_r _ [116, 871, 111, 75, 71, 79, 406, 608, 609, 610, 5, 611, 72, 33, 221, 220, 73, 469, 226, 227, 228, 229, 530, 531] (by decide +kernel) (by decide +kernel)
set_option maxRecDepth 20000 in
theorem gp_wsX5_digest_r2 : GoodIn wsL_law wsX5_digest_r2 := goodIn_r _ [532, 222, 223, 224, 225, 307, 308, 309, 290, 291, 292, 293, 294, 330, 331, 332, 78, 333, 334, 612, 613, 614, 615, 74] (by decide +kernel) (by decide +kernel)
set_option maxRecDepth 20000 in
theorem gp_wsX5_digest_r3 : GoodIn wsL_law wsX5_digest_r3 := goodIn_r _ [470, 471, 472, 473, 872, 873, 874, 875, 526, 527, 528, 529, 168, 169, 170, 171, 172, 173, 174, 175, 176, 177, 178, 876] (by decide +kernel) (by decide +kernel)
set_option maxRecDepth 20000 in
theorem gp_wsX5_digest_r4 : GoodIn wsL_law wsX5_digest_r4 := goodIn_r _ [877, 878, 879, 880, 881, 882, 883, 884, 885, 886, 887, 11, 12, 888, 889, 344, 890, 891, 892, 893, 894, 895, 896, 897] (by decide +kernel) (by decide +kernel)
set_option maxRecDepth 20000 in
theorem gp_wsX5_digest_r5 : GoodIn wsL_law wsX5_digest_r5 := goodIn_r _ [898, 899, 900, 901, 902, 903, 904, 636, 637, 638, 639, 640, 641, 642, 769, 770, 771, 772, 728, 729, 730, 731, 299, 300] (by decide +kernel) (by decide +kernel)
set_option maxRecDepth 20000 in
theorem gp_wsX5_digest_r6 : GoodIn wsL_law wsX5_digest_r6 := goodIn_r _ [301, 302, 335, 336, 337, 338, 323, 324, 325, 295, 296, 297, 298, 230, 231, 232, 233, 748, 749, 750, 751, 701, 702, 703] (by decide +kernel) (by decide +kernel)
set_option maxRecDepth 20000 in
theorem gp_wsX5_digest_r7 : GoodIn wsL_law wsX5_digest_r7 := goodIn_r _ [704, 310, 311, 312, 313, 825, 826, 827, 828, 503, 504, 505, 506, 845, 846, 847, 848] (by decide +kernel) (by decide +kernel)
set_option maxRecDepth 20000 in
theorem gp_X5_digest_wsX50 : GoodIn wsL_law wsX50 := goodIn_r _ [916, 917, 918, 919, 920, 921, 922, 923, 924, 925, 926] (by decide +kernel) (by decide +kernel)
set_option maxRecDepth 20000 in
theorem gp_X5_digest_wsJx4a65c0 : GoodIn wsL_law wsJx4a65c0 := goodIn_r _ [941, 942, 943] (by decide +kernel) (by decide +kernel)
set_option maxRecDepth 20000 in
theorem gp_X5_digest_wsJx354110 : GoodIn wsL_law wsJx354110 := goodIn_r _ [944, 945, 946, 947] (by decide +kernel) (by decide +kernel)
theorem ggL_law_X5_digest : GoodIn wsL_law wsX5_digest := goodIn_app (a := [.code yX5_digest cX5_digest 6 (some .long)]) gp_X5_digest_c (goodIn_app (goodIn_app (goodIn_app (goodIn_app gp_wsX5_digest_r1 (goodIn_app gp_wsX5_digest_r2 (goodIn_app gp_wsX5_digest_r3 (goodIn_app gp_wsX5_digest_r4 (goodIn_app gp_wsX5_digest_r5 (goodIn_app gp_wsX5_digest_r6 gp_wsX5_digest_r7)))))) gp_X5_digest_wsX50) gp_X5_digest_wsJx4a65c0) gp_X5_digest_wsJx354110)
set_option maxRecDepth 20000 in
theorem gL_law_X5_digest : GoodIn wsL_law (wsV RL 182 RX5 yX5_digest wsX5_digest) := goodIn_app (goodIn_of _ (by decide +kernel)) ggL_law_X5_digest
