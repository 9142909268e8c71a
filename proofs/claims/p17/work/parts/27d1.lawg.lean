set_option maxRecDepth 20000 in
theorem ggL_law_X8_prices : GoodIn wsL_law wsX8_prices := goodIn_r _ [791, 34, 792, 793, 794, 795, 796, 797, 2, 798, 839, 840, 841, 842, 843, 844, 845, 846, 847, 913, 914, 915, 916] (by decide +kernel) (by decide +kernel)
set_option maxRecDepth 20000 in
theorem gL_law_X8_prices : GoodIn wsL_law (wsV RL 78 RX8 yX8_prices wsX8_prices) := goodIn_app (goodIn_of _ (by decide +kernel)) ggL_law_X8_prices
set_option maxRecDepth 20000 in
theorem ggL_law_X9_prices : GoodIn wsL_law wsX9_prices := goodIn_r _ [802, 167, 329, 330, 5, 331, 848, 849, 850, 851, 852, 853, 854, 855, 856, 857, 858, 859, 860, 861, 862, 863, 864, 865, 866, 867, 868, 869, 870, 871, 872, 873, 874, 875, 876, 877, 878, 879, 880, 881, 882, 883, 884, 885, 886, 887, 888, 889, 890, 891] (by decide +kernel) (by decide +kernel)
set_option maxRecDepth 20000 in
theorem gL_law_X9_prices : GoodIn wsL_law (wsV RL 81 RX9 yX9_prices wsX9_prices) := goodIn_app (goodIn_of _ (by decide +kernel)) ggL_law_X9_prices
