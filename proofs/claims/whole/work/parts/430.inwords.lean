/-! every word of wsL_law stands in the tables, by its place -/
set_option maxRecDepth 100000 in
theorem wi1 : ∀ w ∈ wsL_law_r1, w ∈ lw_tbl := fun w h => (goodIn_r _ [151, 152, 131, 1571, 1572, 143, 153, 154, 155, 156, 157, 158, 159, 160, 132, 598, 599, 177, 178, 133, 600, 601, 521, 522] (by decide +kernel) (by decide +kernel) w h).1
set_option maxRecDepth 100000 in
theorem wi2 : ∀ w ∈ wsL_law_r2, w ∈ lw_tbl := fun w h => (goodIn_r _ [141, 602, 558, 559, 142, 603, 176, 604, 605, 606, 607, 162, 163, 164, 168, 180, 181, 182, 183, 184, 134, 487, 229, 230] (by decide +kernel) (by decide +kernel) w h).1
set_option maxRecDepth 100000 in
theorem wi3 : ∀ w ∈ wsL_law_r3, w ∈ lw_tbl := fun w h => (goodIn_r _ [135, 490, 266, 267, 136, 493, 298, 299, 137, 495, 330, 331, 138, 498, 384, 385, 139, 501, 401, 402, 140, 503, 186, 187] (by decide +kernel) (by decide +kernel) w h).1
set_option maxRecDepth 100000 in
theorem wi4 : ∀ w ∈ wsL_law_r4, w ∈ lw_tbl := fun w h => (goodIn_r _ [188, 191, 196, 197, 198, 200, 201, 203, 205, 232, 233, 234, 239, 243, 247, 251, 269, 270, 271, 274, 276, 278, 280, 297] (by decide +kernel) (by decide +kernel) w h).1
set_option maxRecDepth 100000 in
theorem wi5 : ∀ w ∈ wsL_law_r5, w ∈ lw_tbl := fun w h => (goodIn_r _ [282, 301, 302, 303, 309, 311, 312, 313, 314, 333, 334, 335, 338, 340, 342, 345, 348, 350, 352, 353, 355, 358, 387, 388] (by decide +kernel) (by decide +kernel) w h).1
set_option maxRecDepth 100000 in
theorem wi6 : ∀ w ∈ wsL_law_r6, w ∈ lw_tbl := fun w h => (goodIn_r _ [389, 392, 393, 404, 405, 406, 407, 409, 424, 426, 428, 429, 431, 433, 434, 436, 438, 441, 442, 444, 524, 525, 526, 527] (by decide +kernel) (by decide +kernel) w h).1
set_option maxRecDepth 100000 in
theorem wi7 : ∀ w ∈ wsL_law_r7, w ∈ lw_tbl := fun w h => (goodIn_r _ [529, 537, 561, 562, 563, 568, 570, 572, 574, 576, 578, 1573, 1574, 1575, 1576, 1577, 1579, 1578, 1580, 1658, 1581, 1303, 1582, 1583] (by decide +kernel) (by decide +kernel) w h).1
set_option maxRecDepth 100000 in
theorem wi8 : ∀ w ∈ wsL_law_r8, w ∈ lw_tbl := fun w h => (goodIn_r _ [1584, 1585, 1586, 1587, 1588, 1589, 1590, 1591, 1592, 1593, 1594, 1595, 1596, 1597, 1598, 1599, 1600, 1601, 1602, 1603, 1604, 629, 630, 631] (by decide +kernel) (by decide +kernel) w h).1
set_option maxRecDepth 100000 in
theorem wi9 : ∀ w ∈ wsL_law_r9, w ∈ lw_tbl := fun w h => (goodIn_r _ [632, 165, 633, 634, 635, 636, 637, 638, 639, 640, 166, 1659, 1660, 1661, 1662, 641, 642, 643, 644, 1663, 1664, 1665, 1666, 645] (by decide +kernel) (by decide +kernel) w h).1
set_option maxRecDepth 100000 in
theorem wi10 : ∀ w ∈ wsL_law_r10, w ∈ lw_tbl := fun w h => (goodIn_r _ [646, 647, 648, 649, 650, 651, 652, 653, 655, 654, 144, 1667, 1668, 1669, 1670, 656, 657, 658, 659, 489, 190, 660, 661, 662] (by decide +kernel) (by decide +kernel) w h).1
set_option maxRecDepth 100000 in
theorem wi11 : ∀ w ∈ wsL_law_r11, w ∈ lw_tbl := fun w h => (goodIn_r _ [663, 1675, 1676, 1677, 1678, 1679, 1680, 1681, 1682, 664, 665, 666, 667, 192, 1683, 1684, 1685, 1686, 668, 669, 670, 671, 497, 528] (by decide +kernel) (by decide +kernel) w h).1
set_option maxRecDepth 100000 in
theorem wi12 : ∀ w ∈ wsL_law_r12, w ∈ lw_tbl := fun w h => (goodIn_r _ [305, 672, 674, 0, 675, 502, 676, 677, 678, 679, 680, 682, 1, 683, 539, 540, 684, 686, 2, 687, 167, 688, 689, 145] (by decide +kernel) (by decide +kernel) w h).1
set_option maxRecDepth 100000 in
theorem wi13 : ∀ w ∈ wsL_law_r13, w ∈ lw_tbl := fun w h => (goodIn_r _ [690, 691, 693, 3, 694, 699, 169, 695, 697, 4, 698, 700, 702, 5, 703, 704, 705, 706, 707, 708, 709, 710, 711, 712] (by decide +kernel) (by decide +kernel) w h).1
set_option maxRecDepth 100000 in
theorem wi14 : ∀ w ∈ wsL_law_r14, w ∈ lw_tbl := fun w h => (goodIn_r _ [713, 714, 390, 715, 716, 717, 718, 304, 719, 720, 721, 722, 723, 724, 725, 726, 1687, 1688, 1689, 1690, 1691, 1693, 54, 1694] (by decide +kernel) (by decide +kernel) w h).1
set_option maxRecDepth 100000 in
theorem wi15 : ∀ w ∈ wsL_law_r15, w ∈ lw_tbl := fun w h => (goodIn_r _ [1695, 1697, 55, 1698, 1699, 1701, 56, 1702, 1703, 1705, 57, 1706, 1707, 1708, 1709, 1710, 1712, 58, 1713, 1714, 1716, 59, 1717, 1718] (by decide +kernel) (by decide +kernel) w h).1
set_option maxRecDepth 100000 in
theorem wi16 : ∀ w ∈ wsL_law_r16, w ∈ lw_tbl := fun w h => (goodIn_r _ [1720, 60, 1721, 727, 728, 729, 730, 494, 391, 731, 732, 733, 734, 735, 736, 737, 738, 739, 740, 741, 742, 272, 743, 744] (by decide +kernel) (by decide +kernel) w h).1
set_option maxRecDepth 100000 in
theorem wi17 : ∀ w ∈ wsL_law_r17, w ∈ lw_tbl := fun w h => (goodIn_r _ [745, 746, 1722, 1723, 1724, 1725, 1726, 1728, 61, 1729, 747, 748, 749, 750, 308, 751, 753, 6, 754, 755, 756, 757, 758, 759] (by decide +kernel) (by decide +kernel) w h).1
set_option maxRecDepth 100000 in
theorem wi18 : ∀ w ∈ wsL_law_r18, w ∈ lw_tbl := fun w h => (goodIn_r _ [760, 761, 762, 193, 763, 764, 765, 766, 767, 768, 769, 770, 771, 146, 772, 773, 774, 775, 776, 786, 777, 778, 779, 780] (by decide +kernel) (by decide +kernel) w h).1
set_option maxRecDepth 100000 in
theorem wi19 : ∀ w ∈ wsL_law_r19, w ∈ lw_tbl := fun w h => (goodIn_r _ [785, 781, 782, 783, 784, 787, 788, 789, 790, 791, 792, 793, 794, 795, 796, 797, 798, 799, 800, 801, 802, 803, 804, 805] (by decide +kernel) (by decide +kernel) w h).1
set_option maxRecDepth 100000 in
theorem wi20 : ∀ w ∈ wsL_law_r20, w ∈ lw_tbl := fun w h => (goodIn_r _ [806, 189, 807, 808, 809, 810, 306, 811, 812, 813, 814, 815, 1730, 1731, 1732, 1733, 1734, 1736, 62, 1737, 1738, 1740, 63, 1741] (by decide +kernel) (by decide +kernel) w h).1
set_option maxRecDepth 100000 in
theorem wi21 : ∀ w ∈ wsL_law_r21, w ∈ lw_tbl := fun w h => (goodIn_r _ [1742, 1744, 64, 1745, 1746, 1748, 65, 1749, 1750, 1752, 66, 1753, 1754, 1756, 67, 1757, 816, 817, 818, 819, 500, 337, 492, 820] (by decide +kernel) (by decide +kernel) w h).1
set_option maxRecDepth 100000 in
theorem wi22 : ∀ w ∈ wsL_law_r22, w ∈ lw_tbl := fun w h => (goodIn_r _ [821, 822, 823, 824, 825, 826, 827, 828, 829, 830, 831, 832, 833, 834, 835, 836, 837, 838, 839, 840, 841, 842, 843, 844] (by decide +kernel) (by decide +kernel) w h).1
set_option maxRecDepth 100000 in
theorem wi23 : ∀ w ∈ wsL_law_r23, w ∈ lw_tbl := fun w h => (goodIn_r _ [845, 846, 847, 848, 849, 851, 7, 852, 853, 854, 855, 856, 857, 858, 859, 860, 861, 862, 863, 864, 564, 496, 566, 567] (by decide +kernel) (by decide +kernel) w h).1
set_option maxRecDepth 100000 in
theorem wi24 : ∀ w ∈ wsL_law_r24, w ∈ lw_tbl := fun w h => (goodIn_r _ [491, 236, 499, 240, 244, 865, 866, 867, 868, 869, 336, 870, 871, 872, 252, 488, 248, 873, 874, 875, 876, 877, 878, 879] (by decide +kernel) (by decide +kernel) w h).1
set_option maxRecDepth 100000 in
theorem wi25 : ∀ w ∈ wsL_law_r25, w ∈ lw_tbl := fun w h => (goodIn_r _ [880, 881, 883, 8, 884, 356, 359, 885, 887, 9, 888, 889, 891, 10, 892, 893, 894, 895, 896, 924, 925, 897, 899, 11] (by decide +kernel) (by decide +kernel) w h).1
set_option maxRecDepth 100000 in
theorem wi26 : ∀ w ∈ wsL_law_r26, w ∈ lw_tbl := fun w h => (goodIn_r _ [900, 901, 903, 12, 904, 905, 907, 13, 908, 909, 910, 912, 14, 913, 915, 916, 918, 919, 920, 921, 922, 923, 926, 927] (by decide +kernel) (by decide +kernel) w h).1
set_option maxRecDepth 100000 in
theorem wi27 : ∀ w ∈ wsL_law_r27, w ∈ lw_tbl := fun w h => (goodIn_r _ [928, 929, 930, 931, 932, 933, 237, 934, 935, 936, 937, 938, 939, 940, 941, 942, 943, 944, 945, 946, 947, 948, 949, 950] (by decide +kernel) (by decide +kernel) w h).1
set_option maxRecDepth 100000 in
theorem wi28 : ∀ w ∈ wsL_law_r28, w ∈ lw_tbl := fun w h => (goodIn_r _ [951, 235, 1786, 1787, 1788, 1789, 1762, 1764, 68, 1765, 1790, 1791, 1792, 1793, 1794, 1795, 1796, 1766, 1768, 69, 1769, 1770, 1772, 70] (by decide +kernel) (by decide +kernel) w h).1
set_option maxRecDepth 100000 in
theorem wi29 : ∀ w ∈ wsL_law_r29, w ∈ lw_tbl := fun w h => (goodIn_r _ [1773, 1774, 1776, 71, 1777, 1797, 1799, 73, 1800, 1801, 1803, 74, 1804, 1809, 1810, 1805, 1806, 1807, 1808, 1811, 1813, 75, 1814, 1815] (by decide +kernel) (by decide +kernel) w h).1
set_option maxRecDepth 100000 in
theorem wi30 : ∀ w ∈ wsL_law_r30, w ∈ lw_tbl := fun w h => (goodIn_r _ [1817, 76, 1818, 1819, 1821, 77, 1822, 1823, 1825, 78, 1826, 1827, 1829, 79, 1830, 1831, 1833, 80, 1834, 1835, 1836, 1837, 1838, 1840] (by decide +kernel) (by decide +kernel) w h).1
set_option maxRecDepth 100000 in
theorem wi31 : ∀ w ∈ wsL_law_r31, w ∈ lw_tbl := fun w h => (goodIn_r _ [81, 1841, 1842, 1844, 82, 1845, 1846, 1848, 83, 1849, 1850, 1852, 84, 1853, 1854, 1855, 1856, 1857, 1859, 85, 1860, 1861, 1863, 86] (by decide +kernel) (by decide +kernel) w h).1
set_option maxRecDepth 100000 in
theorem wi32 : ∀ w ∈ wsL_law_r32, w ∈ lw_tbl := fun w h => (goodIn_r _ [1864, 1865, 1867, 87, 1868, 1869, 1871, 88, 1872, 952, 953, 954, 955, 965, 956, 957, 958, 959, 960, 961, 962, 963, 964, 966] (by decide +kernel) (by decide +kernel) w h).1
set_option maxRecDepth 100000 in
theorem wi33 : ∀ w ∈ wsL_law_r33, w ∈ lw_tbl := fun w h => (goodIn_r _ [967, 968, 969, 1877, 1878, 1879, 1880, 970, 971, 972, 973, 974, 975, 976, 977, 979, 15, 980, 981, 982, 983, 984, 985, 986] (by decide +kernel) (by decide +kernel) w h).1
set_option maxRecDepth 100000 in
theorem wi34 : ∀ w ∈ wsL_law_r34, w ∈ lw_tbl := fun w h => (goodIn_r _ [987, 995, 988, 990, 16, 991, 343, 992, 993, 994, 996, 997, 998, 999, 1000, 1001, 1002, 1003, 1004, 1005, 1881, 1882, 1883, 1884] (by decide +kernel) (by decide +kernel) w h).1
set_option maxRecDepth 100000 in
theorem wi35 : ∀ w ∈ wsL_law_r35, w ∈ lw_tbl := fun w h => (goodIn_r _ [1885, 1887, 89, 1888, 1889, 1891, 90, 1892, 1893, 1895, 91, 1896, 1897, 1899, 92, 1900, 1006, 1007, 1008, 1009, 1010, 1011, 1012, 1013] (by decide +kernel) (by decide +kernel) w h).1
set_option maxRecDepth 100000 in
theorem wi36 : ∀ w ∈ wsL_law_r36, w ∈ lw_tbl := fun w h => (goodIn_r _ [1014, 1015, 1016, 1017, 1901, 1902, 1903, 1904, 1905, 1907, 93, 1908, 1018, 1019, 1020, 1021, 207, 1022, 1024, 17, 1025, 565, 575, 577] (by decide +kernel) (by decide +kernel) w h).1
set_option maxRecDepth 100000 in
theorem wi37 : ∀ w ∈ wsL_law_r37, w ∈ lw_tbl := fun w h => (goodIn_r _ [1026, 1027, 1029, 18, 1030, 1031, 1032, 1033, 1034, 1035, 1037, 19, 1038, 1039, 1041, 20, 1042, 1043, 1045, 21, 1046, 573, 1047, 1049] (by decide +kernel) (by decide +kernel) w h).1
set_option maxRecDepth 100000 in
theorem wi38 : ∀ w ∈ wsL_law_r38, w ∈ lw_tbl := fun w h => (goodIn_r _ [22, 1050, 1051, 1052, 1053, 1054, 1055, 1057, 23, 1058, 254, 569, 571, 1909, 1910, 1911, 1912, 1913, 1915, 94, 1916, 1917, 1919, 95] (by decide +kernel) (by decide +kernel) w h).1
set_option maxRecDepth 100000 in
theorem wi39 : ∀ w ∈ wsL_law_r39, w ∈ lw_tbl := fun w h => (goodIn_r _ [1920, 1921, 1923, 96, 1924, 1059, 1060, 1061, 1062, 277, 281, 1063, 1758, 1759, 1760, 1761, 1064, 1065, 1066, 1067, 202, 204, 1068, 1069] (by decide +kernel) (by decide +kernel) w h).1
set_option maxRecDepth 100000 in
theorem wi40 : ∀ w ∈ wsL_law_r40, w ∈ lw_tbl := fun w h => (goodIn_r _ [1070, 1071, 307, 1072, 1073, 1074, 1075, 1076, 1077, 1078, 1079, 1080, 1081, 1082, 1083, 1084, 1778, 1779, 1780, 1781, 1782, 1784, 72, 1785] (by decide +kernel) (by decide +kernel) w h).1
set_option maxRecDepth 100000 in
theorem wi41 : ∀ w ∈ wsL_law_r41, w ∈ lw_tbl := fun w h => (goodIn_r _ [1085, 1086, 1087, 1088, 1089, 1091, 24, 1092, 170, 1093, 1094, 1095, 1096, 1097, 1098, 1099, 1100, 1925, 1926, 1927, 1928, 1101, 1102, 1103] (by decide +kernel) (by decide +kernel) w h).1
set_option maxRecDepth 100000 in
theorem wi42 : ∀ w ∈ wsL_law_r42, w ∈ lw_tbl := fun w h => (goodIn_r _ [1104, 1109, 1105, 1106, 1107, 1108, 1929, 1930, 1931, 1932, 1110, 1111, 1112, 1113, 1114, 1115, 1116, 1117, 194, 206, 199, 1118, 1119, 1120] (by decide +kernel) (by decide +kernel) w h).1
set_option maxRecDepth 100000 in
theorem wi43 : ∀ w ∈ wsL_law_r43, w ∈ lw_tbl := fun w h => (goodIn_r _ [1121, 1122, 1123, 1124, 1125, 1126, 1127, 1128, 1129, 1130, 1131, 1132, 1133, 1134, 1135, 1136, 1137, 1138, 1139, 1933, 1934, 1935, 1936, 1937] (by decide +kernel) (by decide +kernel) w h).1
set_option maxRecDepth 100000 in
theorem wi44 : ∀ w ∈ wsL_law_r44, w ∈ lw_tbl := fun w h => (goodIn_r _ [1939, 97, 1940, 1140, 1141, 1142, 1143, 1144, 1145, 1146, 1147, 1148, 1149, 1150, 1151, 1152, 1153, 1154, 1155, 1156, 1157, 1158, 1159, 1160] (by decide +kernel) (by decide +kernel) w h).1
set_option maxRecDepth 100000 in
theorem wi45 : ∀ w ∈ wsL_law_r45, w ∈ lw_tbl := fun w h => (goodIn_r _ [1161, 1162, 1163, 1164, 1165, 1166, 1167, 1168, 1169, 1170, 1171, 1172, 1173, 1174, 1175, 1176, 1177, 1178, 1179, 411, 413, 415, 417, 420] (by decide +kernel) (by decide +kernel) w h).1
set_option maxRecDepth 100000 in
theorem wi46 : ∀ w ∈ wsL_law_r46, w ∈ lw_tbl := fun w h => (goodIn_r _ [422, 1180, 1941, 1942, 1943, 1944, 1181, 1182, 1183, 1184, 1945, 1946, 1947, 1948, 1185, 1186, 1187, 1188, 344, 354, 357, 360, 347, 341] (by decide +kernel) (by decide +kernel) w h).1
set_option maxRecDepth 100000 in
theorem wi47 : ∀ w ∈ wsL_law_r47, w ∈ lw_tbl := fun w h => (goodIn_r _ [1189, 2063, 2064, 2065, 2066, 1190, 1191, 1192, 1193, 1194, 1195, 1196, 1197, 1198, 2067, 2068, 2069, 2070, 2016, 2018, 113, 2019, 2004, 2006] (by decide +kernel) (by decide +kernel) w h).1
set_option maxRecDepth 100000 in
theorem wi48 : ∀ w ∈ wsL_law_r48, w ∈ lw_tbl := fun w h => (goodIn_r _ [110, 2007, 2008, 2010, 111, 2011, 1199, 1200, 1201, 1202, 246, 250, 1213, 1203, 1204, 1205, 1206, 1207, 1208, 1209, 1210, 1211, 1212, 2071] (by decide +kernel) (by decide +kernel) w h).1
set_option maxRecDepth 100000 in
theorem wi49 : ∀ w ∈ wsL_law_r49, w ∈ lw_tbl := fun w h => (goodIn_r _ [2072, 2073, 2074, 2075, 2077, 119, 2078, 1214, 1215, 1216, 1217, 283, 310, 1218, 1219, 1220, 1221, 1222, 1223, 1224, 1225, 1226, 1227, 1228] (by decide +kernel) (by decide +kernel) w h).1
set_option maxRecDepth 100000 in
theorem wi50 : ∀ w ∈ wsL_law_r50, w ∈ lw_tbl := fun w h => (goodIn_r _ [1229, 1230, 1231, 1232, 1233, 1234, 1235, 1236, 1237, 1238, 1239, 1240, 1241, 1242, 1243, 1245, 25, 1246, 1248, 1249, 1250, 1251, 1252, 1253] (by decide +kernel) (by decide +kernel) w h).1
set_option maxRecDepth 100000 in
theorem wi51 : ∀ w ∈ wsL_law_r51, w ∈ lw_tbl := fun w h => (goodIn_r _ [1254, 147, 1255, 2175, 1256, 1257, 1258, 1259, 1260, 2176, 1262, 1263, 1264, 1265, 1266, 1267, 1268, 1269, 1270, 1271, 148, 1272, 1273, 1274] (by decide +kernel) (by decide +kernel) w h).1
set_option maxRecDepth 100000 in
theorem wi52 : ∀ w ∈ wsL_law_r52, w ∈ lw_tbl := fun w h => (goodIn_r _ [1275, 1276, 1278, 1279, 149, 1280, 1281, 1282, 150, 1283, 1284, 1285, 1286, 1287, 1288, 1289, 1290, 1291, 1292, 1293, 1294, 1296, 1298, 1301] (by decide +kernel) (by decide +kernel) w h).1
set_option maxRecDepth 100000 in
theorem wi53 : ∀ w ∈ wsL_law_r53, w ∈ lw_tbl := fun w h => (goodIn_r _ [2079, 2080, 2081, 2082, 2083, 2085, 120, 2086, 2087, 2089, 121, 2090, 2091, 2093, 122, 2094, 2095, 2097, 123, 2098, 1304, 1305, 1306, 1307] (by decide +kernel) (by decide +kernel) w h).1
set_option maxRecDepth 100000 in
theorem wi54 : ∀ w ∈ wsL_law_r54, w ∈ lw_tbl := fun w h => (goodIn_r _ [504, 412, 532, 1308, 1310, 26, 1311, 538, 408, 1312, 1313, 1314, 1315, 1316, 1318, 27, 1319, 1320, 1322, 28, 1323, 531, 1324, 1326] (by decide +kernel) (by decide +kernel) w h).1
set_option maxRecDepth 100000 in
theorem wi55 : ∀ w ∈ wsL_law_r55, w ∈ lw_tbl := fun w h => (goodIn_r _ [29, 1327, 1328, 1330, 30, 1331, 533, 535, 1333, 1335, 31, 1336, 1337, 1338, 1341, 1343, 32, 1344, 530, 1345, 1346, 1347, 1348, 1349] (by decide +kernel) (by decide +kernel) w h).1
set_option maxRecDepth 100000 in
theorem wi56 : ∀ w ∈ wsL_law_r56, w ∈ lw_tbl := fun w h => (goodIn_r _ [1350, 1352, 33, 1353, 1354, 1355, 1356, 1357, 1358, 1359, 1360, 1361, 1362, 1364, 34, 1365, 1366, 1368, 35, 1369, 1370, 1372, 36, 1373] (by decide +kernel) (by decide +kernel) w h).1
set_option maxRecDepth 100000 in
theorem wi57 : ∀ w ∈ wsL_law_r57, w ∈ lw_tbl := fun w h => (goodIn_r _ [1374, 1376, 37, 1377, 1378, 1380, 38, 1381, 534, 536, 1382, 1383, 1384, 1385, 1949, 1950, 1951, 1952, 2024, 2025, 1953, 1955, 98, 1956] (by decide +kernel) (by decide +kernel) w h).1
set_option maxRecDepth 100000 in
theorem wi58 : ∀ w ∈ wsL_law_r58, w ∈ lw_tbl := fun w h => (goodIn_r _ [1957, 1959, 99, 1960, 1961, 1963, 100, 1964, 1965, 1967, 101, 1968, 1969, 1971, 102, 1972, 1973, 1974, 1975, 1976, 1978, 103, 1979, 1980] (by decide +kernel) (by decide +kernel) w h).1
set_option maxRecDepth 100000 in
theorem wi59 : ∀ w ∈ wsL_law_r59, w ∈ lw_tbl := fun w h => (goodIn_r _ [1982, 104, 1983, 1984, 1986, 105, 1987, 1988, 1990, 106, 1991, 1992, 1994, 107, 1995, 1996, 1998, 108, 1999, 2000, 2002, 109, 2003, 2012] (by decide +kernel) (by decide +kernel) w h).1
set_option maxRecDepth 100000 in
theorem wi60 : ∀ w ∈ wsL_law_r60, w ∈ lw_tbl := fun w h => (goodIn_r _ [2014, 112, 2015, 2020, 2022, 114, 2023, 2026, 2028, 115, 2029, 2030, 2032, 116, 2033, 2034, 2036, 117, 2037, 2038, 2040, 118, 2041, 1386] (by decide +kernel) (by decide +kernel) w h).1
set_option maxRecDepth 100000 in
theorem wi61 : ∀ w ∈ wsL_law_r61, w ∈ lw_tbl := fun w h => (goodIn_r _ [1387, 1388, 1389, 2042, 2043, 2044, 2045, 1390, 1391, 1392, 1393, 425, 427, 2046, 2047, 2048, 2049, 1394, 1395, 1396, 1397, 410, 1398, 1400] (by decide +kernel) (by decide +kernel) w h).1
set_option maxRecDepth 100000 in
theorem wi62 : ∀ w ∈ wsL_law_r62, w ∈ lw_tbl := fun w h => (goodIn_r _ [39, 1401, 1402, 1404, 40, 1405, 273, 279, 1406, 1407, 1408, 1410, 41, 1411, 238, 242, 275, 1412, 1414, 42, 1415, 349, 351, 2050] (by decide +kernel) (by decide +kernel) w h).1
set_option maxRecDepth 100000 in
theorem wi63 : ∀ w ∈ wsL_law_r63, w ∈ lw_tbl := fun w h => (goodIn_r _ [2051, 2052, 2053, 1416, 1417, 1418, 1419, 2054, 2055, 2056, 2057, 1420, 1421, 1422, 1423, 414, 1424, 1426, 43, 1427, 1428, 1429, 1430, 1431] (by decide +kernel) (by decide +kernel) w h).1
set_option maxRecDepth 100000 in
theorem wi64 : ∀ w ∈ wsL_law_r64, w ∈ lw_tbl := fun w h => (goodIn_r _ [253, 245, 241, 1432, 1433, 1434, 1435, 1436, 1438, 44, 1439, 1440, 1441, 2099, 2100, 2101, 2102, 2103, 2105, 124, 2106, 2107, 1442, 1443] (by decide +kernel) (by decide +kernel) w h).1
set_option maxRecDepth 100000 in
theorem wi65 : ∀ w ∈ wsL_law_r65, w ∈ lw_tbl := fun w h => (goodIn_r _ [1444, 1445, 430, 432, 2108, 2109, 2110, 2111, 1446, 1447, 1448, 1449, 1873, 1874, 1875, 1876, 1450, 1451, 1452, 1453, 1454, 1456, 45, 1457] (by decide +kernel) (by decide +kernel) w h).1
set_option maxRecDepth 100000 in
theorem wi66 : ∀ w ∈ wsL_law_r66, w ∈ lw_tbl := fun w h => (goodIn_r _ [1458, 1459, 1460, 2112, 2113, 2114, 2115, 2116, 2118, 125, 2119, 1461, 1462, 1463, 1464, 416, 1465, 1466, 1467, 1468, 2120, 2121, 2122, 2123] (by decide +kernel) (by decide +kernel) w h).1
set_option maxRecDepth 100000 in
theorem wi67 : ∀ w ∈ wsL_law_r67, w ∈ lw_tbl := fun w h => (goodIn_r _ [2124, 1469, 1470, 1471, 1472, 419, 435, 437, 1473, 1475, 46, 1476, 1477, 1478, 1479, 1480, 1481, 1482, 1483, 1484, 1485, 1487, 47, 1488] (by decide +kernel) (by decide +kernel) w h).1
set_option maxRecDepth 100000 in
theorem wi68 : ∀ w ∈ wsL_law_r68, w ∈ lw_tbl := fun w h => (goodIn_r _ [1489, 1490, 1491, 1492, 418, 439, 1493, 1495, 48, 1496, 339, 346, 2125, 2126, 2127, 2128, 2129, 2131, 126, 2132, 2133, 2134, 2135, 2136] (by decide +kernel) (by decide +kernel) w h).1
set_option maxRecDepth 100000 in
theorem wi69 : ∀ w ∈ wsL_law_r69, w ∈ lw_tbl := fun w h => (goodIn_r _ [2137, 2139, 127, 2140, 2141, 2143, 128, 2144, 1497, 1498, 1499, 1500, 440, 2145, 2146, 2147, 2148, 1501, 1502, 1503, 1504, 421, 1505, 1506] (by decide +kernel) (by decide +kernel) w h).1
set_option maxRecDepth 100000 in
theorem wi70 : ∀ w ∈ wsL_law_r70, w ∈ lw_tbl := fun w h => (goodIn_r _ [1507, 1508, 2058, 2059, 2060, 2061, 2062, 1509, 1510, 1511, 1512, 1513, 1514, 1515, 1516, 1517, 1519, 49, 1520, 1521, 1523, 50, 1524, 1525] (by decide +kernel) (by decide +kernel) w h).1
set_option maxRecDepth 100000 in
theorem wi71 : ∀ w ∈ wsL_law_r71, w ∈ lw_tbl := fun w h => (goodIn_r _ [2149, 2150, 2151, 2152, 2153, 1526, 1527, 1528, 1529, 423, 443, 445, 2154, 2155, 2156, 2157, 1530, 1531, 1532, 1533, 1534, 1535, 1536, 1537] (by decide +kernel) (by decide +kernel) w h).1
set_option maxRecDepth 100000 in
theorem wi72 : ∀ w ∈ wsL_law_r72, w ∈ lw_tbl := fun w h => (goodIn_r _ [249, 1538, 1539, 1540, 1541, 1542, 1544, 51, 1545, 2158, 2159, 2160, 2161, 2162, 2164, 129, 2165, 1546, 1547, 1548, 1549, 1550, 1552, 52] (by decide +kernel) (by decide +kernel) w h).1
set_option maxRecDepth 100000 in
theorem wi73 : ∀ w ∈ wsL_law_r73, w ∈ lw_tbl := fun w h => (goodIn_r _ [1553, 1554, 1556, 53, 1557, 1558, 2166, 2167, 2168, 2169, 2170, 1559, 1560, 1561, 1562, 1563, 1564, 1565, 1566, 1671, 1672, 1673, 1674, 1567] (by decide +kernel) (by decide +kernel) w h).1
set_option maxRecDepth 100000 in
theorem wi74 : ∀ w ∈ wsL_law_r74, w ∈ lw_tbl := fun w h => (goodIn_r _ [1568, 1569, 1570, 195, 2171, 2172, 2173, 2174] (by decide +kernel) (by decide +kernel) w h).1
set_option maxRecDepth 100000 in
theorem inX0 : ∀ w ∈ wsX00, w ∈ lw_tbl := fun w h => (goodIn_r _ [171, 173] (by decide +kernel) (by decide +kernel) w h).1
set_option maxRecDepth 100000 in
theorem inX1 : ∀ w ∈ wsX10, w ∈ lw_tbl := fun w h => (goodIn_r _ [446, 448, 450, 452, 454, 456, 458, 460, 462, 464, 466, 468, 470, 472, 474, 476, 478, 480, 482, 484] (by decide +kernel) (by decide +kernel) w h).1
set_option maxRecDepth 100000 in
theorem inX2 : ∀ w ∈ wsX20, w ∈ lw_tbl := fun w h => (goodIn_r _ [361, 363, 365, 367, 369, 371, 373, 375, 377, 379, 381] (by decide +kernel) (by decide +kernel) w h).1
set_option maxRecDepth 100000 in
theorem inX3 : ∀ w ∈ wsX30, w ∈ lw_tbl := fun w h => (goodIn_r _ [284, 286, 288, 290, 292, 294] (by decide +kernel) (by decide +kernel) w h).1
set_option maxRecDepth 100000 in
theorem inX4 : ∀ w ∈ wsX40, w ∈ lw_tbl := fun w h => (goodIn_r _ [255, 257, 259, 261, 263] (by decide +kernel) (by decide +kernel) w h).1
set_option maxRecDepth 100000 in
theorem inX5 : ∀ w ∈ wsX50, w ∈ lw_tbl := fun w h => (goodIn_r _ [505, 507, 509, 511, 513, 515, 517] (by decide +kernel) (by decide +kernel) w h).1
set_option maxRecDepth 100000 in
theorem inX6 : ∀ w ∈ wsX60, w ∈ lw_tbl := fun w h => (goodIn_r _ [208, 210, 212, 214, 216, 218, 220, 222, 224, 226] (by decide +kernel) (by decide +kernel) w h).1
set_option maxRecDepth 100000 in
theorem inX7 : ∀ w ∈ wsX70, w ∈ lw_tbl := fun w h => (goodIn_r _ [541, 543, 545, 547, 549, 551, 553, 555] (by decide +kernel) (by decide +kernel) w h).1
set_option maxRecDepth 100000 in
theorem inX8 : ∀ w ∈ wsX80, w ∈ lw_tbl := fun w h => (goodIn_r _ [394, 396, 398] (by decide +kernel) (by decide +kernel) w h).1
set_option maxRecDepth 100000 in
theorem inX9 : ∀ w ∈ wsX90, w ∈ lw_tbl := fun w h => (goodIn_r _ [579, 581, 583, 585, 587, 589, 591, 593, 595] (by decide +kernel) (by decide +kernel) w h).1
set_option maxRecDepth 100000 in
theorem inX10 : ∀ w ∈ wsX100, w ∈ lw_tbl := fun w h => (goodIn_r _ [315, 317, 319, 321, 323, 325, 327] (by decide +kernel) (by decide +kernel) w h).1
set_option maxRecDepth 100000 in
theorem inX11 : ∀ w ∈ wsX110, w ∈ lw_tbl := fun w h => (goodIn_r _ [608, 610, 612, 614, 616, 618, 620, 622, 624, 626] (by decide +kernel) (by decide +kernel) w h).1
set_option maxRecDepth 100000 in
theorem inX12 : ∀ w ∈ wsX120, w ∈ lw_tbl := fun w h => (goodIn_r _ [1605, 1607, 1609, 1611, 1613, 1615, 1617, 1619, 1621, 1623, 1625, 1627, 1629, 1631, 1633, 1635, 1637, 1639, 1641, 1643, 1645, 1647, 1649, 1651, 1653, 1655] (by decide +kernel) (by decide +kernel) w h).1
theorem wit74 : ∀ w ∈ wt74, w ∈ lw_tbl := wi74
theorem wit73 : ∀ w ∈ wt73, w ∈ lw_tbl := fun w h => (List.mem_append.mp h).elim (wi73 w) (wit74 w)
theorem wit72 : ∀ w ∈ wt72, w ∈ lw_tbl := fun w h => (List.mem_append.mp h).elim (wi72 w) (wit73 w)
theorem wit71 : ∀ w ∈ wt71, w ∈ lw_tbl := fun w h => (List.mem_append.mp h).elim (wi71 w) (wit72 w)
theorem wit70 : ∀ w ∈ wt70, w ∈ lw_tbl := fun w h => (List.mem_append.mp h).elim (wi70 w) (wit71 w)
theorem wit69 : ∀ w ∈ wt69, w ∈ lw_tbl := fun w h => (List.mem_append.mp h).elim (wi69 w) (wit70 w)
theorem wit68 : ∀ w ∈ wt68, w ∈ lw_tbl := fun w h => (List.mem_append.mp h).elim (wi68 w) (wit69 w)
theorem wit67 : ∀ w ∈ wt67, w ∈ lw_tbl := fun w h => (List.mem_append.mp h).elim (wi67 w) (wit68 w)
theorem wit66 : ∀ w ∈ wt66, w ∈ lw_tbl := fun w h => (List.mem_append.mp h).elim (wi66 w) (wit67 w)
theorem wit65 : ∀ w ∈ wt65, w ∈ lw_tbl := fun w h => (List.mem_append.mp h).elim (wi65 w) (wit66 w)
theorem wit64 : ∀ w ∈ wt64, w ∈ lw_tbl := fun w h => (List.mem_append.mp h).elim (wi64 w) (wit65 w)
theorem wit63 : ∀ w ∈ wt63, w ∈ lw_tbl := fun w h => (List.mem_append.mp h).elim (wi63 w) (wit64 w)
theorem wit62 : ∀ w ∈ wt62, w ∈ lw_tbl := fun w h => (List.mem_append.mp h).elim (wi62 w) (wit63 w)
theorem wit61 : ∀ w ∈ wt61, w ∈ lw_tbl := fun w h => (List.mem_append.mp h).elim (wi61 w) (wit62 w)
theorem wit60 : ∀ w ∈ wt60, w ∈ lw_tbl := fun w h => (List.mem_append.mp h).elim (wi60 w) (wit61 w)
theorem wit59 : ∀ w ∈ wt59, w ∈ lw_tbl := fun w h => (List.mem_append.mp h).elim (wi59 w) (wit60 w)
theorem wit58 : ∀ w ∈ wt58, w ∈ lw_tbl := fun w h => (List.mem_append.mp h).elim (wi58 w) (wit59 w)
theorem wit57 : ∀ w ∈ wt57, w ∈ lw_tbl := fun w h => (List.mem_append.mp h).elim (wi57 w) (wit58 w)
theorem wit56 : ∀ w ∈ wt56, w ∈ lw_tbl := fun w h => (List.mem_append.mp h).elim (wi56 w) (wit57 w)
theorem wit55 : ∀ w ∈ wt55, w ∈ lw_tbl := fun w h => (List.mem_append.mp h).elim (wi55 w) (wit56 w)
theorem wit54 : ∀ w ∈ wt54, w ∈ lw_tbl := fun w h => (List.mem_append.mp h).elim (wi54 w) (wit55 w)
theorem wit53 : ∀ w ∈ wt53, w ∈ lw_tbl := fun w h => (List.mem_append.mp h).elim (wi53 w) (wit54 w)
theorem wit52 : ∀ w ∈ wt52, w ∈ lw_tbl := fun w h => (List.mem_append.mp h).elim (wi52 w) (wit53 w)
theorem wit51 : ∀ w ∈ wt51, w ∈ lw_tbl := fun w h => (List.mem_append.mp h).elim (wi51 w) (wit52 w)
theorem wit50 : ∀ w ∈ wt50, w ∈ lw_tbl := fun w h => (List.mem_append.mp h).elim (wi50 w) (wit51 w)
theorem wit49 : ∀ w ∈ wt49, w ∈ lw_tbl := fun w h => (List.mem_append.mp h).elim (wi49 w) (wit50 w)
theorem wit48 : ∀ w ∈ wt48, w ∈ lw_tbl := fun w h => (List.mem_append.mp h).elim (wi48 w) (wit49 w)
theorem wit47 : ∀ w ∈ wt47, w ∈ lw_tbl := fun w h => (List.mem_append.mp h).elim (wi47 w) (wit48 w)
theorem wit46 : ∀ w ∈ wt46, w ∈ lw_tbl := fun w h => (List.mem_append.mp h).elim (wi46 w) (wit47 w)
theorem wit45 : ∀ w ∈ wt45, w ∈ lw_tbl := fun w h => (List.mem_append.mp h).elim (wi45 w) (wit46 w)
theorem wit44 : ∀ w ∈ wt44, w ∈ lw_tbl := fun w h => (List.mem_append.mp h).elim (wi44 w) (wit45 w)
theorem wit43 : ∀ w ∈ wt43, w ∈ lw_tbl := fun w h => (List.mem_append.mp h).elim (wi43 w) (wit44 w)
theorem wit42 : ∀ w ∈ wt42, w ∈ lw_tbl := fun w h => (List.mem_append.mp h).elim (wi42 w) (wit43 w)
theorem wit41 : ∀ w ∈ wt41, w ∈ lw_tbl := fun w h => (List.mem_append.mp h).elim (wi41 w) (wit42 w)
theorem wit40 : ∀ w ∈ wt40, w ∈ lw_tbl := fun w h => (List.mem_append.mp h).elim (wi40 w) (wit41 w)
theorem wit39 : ∀ w ∈ wt39, w ∈ lw_tbl := fun w h => (List.mem_append.mp h).elim (wi39 w) (wit40 w)
theorem wit38 : ∀ w ∈ wt38, w ∈ lw_tbl := fun w h => (List.mem_append.mp h).elim (wi38 w) (wit39 w)
theorem wit37 : ∀ w ∈ wt37, w ∈ lw_tbl := fun w h => (List.mem_append.mp h).elim (wi37 w) (wit38 w)
theorem wit36 : ∀ w ∈ wt36, w ∈ lw_tbl := fun w h => (List.mem_append.mp h).elim (wi36 w) (wit37 w)
theorem wit35 : ∀ w ∈ wt35, w ∈ lw_tbl := fun w h => (List.mem_append.mp h).elim (wi35 w) (wit36 w)
theorem wit34 : ∀ w ∈ wt34, w ∈ lw_tbl := fun w h => (List.mem_append.mp h).elim (wi34 w) (wit35 w)
theorem wit33 : ∀ w ∈ wt33, w ∈ lw_tbl := fun w h => (List.mem_append.mp h).elim (wi33 w) (wit34 w)
theorem wit32 : ∀ w ∈ wt32, w ∈ lw_tbl := fun w h => (List.mem_append.mp h).elim (wi32 w) (wit33 w)
theorem wit31 : ∀ w ∈ wt31, w ∈ lw_tbl := fun w h => (List.mem_append.mp h).elim (wi31 w) (wit32 w)
theorem wit30 : ∀ w ∈ wt30, w ∈ lw_tbl := fun w h => (List.mem_append.mp h).elim (wi30 w) (wit31 w)
theorem wit29 : ∀ w ∈ wt29, w ∈ lw_tbl := fun w h => (List.mem_append.mp h).elim (wi29 w) (wit30 w)
theorem wit28 : ∀ w ∈ wt28, w ∈ lw_tbl := fun w h => (List.mem_append.mp h).elim (wi28 w) (wit29 w)
theorem wit27 : ∀ w ∈ wt27, w ∈ lw_tbl := fun w h => (List.mem_append.mp h).elim (wi27 w) (wit28 w)
theorem wit26 : ∀ w ∈ wt26, w ∈ lw_tbl := fun w h => (List.mem_append.mp h).elim (wi26 w) (wit27 w)
theorem wit25 : ∀ w ∈ wt25, w ∈ lw_tbl := fun w h => (List.mem_append.mp h).elim (wi25 w) (wit26 w)
theorem wit24 : ∀ w ∈ wt24, w ∈ lw_tbl := fun w h => (List.mem_append.mp h).elim (wi24 w) (wit25 w)
theorem wit23 : ∀ w ∈ wt23, w ∈ lw_tbl := fun w h => (List.mem_append.mp h).elim (wi23 w) (wit24 w)
theorem wit22 : ∀ w ∈ wt22, w ∈ lw_tbl := fun w h => (List.mem_append.mp h).elim (wi22 w) (wit23 w)
theorem wit21 : ∀ w ∈ wt21, w ∈ lw_tbl := fun w h => (List.mem_append.mp h).elim (wi21 w) (wit22 w)
theorem wit20 : ∀ w ∈ wt20, w ∈ lw_tbl := fun w h => (List.mem_append.mp h).elim (wi20 w) (wit21 w)
theorem wit19 : ∀ w ∈ wt19, w ∈ lw_tbl := fun w h => (List.mem_append.mp h).elim (wi19 w) (wit20 w)
theorem wit18 : ∀ w ∈ wt18, w ∈ lw_tbl := fun w h => (List.mem_append.mp h).elim (wi18 w) (wit19 w)
theorem wit17 : ∀ w ∈ wt17, w ∈ lw_tbl := fun w h => (List.mem_append.mp h).elim (wi17 w) (wit18 w)
theorem wit16 : ∀ w ∈ wt16, w ∈ lw_tbl := fun w h => (List.mem_append.mp h).elim (wi16 w) (wit17 w)
theorem wit15 : ∀ w ∈ wt15, w ∈ lw_tbl := fun w h => (List.mem_append.mp h).elim (wi15 w) (wit16 w)
theorem wit14 : ∀ w ∈ wt14, w ∈ lw_tbl := fun w h => (List.mem_append.mp h).elim (wi14 w) (wit15 w)
theorem wit13 : ∀ w ∈ wt13, w ∈ lw_tbl := fun w h => (List.mem_append.mp h).elim (wi13 w) (wit14 w)
theorem wit12 : ∀ w ∈ wt12, w ∈ lw_tbl := fun w h => (List.mem_append.mp h).elim (wi12 w) (wit13 w)
theorem wit11 : ∀ w ∈ wt11, w ∈ lw_tbl := fun w h => (List.mem_append.mp h).elim (wi11 w) (wit12 w)
theorem wit10 : ∀ w ∈ wt10, w ∈ lw_tbl := fun w h => (List.mem_append.mp h).elim (wi10 w) (wit11 w)
theorem wit9 : ∀ w ∈ wt9, w ∈ lw_tbl := fun w h => (List.mem_append.mp h).elim (wi9 w) (wit10 w)
theorem wit8 : ∀ w ∈ wt8, w ∈ lw_tbl := fun w h => (List.mem_append.mp h).elim (wi8 w) (wit9 w)
theorem wit7 : ∀ w ∈ wt7, w ∈ lw_tbl := fun w h => (List.mem_append.mp h).elim (wi7 w) (wit8 w)
theorem wit6 : ∀ w ∈ wt6, w ∈ lw_tbl := fun w h => (List.mem_append.mp h).elim (wi6 w) (wit7 w)
theorem wit5 : ∀ w ∈ wt5, w ∈ lw_tbl := fun w h => (List.mem_append.mp h).elim (wi5 w) (wit6 w)
theorem wit4 : ∀ w ∈ wt4, w ∈ lw_tbl := fun w h => (List.mem_append.mp h).elim (wi4 w) (wit5 w)
theorem wit3 : ∀ w ∈ wt3, w ∈ lw_tbl := fun w h => (List.mem_append.mp h).elim (wi3 w) (wit4 w)
theorem wit2 : ∀ w ∈ wt2, w ∈ lw_tbl := fun w h => (List.mem_append.mp h).elim (wi2 w) (wit3 w)
theorem wit1 : ∀ w ∈ wt1, w ∈ lw_tbl := fun w h => (List.mem_append.mp h).elim (wi1 w) (wit2 w)
theorem wsL_law_in : ∀ w ∈ wsL_law, w ∈ lw_tbl := by
  intro w h
  unfold wsL_law at h
  have h := List.mem_append.mp h
  rcases h with h | h
  rotate_left
  · cases h
  rcases List.mem_append.mp h with h | h
  rotate_left
  · exact inX1 w h
  rcases List.mem_append.mp h with h | h
  rotate_left
  · exact inX8 w h
  rcases List.mem_append.mp h with h | h
  rotate_left
  · exact inX2 w h
  rcases List.mem_append.mp h with h | h
  rotate_left
  · exact inX10 w h
  rcases List.mem_append.mp h with h | h
  rotate_left
  · exact inX3 w h
  rcases List.mem_append.mp h with h | h
  rotate_left
  · exact inX4 w h
  rcases List.mem_append.mp h with h | h
  rotate_left
  · exact inX6 w h
  rcases List.mem_append.mp h with h | h
  rotate_left
  · exact inX9 w h
  rcases List.mem_append.mp h with h | h
  rotate_left
  · exact inX7 w h
  rcases List.mem_append.mp h with h | h
  rotate_left
  · exact inX5 w h
  rcases List.mem_append.mp h with h | h
  rotate_left
  · exact inX0 w h
  rcases List.mem_append.mp h with h | h
  rotate_left
  · exact inX12 w h
  rcases List.mem_append.mp h with h | h
  rotate_left
  · exact inX11 w h
  exact wit1 w h
