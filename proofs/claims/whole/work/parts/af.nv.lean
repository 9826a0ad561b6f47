/-! the world at the start: the statics, the tables' classes -/
abbrev nK (i : Nat) : Term := .static "WeatherTea$Kind" (nmK.getD i "") "LWeatherTea$Kind;"
def stL : List Nat := [184, 190, 193, 196, 199, 202, 205, 208, 211, 214, 217, 220, 223, 226, 229, 232, 235, 238, 241, 244, 247, 250, 253, 256, 259, 262, 265, 268, 271, 274, 277, 280, 283, 286, 289, 292, 295, 298, 301, 304, 307, 310, 313, 316, 319, 322, 325, 328, 328, 328, 328, 328]
abbrev nS (i : Nat) : Term := .string "WeatherTea$Kind" (stL.getD i 0)
abbrev nVb (i : Nat) : Term := .field (nS i) "java/lang/String" "value" "[B"
def mdL : List Nat := [370, 371, 372, 373, 375, 377, 379, 380, 381, 382, 383, 384, 386, 388, 390, 392, 394, 396, 398, 400, 402, 404, 406, 408, 410, 412, 414, 416, 418, 420, 421, 422]
abbrev nMd (j : Nat) : Term := .string "WeatherTeaModel" (mdL.getD j 0)
abbrev nKD : Term := .static "WeatherTea" "KINDS" "[LWeatherTea$Kind;"
abbrev nSM : Term := .static "WeatherTea$1" "$SwitchMap$WeatherTea$Kind" "[I"
abbrev nTD : Term := .static "WeatherTeaModel" "TOLD" "[Ljava/lang/String;"
def NV : List Cond := flatC (Cond.and given_1 narrow_1)
def ixE : List Nat := [78, 81, 84, 87, 93, 96, 90, 99, 102, 105, 108, 111, 117, 120, 114, 123, 278, 281, 284, 287, 290, 293, 296, 299, 302, 305, 190, 181, 232, 235, 308, 311, 199, 202, 184, 187, 238, 205, 214, 193, 208, 211, 217, 220, 223, 226, 229, 75, 10, 4, 7, 196]
def ixO : List Nat := [79, 82, 85, 88, 94, 97, 91, 100, 103, 106, 109, 112, 118, 121, 115, 124, 279, 282, 285, 288, 291, 294, 297, 300, 303, 306, 191, 182, 233, 236, 309, 312, 200, 203, 185, 188, 239, 206, 215, 194, 209, 212, 218, 221, 224, 227, 230, 76, 11, 5, 8, 197]
def ixT : List Nat := [80, 83, 86, 89, 95, 98, 92, 101, 104, 107, 110, 113, 119, 122, 116, 125, 280, 283, 286, 289, 292, 295, 298, 301, 304, 307, 192, 183, 234, 237, 310, 313, 201, 204, 186, 189, 240, 207, 216, 195, 210, 213, 219, 222, 225, 228, 231, 77, 12, 6, 9, 198]
def ixX : List Nat := [646, 655, 661, 669, 686, 692, 677, 699, 708, 717, 723, 732, 750, 759, 741, 769, 1171, 1180, 1191, 1204, 1215, 1226, 1238, 1249, 1260, 1269, 794, 777, 862, 869, 1281, 1289, 805, 810, 784, 789, 875, 815, 830, 800, 820, 825, 835, 840, 845, 850, 856, 642, 642, 642, 642, 642]
def ixC : List Nat := [647, 656, 662, 670, 687, 693, 678, 700, 709, 718, 724, 733, 751, 760, 742, 770, 1172, 1181, 1192, 1205, 1216, 1227, 1239, 1250, 1261, 1270, 795, 778, 863, 870, 1282, 1290, 806, 811, 785, 790, 876, 816, 831, 801, 821, 826, 836, 841, 846, 851, 857, 643, 643, 643, 643, 643]
def ixA : List Nat := [648, 657, 663, 671, 688, 694, 679, 701, 710, 719, 725, 734, 752, 761, 743, 771, 1173, 1182, 1193, 1206, 1217, 1228, 1240, 1251, 1262, 1271, 796, 779, 864, 871, 1283, 1291, 807, 812, 786, 791, 877, 817, 832, 802, 822, 827, 837, 842, 847, 852, 858, 644, 644, 644, 644, 644]
def ixN : List Nat := [649, 658, 664, 672, 689, 695, 680, 702, 711, 720, 726, 735, 753, 762, 744, 772, 1174, 1183, 1194, 1207, 1218, 1229, 1241, 1252, 1263, 1272, 797, 780, 865, 872, 1284, 1292, 808, 813, 787, 792, 878, 818, 833, 803, 823, 828, 838, 843, 848, 853, 859, 645, 645, 645, 645, 645]
def ixKD : List Nat := [18, 19, 20, 21, 22, 23, 24, 25, 26, 27, 28, 29, 30, 31, 32, 33, 34, 35, 36, 37, 38, 39, 40, 41, 42, 43, 44, 45, 46, 47, 48, 49, 50, 51, 52, 53, 54, 55, 56, 57, 58, 59, 60, 61, 62, 63, 64, 65, 66, 67, 68, 69]
def ixSM : List Nat := [129, 130, 131, 132, 133, 134, 135, 136, 137, 138, 139, 140, 141, 142, 143, 144, 145, 146, 147, 148, 149, 150, 151, 152, 153, 154, 155, 156, 157, 158, 159, 160, 161, 162, 163, 164, 165, 166, 167, 168, 169, 170, 171, 172, 173, 174, 175, 176, 177, 178, 179, 180]
def ixTD : List Nat := [246, 247, 248, 249, 250, 251, 252, 253, 254, 255, 256, 257, 258, 259, 260, 261, 262, 263, 264, 265, 266, 267, 268, 269, 270, 271, 272, 273, 274, 275, 276, 277]
def ixS : List Nat := [889, 896, 905, 914, 921, 929, 939, 949, 959, 966, 976, 986, 996, 1007, 1017, 1026, 1179, 1190, 1203, 1214, 1225, 1237, 1259, 1268, 1248, 1280, 1134, 1142, 1149, 1288, 1296, 1170]
def ixLS : List Nat := [503, 510, 512, 514, 523, 525, 516, 527, 529, 531, 533, 538, 546, 548, 540, 550, 1741, 1742, 1743, 1744, 1745, 1746, 1747, 1748, 1749, 1750, 591, 569, 619, 621, 1751, 1752, 597, 599, 575, 577, 627, 601, 607, 593, 603, 605, 609, 611, 613, 615, 617, 474, 417, 130, 415, 595]
def ixB : List (List Nat) := [[650, 651, 652, 653, 654], [659, 660], [665, 666, 667, 668], [673, 674, 675, 676], [690, 691], [696, 697, 698], [681, 682, 683, 684, 685], [703, 704, 705, 706, 707], [712, 713, 714, 715, 716], [721, 722], [727, 728, 729, 730, 731], [736, 737, 738, 739, 740], [754, 755, 756, 757, 758], [763, 764, 765, 766, 767, 768], [745, 746, 747, 748, 749], [773, 774, 775, 776], [1175, 1176, 1177, 1178], [1184, 1185, 1186, 1187, 1188, 1189], [1195, 1196, 1197, 1198, 1199, 1200, 1201, 1202], [1208, 1209, 1210, 1211, 1212, 1213], [1219, 1220, 1221, 1222, 1223, 1224], [1230, 1231, 1232, 1233, 1234, 1235, 1236], [1242, 1243, 1244, 1245, 1246, 1247], [1253, 1254, 1255, 1256, 1257, 1258], [1264, 1265, 1266, 1267], [1273, 1274, 1275, 1276, 1277, 1278, 1279], [798, 799], [781, 782, 783], [866, 867, 868], [873, 874], [1285, 1286, 1287], [1293, 1294, 1295], [809], [814], [788], [793], [879], [819], [834], [804], [824], [829], [839], [844], [849], [854, 855], [860, 861], [], [], [], [], []]
theorem nvE0 : ∀ i, i < 52 → NV[ixE.getD i 0]? = some (.exactly (nK i) "WeatherTea$Kind") := by decide +kernel
theorem nvE {i : Nat} (h : i < 52) : (.exactly (nK i) "WeatherTea$Kind" : Cond) ∈ NV := List.mem_of_getElem? (nvE0 i h)
theorem nvO0 : ∀ i, i < 52 → NV[ixO.getD i 0]? = some (.eq (.field (nK i) "java/lang/Enum" "ordinal" "I") (.int (nI i))) := by decide +kernel
theorem nvO {i : Nat} (h : i < 52) : (.eq (.field (nK i) "java/lang/Enum" "ordinal" "I") (.int (nI i)) : Cond) ∈ NV := List.mem_of_getElem? (nvO0 i h)
theorem nvT0 : ∀ i, i < 52 → NV[ixT.getD i 0]? = some (.eq (.field (nK i) "WeatherTea$Kind" "text" "Ljava/lang/String;") (nS i)) := by decide +kernel
theorem nvT {i : Nat} (h : i < 52) : (.eq (.field (nK i) "WeatherTea$Kind" "text" "Ljava/lang/String;") (nS i) : Cond) ∈ NV := List.mem_of_getElem? (nvT0 i h)
theorem nvX0 : ∀ i, i < 52 → NV[ixX.getD i 0]? = some (.exactly (nS i) "java/lang/String") := by decide +kernel
theorem nvX {i : Nat} (h : i < 52) : (.exactly (nS i) "java/lang/String" : Cond) ∈ NV := List.mem_of_getElem? (nvX0 i h)
theorem nvC0 : ∀ i, i < 52 → NV[ixC.getD i 0]? = some (.eq (.field (nS i) "java/lang/String" "coder" "B") (.int 0)) := by decide +kernel
theorem nvC {i : Nat} (h : i < 52) : (.eq (.field (nS i) "java/lang/String" "coder" "B") (.int 0) : Cond) ∈ NV := List.mem_of_getElem? (nvC0 i h)
theorem nvA0 : ∀ i, i < 52 → NV[ixA.getD i 0]? = some (.arrayOf (nVb i) .byte) := by decide +kernel
theorem nvA {i : Nat} (h : i < 52) : (.arrayOf (nVb i) .byte : Cond) ∈ NV := List.mem_of_getElem? (nvA0 i h)
theorem nvN0 : ∀ i, i < 52 → NV[ixN.getD i 0]? = some (.eq (.length (nVb i)) (.int (Int32.ofNat (kln i)))) := by decide +kernel
theorem nvN {i : Nat} (h : i < 52) : (.eq (.length (nVb i)) (.int (Int32.ofNat (kln i))) : Cond) ∈ NV := List.mem_of_getElem? (nvN0 i h)
theorem nvKD0 : ∀ i, i < 52 → NV[ixKD.getD i 0]? = some (.eq (.elem nKD (.int (Int32.ofNat i))) (nK i)) := by decide +kernel
theorem nvKD {i : Nat} (h : i < 52) : (.eq (.elem nKD (.int (Int32.ofNat i))) (nK i) : Cond) ∈ NV := List.mem_of_getElem? (nvKD0 i h)
theorem nvSM0 : ∀ i, i < 52 → NV[ixSM.getD i 0]? = some (.eq (.elem nSM (.int (Int32.ofNat i))) (.int (smap i))) := by decide +kernel
theorem nvSM {i : Nat} (h : i < 52) : (.eq (.elem nSM (.int (Int32.ofNat i))) (.int (smap i)) : Cond) ∈ NV := List.mem_of_getElem? (nvSM0 i h)
theorem nvTD0 : ∀ i, i < 32 → NV[ixTD.getD i 0]? = some (.eq (.elem nTD (.int (Int32.ofNat i))) (nMd i)) := by decide +kernel
theorem nvTD {i : Nat} (h : i < 32) : (.eq (.elem nTD (.int (Int32.ofNat i))) (nMd i) : Cond) ∈ NV := List.mem_of_getElem? (nvTD0 i h)
theorem nvB0 : ∀ i, i < 52 → ∀ j, j < kln i → NV[(ixB.getD i []).getD j 0]? = some (.eq (.elem (nVb i) (.int (Int32.ofNat j))) (.int (kby i j))) := by decide +kernel
theorem nvB {i j : Nat} (h : i < 52) (hj : j < kln i) : (.eq (.elem (nVb i) (.int (Int32.ofNat j))) (.int (kby i j)) : Cond) ∈ NV := List.mem_of_getElem? (nvB0 i h j hj)
theorem nvS0 : ∀ i, i < 32 → NV[ixS.getD i 0]? = some (.eq (nS (tkK i)) (nMd i)) ∨ NV[ixS.getD i 0]? = some (.eq (nMd i) (nS (tkK i))) := by decide +kernel
theorem tkK_52 : ∀ i, i < 32 → tkK i < 52 := by decide
theorem kln_s : ∀ i, i < 52 → kln i < 2 ^ 31 := by decide
theorem nvLS0 : ∀ i, i < 52 → lw_tbl[ixLS.getD i 0]? = some (.laysStatic "WeatherTea$Kind" (nmK.getD i "") "LWeatherTea$Kind;") := by decide +kernel
