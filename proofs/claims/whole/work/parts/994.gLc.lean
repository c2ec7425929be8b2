set_option maxRecDepth 20000 in
theorem ggL_law_X7_pick : GoodIn wsL_law wsX7_pick := goodIn_r _ [682, 42, 108, 683, 538, 28, 684, 589, 590, 39, 591, 254, 607, 608, 609, 610, 88, 569, 570, 571, 611, 612, 613, 27, 614, 65, 615, 66, 67, 431, 616, 617, 578, 618, 1100, 1101, 1102, 1103, 1104, 1105, 1106, 1107, 1108, 1109, 1110, 1111, 1112, 1113, 1167, 1168, 1169, 1170, 1171, 1172, 1173, 1174, 1175, 1176, 1177, 1178, 1179, 1180, 1153, 1154, 1155, 1156, 1157] (by decide +kernel) (by decide +kernel)
set_option maxRecDepth 20000 in
theorem gL_law_X7_pick : GoodIn wsL_law (wsV RL 54 RX7 yX7_pick wsX7_pick) := goodIn_app (goodIn_of _ (by decide +kernel)) ggL_law_X7_pick
set_option maxRecDepth 20000 in
theorem ggL_law_X8_pick : GoodIn wsL_law wsX8_pick := goodIn_r _ [688, 137, 689, 139, 623, 96, 690, 691, 692, 5, 693, 145, 146, 147, 637, 638, 639, 640, 675, 676, 677, 678, 445, 98, 1114, 1115, 1116, 1117, 1118, 1119, 1120, 1121, 1122, 1123, 1124, 1125, 1126, 1127, 1128, 1129, 1130, 1131, 1132, 1133, 1134, 1135, 1136, 1137, 1138, 1139, 1140] (by decide +kernel) (by decide +kernel)
set_option maxRecDepth 20000 in
theorem gL_law_X8_pick : GoodIn wsL_law (wsV RL 58 RX8 yX8_pick wsX8_pick) := goodIn_app (goodIn_of _ (by decide +kernel)) ggL_law_X8_pick
set_option maxRecDepth 20000 in
theorem ggL_law_X7_move : GoodIn wsL_law wsX7_move := goodIn_r _ [697, 42, 108, 698, 28, 699, 562, 563, 39, 564, 252, 611, 612, 613, 27, 614, 65, 615, 66, 67, 431, 616, 617, 578, 618, 1100, 1101, 1102, 1103, 1104, 1105, 1106, 1107, 1108, 1109, 1110, 1111, 1112, 1113, 1167, 1168, 1169, 1170, 1171, 1172, 1173, 1174, 1175, 1176, 1177, 1178, 1179, 1180, 1153, 1154, 1155, 1156, 1157] (by decide +kernel) (by decide +kernel)
set_option maxRecDepth 20000 in
theorem gL_law_X7_move : GoodIn wsL_law (wsV RL 59 RX7 yX7_move wsX7_move) := goodIn_app (goodIn_of _ (by decide +kernel)) ggL_law_X7_move
set_option maxRecDepth 20000 in
theorem ggL_law_X8_move : GoodIn wsL_law wsX8_move := goodIn_r _ [703, 137, 704, 139, 96, 705, 706, 707, 5, 708, 145, 146, 147, 675, 676, 677, 678, 445, 98, 660, 661, 662, 663, 1114, 1115, 1116, 1117, 1118, 1119, 1120, 1121, 1122, 1123, 1124, 1125, 1126, 1127, 1128, 1129, 1130, 1131, 1132, 1133, 1134, 1135, 1136, 1137, 1138, 1139, 1140] (by decide +kernel) (by decide +kernel)
set_option maxRecDepth 20000 in
theorem gL_law_X8_move : GoodIn wsL_law (wsV RL 62 RX8 yX8_move wsX8_move) := goodIn_app (goodIn_of _ (by decide +kernel)) ggL_law_X8_move
set_option maxRecDepth 20000 in
theorem ggL_law_X7_crack : GoodIn wsL_law wsX7_crack := goodIn_r _ [712, 42, 108, 538, 713, 28, 714, 715, 716, 39, 717, 253, 718, 566, 567, 568, 255, 569, 570, 571, 611, 612, 613, 27, 614, 65, 615, 66, 67, 431, 616, 617, 578, 618, 1100, 1101, 1102, 1103, 1104, 1105, 1106, 1107, 1108, 1109, 1110, 1111, 1112, 1113, 1167, 1168, 1169, 1170, 1171, 1172, 1173, 1174, 1175, 1176, 1177, 1178, 1179, 1180, 1153, 1154, 1155, 1156, 1157] (by decide +kernel) (by decide +kernel)
set_option maxRecDepth 20000 in
theorem gL_law_X7_crack : GoodIn wsL_law (wsV RL 63 RX7 yX7_crack wsX7_crack) := goodIn_app (goodIn_of _ (by decide +kernel)) ggL_law_X7_crack
set_option maxRecDepth 20000 in
theorem ggL_law_X8_crack : GoodIn wsL_law wsX8_crack := goodIn_r _ [722, 137, 139, 96, 623, 723, 724, 725, 5, 726, 145, 146, 147, 675, 676, 677, 678, 445, 98, 1114, 1115, 1116, 1117, 1118, 1119, 1120, 1121, 1122, 1123, 1124, 1125, 1126, 1127, 1128, 1129, 1130, 1131, 1132, 1133, 1134, 1135, 1136, 1137, 1138, 1139, 1140] (by decide +kernel) (by decide +kernel)
set_option maxRecDepth 20000 in
theorem gL_law_X8_crack : GoodIn wsL_law (wsV RL 66 RX8 yX8_crack wsX8_crack) := goodIn_app (goodIn_of _ (by decide +kernel)) ggL_law_X8_crack
set_option maxRecDepth 20000 in
theorem ggL_law_X7_undo : GoodIn wsL_law wsX7_undo := goodIn_r _ [730, 28, 538, 42, 731, 732, 733, 27, 734, 431, 735, 736, 737, 738, 615, 66, 65, 739, 67, 740, 741, 562, 563, 39, 564, 252, 742, 608, 609, 610, 254, 88, 569, 570, 571, 1100, 1101, 1102, 1103, 1104, 1105, 1106, 1107, 1108, 1109, 1110, 1111, 1112, 1113, 1153, 1154, 1155, 1156, 1157, 1167, 1168, 1169, 1170, 1171, 1172, 1173, 1174, 1175, 1176, 1177, 1178, 1179, 1180] (by decide +kernel) (by decide +kernel)
set_option maxRecDepth 20000 in
theorem gL_law_X7_undo : GoodIn wsL_law (wsV RL 67 RX7 yX7_undo wsX7_undo) := goodIn_app (goodIn_of _ (by decide +kernel)) ggL_law_X7_undo
set_option maxRecDepth 20000 in
theorem ggL_law_X8_undo : GoodIn wsL_law wsX8_undo := goodIn_r _ [746, 137, 445, 623, 96, 98, 1114, 1115, 1116, 1117, 1118, 1119, 1120, 1121, 1122, 1123, 1124, 1125, 1126, 1127, 1128, 1129, 1130, 1131, 1132, 1133, 1134, 1135, 1136, 1137, 1138, 1139, 1140] (by decide +kernel) (by decide +kernel)
set_option maxRecDepth 20000 in
theorem gL_law_X8_undo : GoodIn wsL_law (wsV RL 70 RX8 yX8_undo wsX8_undo) := goodIn_app (goodIn_of _ (by decide +kernel)) ggL_law_X8_undo
set_option maxRecDepth 20000 in
theorem ggL_law_X7_grave : GoodIn wsL_law wsX7_grave := goodIn_r _ [750, 42, 108, 698, 751, 752, 753, 699, 562, 563, 39, 564, 252, 754, 581, 582, 583, 556, 254, 87, 80, 576, 577, 578, 579, 561, 584, 585, 586, 587, 88, 588, 589, 590, 591, 569, 570, 571, 755, 558, 559, 560, 253, 565, 566, 567, 568, 255, 572, 573, 574, 575, 85, 84, 81, 1100, 1101, 1102, 1103, 1104, 1105, 1106, 1107, 1108, 1109, 1110, 1111, 1112, 1113, 1167, 1168, 1169, 1170, 1171, 1172, 1173, 1174, 1175, 1176, 1177, 1178, 1179, 1180] (by decide +kernel) (by decide +kernel)
set_option maxRecDepth 20000 in
theorem gL_law_X7_grave : GoodIn wsL_law (wsV RL 71 RX7 yX7_grave wsX7_grave) := goodIn_app (goodIn_of _ (by decide +kernel)) ggL_law_X7_grave
set_option maxRecDepth 20000 in
theorem ggL_law_X8_grave : GoodIn wsL_law wsX8_grave := goodIn_r _ [759, 137, 760, 139, 705, 706, 707, 5, 708, 96, 145, 146, 147, 660, 661, 662, 663, 667, 668, 669, 670, 457, 671, 672, 673, 674, 664, 665, 666, 637, 638, 639, 640, 656, 657, 658, 659, 1114, 1115, 1116, 1117, 1118, 1119, 1120, 1121, 1122, 1123, 1124, 1125, 1126, 1127, 1128, 1129, 1130, 1131, 1132, 1133, 1134, 1135, 1136, 1137, 1138, 1139, 1140] (by decide +kernel) (by decide +kernel)
set_option maxRecDepth 20000 in
theorem gL_law_X8_grave : GoodIn wsL_law (wsV RL 74 RX8 yX8_grave wsX8_grave) := goodIn_app (goodIn_of _ (by decide +kernel)) ggL_law_X8_grave
set_option maxRecDepth 20000 in
theorem ggL_law_X7_tree : GoodIn wsL_law wsX7_tree := goodIn_r _ [764, 42, 108, 765, 683, 684, 589, 590, 39, 591, 254, 766, 604, 605, 606, 86, 588, 767, 768, 769, 770, 252, 580, 581, 582, 583, 556, 87, 80, 576, 577, 578, 579, 561, 562, 563, 564, 584, 585, 586, 587, 88, 569, 570, 571, 1100, 1101, 1102, 1103, 1104, 1105, 1106, 1107, 1108, 1109, 1110, 1111, 1112, 1113, 1167, 1168, 1169, 1170, 1171, 1172, 1173, 1174, 1175, 1176, 1177, 1178, 1179, 1180] (by decide +kernel) (by decide +kernel)
set_option maxRecDepth 20000 in
theorem gL_law_X7_tree : GoodIn wsL_law (wsV RL 75 RX7 yX7_tree wsX7_tree) := goodIn_app (goodIn_of _ (by decide +kernel)) ggL_law_X7_tree
set_option maxRecDepth 20000 in
theorem ggL_law_X8_tree : GoodIn wsL_law wsX8_tree := goodIn_r _ [774, 137, 775, 139, 96, 690, 691, 692, 5, 693, 145, 146, 147, 667, 668, 669, 670, 457, 671, 672, 673, 674, 660, 661, 662, 663, 664, 665, 666, 637, 638, 639, 640, 641, 642, 643, 644, 1114, 1115, 1116, 1117, 1118, 1119, 1120, 1121, 1122, 1123, 1124, 1125, 1126, 1127, 1128, 1129, 1130, 1131, 1132, 1133, 1134, 1135, 1136, 1137, 1138, 1139, 1140] (by decide +kernel) (by decide +kernel)
set_option maxRecDepth 20000 in
theorem gL_law_X8_tree : GoodIn wsL_law (wsV RL 78 RX8 yX8_tree wsX8_tree) := goodIn_app (goodIn_of _ (by decide +kernel)) ggL_law_X8_tree
