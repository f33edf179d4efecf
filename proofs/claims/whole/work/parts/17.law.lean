def T_L_law : List (Nat × Instr) := [(0, .new 7), (3, .dup), (4, .invokespecial 9), (7, .astore_n 1), (8, .new 10), (11, .dup), (12, .invokespecial 12), (15, .astore_n 2), (16, .iconst 0), (17, .istore_n 3), (18, .iload_n 3), (19, .aload_n 0), (20, .arraylength), (21, .bipush 7), (23, .isub), (24, .if_icmp .gt 1504), (27, .aload_n 0), (28, .iload_n 3), (29, .iaload), (30, .bipush 63), (32, .iand), (33, .tableswitch 1489 0 35 #[159, 212, 245, 294, 317, 370, 403, 436, 469, 492, 515, 564, 597, 646, 679, 742, 775, 808, 851, 884, 927, 980, 1003, 1036, 1069, 1145, 1188, 1211, 1254, 1298, 1361, 1384, 1407, 1440, 1453, 1466]), (192, .aload_n 1), (193, .aload_n 0), (194, .iload_n 3), (195, .iconst 1), (196, .iadd), (197, .iaload), (198, .aload_n 0), (199, .iload_n 3), (200, .iconst 2), (201, .iadd), (202, .iaload), (203, .aload_n 0), (204, .iload_n 3), (205, .iconst 3), (206, .iadd), (207, .iaload), (208, .aload_n 0), (209, .iload_n 3), (210, .iconst 4), (211, .iadd), (212, .iaload), (213, .invokevirtual 13), (216, .aload_n 2), (217, .aload_n 0), (218, .iload_n 3), (219, .iconst 1), (220, .iadd), (221, .iaload), (222, .aload_n 0), (223, .iload_n 3), (224, .iconst 2), (225, .iadd), (226, .iaload), (227, .aload_n 0), (228, .iload_n 3), (229, .iconst 3), (230, .iadd), (231, .iaload), (232, .aload_n 0), (233, .iload_n 3), (234, .iconst 4), (235, .iadd), (236, .iaload), (237, .invokevirtual 17), (240, .if_icmp .eq 1282), (243, .iconst 0), (244, .ireturn), (245, .aload_n 1), (246, .aload_n 0), (247, .iload_n 3), (248, .iconst 1), (249, .iadd), (250, .iaload), (251, .aload_n 0), (252, .iload_n 3), (253, .iconst 2), (254, .iadd), (255, .iaload), (256, .invokevirtual 18), (259, .aload_n 2), (260, .aload_n 0), (261, .iload_n 3), (262, .iconst 1), (263, .iadd), (264, .iaload), (265, .aload_n 0), (266, .iload_n 3), (267, .iconst 2), (268, .iadd), (269, .iaload), (270, .invokevirtual 22), (273, .if_icmp .eq 1249), (276, .iconst 0), (277, .ireturn), (278, .aload_n 1), (279, .aload_n 0), (280, .iload_n 3), (281, .iconst 1), (282, .iadd), (283, .iaload), (284, .aload_n 0), (285, .iload_n 3), (286, .iconst 2), (287, .iadd), (288, .iaload), (289, .ifCond .eq 7), (292, .iconst 1), (293, .goto 4), (296, .iconst 0), (297, .invokevirtual 23), (300, .aload_n 2), (301, .aload_n 0), (302, .iload_n 3), (303, .iconst 1), (304, .iadd), (305, .iaload), (306, .aload_n 0), (307, .iload_n 3), (308, .iconst 2), (309, .iadd), (310, .iaload), (311, .ifCond .eq 7), (314, .iconst 1), (315, .goto 4), (318, .iconst 0), (319, .invokevirtual 27), (322, .if_icmp .eq 1200), (325, .iconst 0), (326, .ireturn), (327, .aload_n 1), (328, .aload_n 0), (329, .iload_n 3), (330, .iconst 1), (331, .iadd), (332, .iaload), (333, .invokevirtual 28), (336, .aload_n 2), (337, .aload_n 0), (338, .iload_n 3), (339, .iconst 1), (340, .iadd), (341, .iaload), (342, .invokevirtual 32), (345, .if_icmp .eq 1177), (348, .iconst 0), (349, .ireturn), (350, .aload_n 1), (351, .aload_n 0), (352, .iload_n 3), (353, .iconst 1), (354, .iadd), (355, .iaload), (356, .aload_n 0), (357, .iload_n 3), (358, .iconst 2), (359, .iadd), (360, .iaload), (361, .aload_n 0), (362, .iload_n 3), (363, .iconst 3), (364, .iadd), (365, .iaload), (366, .aload_n 0), (367, .iload_n 3), (368, .iconst 4), (369, .iadd), (370, .iaload), (371, .invokevirtual 33), (374, .aload_n 2), (375, .aload_n 0), (376, .iload_n 3), (377, .iconst 1), (378, .iadd), (379, .iaload), (380, .aload_n 0), (381, .iload_n 3), (382, .iconst 2), (383, .iadd), (384, .iaload), (385, .aload_n 0), (386, .iload_n 3), (387, .iconst 3), (388, .iadd), (389, .iaload), (390, .aload_n 0), (391, .iload_n 3), (392, .iconst 4), (393, .iadd), (394, .iaload), (395, .invokevirtual 36), (398, .if_icmp .eq 1124), (401, .iconst 0), (402, .ireturn), (403, .aload_n 1), (404, .aload_n 0), (405, .iload_n 3), (406, .iconst 1), (407, .iadd), (408, .iaload), (409, .aload_n 0), (410, .iload_n 3), (411, .iconst 2), (412, .iadd), (413, .iaload), (414, .invokevirtual 37), (417, .aload_n 2), (418, .aload_n 0), (419, .iload_n 3), (420, .iconst 1), (421, .iadd), (422, .iaload), (423, .aload_n 0), (424, .iload_n 3), (425, .iconst 2), (426, .iadd), (427, .iaload), (428, .invokevirtual 40), (431, .if_icmp .eq 1091), (434, .iconst 0), (435, .ireturn), (436, .aload_n 1), (437, .aload_n 0), (438, .iload_n 3), (439, .iconst 1), (440, .iadd), (441, .iaload), (442, .aload_n 0), (443, .iload_n 3), (444, .iconst 2), (445, .iadd), (446, .iaload), (447, .invokevirtual 41), (450, .aload_n 2), (451, .aload_n 0), (452, .iload_n 3), (453, .iconst 1), (454, .iadd), (455, .iaload), (456, .aload_n 0), (457, .iload_n 3), (458, .iconst 2), (459, .iadd), (460, .iaload), (461, .invokevirtual 44), (464, .if_icmp .eq 1058), (467, .iconst 0), (468, .ireturn), (469, .aload_n 1), (470, .aload_n 0), (471, .iload_n 3), (472, .iconst 1), (473, .iadd), (474, .iaload), (475, .aload_n 0), (476, .iload_n 3), (477, .iconst 2), (478, .iadd), (479, .iaload), (480, .invokevirtual 45), (483, .aload_n 2), (484, .aload_n 0), (485, .iload_n 3), (486, .iconst 1), (487, .iadd), (488, .iaload), (489, .aload_n 0), (490, .iload_n 3), (491, .iconst 2), (492, .iadd), (493, .iaload), (494, .invokevirtual 48), (497, .if_icmp .eq 1025), (500, .iconst 0), (501, .ireturn), (502, .aload_n 1), (503, .aload_n 0), (504, .iload_n 3), (505, .iconst 1), (506, .iadd), (507, .iaload), (508, .invokevirtual 49), (511, .aload_n 2), (512, .aload_n 0), (513, .iload_n 3), (514, .iconst 1), (515, .iadd), (516, .iaload), (517, .invokevirtual 52), (520, .if_icmp .eq 1002), (523, .iconst 0), (524, .ireturn), (525, .aload_n 1), (526, .aload_n 0), (527, .iload_n 3), (528, .iconst 1), (529, .iadd), (530, .iaload), (531, .invokevirtual 53), (534, .aload_n 2), (535, .aload_n 0), (536, .iload_n 3), (537, .iconst 1), (538, .iadd), (539, .iaload), (540, .invokevirtual 56), (543, .if_icmp .eq 979), (546, .iconst 0), (547, .ireturn), (548, .aload_n 1), (549, .aload_n 0), (550, .iload_n 3), (551, .iconst 1), (552, .iadd), (553, .iaload), (554, .aload_n 0), (555, .iload_n 3), (556, .iconst 2), (557, .iadd), (558, .iaload), (559, .ifCond .eq 7), (562, .iconst 1), (563, .goto 4), (566, .iconst 0), (567, .invokevirtual 57), (570, .aload_n 2), (571, .aload_n 0), (572, .iload_n 3), (573, .iconst 1), (574, .iadd), (575, .iaload), (576, .aload_n 0), (577, .iload_n 3), (578, .iconst 2), (579, .iadd), (580, .iaload), (581, .ifCond .eq 7), (584, .iconst 1), (585, .goto 4), (588, .iconst 0), (589, .invokevirtual 60), (592, .if_icmp .eq 930), (595, .iconst 0), (596, .ireturn), (597, .aload_n 1), (598, .aload_n 0), (599, .iload_n 3), (600, .iconst 1), (601, .iadd), (602, .iaload), (603, .aload_n 0), (604, .iload_n 3), (605, .iconst 2), (606, .iadd), (607, .iaload), (608, .invokevirtual 61), (611, .aload_n 2), (612, .aload_n 0), (613, .iload_n 3), (614, .iconst 1), (615, .iadd), (616, .iaload), (617, .aload_n 0), (618, .iload_n 3), (619, .iconst 2), (620, .iadd), (621, .iaload), (622, .invokevirtual 64), (625, .if_icmp .eq 897), (628, .iconst 0), (629, .ireturn), (630, .aload_n 1), (631, .aload_n 0), (632, .iload_n 3), (633, .iconst 1), (634, .iadd), (635, .iaload), (636, .aload_n 0), (637, .iload_n 3), (638, .iconst 2), (639, .iadd), (640, .iaload), (641, .ifCond .eq 7), (644, .iconst 1), (645, .goto 4), (648, .iconst 0), (649, .invokevirtual 65), (652, .aload_n 2), (653, .aload_n 0), (654, .iload_n 3), (655, .iconst 1), (656, .iadd), (657, .iaload), (658, .aload_n 0), (659, .iload_n 3), (660, .iconst 2), (661, .iadd), (662, .iaload), (663, .ifCond .eq 7), (666, .iconst 1), (667, .goto 4), (670, .iconst 0), (671, .invokevirtual 68), (674, .if_icmp .eq 848), (677, .iconst 0), (678, .ireturn), (679, .aload_n 1), (680, .aload_n 0), (681, .iload_n 3), (682, .iconst 1), (683, .iadd), (684, .iaload), (685, .aload_n 0), (686, .iload_n 3), (687, .iconst 2), (688, .iadd), (689, .iaload), (690, .invokevirtual 69), (693, .aload_n 2), (694, .aload_n 0), (695, .iload_n 3), (696, .iconst 1), (697, .iadd), (698, .iaload), (699, .aload_n 0), (700, .iload_n 3), (701, .iconst 2), (702, .iadd), (703, .iaload), (704, .invokevirtual 72), (707, .if_icmp .eq 815), (710, .iconst 0), (711, .ireturn), (712, .aload_n 1), (713, .aload_n 0), (714, .iload_n 3), (715, .iconst 1), (716, .iadd), (717, .iaload), (718, .aload_n 0), (719, .iload_n 3), (720, .iconst 2), (721, .iadd), (722, .iaload), (723, .aload_n 0), (724, .iload_n 3), (725, .iconst 3), (726, .iadd), (727, .iaload), (728, .aload_n 0), (729, .iload_n 3), (730, .iconst 4), (731, .iadd), (732, .iaload), (733, .aload_n 0), (734, .iload_n 3), (735, .iconst 5), (736, .iadd), (737, .iaload), (738, .invokevirtual 73), (741, .aload_n 2), (742, .aload_n 0), (743, .iload_n 3), (744, .iconst 1), (745, .iadd), (746, .iaload), (747, .aload_n 0), (748, .iload_n 3), (749, .iconst 2), (750, .iadd), (751, .iaload), (752, .aload_n 0), (753, .iload_n 3), (754, .iconst 3), (755, .iadd), (756, .iaload), (757, .aload_n 0), (758, .iload_n 3), (759, .iconst 4), (760, .iadd), (761, .iaload), (762, .aload_n 0), (763, .iload_n 3), (764, .iconst 5), (765, .iadd), (766, .iaload), (767, .invokevirtual 77), (770, .if_icmp .eq 752), (773, .iconst 0), (774, .ireturn), (775, .aload_n 1), (776, .aload_n 0), (777, .iload_n 3), (778, .iconst 1), (779, .iadd), (780, .iaload), (781, .aload_n 0), (782, .iload_n 3), (783, .iconst 2), (784, .iadd), (785, .iaload), (786, .invokevirtual 78), (789, .aload_n 2), (790, .aload_n 0), (791, .iload_n 3), (792, .iconst 1), (793, .iadd), (794, .iaload), (795, .aload_n 0), (796, .iload_n 3), (797, .iconst 2), (798, .iadd), (799, .iaload), (800, .invokevirtual 81), (803, .if_icmp .eq 719), (806, .iconst 0), (807, .ireturn), (808, .aload_n 1), (809, .aload_n 0), (810, .iload_n 3), (811, .iconst 1), (812, .iadd), (813, .iaload), (814, .aload_n 0), (815, .iload_n 3), (816, .iconst 2), (817, .iadd), (818, .iaload), (819, .invokevirtual 82), (822, .aload_n 2), (823, .aload_n 0), (824, .iload_n 3), (825, .iconst 1), (826, .iadd), (827, .iaload), (828, .aload_n 0), (829, .iload_n 3), (830, .iconst 2), (831, .iadd), (832, .iaload), (833, .invokevirtual 85), (836, .if_icmp .eq 686), (839, .iconst 0), (840, .ireturn), (841, .aload_n 1), (842, .aload_n 0), (843, .iload_n 3), (844, .iconst 1), (845, .iadd), (846, .iaload), (847, .aload_n 0), (848, .iload_n 3), (849, .iconst 2), (850, .iadd), (851, .iaload), (852, .aload_n 0), (853, .iload_n 3), (854, .iconst 3), (855, .iadd), (856, .iaload), (857, .invokevirtual 86), (860, .aload_n 2), (861, .aload_n 0), (862, .iload_n 3), (863, .iconst 1), (864, .iadd), (865, .iaload), (866, .aload_n 0), (867, .iload_n 3), (868, .iconst 2), (869, .iadd), (870, .iaload), (871, .aload_n 0), (872, .iload_n 3), (873, .iconst 3), (874, .iadd), (875, .iaload), (876, .invokevirtual 90), (879, .if_icmp .eq 643), (882, .iconst 0), (883, .ireturn), (884, .aload_n 1), (885, .aload_n 0), (886, .iload_n 3), (887, .iconst 1), (888, .iadd), (889, .iaload), (890, .aload_n 0), (891, .iload_n 3), (892, .iconst 2), (893, .iadd), (894, .iaload), (895, .invokevirtual 91), (898, .aload_n 2), (899, .aload_n 0), (900, .iload_n 3), (901, .iconst 1), (902, .iadd), (903, .iaload), (904, .aload_n 0), (905, .iload_n 3), (906, .iconst 2), (907, .iadd), (908, .iaload), (909, .invokevirtual 94), (912, .if_icmp .eq 610), (915, .iconst 0), (916, .ireturn), (917, .aload_n 1), (918, .aload_n 0), (919, .iload_n 3), (920, .iconst 1), (921, .iadd), (922, .iaload), (923, .aload_n 0), (924, .iload_n 3), (925, .iconst 2), (926, .iadd), (927, .iaload), (928, .aload_n 0), (929, .iload_n 3), (930, .iconst 3), (931, .iadd), (932, .iaload), (933, .invokevirtual 95), (936, .aload_n 2), (937, .aload_n 0), (938, .iload_n 3), (939, .iconst 1), (940, .iadd), (941, .iaload), (942, .aload_n 0), (943, .iload_n 3), (944, .iconst 2), (945, .iadd), (946, .iaload), (947, .aload_n 0), (948, .iload_n 3), (949, .iconst 3), (950, .iadd), (951, .iaload), (952, .invokevirtual 98), (955, .if_icmp .eq 567), (958, .iconst 0), (959, .ireturn), (960, .aload_n 1), (961, .aload_n 0), (962, .iload_n 3), (963, .iconst 1), (964, .iadd), (965, .iaload), (966, .aload_n 0), (967, .iload_n 3), (968, .iconst 2), (969, .iadd), (970, .iaload), (971, .aload_n 0), (972, .iload_n 3), (973, .iconst 3), (974, .iadd), (975, .iaload), (976, .aload_n 0), (977, .iload_n 3), (978, .iconst 4), (979, .iadd), (980, .iaload), (981, .invokevirtual 99), (984, .aload_n 2), (985, .aload_n 0), (986, .iload_n 3), (987, .iconst 1), (988, .iadd), (989, .iaload), (990, .aload_n 0), (991, .iload_n 3), (992, .iconst 2), (993, .iadd), (994, .iaload), (995, .aload_n 0), (996, .iload_n 3), (997, .iconst 3), (998, .iadd), (999, .iaload), (1000, .aload_n 0), (1001, .iload_n 3), (1002, .iconst 4), (1003, .iadd), (1004, .iaload), (1005, .invokevirtual 102), (1008, .if_icmp .eq 514), (1011, .iconst 0), (1012, .ireturn), (1013, .aload_n 1), (1014, .aload_n 0), (1015, .iload_n 3), (1016, .iconst 1), (1017, .iadd), (1018, .iaload), (1019, .invokevirtual 103), (1022, .aload_n 2), (1023, .aload_n 0), (1024, .iload_n 3), (1025, .iconst 1), (1026, .iadd), (1027, .iaload), (1028, .invokevirtual 106), (1031, .if_icmp .eq 491), (1034, .iconst 0), (1035, .ireturn), (1036, .aload_n 1), (1037, .aload_n 0), (1038, .iload_n 3), (1039, .iconst 1), (1040, .iadd), (1041, .iaload), (1042, .aload_n 0), (1043, .iload_n 3), (1044, .iconst 2), (1045, .iadd), (1046, .iaload), (1047, .invokevirtual 107), (1050, .aload_n 2), (1051, .aload_n 0), (1052, .iload_n 3), (1053, .iconst 1), (1054, .iadd), (1055, .iaload), (1056, .aload_n 0), (1057, .iload_n 3), (1058, .iconst 2), (1059, .iadd), (1060, .iaload), (1061, .invokevirtual 110), (1064, .if_icmp .eq 458), (1067, .iconst 0), (1068, .ireturn), (1069, .aload_n 1), (1070, .aload_n 0), (1071, .iload_n 3), (1072, .iconst 1), (1073, .iadd), (1074, .iaload), (1075, .aload_n 0), (1076, .iload_n 3), (1077, .iconst 2), (1078, .iadd), (1079, .iaload), (1080, .invokevirtual 111), (1083, .aload_n 2), (1084, .aload_n 0), (1085, .iload_n 3), (1086, .iconst 1), (1087, .iadd), (1088, .iaload), (1089, .aload_n 0), (1090, .iload_n 3), (1091, .iconst 2), (1092, .iadd), (1093, .iaload), (1094, .invokevirtual 114), (1097, .if_icmp .eq 425), (1100, .iconst 0), (1101, .ireturn), (1102, .aload_n 1), (1103, .aload_n 0), (1104, .iload_n 3), (1105, .iconst 1), (1106, .iadd), (1107, .iaload), (1108, .aload_n 0), (1109, .iload_n 3), (1110, .iconst 2), (1111, .iadd), (1112, .iaload), (1113, .aload_n 0), (1114, .iload_n 3), (1115, .iconst 3), (1116, .iadd), (1117, .iaload), (1118, .aload_n 0), (1119, .iload_n 3), (1120, .iconst 4), (1121, .iadd), (1122, .iaload), (1123, .aload_n 0), (1124, .iload_n 3), (1125, .iconst 5), (1126, .iadd), (1127, .iaload), (1128, .aload_n 0), (1129, .iload_n 3), (1130, .bipush 6), (1132, .iadd), (1133, .iaload), (1134, .invokevirtual 115), (1137, .aload_n 2), (1138, .aload_n 0), (1139, .iload_n 3), (1140, .iconst 1), (1141, .iadd), (1142, .iaload), (1143, .aload_n 0), (1144, .iload_n 3), (1145, .iconst 2), (1146, .iadd), (1147, .iaload), (1148, .aload_n 0), (1149, .iload_n 3), (1150, .iconst 3), (1151, .iadd), (1152, .iaload), (1153, .aload_n 0), (1154, .iload_n 3), (1155, .iconst 4), (1156, .iadd), (1157, .iaload), (1158, .aload_n 0), (1159, .iload_n 3), (1160, .iconst 5), (1161, .iadd), (1162, .iaload), (1163, .aload_n 0), (1164, .iload_n 3), (1165, .bipush 6), (1167, .iadd), (1168, .iaload), (1169, .invokevirtual 119), (1172, .lcmp), (1173, .ifCond .eq 349), (1176, .iconst 0), (1177, .ireturn), (1178, .aload_n 1), (1179, .aload_n 0), (1180, .iload_n 3), (1181, .iconst 1), (1182, .iadd), (1183, .iaload), (1184, .aload_n 0), (1185, .iload_n 3), (1186, .iconst 2), (1187, .iadd), (1188, .iaload), (1189, .aload_n 0), (1190, .iload_n 3), (1191, .iconst 3), (1192, .iadd), (1193, .iaload), (1194, .invokevirtual 120), (1197, .aload_n 2), (1198, .aload_n 0), (1199, .iload_n 3), (1200, .iconst 1), (1201, .iadd), (1202, .iaload), (1203, .aload_n 0), (1204, .iload_n 3), (1205, .iconst 2), (1206, .iadd), (1207, .iaload), (1208, .aload_n 0), (1209, .iload_n 3), (1210, .iconst 3), (1211, .iadd), (1212, .iaload), (1213, .invokevirtual 123), (1216, .if_icmp .eq 306), (1219, .iconst 0), (1220, .ireturn), (1221, .aload_n 1), (1222, .aload_n 0), (1223, .iload_n 3), (1224, .iconst 1), (1225, .iadd), (1226, .iaload), (1227, .invokevirtual 124), (1230, .aload_n 2), (1231, .aload_n 0), (1232, .iload_n 3), (1233, .iconst 1), (1234, .iadd), (1235, .iaload), (1236, .invokevirtual 127), (1239, .if_icmp .eq 283), (1242, .iconst 0), (1243, .ireturn), (1244, .aload_n 1), (1245, .aload_n 0), (1246, .iload_n 3), (1247, .iconst 1), (1248, .iadd), (1249, .iaload), (1250, .aload_n 0), (1251, .iload_n 3), (1252, .iconst 2), (1253, .iadd), (1254, .iaload), (1255, .aload_n 0), (1256, .iload_n 3), (1257, .iconst 3), (1258, .iadd), (1259, .iaload), (1260, .invokevirtual 128), (1263, .aload_n 2), (1264, .aload_n 0), (1265, .iload_n 3), (1266, .iconst 1), (1267, .iadd), (1268, .iaload), (1269, .aload_n 0), (1270, .iload_n 3), (1271, .iconst 2), (1272, .iadd), (1273, .iaload), (1274, .aload_n 0), (1275, .iload_n 3), (1276, .iconst 3), (1277, .iadd), (1278, .iaload), (1279, .invokevirtual 131), (1282, .if_icmp .eq 240), (1285, .iconst 0), (1286, .ireturn), (1287, .aload_n 1), (1288, .aload_n 0), (1289, .iload_n 3), (1290, .iconst 1), (1291, .iadd), (1292, .iaload), (1293, .aload_n 0), (1294, .iload_n 3), (1295, .iconst 2), (1296, .iadd), (1297, .iaload), (1298, .aload_n 0), (1299, .iload_n 3), (1300, .iconst 3), (1301, .iadd), (1302, .iaload), (1303, .invokevirtual 132), (1306, .aload_n 2), (1307, .aload_n 0), (1308, .iload_n 3), (1309, .iconst 1), (1310, .iadd), (1311, .iaload), (1312, .aload_n 0), (1313, .iload_n 3), (1314, .iconst 2), (1315, .iadd), (1316, .iaload), (1317, .aload_n 0), (1318, .iload_n 3), (1319, .iconst 3), (1320, .iadd), (1321, .iaload), (1322, .invokevirtual 136), (1325, .lcmp), (1326, .ifCond .eq 196), (1329, .iconst 0), (1330, .ireturn), (1331, .aload_n 1), (1332, .aload_n 0), (1333, .iload_n 3), (1334, .iconst 1), (1335, .iadd), (1336, .iaload), (1337, .aload_n 0), (1338, .iload_n 3), (1339, .iconst 2), (1340, .iadd), (1341, .iaload), (1342, .aload_n 0), (1343, .iload_n 3), (1344, .iconst 3), (1345, .iadd), (1346, .iaload), (1347, .aload_n 0), (1348, .iload_n 3), (1349, .iconst 4), (1350, .iadd), (1351, .iaload), (1352, .aload_n 0), (1353, .iload_n 3), (1354, .iconst 5), (1355, .iadd), (1356, .iaload), (1357, .invokevirtual 137), (1360, .aload_n 2), (1361, .aload_n 0), (1362, .iload_n 3), (1363, .iconst 1), (1364, .iadd), (1365, .iaload), (1366, .aload_n 0), (1367, .iload_n 3), (1368, .iconst 2), (1369, .iadd), (1370, .iaload), (1371, .aload_n 0), (1372, .iload_n 3), (1373, .iconst 3), (1374, .iadd), (1375, .iaload), (1376, .aload_n 0), (1377, .iload_n 3), (1378, .iconst 4), (1379, .iadd), (1380, .iaload), (1381, .aload_n 0), (1382, .iload_n 3), (1383, .iconst 5), (1384, .iadd), (1385, .iaload), (1386, .invokevirtual 140), (1389, .if_icmp .eq 133), (1392, .iconst 0), (1393, .ireturn), (1394, .aload_n 1), (1395, .aload_n 0), (1396, .iload_n 3), (1397, .iconst 1), (1398, .iadd), (1399, .iaload), (1400, .invokevirtual 141), (1403, .aload_n 2), (1404, .aload_n 0), (1405, .iload_n 3), (1406, .iconst 1), (1407, .iadd), (1408, .iaload), (1409, .invokevirtual 144), (1412, .if_icmp .eq 110), (1415, .iconst 0), (1416, .ireturn), (1417, .aload_n 1), (1418, .aload_n 0), (1419, .iload_n 3), (1420, .iconst 1), (1421, .iadd), (1422, .iaload), (1423, .invokevirtual 145), (1426, .aload_n 2), (1427, .aload_n 0), (1428, .iload_n 3), (1429, .iconst 1), (1430, .iadd), (1431, .iaload), (1432, .invokevirtual 148), (1435, .if_icmp .eq 87), (1438, .iconst 0), (1439, .ireturn), (1440, .aload_n 1), (1441, .aload_n 0), (1442, .iload_n 3), (1443, .iconst 1), (1444, .iadd), (1445, .iaload), (1446, .aload_n 0), (1447, .iload_n 3), (1448, .iconst 2), (1449, .iadd), (1450, .iaload), (1451, .invokevirtual 149), (1454, .aload_n 2), (1455, .aload_n 0), (1456, .iload_n 3), (1457, .iconst 1), (1458, .iadd), (1459, .iaload), (1460, .aload_n 0), (1461, .iload_n 3), (1462, .iconst 2), (1463, .iadd), (1464, .iaload), (1465, .invokevirtual 152), (1468, .if_icmp .eq 54), (1471, .iconst 0), (1472, .ireturn), (1473, .aload_n 1), (1474, .invokevirtual 153), (1477, .aload_n 2), (1478, .invokevirtual 157), (1481, .if_icmp .eq 41), (1484, .iconst 0), (1485, .ireturn), (1486, .aload_n 1), (1487, .invokevirtual 158), (1490, .aload_n 2), (1491, .invokevirtual 161), (1494, .if_icmp .eq 28), (1497, .iconst 0), (1498, .ireturn), (1499, .aload_n 1), (1500, .aload_n 0), (1501, .iload_n 3), (1502, .iconst 1), (1503, .iadd), (1504, .iaload), (1505, .invokevirtual 162), (1508, .aload_n 2), (1509, .aload_n 0), (1510, .iload_n 3), (1511, .iconst 1), (1512, .iadd), (1513, .iaload), (1514, .invokevirtual 165), (1517, .if_icmp .eq 5), (1520, .iconst 0), (1521, .ireturn), (1522, .iinc 3 7), (1525, .goto (-1507)), (1528, .iconst 1), (1529, .ireturn)]
def op_L_law (fu : Nat) : Nat → Kont → XL → List Value → XW → Instr → Option XO := opK 4 (rzOf (some .boolean)) [] nl_BrookStonesLaw [] [] [(13, 5, 1, (U_X7_brook fu)), (17, 5, 1, (U_X8_brook fu)), (18, 3, 1, (U_X7_ofCell fu)), (22, 3, 1, (U_X8_ofCell fu)), (23, 3, 1, (U_X7_guard fu)), (27, 3, 1, (U_X8_guard fu)), (28, 2, 1, (U_X7_water fu)), (32, 2, 1, (U_X8_water fu)), (33, 5, 1, (U_X7_stone fu)), (36, 5, 1, (U_X8_stone fu)), (37, 3, 1, (U_X7_ofStone fu)), (40, 3, 1, (U_X8_ofStone fu)), (41, 3, 1, (U_X7_set fu)), (44, 3, 1, (U_X8_set fu)), (45, 3, 1, (U_X7_work fu)), (48, 3, 1, (U_X8_work fu)), (49, 2, 1, (U_X7_walker fu)), (52, 2, 1, (U_X8_walker fu)), (53, 2, 1, (U_X7_stride fu)), (56, 2, 1, (U_X8_stride fu)), (57, 3, 1, (U_X7_can fu)), (60, 3, 1, (U_X8_can fu)), (61, 3, 1, (U_X7_way fu)), (64, 3, 1, (U_X8_way fu)), (65, 3, 1, (U_X7_highest fu)), (68, 3, 1, (U_X8_highest fu)), (69, 3, 1, (U_X7_pass fu)), (72, 3, 1, (U_X8_pass fu)), (73, 6, 1, (U_X7_days fu)), (77, 6, 1, (U_X8_days fu)), (78, 3, 1, (U_X7_stands fu)), (81, 3, 1, (U_X8_stands fu)), (82, 3, 1, (U_X7_goes fu)), (85, 3, 1, (U_X8_goes fu)), (86, 4, 1, (U_X7_dug fu)), (90, 4, 1, (U_X8_dug fu)), (91, 3, 1, (U_X7_flood fu)), (94, 3, 1, (U_X8_flood fu)), (95, 4, 1, (U_X7_save fu)), (98, 4, 1, (U_X8_save fu)), (99, 5, 1, (U_X7_plan fu)), (102, 5, 1, (U_X8_plan fu)), (103, 2, 1, (U_X7_orders fu)), (106, 2, 1, (U_X8_orders fu)), (107, 3, 1, (U_X7_order fu)), (110, 3, 1, (U_X8_order fu)), (111, 3, 1, (U_X7_fits fu)), (114, 3, 1, (U_X8_fits fu)), (115, 7, 2, (U_X7_odds fu)), (119, 7, 2, (U_X8_odds fu)), (120, 4, 1, (U_X7_sheet fu)), (123, 4, 1, (U_X8_sheet fu)), (124, 2, 1, (U_X7_lose fu)), (127, 2, 1, (U_X8_lose fu)), (128, 4, 1, (U_X7_put fu)), (131, 4, 1, (U_X8_put fu)), (132, 4, 2, (U_X7_cell fu)), (136, 4, 2, (U_X8_cell fu)), (137, 6, 1, (U_X7_copy fu)), (140, 6, 1, (U_X8_copy fu)), (141, 2, 1, (U_X7_tell fu)), (144, 2, 1, (U_X8_tell fu)), (145, 2, 1, (U_X7_tread fu)), (148, 2, 1, (U_X8_tread fu)), (149, 3, 1, (U_X7_as fu)), (152, 3, 1, (U_X8_as fu)), (153, 1, 1, (U_X7_trace fu)), (157, 1, 1, (U_X8_trace fu)), (158, 1, 1, (U_X7_fault fu)), (161, 1, 1, (U_X8_fault fu)), (162, 2, 1, (U_X7_many fu)), (165, 2, 1, (U_X8_many fu))] [] [(9, 1, 0, (U_X7_init fu)), (12, 1, 0, (U_X8_init fu))]
def F_L_law (fu : Nat) : Nat → (Nat → Nat → Nat → Int32 → XW → Option XO) × (Nat → Nat → Nat → Int32 → XW → Option XO) × (Nat → Nat → Nat → Int32 → XW → Option XO) × (Nat → Nat → Nat → Int32 → XW → Option XO) × (Nat → Nat → Nat → Int32 → Int32 → Int32 → Nat → XW → Option XO) × (Nat → Nat → Nat → Int32 → XW → Option XO) × (Nat → Nat → Nat → Int32 → XW → Option XO) × (Nat → Nat → Nat → Int32 → XW → Option XO) × (Nat → Nat → Nat → Int32 → XW → Option XO) × (Nat → Nat → Nat → Int32 → XW → Option XO) × (Nat → Nat → Nat → Int32 → XW → Option XO) × (Nat → Nat → Nat → Int32 → XW → Option XO) × (Nat → Nat → Nat → Int32 → XW → Option XO) × (Nat → Nat → Nat → Int32 → Int32 → Int32 → Nat → XW → Option XO) × (Nat → Nat → Nat → Int32 → XW → Option XO) × (Nat → Nat → Nat → Int32 → XW → Option XO) × (Nat → Nat → Nat → Int32 → Int32 → Int32 → Nat → XW → Option XO) × (Nat → Nat → Nat → Int32 → XW → Option XO) × (Nat → Nat → Nat → Int32 → XW → Option XO) × (Nat → Nat → Nat → Int32 → XW → Option XO) × (Nat → Nat → Nat → Int32 → XW → Option XO) × (Nat → Nat → Nat → Int32 → XW → Option XO) × (Nat → Nat → Nat → Int32 → XW → Option XO) × (Nat → Nat → Nat → Int32 → XW → Option XO) × (Nat → Nat → Nat → Int32 → XW → Option XO) × (Nat → Nat → Nat → Int32 → XW → Option XO) × (Nat → Nat → Nat → Int32 → XW → Option XO) × (Nat → Nat → Nat → Int32 → XW → Option XO) × (Nat → Nat → Nat → Int32 → XW → Option XO) × (Nat → Nat → Nat → Int32 → XW → Option XO) × (Nat → Nat → Nat → Int32 → XW → Option XO) × (Nat → Nat → Nat → Int32 → XW → Option XO) × (Nat → Nat → Nat → Int32 → XW → Option XO) × (Nat → Nat → Nat → Int32 → XW → Option XO) × (Nat → Nat → Nat → Int32 → XW → Option XO) × (Nat → Nat → Nat → Int32 → XW → Option XO) × (Nat → Nat → Nat → Int32 → XW → Option XO) × (Nat → Nat → Nat → Int32 → XW → Option XO) × (Nat → Nat → Nat → Int32 → XW → Option XO) × (Nat → Nat → Nat → Int32 → XW → Option XO) × (Nat → Nat → Nat → Int32 → XW → Option XO)
  | 0 => (fun _ _ _ _ _ => none, fun _ _ _ _ _ => none, fun _ _ _ _ _ => none, fun _ _ _ _ _ => none, fun _ _ _ _ _ _ _ _ => none, fun _ _ _ _ _ => none, fun _ _ _ _ _ => none, fun _ _ _ _ _ => none, fun _ _ _ _ _ => none, fun _ _ _ _ _ => none, fun _ _ _ _ _ => none, fun _ _ _ _ _ => none, fun _ _ _ _ _ => none, fun _ _ _ _ _ _ _ _ => none, fun _ _ _ _ _ => none, fun _ _ _ _ _ => none, fun _ _ _ _ _ _ _ _ => none, fun _ _ _ _ _ => none, fun _ _ _ _ _ => none, fun _ _ _ _ _ => none, fun _ _ _ _ _ => none, fun _ _ _ _ _ => none, fun _ _ _ _ _ => none, fun _ _ _ _ _ => none, fun _ _ _ _ _ => none, fun _ _ _ _ _ => none, fun _ _ _ _ _ => none, fun _ _ _ _ _ => none, fun _ _ _ _ _ => none, fun _ _ _ _ _ => none, fun _ _ _ _ _ => none, fun _ _ _ _ _ => none, fun _ _ _ _ _ => none, fun _ _ _ _ _ => none, fun _ _ _ _ _ => none, fun _ _ _ _ _ => none, fun _ _ _ _ _ => none, fun _ _ _ _ _ => none, fun _ _ _ _ _ => none, fun _ _ _ _ _ => none, fun _ _ _ _ _ => none)
  | n + 1 => ((fun a0 a1 a2 a3 w =>
    (aL w a0).bind fun x1 =>
    (if (x1 - (7 : Int32)) < a3 then
      retZ (1 : Int32) w
    else
      (aI w a0 a3).bind fun x2 =>
      (if (x2 &&& (63 : Int32)) = (0 : Int32) then
        (F_L_law fu n).2.1 a0 a1 a2 a3 w
      else
      (if (x2 &&& (63 : Int32)) = (1 : Int32) then
        (F_L_law fu n).2.2.1 a0 a1 a2 a3 w
      else
      (if (x2 &&& (63 : Int32)) = (2 : Int32) then
        (F_L_law fu n).2.2.2.1 a0 a1 a2 a3 w
      else
      (if (x2 &&& (63 : Int32)) = (3 : Int32) then
        (F_L_law fu n).2.2.2.2.2.1 a0 a1 a2 a3 w
      else
      (if (x2 &&& (63 : Int32)) = (4 : Int32) then
        (F_L_law fu n).2.2.2.2.2.2.1 a0 a1 a2 a3 w
      else
      (if (x2 &&& (63 : Int32)) = (5 : Int32) then
        (F_L_law fu n).2.2.2.2.2.2.2.1 a0 a1 a2 a3 w
      else
      (if (x2 &&& (63 : Int32)) = (6 : Int32) then
        (F_L_law fu n).2.2.2.2.2.2.2.2.1 a0 a1 a2 a3 w
      else
      (if (x2 &&& (63 : Int32)) = (7 : Int32) then
        (F_L_law fu n).2.2.2.2.2.2.2.2.2.1 a0 a1 a2 a3 w
      else
      (if (x2 &&& (63 : Int32)) = (8 : Int32) then
        (F_L_law fu n).2.2.2.2.2.2.2.2.2.2.1 a0 a1 a2 a3 w
      else
      (if (x2 &&& (63 : Int32)) = (9 : Int32) then
        (F_L_law fu n).2.2.2.2.2.2.2.2.2.2.2.1 a0 a1 a2 a3 w
      else
      (if (x2 &&& (63 : Int32)) = (10 : Int32) then
        (F_L_law fu n).2.2.2.2.2.2.2.2.2.2.2.2.1 a0 a1 a2 a3 w
      else
      (if (x2 &&& (63 : Int32)) = (11 : Int32) then
        (F_L_law fu n).2.2.2.2.2.2.2.2.2.2.2.2.2.2.1 a0 a1 a2 a3 w
      else
      (if (x2 &&& (63 : Int32)) = (12 : Int32) then
        (F_L_law fu n).2.2.2.2.2.2.2.2.2.2.2.2.2.2.2.1 a0 a1 a2 a3 w
      else
      (if (x2 &&& (63 : Int32)) = (13 : Int32) then
        (F_L_law fu n).2.2.2.2.2.2.2.2.2.2.2.2.2.2.2.2.2.1 a0 a1 a2 a3 w
      else
      (if (x2 &&& (63 : Int32)) = (14 : Int32) then
        (F_L_law fu n).2.2.2.2.2.2.2.2.2.2.2.2.2.2.2.2.2.2.1 a0 a1 a2 a3 w
      else
      (if (x2 &&& (63 : Int32)) = (15 : Int32) then
        (F_L_law fu n).2.2.2.2.2.2.2.2.2.2.2.2.2.2.2.2.2.2.2.1 a0 a1 a2 a3 w
      else
      (if (x2 &&& (63 : Int32)) = (16 : Int32) then
        (F_L_law fu n).2.2.2.2.2.2.2.2.2.2.2.2.2.2.2.2.2.2.2.2.1 a0 a1 a2 a3 w
      else
      (if (x2 &&& (63 : Int32)) = (17 : Int32) then
        (F_L_law fu n).2.2.2.2.2.2.2.2.2.2.2.2.2.2.2.2.2.2.2.2.2.1 a0 a1 a2 a3 w
      else
      (if (x2 &&& (63 : Int32)) = (18 : Int32) then
        (F_L_law fu n).2.2.2.2.2.2.2.2.2.2.2.2.2.2.2.2.2.2.2.2.2.2.1 a0 a1 a2 a3 w
      else
      (if (x2 &&& (63 : Int32)) = (19 : Int32) then
        (F_L_law fu n).2.2.2.2.2.2.2.2.2.2.2.2.2.2.2.2.2.2.2.2.2.2.2.1 a0 a1 a2 a3 w
      else
      (if (x2 &&& (63 : Int32)) = (20 : Int32) then
        (F_L_law fu n).2.2.2.2.2.2.2.2.2.2.2.2.2.2.2.2.2.2.2.2.2.2.2.2.1 a0 a1 a2 a3 w
      else
      (if (x2 &&& (63 : Int32)) = (21 : Int32) then
        (F_L_law fu n).2.2.2.2.2.2.2.2.2.2.2.2.2.2.2.2.2.2.2.2.2.2.2.2.2.1 a0 a1 a2 a3 w
      else
      (if (x2 &&& (63 : Int32)) = (22 : Int32) then
        (F_L_law fu n).2.2.2.2.2.2.2.2.2.2.2.2.2.2.2.2.2.2.2.2.2.2.2.2.2.2.1 a0 a1 a2 a3 w
      else
      (if (x2 &&& (63 : Int32)) = (23 : Int32) then
        (F_L_law fu n).2.2.2.2.2.2.2.2.2.2.2.2.2.2.2.2.2.2.2.2.2.2.2.2.2.2.2.1 a0 a1 a2 a3 w
      else
      (if (x2 &&& (63 : Int32)) = (24 : Int32) then
        (F_L_law fu n).2.2.2.2.2.2.2.2.2.2.2.2.2.2.2.2.2.2.2.2.2.2.2.2.2.2.2.2.1 a0 a1 a2 a3 w
      else
      (if (x2 &&& (63 : Int32)) = (25 : Int32) then
        (F_L_law fu n).2.2.2.2.2.2.2.2.2.2.2.2.2.2.2.2.2.2.2.2.2.2.2.2.2.2.2.2.2.1 a0 a1 a2 a3 w
      else
      (if (x2 &&& (63 : Int32)) = (26 : Int32) then
        (F_L_law fu n).2.2.2.2.2.2.2.2.2.2.2.2.2.2.2.2.2.2.2.2.2.2.2.2.2.2.2.2.2.2.1 a0 a1 a2 a3 w
      else
      (if (x2 &&& (63 : Int32)) = (27 : Int32) then
        (F_L_law fu n).2.2.2.2.2.2.2.2.2.2.2.2.2.2.2.2.2.2.2.2.2.2.2.2.2.2.2.2.2.2.2.1 a0 a1 a2 a3 w
      else
      (if (x2 &&& (63 : Int32)) = (28 : Int32) then
        (F_L_law fu n).2.2.2.2.2.2.2.2.2.2.2.2.2.2.2.2.2.2.2.2.2.2.2.2.2.2.2.2.2.2.2.2.1 a0 a1 a2 a3 w
      else
      (if (x2 &&& (63 : Int32)) = (29 : Int32) then
        (F_L_law fu n).2.2.2.2.2.2.2.2.2.2.2.2.2.2.2.2.2.2.2.2.2.2.2.2.2.2.2.2.2.2.2.2.2.1 a0 a1 a2 a3 w
      else
      (if (x2 &&& (63 : Int32)) = (30 : Int32) then
        (F_L_law fu n).2.2.2.2.2.2.2.2.2.2.2.2.2.2.2.2.2.2.2.2.2.2.2.2.2.2.2.2.2.2.2.2.2.2.1 a0 a1 a2 a3 w
      else
      (if (x2 &&& (63 : Int32)) = (31 : Int32) then
        (F_L_law fu n).2.2.2.2.2.2.2.2.2.2.2.2.2.2.2.2.2.2.2.2.2.2.2.2.2.2.2.2.2.2.2.2.2.2.2.1 a0 a1 a2 a3 w
      else
      (if (x2 &&& (63 : Int32)) = (32 : Int32) then
        (F_L_law fu n).2.2.2.2.2.2.2.2.2.2.2.2.2.2.2.2.2.2.2.2.2.2.2.2.2.2.2.2.2.2.2.2.2.2.2.2.1 a0 a1 a2 a3 w
      else
      (if (x2 &&& (63 : Int32)) = (33 : Int32) then
        (F_L_law fu n).2.2.2.2.2.2.2.2.2.2.2.2.2.2.2.2.2.2.2.2.2.2.2.2.2.2.2.2.2.2.2.2.2.2.2.2.2.1 a0 a1 a2 a3 w
      else
      (if (x2 &&& (63 : Int32)) = (34 : Int32) then
        (F_L_law fu n).2.2.2.2.2.2.2.2.2.2.2.2.2.2.2.2.2.2.2.2.2.2.2.2.2.2.2.2.2.2.2.2.2.2.2.2.2.2.1 a0 a1 a2 a3 w
      else
      (if (x2 &&& (63 : Int32)) = (35 : Int32) then
        (F_L_law fu n).2.2.2.2.2.2.2.2.2.2.2.2.2.2.2.2.2.2.2.2.2.2.2.2.2.2.2.2.2.2.2.2.2.2.2.2.2.2.2.1 a0 a1 a2 a3 w
      else
      (F_L_law fu n).2.2.2.2.2.2.2.2.2.2.2.2.2.2.2.2.2.2.2.2.2.2.2.2.2.2.2.2.2.2.2.2.2.2.2.2.2.2.2.2 a0 a1 a2 a3 w)))))))))))))))))))))))))))))))))))))),
   (fun a0 a1 a2 a3 w =>
    (aI w a0 (a3 + (1 : Int32))).bind fun x3 =>
    (aI w a0 (a3 + (2 : Int32))).bind fun x4 =>
    (aI w a0 (a3 + (3 : Int32))).bind fun x5 =>
    (aI w a0 (a3 + (4 : Int32))).bind fun x6 =>
    cI (U_X7_brook fu [.ref a1, .int x3, .int x4, .int x5, .int x6] w) fun x8 w7 =>
    (aI w7 a0 (a3 + (1 : Int32))).bind fun x9 =>
    (aI w7 a0 (a3 + (2 : Int32))).bind fun x10 =>
    (aI w7 a0 (a3 + (3 : Int32))).bind fun x11 =>
    (aI w7 a0 (a3 + (4 : Int32))).bind fun x12 =>
    cI (U_X8_brook fu [.ref a2, .int x9, .int x10, .int x11, .int x12] w7) fun x14 w13 =>
    (if x8 = x14 then
      (F_L_law fu n).2.2.2.2.2.2.2.2.2.2.2.2.2.2.2.2.2.2.2.2.2.2.2.2.2.2.2.2.2.2.2.2.2.2.2.2.2.2.2.2 a0 a1 a2 a3 w13
    else
      retZ (0 : Int32) w13)),
   (fun a0 a1 a2 a3 w =>
    (aI w a0 (a3 + (1 : Int32))).bind fun x15 =>
    (aI w a0 (a3 + (2 : Int32))).bind fun x16 =>
    cI (U_X7_ofCell fu [.ref a1, .int x15, .int x16] w) fun x18 w17 =>
    (aI w17 a0 (a3 + (1 : Int32))).bind fun x19 =>
    (aI w17 a0 (a3 + (2 : Int32))).bind fun x20 =>
    cI (U_X8_ofCell fu [.ref a2, .int x19, .int x20] w17) fun x22 w21 =>
    (if x18 = x22 then
      (F_L_law fu n).2.2.2.2.2.2.2.2.2.2.2.2.2.2.2.2.2.2.2.2.2.2.2.2.2.2.2.2.2.2.2.2.2.2.2.2.2.2.2.2 a0 a1 a2 a3 w21
    else
      retZ (0 : Int32) w21)),
   (fun a0 a1 a2 a3 w =>
    (aI w a0 (a3 + (1 : Int32))).bind fun x23 =>
    (aI w a0 (a3 + (2 : Int32))).bind fun x24 =>
    (if x24 = 0 then
      (F_L_law fu n).2.2.2.2.1 a0 a1 a2 a3 (0 : Int32) x23 a1 w
    else
      (F_L_law fu n).2.2.2.2.1 a0 a1 a2 a3 (1 : Int32) x23 a1 w)),
   (fun a0 a1 a2 a3 s0 s1 s2 w =>
    cI (U_X7_guard fu [.ref s2, .int s1, .int s0] w) fun x26 w25 =>
    (aI w25 a0 (a3 + (1 : Int32))).bind fun x27 =>
    (aI w25 a0 (a3 + (2 : Int32))).bind fun x28 =>
    (if x28 = 0 then
      cI (U_X8_guard fu [.ref a2, .int x27, .int (0 : Int32)] w25) fun x30 w29 =>
      (if x26 = x30 then
        (F_L_law fu n).2.2.2.2.2.2.2.2.2.2.2.2.2.2.2.2.2.2.2.2.2.2.2.2.2.2.2.2.2.2.2.2.2.2.2.2.2.2.2.2 a0 a1 a2 a3 w29
      else
        retZ (0 : Int32) w29)
    else
      cI (U_X8_guard fu [.ref a2, .int x27, .int (1 : Int32)] w25) fun x32 w31 =>
      (if x26 = x32 then
        (F_L_law fu n).2.2.2.2.2.2.2.2.2.2.2.2.2.2.2.2.2.2.2.2.2.2.2.2.2.2.2.2.2.2.2.2.2.2.2.2.2.2.2.2 a0 a1 a2 a3 w31
      else
        retZ (0 : Int32) w31))),
   (fun a0 a1 a2 a3 w =>
    (aI w a0 (a3 + (1 : Int32))).bind fun x33 =>
    cI (U_X7_water fu [.ref a1, .int x33] w) fun x35 w34 =>
    (aI w34 a0 (a3 + (1 : Int32))).bind fun x36 =>
    cI (U_X8_water fu [.ref a2, .int x36] w34) fun x38 w37 =>
    (if x35 = x38 then
      (F_L_law fu n).2.2.2.2.2.2.2.2.2.2.2.2.2.2.2.2.2.2.2.2.2.2.2.2.2.2.2.2.2.2.2.2.2.2.2.2.2.2.2.2 a0 a1 a2 a3 w37
    else
      retZ (0 : Int32) w37)),
   (fun a0 a1 a2 a3 w =>
    (aI w a0 (a3 + (1 : Int32))).bind fun x39 =>
    (aI w a0 (a3 + (2 : Int32))).bind fun x40 =>
    (aI w a0 (a3 + (3 : Int32))).bind fun x41 =>
    (aI w a0 (a3 + (4 : Int32))).bind fun x42 =>
    cI (U_X7_stone fu [.ref a1, .int x39, .int x40, .int x41, .int x42] w) fun x44 w43 =>
    (aI w43 a0 (a3 + (1 : Int32))).bind fun x45 =>
    (aI w43 a0 (a3 + (2 : Int32))).bind fun x46 =>
    (aI w43 a0 (a3 + (3 : Int32))).bind fun x47 =>
    (aI w43 a0 (a3 + (4 : Int32))).bind fun x48 =>
    cI (U_X8_stone fu [.ref a2, .int x45, .int x46, .int x47, .int x48] w43) fun x50 w49 =>
    (if x44 = x50 then
      (F_L_law fu n).2.2.2.2.2.2.2.2.2.2.2.2.2.2.2.2.2.2.2.2.2.2.2.2.2.2.2.2.2.2.2.2.2.2.2.2.2.2.2.2 a0 a1 a2 a3 w49
    else
      retZ (0 : Int32) w49)),
   (fun a0 a1 a2 a3 w =>
    (aI w a0 (a3 + (1 : Int32))).bind fun x51 =>
    (aI w a0 (a3 + (2 : Int32))).bind fun x52 =>
    cI (U_X7_ofStone fu [.ref a1, .int x51, .int x52] w) fun x54 w53 =>
    (aI w53 a0 (a3 + (1 : Int32))).bind fun x55 =>
    (aI w53 a0 (a3 + (2 : Int32))).bind fun x56 =>
    cI (U_X8_ofStone fu [.ref a2, .int x55, .int x56] w53) fun x58 w57 =>
    (if x54 = x58 then
      (F_L_law fu n).2.2.2.2.2.2.2.2.2.2.2.2.2.2.2.2.2.2.2.2.2.2.2.2.2.2.2.2.2.2.2.2.2.2.2.2.2.2.2.2 a0 a1 a2 a3 w57
    else
      retZ (0 : Int32) w57)),
   (fun a0 a1 a2 a3 w =>
    (aI w a0 (a3 + (1 : Int32))).bind fun x59 =>
    (aI w a0 (a3 + (2 : Int32))).bind fun x60 =>
    cI (U_X7_set fu [.ref a1, .int x59, .int x60] w) fun x62 w61 =>
    (aI w61 a0 (a3 + (1 : Int32))).bind fun x63 =>
    (aI w61 a0 (a3 + (2 : Int32))).bind fun x64 =>
    cI (U_X8_set fu [.ref a2, .int x63, .int x64] w61) fun x66 w65 =>
    (if x62 = x66 then
      (F_L_law fu n).2.2.2.2.2.2.2.2.2.2.2.2.2.2.2.2.2.2.2.2.2.2.2.2.2.2.2.2.2.2.2.2.2.2.2.2.2.2.2.2 a0 a1 a2 a3 w65
    else
      retZ (0 : Int32) w65)),
   (fun a0 a1 a2 a3 w =>
    (aI w a0 (a3 + (1 : Int32))).bind fun x67 =>
    (aI w a0 (a3 + (2 : Int32))).bind fun x68 =>
    cI (U_X7_work fu [.ref a1, .int x67, .int x68] w) fun x70 w69 =>
    (aI w69 a0 (a3 + (1 : Int32))).bind fun x71 =>
    (aI w69 a0 (a3 + (2 : Int32))).bind fun x72 =>
    cI (U_X8_work fu [.ref a2, .int x71, .int x72] w69) fun x74 w73 =>
    (if x70 = x74 then
      (F_L_law fu n).2.2.2.2.2.2.2.2.2.2.2.2.2.2.2.2.2.2.2.2.2.2.2.2.2.2.2.2.2.2.2.2.2.2.2.2.2.2.2.2 a0 a1 a2 a3 w73
    else
      retZ (0 : Int32) w73)),
   (fun a0 a1 a2 a3 w =>
    (aI w a0 (a3 + (1 : Int32))).bind fun x75 =>
    cI (U_X7_walker fu [.ref a1, .int x75] w) fun x77 w76 =>
    (aI w76 a0 (a3 + (1 : Int32))).bind fun x78 =>
    cI (U_X8_walker fu [.ref a2, .int x78] w76) fun x80 w79 =>
    (if x77 = x80 then
      (F_L_law fu n).2.2.2.2.2.2.2.2.2.2.2.2.2.2.2.2.2.2.2.2.2.2.2.2.2.2.2.2.2.2.2.2.2.2.2.2.2.2.2.2 a0 a1 a2 a3 w79
    else
      retZ (0 : Int32) w79)),
   (fun a0 a1 a2 a3 w =>
    (aI w a0 (a3 + (1 : Int32))).bind fun x81 =>
    cI (U_X7_stride fu [.ref a1, .int x81] w) fun x83 w82 =>
    (aI w82 a0 (a3 + (1 : Int32))).bind fun x84 =>
    cI (U_X8_stride fu [.ref a2, .int x84] w82) fun x86 w85 =>
    (if x83 = x86 then
      (F_L_law fu n).2.2.2.2.2.2.2.2.2.2.2.2.2.2.2.2.2.2.2.2.2.2.2.2.2.2.2.2.2.2.2.2.2.2.2.2.2.2.2.2 a0 a1 a2 a3 w85
    else
      retZ (0 : Int32) w85)),
   (fun a0 a1 a2 a3 w =>
    (aI w a0 (a3 + (1 : Int32))).bind fun x87 =>
    (aI w a0 (a3 + (2 : Int32))).bind fun x88 =>
    (if x88 = 0 then
      (F_L_law fu n).2.2.2.2.2.2.2.2.2.2.2.2.2.1 a0 a1 a2 a3 (0 : Int32) x87 a1 w
    else
      (F_L_law fu n).2.2.2.2.2.2.2.2.2.2.2.2.2.1 a0 a1 a2 a3 (1 : Int32) x87 a1 w)),
   (fun a0 a1 a2 a3 s0 s1 s2 w =>
    cI (U_X7_can fu [.ref s2, .int s1, .int s0] w) fun x90 w89 =>
    (aI w89 a0 (a3 + (1 : Int32))).bind fun x91 =>
    (aI w89 a0 (a3 + (2 : Int32))).bind fun x92 =>
    (if x92 = 0 then
      cI (U_X8_can fu [.ref a2, .int x91, .int (0 : Int32)] w89) fun x94 w93 =>
      (if x90 = x94 then
        (F_L_law fu n).2.2.2.2.2.2.2.2.2.2.2.2.2.2.2.2.2.2.2.2.2.2.2.2.2.2.2.2.2.2.2.2.2.2.2.2.2.2.2.2 a0 a1 a2 a3 w93
      else
        retZ (0 : Int32) w93)
    else
      cI (U_X8_can fu [.ref a2, .int x91, .int (1 : Int32)] w89) fun x96 w95 =>
      (if x90 = x96 then
        (F_L_law fu n).2.2.2.2.2.2.2.2.2.2.2.2.2.2.2.2.2.2.2.2.2.2.2.2.2.2.2.2.2.2.2.2.2.2.2.2.2.2.2.2 a0 a1 a2 a3 w95
      else
        retZ (0 : Int32) w95))),
   (fun a0 a1 a2 a3 w =>
    (aI w a0 (a3 + (1 : Int32))).bind fun x97 =>
    (aI w a0 (a3 + (2 : Int32))).bind fun x98 =>
    cI (U_X7_way fu [.ref a1, .int x97, .int x98] w) fun x100 w99 =>
    (aI w99 a0 (a3 + (1 : Int32))).bind fun x101 =>
    (aI w99 a0 (a3 + (2 : Int32))).bind fun x102 =>
    cI (U_X8_way fu [.ref a2, .int x101, .int x102] w99) fun x104 w103 =>
    (if x100 = x104 then
      (F_L_law fu n).2.2.2.2.2.2.2.2.2.2.2.2.2.2.2.2.2.2.2.2.2.2.2.2.2.2.2.2.2.2.2.2.2.2.2.2.2.2.2.2 a0 a1 a2 a3 w103
    else
      retZ (0 : Int32) w103)),
   (fun a0 a1 a2 a3 w =>
    (aI w a0 (a3 + (1 : Int32))).bind fun x105 =>
    (aI w a0 (a3 + (2 : Int32))).bind fun x106 =>
    (if x106 = 0 then
      (F_L_law fu n).2.2.2.2.2.2.2.2.2.2.2.2.2.2.2.2.1 a0 a1 a2 a3 (0 : Int32) x105 a1 w
    else
      (F_L_law fu n).2.2.2.2.2.2.2.2.2.2.2.2.2.2.2.2.1 a0 a1 a2 a3 (1 : Int32) x105 a1 w)),
   (fun a0 a1 a2 a3 s0 s1 s2 w =>
    cI (U_X7_highest fu [.ref s2, .int s1, .int s0] w) fun x108 w107 =>
    (aI w107 a0 (a3 + (1 : Int32))).bind fun x109 =>
    (aI w107 a0 (a3 + (2 : Int32))).bind fun x110 =>
    (if x110 = 0 then
      cI (U_X8_highest fu [.ref a2, .int x109, .int (0 : Int32)] w107) fun x112 w111 =>
      (if x108 = x112 then
        (F_L_law fu n).2.2.2.2.2.2.2.2.2.2.2.2.2.2.2.2.2.2.2.2.2.2.2.2.2.2.2.2.2.2.2.2.2.2.2.2.2.2.2.2 a0 a1 a2 a3 w111
      else
        retZ (0 : Int32) w111)
    else
      cI (U_X8_highest fu [.ref a2, .int x109, .int (1 : Int32)] w107) fun x114 w113 =>
      (if x108 = x114 then
        (F_L_law fu n).2.2.2.2.2.2.2.2.2.2.2.2.2.2.2.2.2.2.2.2.2.2.2.2.2.2.2.2.2.2.2.2.2.2.2.2.2.2.2.2 a0 a1 a2 a3 w113
      else
        retZ (0 : Int32) w113))),
   (fun a0 a1 a2 a3 w =>
    (aI w a0 (a3 + (1 : Int32))).bind fun x115 =>
    (aI w a0 (a3 + (2 : Int32))).bind fun x116 =>
    cI (U_X7_pass fu [.ref a1, .int x115, .int x116] w) fun x118 w117 =>
    (aI w117 a0 (a3 + (1 : Int32))).bind fun x119 =>
    (aI w117 a0 (a3 + (2 : Int32))).bind fun x120 =>
    cI (U_X8_pass fu [.ref a2, .int x119, .int x120] w117) fun x122 w121 =>
    (if x118 = x122 then
      (F_L_law fu n).2.2.2.2.2.2.2.2.2.2.2.2.2.2.2.2.2.2.2.2.2.2.2.2.2.2.2.2.2.2.2.2.2.2.2.2.2.2.2.2 a0 a1 a2 a3 w121
    else
      retZ (0 : Int32) w121)),
   (fun a0 a1 a2 a3 w =>
    (aI w a0 (a3 + (1 : Int32))).bind fun x123 =>
    (aI w a0 (a3 + (2 : Int32))).bind fun x124 =>
    (aI w a0 (a3 + (3 : Int32))).bind fun x125 =>
    (aI w a0 (a3 + (4 : Int32))).bind fun x126 =>
    (aI w a0 (a3 + (5 : Int32))).bind fun x127 =>
    cI (U_X7_days fu [.ref a1, .int x123, .int x124, .int x125, .int x126, .int x127] w) fun x129 w128 =>
    (aI w128 a0 (a3 + (1 : Int32))).bind fun x130 =>
    (aI w128 a0 (a3 + (2 : Int32))).bind fun x131 =>
    (aI w128 a0 (a3 + (3 : Int32))).bind fun x132 =>
    (aI w128 a0 (a3 + (4 : Int32))).bind fun x133 =>
    (aI w128 a0 (a3 + (5 : Int32))).bind fun x134 =>
    cI (U_X8_days fu [.ref a2, .int x130, .int x131, .int x132, .int x133, .int x134] w128) fun x136 w135 =>
    (if x129 = x136 then
      (F_L_law fu n).2.2.2.2.2.2.2.2.2.2.2.2.2.2.2.2.2.2.2.2.2.2.2.2.2.2.2.2.2.2.2.2.2.2.2.2.2.2.2.2 a0 a1 a2 a3 w135
    else
      retZ (0 : Int32) w135)),
   (fun a0 a1 a2 a3 w =>
    (aI w a0 (a3 + (1 : Int32))).bind fun x137 =>
    (aI w a0 (a3 + (2 : Int32))).bind fun x138 =>
    cI (U_X7_stands fu [.ref a1, .int x137, .int x138] w) fun x140 w139 =>
    (aI w139 a0 (a3 + (1 : Int32))).bind fun x141 =>
    (aI w139 a0 (a3 + (2 : Int32))).bind fun x142 =>
    cI (U_X8_stands fu [.ref a2, .int x141, .int x142] w139) fun x144 w143 =>
    (if x140 = x144 then
      (F_L_law fu n).2.2.2.2.2.2.2.2.2.2.2.2.2.2.2.2.2.2.2.2.2.2.2.2.2.2.2.2.2.2.2.2.2.2.2.2.2.2.2.2 a0 a1 a2 a3 w143
    else
      retZ (0 : Int32) w143)),
   (fun a0 a1 a2 a3 w =>
    (aI w a0 (a3 + (1 : Int32))).bind fun x145 =>
    (aI w a0 (a3 + (2 : Int32))).bind fun x146 =>
    cI (U_X7_goes fu [.ref a1, .int x145, .int x146] w) fun x148 w147 =>
    (aI w147 a0 (a3 + (1 : Int32))).bind fun x149 =>
    (aI w147 a0 (a3 + (2 : Int32))).bind fun x150 =>
    cI (U_X8_goes fu [.ref a2, .int x149, .int x150] w147) fun x152 w151 =>
    (if x148 = x152 then
      (F_L_law fu n).2.2.2.2.2.2.2.2.2.2.2.2.2.2.2.2.2.2.2.2.2.2.2.2.2.2.2.2.2.2.2.2.2.2.2.2.2.2.2.2 a0 a1 a2 a3 w151
    else
      retZ (0 : Int32) w151)),
   (fun a0 a1 a2 a3 w =>
    (aI w a0 (a3 + (1 : Int32))).bind fun x153 =>
    (aI w a0 (a3 + (2 : Int32))).bind fun x154 =>
    (aI w a0 (a3 + (3 : Int32))).bind fun x155 =>
    cI (U_X7_dug fu [.ref a1, .int x153, .int x154, .int x155] w) fun x157 w156 =>
    (aI w156 a0 (a3 + (1 : Int32))).bind fun x158 =>
    (aI w156 a0 (a3 + (2 : Int32))).bind fun x159 =>
    (aI w156 a0 (a3 + (3 : Int32))).bind fun x160 =>
    cI (U_X8_dug fu [.ref a2, .int x158, .int x159, .int x160] w156) fun x162 w161 =>
    (if x157 = x162 then
      (F_L_law fu n).2.2.2.2.2.2.2.2.2.2.2.2.2.2.2.2.2.2.2.2.2.2.2.2.2.2.2.2.2.2.2.2.2.2.2.2.2.2.2.2 a0 a1 a2 a3 w161
    else
      retZ (0 : Int32) w161)),
   (fun a0 a1 a2 a3 w =>
    (aI w a0 (a3 + (1 : Int32))).bind fun x163 =>
    (aI w a0 (a3 + (2 : Int32))).bind fun x164 =>
    cI (U_X7_flood fu [.ref a1, .int x163, .int x164] w) fun x166 w165 =>
    (aI w165 a0 (a3 + (1 : Int32))).bind fun x167 =>
    (aI w165 a0 (a3 + (2 : Int32))).bind fun x168 =>
    cI (U_X8_flood fu [.ref a2, .int x167, .int x168] w165) fun x170 w169 =>
    (if x166 = x170 then
      (F_L_law fu n).2.2.2.2.2.2.2.2.2.2.2.2.2.2.2.2.2.2.2.2.2.2.2.2.2.2.2.2.2.2.2.2.2.2.2.2.2.2.2.2 a0 a1 a2 a3 w169
    else
      retZ (0 : Int32) w169)),
   (fun a0 a1 a2 a3 w =>
    (aI w a0 (a3 + (1 : Int32))).bind fun x171 =>
    (aI w a0 (a3 + (2 : Int32))).bind fun x172 =>
    (aI w a0 (a3 + (3 : Int32))).bind fun x173 =>
    cI (U_X7_save fu [.ref a1, .int x171, .int x172, .int x173] w) fun x175 w174 =>
    (aI w174 a0 (a3 + (1 : Int32))).bind fun x176 =>
    (aI w174 a0 (a3 + (2 : Int32))).bind fun x177 =>
    (aI w174 a0 (a3 + (3 : Int32))).bind fun x178 =>
    cI (U_X8_save fu [.ref a2, .int x176, .int x177, .int x178] w174) fun x180 w179 =>
    (if x175 = x180 then
      (F_L_law fu n).2.2.2.2.2.2.2.2.2.2.2.2.2.2.2.2.2.2.2.2.2.2.2.2.2.2.2.2.2.2.2.2.2.2.2.2.2.2.2.2 a0 a1 a2 a3 w179
    else
      retZ (0 : Int32) w179)),
   (fun a0 a1 a2 a3 w =>
    (aI w a0 (a3 + (1 : Int32))).bind fun x181 =>
    (aI w a0 (a3 + (2 : Int32))).bind fun x182 =>
    (aI w a0 (a3 + (3 : Int32))).bind fun x183 =>
    (aI w a0 (a3 + (4 : Int32))).bind fun x184 =>
    cI (U_X7_plan fu [.ref a1, .int x181, .int x182, .int x183, .int x184] w) fun x186 w185 =>
    (aI w185 a0 (a3 + (1 : Int32))).bind fun x187 =>
    (aI w185 a0 (a3 + (2 : Int32))).bind fun x188 =>
    (aI w185 a0 (a3 + (3 : Int32))).bind fun x189 =>
    (aI w185 a0 (a3 + (4 : Int32))).bind fun x190 =>
    cI (U_X8_plan fu [.ref a2, .int x187, .int x188, .int x189, .int x190] w185) fun x192 w191 =>
    (if x186 = x192 then
      (F_L_law fu n).2.2.2.2.2.2.2.2.2.2.2.2.2.2.2.2.2.2.2.2.2.2.2.2.2.2.2.2.2.2.2.2.2.2.2.2.2.2.2.2 a0 a1 a2 a3 w191
    else
      retZ (0 : Int32) w191)),
   (fun a0 a1 a2 a3 w =>
    (aI w a0 (a3 + (1 : Int32))).bind fun x193 =>
    cI (U_X7_orders fu [.ref a1, .int x193] w) fun x195 w194 =>
    (aI w194 a0 (a3 + (1 : Int32))).bind fun x196 =>
    cI (U_X8_orders fu [.ref a2, .int x196] w194) fun x198 w197 =>
    (if x195 = x198 then
      (F_L_law fu n).2.2.2.2.2.2.2.2.2.2.2.2.2.2.2.2.2.2.2.2.2.2.2.2.2.2.2.2.2.2.2.2.2.2.2.2.2.2.2.2 a0 a1 a2 a3 w197
    else
      retZ (0 : Int32) w197)),
   (fun a0 a1 a2 a3 w =>
    (aI w a0 (a3 + (1 : Int32))).bind fun x199 =>
    (aI w a0 (a3 + (2 : Int32))).bind fun x200 =>
    cI (U_X7_order fu [.ref a1, .int x199, .int x200] w) fun x202 w201 =>
    (aI w201 a0 (a3 + (1 : Int32))).bind fun x203 =>
    (aI w201 a0 (a3 + (2 : Int32))).bind fun x204 =>
    cI (U_X8_order fu [.ref a2, .int x203, .int x204] w201) fun x206 w205 =>
    (if x202 = x206 then
      (F_L_law fu n).2.2.2.2.2.2.2.2.2.2.2.2.2.2.2.2.2.2.2.2.2.2.2.2.2.2.2.2.2.2.2.2.2.2.2.2.2.2.2.2 a0 a1 a2 a3 w205
    else
      retZ (0 : Int32) w205)),
   (fun a0 a1 a2 a3 w =>
    (aI w a0 (a3 + (1 : Int32))).bind fun x207 =>
    (aI w a0 (a3 + (2 : Int32))).bind fun x208 =>
    cI (U_X7_fits fu [.ref a1, .int x207, .int x208] w) fun x210 w209 =>
    (aI w209 a0 (a3 + (1 : Int32))).bind fun x211 =>
    (aI w209 a0 (a3 + (2 : Int32))).bind fun x212 =>
    cI (U_X8_fits fu [.ref a2, .int x211, .int x212] w209) fun x214 w213 =>
    (if x210 = x214 then
      (F_L_law fu n).2.2.2.2.2.2.2.2.2.2.2.2.2.2.2.2.2.2.2.2.2.2.2.2.2.2.2.2.2.2.2.2.2.2.2.2.2.2.2.2 a0 a1 a2 a3 w213
    else
      retZ (0 : Int32) w213)),
   (fun a0 a1 a2 a3 w =>
    (aI w a0 (a3 + (1 : Int32))).bind fun x215 =>
    (aI w a0 (a3 + (2 : Int32))).bind fun x216 =>
    (aI w a0 (a3 + (3 : Int32))).bind fun x217 =>
    (aI w a0 (a3 + (4 : Int32))).bind fun x218 =>
    (aI w a0 (a3 + (5 : Int32))).bind fun x219 =>
    (aI w a0 (a3 + (6 : Int32))).bind fun x220 =>
    cL (U_X7_odds fu [.ref a1, .int x215, .int x216, .int x217, .int x218, .int x219, .int x220] w) fun x222 w221 =>
    (aI w221 a0 (a3 + (1 : Int32))).bind fun x223 =>
    (aI w221 a0 (a3 + (2 : Int32))).bind fun x224 =>
    (aI w221 a0 (a3 + (3 : Int32))).bind fun x225 =>
    (aI w221 a0 (a3 + (4 : Int32))).bind fun x226 =>
    (aI w221 a0 (a3 + (5 : Int32))).bind fun x227 =>
    (aI w221 a0 (a3 + (6 : Int32))).bind fun x228 =>
    cL (U_X8_odds fu [.ref a2, .int x223, .int x224, .int x225, .int x226, .int x227, .int x228] w221) fun x230 w229 =>
    (if (lg_cmp x222 x230) = 0 then
      (F_L_law fu n).2.2.2.2.2.2.2.2.2.2.2.2.2.2.2.2.2.2.2.2.2.2.2.2.2.2.2.2.2.2.2.2.2.2.2.2.2.2.2.2 a0 a1 a2 a3 w229
    else
      retZ (0 : Int32) w229)),
   (fun a0 a1 a2 a3 w =>
    (aI w a0 (a3 + (1 : Int32))).bind fun x231 =>
    (aI w a0 (a3 + (2 : Int32))).bind fun x232 =>
    (aI w a0 (a3 + (3 : Int32))).bind fun x233 =>
    cI (U_X7_sheet fu [.ref a1, .int x231, .int x232, .int x233] w) fun x235 w234 =>
    (aI w234 a0 (a3 + (1 : Int32))).bind fun x236 =>
    (aI w234 a0 (a3 + (2 : Int32))).bind fun x237 =>
    (aI w234 a0 (a3 + (3 : Int32))).bind fun x238 =>
    cI (U_X8_sheet fu [.ref a2, .int x236, .int x237, .int x238] w234) fun x240 w239 =>
    (if x235 = x240 then
      (F_L_law fu n).2.2.2.2.2.2.2.2.2.2.2.2.2.2.2.2.2.2.2.2.2.2.2.2.2.2.2.2.2.2.2.2.2.2.2.2.2.2.2.2 a0 a1 a2 a3 w239
    else
      retZ (0 : Int32) w239)),
   (fun a0 a1 a2 a3 w =>
    (aI w a0 (a3 + (1 : Int32))).bind fun x241 =>
    cI (U_X7_lose fu [.ref a1, .int x241] w) fun x243 w242 =>
    (aI w242 a0 (a3 + (1 : Int32))).bind fun x244 =>
    cI (U_X8_lose fu [.ref a2, .int x244] w242) fun x246 w245 =>
    (if x243 = x246 then
      (F_L_law fu n).2.2.2.2.2.2.2.2.2.2.2.2.2.2.2.2.2.2.2.2.2.2.2.2.2.2.2.2.2.2.2.2.2.2.2.2.2.2.2.2 a0 a1 a2 a3 w245
    else
      retZ (0 : Int32) w245)),
   (fun a0 a1 a2 a3 w =>
    (aI w a0 (a3 + (1 : Int32))).bind fun x247 =>
    (aI w a0 (a3 + (2 : Int32))).bind fun x248 =>
    (aI w a0 (a3 + (3 : Int32))).bind fun x249 =>
    cI (U_X7_put fu [.ref a1, .int x247, .int x248, .int x249] w) fun x251 w250 =>
    (aI w250 a0 (a3 + (1 : Int32))).bind fun x252 =>
    (aI w250 a0 (a3 + (2 : Int32))).bind fun x253 =>
    (aI w250 a0 (a3 + (3 : Int32))).bind fun x254 =>
    cI (U_X8_put fu [.ref a2, .int x252, .int x253, .int x254] w250) fun x256 w255 =>
    (if x251 = x256 then
      (F_L_law fu n).2.2.2.2.2.2.2.2.2.2.2.2.2.2.2.2.2.2.2.2.2.2.2.2.2.2.2.2.2.2.2.2.2.2.2.2.2.2.2.2 a0 a1 a2 a3 w255
    else
      retZ (0 : Int32) w255)),
   (fun a0 a1 a2 a3 w =>
    (aI w a0 (a3 + (1 : Int32))).bind fun x257 =>
    (aI w a0 (a3 + (2 : Int32))).bind fun x258 =>
    (aI w a0 (a3 + (3 : Int32))).bind fun x259 =>
    cL (U_X7_cell fu [.ref a1, .int x257, .int x258, .int x259] w) fun x261 w260 =>
    (aI w260 a0 (a3 + (1 : Int32))).bind fun x262 =>
    (aI w260 a0 (a3 + (2 : Int32))).bind fun x263 =>
    (aI w260 a0 (a3 + (3 : Int32))).bind fun x264 =>
    cL (U_X8_cell fu [.ref a2, .int x262, .int x263, .int x264] w260) fun x266 w265 =>
    (if (lg_cmp x261 x266) = 0 then
      (F_L_law fu n).2.2.2.2.2.2.2.2.2.2.2.2.2.2.2.2.2.2.2.2.2.2.2.2.2.2.2.2.2.2.2.2.2.2.2.2.2.2.2.2 a0 a1 a2 a3 w265
    else
      retZ (0 : Int32) w265)),
   (fun a0 a1 a2 a3 w =>
    (aI w a0 (a3 + (1 : Int32))).bind fun x267 =>
    (aI w a0 (a3 + (2 : Int32))).bind fun x268 =>
    (aI w a0 (a3 + (3 : Int32))).bind fun x269 =>
    (aI w a0 (a3 + (4 : Int32))).bind fun x270 =>
    (aI w a0 (a3 + (5 : Int32))).bind fun x271 =>
    cI (U_X7_copy fu [.ref a1, .int x267, .int x268, .int x269, .int x270, .int x271] w) fun x273 w272 =>
    (aI w272 a0 (a3 + (1 : Int32))).bind fun x274 =>
    (aI w272 a0 (a3 + (2 : Int32))).bind fun x275 =>
    (aI w272 a0 (a3 + (3 : Int32))).bind fun x276 =>
    (aI w272 a0 (a3 + (4 : Int32))).bind fun x277 =>
    (aI w272 a0 (a3 + (5 : Int32))).bind fun x278 =>
    cI (U_X8_copy fu [.ref a2, .int x274, .int x275, .int x276, .int x277, .int x278] w272) fun x280 w279 =>
    (if x273 = x280 then
      (F_L_law fu n).2.2.2.2.2.2.2.2.2.2.2.2.2.2.2.2.2.2.2.2.2.2.2.2.2.2.2.2.2.2.2.2.2.2.2.2.2.2.2.2 a0 a1 a2 a3 w279
    else
      retZ (0 : Int32) w279)),
   (fun a0 a1 a2 a3 w =>
    (aI w a0 (a3 + (1 : Int32))).bind fun x281 =>
    cI (U_X7_tell fu [.ref a1, .int x281] w) fun x283 w282 =>
    (aI w282 a0 (a3 + (1 : Int32))).bind fun x284 =>
    cI (U_X8_tell fu [.ref a2, .int x284] w282) fun x286 w285 =>
    (if x283 = x286 then
      (F_L_law fu n).2.2.2.2.2.2.2.2.2.2.2.2.2.2.2.2.2.2.2.2.2.2.2.2.2.2.2.2.2.2.2.2.2.2.2.2.2.2.2.2 a0 a1 a2 a3 w285
    else
      retZ (0 : Int32) w285)),
   (fun a0 a1 a2 a3 w =>
    (aI w a0 (a3 + (1 : Int32))).bind fun x287 =>
    cI (U_X7_tread fu [.ref a1, .int x287] w) fun x289 w288 =>
    (aI w288 a0 (a3 + (1 : Int32))).bind fun x290 =>
    cI (U_X8_tread fu [.ref a2, .int x290] w288) fun x292 w291 =>
    (if x289 = x292 then
      (F_L_law fu n).2.2.2.2.2.2.2.2.2.2.2.2.2.2.2.2.2.2.2.2.2.2.2.2.2.2.2.2.2.2.2.2.2.2.2.2.2.2.2.2 a0 a1 a2 a3 w291
    else
      retZ (0 : Int32) w291)),
   (fun a0 a1 a2 a3 w =>
    (aI w a0 (a3 + (1 : Int32))).bind fun x293 =>
    (aI w a0 (a3 + (2 : Int32))).bind fun x294 =>
    cI (U_X7_as fu [.ref a1, .int x293, .int x294] w) fun x296 w295 =>
    (aI w295 a0 (a3 + (1 : Int32))).bind fun x297 =>
    (aI w295 a0 (a3 + (2 : Int32))).bind fun x298 =>
    cI (U_X8_as fu [.ref a2, .int x297, .int x298] w295) fun x300 w299 =>
    (if x296 = x300 then
      (F_L_law fu n).2.2.2.2.2.2.2.2.2.2.2.2.2.2.2.2.2.2.2.2.2.2.2.2.2.2.2.2.2.2.2.2.2.2.2.2.2.2.2.2 a0 a1 a2 a3 w299
    else
      retZ (0 : Int32) w299)),
   (fun a0 a1 a2 a3 w =>
    cI (U_X7_trace fu [.ref a1] w) fun x302 w301 =>
    cI (U_X8_trace fu [.ref a2] w301) fun x304 w303 =>
    (if x302 = x304 then
      (F_L_law fu n).2.2.2.2.2.2.2.2.2.2.2.2.2.2.2.2.2.2.2.2.2.2.2.2.2.2.2.2.2.2.2.2.2.2.2.2.2.2.2.2 a0 a1 a2 a3 w303
    else
      retZ (0 : Int32) w303)),
   (fun a0 a1 a2 a3 w =>
    cI (U_X7_fault fu [.ref a1] w) fun x306 w305 =>
    cI (U_X8_fault fu [.ref a2] w305) fun x308 w307 =>
    (if x306 = x308 then
      (F_L_law fu n).2.2.2.2.2.2.2.2.2.2.2.2.2.2.2.2.2.2.2.2.2.2.2.2.2.2.2.2.2.2.2.2.2.2.2.2.2.2.2.2 a0 a1 a2 a3 w307
    else
      retZ (0 : Int32) w307)),
   (fun a0 a1 a2 a3 w =>
    (aI w a0 (a3 + (1 : Int32))).bind fun x309 =>
    cI (U_X7_many fu [.ref a1, .int x309] w) fun x311 w310 =>
    (aI w310 a0 (a3 + (1 : Int32))).bind fun x312 =>
    cI (U_X8_many fu [.ref a2, .int x312] w310) fun x314 w313 =>
    (if x311 = x314 then
      (F_L_law fu n).2.2.2.2.2.2.2.2.2.2.2.2.2.2.2.2.2.2.2.2.2.2.2.2.2.2.2.2.2.2.2.2.2.2.2.2.2.2.2.2 a0 a1 a2 a3 w313
    else
      retZ (0 : Int32) w313)),
   (fun a0 a1 a2 a3 w =>
    (F_L_law fu n).1 a0 a1 a2 (a3 + (7 : Int32)) w))
def M_L_law (fu : Nat) (a0 : Nat) (w : XW) : Option XO :=
  (if 0 < List.length w then
  cV (U_X7_init fu [.ref (List.length w)] (w ++ [.inl (6, [.null, .null, .null, .null, .null, .null, .int 0, .int 0])])) fun w315 =>
  (if 0 < List.length w315 then
  cV (U_X8_init fu [.ref (List.length w315)] (w315 ++ [.inl (7, [.int 0, .int 0, .null, .null, .null, .int 0, .int 0, .int 0, .null, .null, .null, .null, .int 0, .int 0, .int 0, .null, .null, .int 0, .null, .null, .null, .null, .null, .int 0, .null, .null, .int 0, .null, .null, .null, .null, .int 0, .null, .null, .int 0, .int 0, .null])])) fun w316 =>
  (F_L_law fu fu).1 a0 (List.length w) (List.length w315) (0 : Int32) w316
  else none)
  else none)
def U_L_law (fu : Nat) : Orc := fun as w => match as with
  | [.ref a0] => M_L_law fu a0 w
  | _ => none
def K_L_law (fu : Nat) (n : Nat) : Kont := fun pc ls st w => bif pc == 18 then ((xr ls 0).bind fun a0 => (xr ls 1).bind fun a1 => (xr ls 2).bind fun a2 => (xi ls 3).bind fun a3 => skN st ((F_L_law fu n).1 a0 a1 a2 a3 w)) else bif pc == 192 then ((xr ls 0).bind fun a0 => (xr ls 1).bind fun a1 => (xr ls 2).bind fun a2 => (xi ls 3).bind fun a3 => skN st ((F_L_law fu n).2.1 a0 a1 a2 a3 w)) else bif pc == 245 then ((xr ls 0).bind fun a0 => (xr ls 1).bind fun a1 => (xr ls 2).bind fun a2 => (xi ls 3).bind fun a3 => skN st ((F_L_law fu n).2.2.1 a0 a1 a2 a3 w)) else bif pc == 278 then ((xr ls 0).bind fun a0 => (xr ls 1).bind fun a1 => (xr ls 2).bind fun a2 => (xi ls 3).bind fun a3 => skN st ((F_L_law fu n).2.2.2.1 a0 a1 a2 a3 w)) else bif pc == 297 then ((xr ls 0).bind fun a0 => (xr ls 1).bind fun a1 => (xr ls 2).bind fun a2 => (xi ls 3).bind fun a3 => skI st fun s0 st => skI st fun s1 st => skR st fun s2 st => skN st ((F_L_law fu n).2.2.2.2.1 a0 a1 a2 a3 s0 s1 s2 w)) else bif pc == 327 then ((xr ls 0).bind fun a0 => (xr ls 1).bind fun a1 => (xr ls 2).bind fun a2 => (xi ls 3).bind fun a3 => skN st ((F_L_law fu n).2.2.2.2.2.1 a0 a1 a2 a3 w)) else bif pc == 350 then ((xr ls 0).bind fun a0 => (xr ls 1).bind fun a1 => (xr ls 2).bind fun a2 => (xi ls 3).bind fun a3 => skN st ((F_L_law fu n).2.2.2.2.2.2.1 a0 a1 a2 a3 w)) else bif pc == 403 then ((xr ls 0).bind fun a0 => (xr ls 1).bind fun a1 => (xr ls 2).bind fun a2 => (xi ls 3).bind fun a3 => skN st ((F_L_law fu n).2.2.2.2.2.2.2.1 a0 a1 a2 a3 w)) else bif pc == 436 then ((xr ls 0).bind fun a0 => (xr ls 1).bind fun a1 => (xr ls 2).bind fun a2 => (xi ls 3).bind fun a3 => skN st ((F_L_law fu n).2.2.2.2.2.2.2.2.1 a0 a1 a2 a3 w)) else bif pc == 469 then ((xr ls 0).bind fun a0 => (xr ls 1).bind fun a1 => (xr ls 2).bind fun a2 => (xi ls 3).bind fun a3 => skN st ((F_L_law fu n).2.2.2.2.2.2.2.2.2.1 a0 a1 a2 a3 w)) else bif pc == 502 then ((xr ls 0).bind fun a0 => (xr ls 1).bind fun a1 => (xr ls 2).bind fun a2 => (xi ls 3).bind fun a3 => skN st ((F_L_law fu n).2.2.2.2.2.2.2.2.2.2.1 a0 a1 a2 a3 w)) else bif pc == 525 then ((xr ls 0).bind fun a0 => (xr ls 1).bind fun a1 => (xr ls 2).bind fun a2 => (xi ls 3).bind fun a3 => skN st ((F_L_law fu n).2.2.2.2.2.2.2.2.2.2.2.1 a0 a1 a2 a3 w)) else bif pc == 548 then ((xr ls 0).bind fun a0 => (xr ls 1).bind fun a1 => (xr ls 2).bind fun a2 => (xi ls 3).bind fun a3 => skN st ((F_L_law fu n).2.2.2.2.2.2.2.2.2.2.2.2.1 a0 a1 a2 a3 w)) else bif pc == 567 then ((xr ls 0).bind fun a0 => (xr ls 1).bind fun a1 => (xr ls 2).bind fun a2 => (xi ls 3).bind fun a3 => skI st fun s0 st => skI st fun s1 st => skR st fun s2 st => skN st ((F_L_law fu n).2.2.2.2.2.2.2.2.2.2.2.2.2.1 a0 a1 a2 a3 s0 s1 s2 w)) else bif pc == 597 then ((xr ls 0).bind fun a0 => (xr ls 1).bind fun a1 => (xr ls 2).bind fun a2 => (xi ls 3).bind fun a3 => skN st ((F_L_law fu n).2.2.2.2.2.2.2.2.2.2.2.2.2.2.1 a0 a1 a2 a3 w)) else bif pc == 630 then ((xr ls 0).bind fun a0 => (xr ls 1).bind fun a1 => (xr ls 2).bind fun a2 => (xi ls 3).bind fun a3 => skN st ((F_L_law fu n).2.2.2.2.2.2.2.2.2.2.2.2.2.2.2.1 a0 a1 a2 a3 w)) else bif pc == 649 then ((xr ls 0).bind fun a0 => (xr ls 1).bind fun a1 => (xr ls 2).bind fun a2 => (xi ls 3).bind fun a3 => skI st fun s0 st => skI st fun s1 st => skR st fun s2 st => skN st ((F_L_law fu n).2.2.2.2.2.2.2.2.2.2.2.2.2.2.2.2.1 a0 a1 a2 a3 s0 s1 s2 w)) else bif pc == 679 then ((xr ls 0).bind fun a0 => (xr ls 1).bind fun a1 => (xr ls 2).bind fun a2 => (xi ls 3).bind fun a3 => skN st ((F_L_law fu n).2.2.2.2.2.2.2.2.2.2.2.2.2.2.2.2.2.1 a0 a1 a2 a3 w)) else bif pc == 712 then ((xr ls 0).bind fun a0 => (xr ls 1).bind fun a1 => (xr ls 2).bind fun a2 => (xi ls 3).bind fun a3 => skN st ((F_L_law fu n).2.2.2.2.2.2.2.2.2.2.2.2.2.2.2.2.2.2.1 a0 a1 a2 a3 w)) else bif pc == 775 then ((xr ls 0).bind fun a0 => (xr ls 1).bind fun a1 => (xr ls 2).bind fun a2 => (xi ls 3).bind fun a3 => skN st ((F_L_law fu n).2.2.2.2.2.2.2.2.2.2.2.2.2.2.2.2.2.2.2.1 a0 a1 a2 a3 w)) else bif pc == 808 then ((xr ls 0).bind fun a0 => (xr ls 1).bind fun a1 => (xr ls 2).bind fun a2 => (xi ls 3).bind fun a3 => skN st ((F_L_law fu n).2.2.2.2.2.2.2.2.2.2.2.2.2.2.2.2.2.2.2.2.1 a0 a1 a2 a3 w)) else bif pc == 841 then ((xr ls 0).bind fun a0 => (xr ls 1).bind fun a1 => (xr ls 2).bind fun a2 => (xi ls 3).bind fun a3 => skN st ((F_L_law fu n).2.2.2.2.2.2.2.2.2.2.2.2.2.2.2.2.2.2.2.2.2.1 a0 a1 a2 a3 w)) else bif pc == 884 then ((xr ls 0).bind fun a0 => (xr ls 1).bind fun a1 => (xr ls 2).bind fun a2 => (xi ls 3).bind fun a3 => skN st ((F_L_law fu n).2.2.2.2.2.2.2.2.2.2.2.2.2.2.2.2.2.2.2.2.2.2.1 a0 a1 a2 a3 w)) else bif pc == 917 then ((xr ls 0).bind fun a0 => (xr ls 1).bind fun a1 => (xr ls 2).bind fun a2 => (xi ls 3).bind fun a3 => skN st ((F_L_law fu n).2.2.2.2.2.2.2.2.2.2.2.2.2.2.2.2.2.2.2.2.2.2.2.1 a0 a1 a2 a3 w)) else bif pc == 960 then ((xr ls 0).bind fun a0 => (xr ls 1).bind fun a1 => (xr ls 2).bind fun a2 => (xi ls 3).bind fun a3 => skN st ((F_L_law fu n).2.2.2.2.2.2.2.2.2.2.2.2.2.2.2.2.2.2.2.2.2.2.2.2.1 a0 a1 a2 a3 w)) else bif pc == 1013 then ((xr ls 0).bind fun a0 => (xr ls 1).bind fun a1 => (xr ls 2).bind fun a2 => (xi ls 3).bind fun a3 => skN st ((F_L_law fu n).2.2.2.2.2.2.2.2.2.2.2.2.2.2.2.2.2.2.2.2.2.2.2.2.2.1 a0 a1 a2 a3 w)) else bif pc == 1036 then ((xr ls 0).bind fun a0 => (xr ls 1).bind fun a1 => (xr ls 2).bind fun a2 => (xi ls 3).bind fun a3 => skN st ((F_L_law fu n).2.2.2.2.2.2.2.2.2.2.2.2.2.2.2.2.2.2.2.2.2.2.2.2.2.2.1 a0 a1 a2 a3 w)) else bif pc == 1069 then ((xr ls 0).bind fun a0 => (xr ls 1).bind fun a1 => (xr ls 2).bind fun a2 => (xi ls 3).bind fun a3 => skN st ((F_L_law fu n).2.2.2.2.2.2.2.2.2.2.2.2.2.2.2.2.2.2.2.2.2.2.2.2.2.2.2.1 a0 a1 a2 a3 w)) else bif pc == 1102 then ((xr ls 0).bind fun a0 => (xr ls 1).bind fun a1 => (xr ls 2).bind fun a2 => (xi ls 3).bind fun a3 => skN st ((F_L_law fu n).2.2.2.2.2.2.2.2.2.2.2.2.2.2.2.2.2.2.2.2.2.2.2.2.2.2.2.2.1 a0 a1 a2 a3 w)) else bif pc == 1178 then ((xr ls 0).bind fun a0 => (xr ls 1).bind fun a1 => (xr ls 2).bind fun a2 => (xi ls 3).bind fun a3 => skN st ((F_L_law fu n).2.2.2.2.2.2.2.2.2.2.2.2.2.2.2.2.2.2.2.2.2.2.2.2.2.2.2.2.2.1 a0 a1 a2 a3 w)) else bif pc == 1221 then ((xr ls 0).bind fun a0 => (xr ls 1).bind fun a1 => (xr ls 2).bind fun a2 => (xi ls 3).bind fun a3 => skN st ((F_L_law fu n).2.2.2.2.2.2.2.2.2.2.2.2.2.2.2.2.2.2.2.2.2.2.2.2.2.2.2.2.2.2.1 a0 a1 a2 a3 w)) else bif pc == 1244 then ((xr ls 0).bind fun a0 => (xr ls 1).bind fun a1 => (xr ls 2).bind fun a2 => (xi ls 3).bind fun a3 => skN st ((F_L_law fu n).2.2.2.2.2.2.2.2.2.2.2.2.2.2.2.2.2.2.2.2.2.2.2.2.2.2.2.2.2.2.2.1 a0 a1 a2 a3 w)) else bif pc == 1287 then ((xr ls 0).bind fun a0 => (xr ls 1).bind fun a1 => (xr ls 2).bind fun a2 => (xi ls 3).bind fun a3 => skN st ((F_L_law fu n).2.2.2.2.2.2.2.2.2.2.2.2.2.2.2.2.2.2.2.2.2.2.2.2.2.2.2.2.2.2.2.2.1 a0 a1 a2 a3 w)) else bif pc == 1331 then ((xr ls 0).bind fun a0 => (xr ls 1).bind fun a1 => (xr ls 2).bind fun a2 => (xi ls 3).bind fun a3 => skN st ((F_L_law fu n).2.2.2.2.2.2.2.2.2.2.2.2.2.2.2.2.2.2.2.2.2.2.2.2.2.2.2.2.2.2.2.2.2.1 a0 a1 a2 a3 w)) else bif pc == 1394 then ((xr ls 0).bind fun a0 => (xr ls 1).bind fun a1 => (xr ls 2).bind fun a2 => (xi ls 3).bind fun a3 => skN st ((F_L_law fu n).2.2.2.2.2.2.2.2.2.2.2.2.2.2.2.2.2.2.2.2.2.2.2.2.2.2.2.2.2.2.2.2.2.2.1 a0 a1 a2 a3 w)) else bif pc == 1417 then ((xr ls 0).bind fun a0 => (xr ls 1).bind fun a1 => (xr ls 2).bind fun a2 => (xi ls 3).bind fun a3 => skN st ((F_L_law fu n).2.2.2.2.2.2.2.2.2.2.2.2.2.2.2.2.2.2.2.2.2.2.2.2.2.2.2.2.2.2.2.2.2.2.2.1 a0 a1 a2 a3 w)) else bif pc == 1440 then ((xr ls 0).bind fun a0 => (xr ls 1).bind fun a1 => (xr ls 2).bind fun a2 => (xi ls 3).bind fun a3 => skN st ((F_L_law fu n).2.2.2.2.2.2.2.2.2.2.2.2.2.2.2.2.2.2.2.2.2.2.2.2.2.2.2.2.2.2.2.2.2.2.2.2.1 a0 a1 a2 a3 w)) else bif pc == 1473 then ((xr ls 0).bind fun a0 => (xr ls 1).bind fun a1 => (xr ls 2).bind fun a2 => (xi ls 3).bind fun a3 => skN st ((F_L_law fu n).2.2.2.2.2.2.2.2.2.2.2.2.2.2.2.2.2.2.2.2.2.2.2.2.2.2.2.2.2.2.2.2.2.2.2.2.2.1 a0 a1 a2 a3 w)) else bif pc == 1486 then ((xr ls 0).bind fun a0 => (xr ls 1).bind fun a1 => (xr ls 2).bind fun a2 => (xi ls 3).bind fun a3 => skN st ((F_L_law fu n).2.2.2.2.2.2.2.2.2.2.2.2.2.2.2.2.2.2.2.2.2.2.2.2.2.2.2.2.2.2.2.2.2.2.2.2.2.2.1 a0 a1 a2 a3 w)) else bif pc == 1499 then ((xr ls 0).bind fun a0 => (xr ls 1).bind fun a1 => (xr ls 2).bind fun a2 => (xi ls 3).bind fun a3 => skN st ((F_L_law fu n).2.2.2.2.2.2.2.2.2.2.2.2.2.2.2.2.2.2.2.2.2.2.2.2.2.2.2.2.2.2.2.2.2.2.2.2.2.2.2.1 a0 a1 a2 a3 w)) else bif pc == 1522 then ((xr ls 0).bind fun a0 => (xr ls 1).bind fun a1 => (xr ls 2).bind fun a2 => (xi ls 3).bind fun a3 => skN st ((F_L_law fu n).2.2.2.2.2.2.2.2.2.2.2.2.2.2.2.2.2.2.2.2.2.2.2.2.2.2.2.2.2.2.2.2.2.2.2.2.2.2.2.2 a0 a1 a2 a3 w)) else none
set_option maxRecDepth 100000 in
set_option maxHeartbeats 4000000 in
theorem E_L_law_18 (fu : Nat) (n : Nat) (a0 : Nat) (a1 : Nat) (a2 : Nat) (a3 : Int32) (w : XW) : (F_L_law fu (n + 1)).1 a0 a1 a2 a3 w = ev T_L_law (op_L_law fu) [18, 192, 245, 278, 297, 327, 350, 403, 436, 469, 502, 525, 548, 567, 597, 630, 649, 679, 712, 775, 808, 841, 884, 917, 960, 1013, 1036, 1069, 1102, 1178, 1221, 1244, 1287, 1331, 1394, 1417, 1440, 1473, 1486, 1499, 1522] (K_L_law fu n) 1116 18 [(0, .ref a0), (1, .ref a1), (2, .ref a2), (3, .int a3)] [] w := by
  rfl
set_option maxRecDepth 100000 in
set_option maxHeartbeats 4000000 in
theorem E_L_law_192 (fu : Nat) (n : Nat) (a0 : Nat) (a1 : Nat) (a2 : Nat) (a3 : Int32) (w : XW) : (F_L_law fu (n + 1)).2.1 a0 a1 a2 a3 w = ev T_L_law (op_L_law fu) [18, 192, 245, 278, 297, 327, 350, 403, 436, 469, 502, 525, 548, 567, 597, 630, 649, 679, 712, 775, 808, 841, 884, 917, 960, 1013, 1036, 1069, 1102, 1178, 1221, 1244, 1287, 1331, 1394, 1417, 1440, 1473, 1486, 1499, 1522] (K_L_law fu n) 1116 192 [(0, .ref a0), (1, .ref a1), (2, .ref a2), (3, .int a3)] [] w := by
  rfl
set_option maxRecDepth 100000 in
set_option maxHeartbeats 4000000 in
theorem E_L_law_245 (fu : Nat) (n : Nat) (a0 : Nat) (a1 : Nat) (a2 : Nat) (a3 : Int32) (w : XW) : (F_L_law fu (n + 1)).2.2.1 a0 a1 a2 a3 w = ev T_L_law (op_L_law fu) [18, 192, 245, 278, 297, 327, 350, 403, 436, 469, 502, 525, 548, 567, 597, 630, 649, 679, 712, 775, 808, 841, 884, 917, 960, 1013, 1036, 1069, 1102, 1178, 1221, 1244, 1287, 1331, 1394, 1417, 1440, 1473, 1486, 1499, 1522] (K_L_law fu n) 1116 245 [(0, .ref a0), (1, .ref a1), (2, .ref a2), (3, .int a3)] [] w := by
  rfl
set_option maxRecDepth 100000 in
set_option maxHeartbeats 4000000 in
theorem E_L_law_278 (fu : Nat) (n : Nat) (a0 : Nat) (a1 : Nat) (a2 : Nat) (a3 : Int32) (w : XW) : (F_L_law fu (n + 1)).2.2.2.1 a0 a1 a2 a3 w = ev T_L_law (op_L_law fu) [18, 192, 245, 278, 297, 327, 350, 403, 436, 469, 502, 525, 548, 567, 597, 630, 649, 679, 712, 775, 808, 841, 884, 917, 960, 1013, 1036, 1069, 1102, 1178, 1221, 1244, 1287, 1331, 1394, 1417, 1440, 1473, 1486, 1499, 1522] (K_L_law fu n) 1116 278 [(0, .ref a0), (1, .ref a1), (2, .ref a2), (3, .int a3)] [] w := by
  rfl
set_option maxRecDepth 100000 in
set_option maxHeartbeats 4000000 in
theorem E_L_law_297 (fu : Nat) (n : Nat) (a0 : Nat) (a1 : Nat) (a2 : Nat) (a3 : Int32) (s0 : Int32) (s1 : Int32) (s2 : Nat) (w : XW) : (F_L_law fu (n + 1)).2.2.2.2.1 a0 a1 a2 a3 s0 s1 s2 w = ev T_L_law (op_L_law fu) [18, 192, 245, 278, 297, 327, 350, 403, 436, 469, 502, 525, 548, 567, 597, 630, 649, 679, 712, 775, 808, 841, 884, 917, 960, 1013, 1036, 1069, 1102, 1178, 1221, 1244, 1287, 1331, 1394, 1417, 1440, 1473, 1486, 1499, 1522] (K_L_law fu n) 1116 297 [(0, .ref a0), (1, .ref a1), (2, .ref a2), (3, .int a3)] [.int s0, .int s1, .ref s2] w := by
  rfl
set_option maxRecDepth 100000 in
set_option maxHeartbeats 4000000 in
theorem E_L_law_327 (fu : Nat) (n : Nat) (a0 : Nat) (a1 : Nat) (a2 : Nat) (a3 : Int32) (w : XW) : (F_L_law fu (n + 1)).2.2.2.2.2.1 a0 a1 a2 a3 w = ev T_L_law (op_L_law fu) [18, 192, 245, 278, 297, 327, 350, 403, 436, 469, 502, 525, 548, 567, 597, 630, 649, 679, 712, 775, 808, 841, 884, 917, 960, 1013, 1036, 1069, 1102, 1178, 1221, 1244, 1287, 1331, 1394, 1417, 1440, 1473, 1486, 1499, 1522] (K_L_law fu n) 1116 327 [(0, .ref a0), (1, .ref a1), (2, .ref a2), (3, .int a3)] [] w := by
  rfl
set_option maxRecDepth 100000 in
set_option maxHeartbeats 4000000 in
theorem E_L_law_350 (fu : Nat) (n : Nat) (a0 : Nat) (a1 : Nat) (a2 : Nat) (a3 : Int32) (w : XW) : (F_L_law fu (n + 1)).2.2.2.2.2.2.1 a0 a1 a2 a3 w = ev T_L_law (op_L_law fu) [18, 192, 245, 278, 297, 327, 350, 403, 436, 469, 502, 525, 548, 567, 597, 630, 649, 679, 712, 775, 808, 841, 884, 917, 960, 1013, 1036, 1069, 1102, 1178, 1221, 1244, 1287, 1331, 1394, 1417, 1440, 1473, 1486, 1499, 1522] (K_L_law fu n) 1116 350 [(0, .ref a0), (1, .ref a1), (2, .ref a2), (3, .int a3)] [] w := by
  rfl
set_option maxRecDepth 100000 in
set_option maxHeartbeats 4000000 in
theorem E_L_law_403 (fu : Nat) (n : Nat) (a0 : Nat) (a1 : Nat) (a2 : Nat) (a3 : Int32) (w : XW) : (F_L_law fu (n + 1)).2.2.2.2.2.2.2.1 a0 a1 a2 a3 w = ev T_L_law (op_L_law fu) [18, 192, 245, 278, 297, 327, 350, 403, 436, 469, 502, 525, 548, 567, 597, 630, 649, 679, 712, 775, 808, 841, 884, 917, 960, 1013, 1036, 1069, 1102, 1178, 1221, 1244, 1287, 1331, 1394, 1417, 1440, 1473, 1486, 1499, 1522] (K_L_law fu n) 1116 403 [(0, .ref a0), (1, .ref a1), (2, .ref a2), (3, .int a3)] [] w := by
  rfl
set_option maxRecDepth 100000 in
set_option maxHeartbeats 4000000 in
theorem E_L_law_436 (fu : Nat) (n : Nat) (a0 : Nat) (a1 : Nat) (a2 : Nat) (a3 : Int32) (w : XW) : (F_L_law fu (n + 1)).2.2.2.2.2.2.2.2.1 a0 a1 a2 a3 w = ev T_L_law (op_L_law fu) [18, 192, 245, 278, 297, 327, 350, 403, 436, 469, 502, 525, 548, 567, 597, 630, 649, 679, 712, 775, 808, 841, 884, 917, 960, 1013, 1036, 1069, 1102, 1178, 1221, 1244, 1287, 1331, 1394, 1417, 1440, 1473, 1486, 1499, 1522] (K_L_law fu n) 1116 436 [(0, .ref a0), (1, .ref a1), (2, .ref a2), (3, .int a3)] [] w := by
  rfl
set_option maxRecDepth 100000 in
set_option maxHeartbeats 4000000 in
theorem E_L_law_469 (fu : Nat) (n : Nat) (a0 : Nat) (a1 : Nat) (a2 : Nat) (a3 : Int32) (w : XW) : (F_L_law fu (n + 1)).2.2.2.2.2.2.2.2.2.1 a0 a1 a2 a3 w = ev T_L_law (op_L_law fu) [18, 192, 245, 278, 297, 327, 350, 403, 436, 469, 502, 525, 548, 567, 597, 630, 649, 679, 712, 775, 808, 841, 884, 917, 960, 1013, 1036, 1069, 1102, 1178, 1221, 1244, 1287, 1331, 1394, 1417, 1440, 1473, 1486, 1499, 1522] (K_L_law fu n) 1116 469 [(0, .ref a0), (1, .ref a1), (2, .ref a2), (3, .int a3)] [] w := by
  rfl
set_option maxRecDepth 100000 in
set_option maxHeartbeats 4000000 in
theorem E_L_law_502 (fu : Nat) (n : Nat) (a0 : Nat) (a1 : Nat) (a2 : Nat) (a3 : Int32) (w : XW) : (F_L_law fu (n + 1)).2.2.2.2.2.2.2.2.2.2.1 a0 a1 a2 a3 w = ev T_L_law (op_L_law fu) [18, 192, 245, 278, 297, 327, 350, 403, 436, 469, 502, 525, 548, 567, 597, 630, 649, 679, 712, 775, 808, 841, 884, 917, 960, 1013, 1036, 1069, 1102, 1178, 1221, 1244, 1287, 1331, 1394, 1417, 1440, 1473, 1486, 1499, 1522] (K_L_law fu n) 1116 502 [(0, .ref a0), (1, .ref a1), (2, .ref a2), (3, .int a3)] [] w := by
  rfl
set_option maxRecDepth 100000 in
set_option maxHeartbeats 4000000 in
theorem E_L_law_525 (fu : Nat) (n : Nat) (a0 : Nat) (a1 : Nat) (a2 : Nat) (a3 : Int32) (w : XW) : (F_L_law fu (n + 1)).2.2.2.2.2.2.2.2.2.2.2.1 a0 a1 a2 a3 w = ev T_L_law (op_L_law fu) [18, 192, 245, 278, 297, 327, 350, 403, 436, 469, 502, 525, 548, 567, 597, 630, 649, 679, 712, 775, 808, 841, 884, 917, 960, 1013, 1036, 1069, 1102, 1178, 1221, 1244, 1287, 1331, 1394, 1417, 1440, 1473, 1486, 1499, 1522] (K_L_law fu n) 1116 525 [(0, .ref a0), (1, .ref a1), (2, .ref a2), (3, .int a3)] [] w := by
  rfl
set_option maxRecDepth 100000 in
set_option maxHeartbeats 4000000 in
theorem E_L_law_548 (fu : Nat) (n : Nat) (a0 : Nat) (a1 : Nat) (a2 : Nat) (a3 : Int32) (w : XW) : (F_L_law fu (n + 1)).2.2.2.2.2.2.2.2.2.2.2.2.1 a0 a1 a2 a3 w = ev T_L_law (op_L_law fu) [18, 192, 245, 278, 297, 327, 350, 403, 436, 469, 502, 525, 548, 567, 597, 630, 649, 679, 712, 775, 808, 841, 884, 917, 960, 1013, 1036, 1069, 1102, 1178, 1221, 1244, 1287, 1331, 1394, 1417, 1440, 1473, 1486, 1499, 1522] (K_L_law fu n) 1116 548 [(0, .ref a0), (1, .ref a1), (2, .ref a2), (3, .int a3)] [] w := by
  rfl
set_option maxRecDepth 100000 in
set_option maxHeartbeats 4000000 in
theorem E_L_law_567 (fu : Nat) (n : Nat) (a0 : Nat) (a1 : Nat) (a2 : Nat) (a3 : Int32) (s0 : Int32) (s1 : Int32) (s2 : Nat) (w : XW) : (F_L_law fu (n + 1)).2.2.2.2.2.2.2.2.2.2.2.2.2.1 a0 a1 a2 a3 s0 s1 s2 w = ev T_L_law (op_L_law fu) [18, 192, 245, 278, 297, 327, 350, 403, 436, 469, 502, 525, 548, 567, 597, 630, 649, 679, 712, 775, 808, 841, 884, 917, 960, 1013, 1036, 1069, 1102, 1178, 1221, 1244, 1287, 1331, 1394, 1417, 1440, 1473, 1486, 1499, 1522] (K_L_law fu n) 1116 567 [(0, .ref a0), (1, .ref a1), (2, .ref a2), (3, .int a3)] [.int s0, .int s1, .ref s2] w := by
  rfl
set_option maxRecDepth 100000 in
set_option maxHeartbeats 4000000 in
theorem E_L_law_597 (fu : Nat) (n : Nat) (a0 : Nat) (a1 : Nat) (a2 : Nat) (a3 : Int32) (w : XW) : (F_L_law fu (n + 1)).2.2.2.2.2.2.2.2.2.2.2.2.2.2.1 a0 a1 a2 a3 w = ev T_L_law (op_L_law fu) [18, 192, 245, 278, 297, 327, 350, 403, 436, 469, 502, 525, 548, 567, 597, 630, 649, 679, 712, 775, 808, 841, 884, 917, 960, 1013, 1036, 1069, 1102, 1178, 1221, 1244, 1287, 1331, 1394, 1417, 1440, 1473, 1486, 1499, 1522] (K_L_law fu n) 1116 597 [(0, .ref a0), (1, .ref a1), (2, .ref a2), (3, .int a3)] [] w := by
  rfl
set_option maxRecDepth 100000 in
set_option maxHeartbeats 4000000 in
theorem E_L_law_630 (fu : Nat) (n : Nat) (a0 : Nat) (a1 : Nat) (a2 : Nat) (a3 : Int32) (w : XW) : (F_L_law fu (n + 1)).2.2.2.2.2.2.2.2.2.2.2.2.2.2.2.1 a0 a1 a2 a3 w = ev T_L_law (op_L_law fu) [18, 192, 245, 278, 297, 327, 350, 403, 436, 469, 502, 525, 548, 567, 597, 630, 649, 679, 712, 775, 808, 841, 884, 917, 960, 1013, 1036, 1069, 1102, 1178, 1221, 1244, 1287, 1331, 1394, 1417, 1440, 1473, 1486, 1499, 1522] (K_L_law fu n) 1116 630 [(0, .ref a0), (1, .ref a1), (2, .ref a2), (3, .int a3)] [] w := by
  rfl
set_option maxRecDepth 100000 in
set_option maxHeartbeats 4000000 in
theorem E_L_law_649 (fu : Nat) (n : Nat) (a0 : Nat) (a1 : Nat) (a2 : Nat) (a3 : Int32) (s0 : Int32) (s1 : Int32) (s2 : Nat) (w : XW) : (F_L_law fu (n + 1)).2.2.2.2.2.2.2.2.2.2.2.2.2.2.2.2.1 a0 a1 a2 a3 s0 s1 s2 w = ev T_L_law (op_L_law fu) [18, 192, 245, 278, 297, 327, 350, 403, 436, 469, 502, 525, 548, 567, 597, 630, 649, 679, 712, 775, 808, 841, 884, 917, 960, 1013, 1036, 1069, 1102, 1178, 1221, 1244, 1287, 1331, 1394, 1417, 1440, 1473, 1486, 1499, 1522] (K_L_law fu n) 1116 649 [(0, .ref a0), (1, .ref a1), (2, .ref a2), (3, .int a3)] [.int s0, .int s1, .ref s2] w := by
  rfl
set_option maxRecDepth 100000 in
set_option maxHeartbeats 4000000 in
theorem E_L_law_679 (fu : Nat) (n : Nat) (a0 : Nat) (a1 : Nat) (a2 : Nat) (a3 : Int32) (w : XW) : (F_L_law fu (n + 1)).2.2.2.2.2.2.2.2.2.2.2.2.2.2.2.2.2.1 a0 a1 a2 a3 w = ev T_L_law (op_L_law fu) [18, 192, 245, 278, 297, 327, 350, 403, 436, 469, 502, 525, 548, 567, 597, 630, 649, 679, 712, 775, 808, 841, 884, 917, 960, 1013, 1036, 1069, 1102, 1178, 1221, 1244, 1287, 1331, 1394, 1417, 1440, 1473, 1486, 1499, 1522] (K_L_law fu n) 1116 679 [(0, .ref a0), (1, .ref a1), (2, .ref a2), (3, .int a3)] [] w := by
  rfl
set_option maxRecDepth 100000 in
set_option maxHeartbeats 4000000 in
theorem E_L_law_712 (fu : Nat) (n : Nat) (a0 : Nat) (a1 : Nat) (a2 : Nat) (a3 : Int32) (w : XW) : (F_L_law fu (n + 1)).2.2.2.2.2.2.2.2.2.2.2.2.2.2.2.2.2.2.1 a0 a1 a2 a3 w = ev T_L_law (op_L_law fu) [18, 192, 245, 278, 297, 327, 350, 403, 436, 469, 502, 525, 548, 567, 597, 630, 649, 679, 712, 775, 808, 841, 884, 917, 960, 1013, 1036, 1069, 1102, 1178, 1221, 1244, 1287, 1331, 1394, 1417, 1440, 1473, 1486, 1499, 1522] (K_L_law fu n) 1116 712 [(0, .ref a0), (1, .ref a1), (2, .ref a2), (3, .int a3)] [] w := by
  rfl
set_option maxRecDepth 100000 in
set_option maxHeartbeats 4000000 in
theorem E_L_law_775 (fu : Nat) (n : Nat) (a0 : Nat) (a1 : Nat) (a2 : Nat) (a3 : Int32) (w : XW) : (F_L_law fu (n + 1)).2.2.2.2.2.2.2.2.2.2.2.2.2.2.2.2.2.2.2.1 a0 a1 a2 a3 w = ev T_L_law (op_L_law fu) [18, 192, 245, 278, 297, 327, 350, 403, 436, 469, 502, 525, 548, 567, 597, 630, 649, 679, 712, 775, 808, 841, 884, 917, 960, 1013, 1036, 1069, 1102, 1178, 1221, 1244, 1287, 1331, 1394, 1417, 1440, 1473, 1486, 1499, 1522] (K_L_law fu n) 1116 775 [(0, .ref a0), (1, .ref a1), (2, .ref a2), (3, .int a3)] [] w := by
  rfl
set_option maxRecDepth 100000 in
set_option maxHeartbeats 4000000 in
theorem E_L_law_808 (fu : Nat) (n : Nat) (a0 : Nat) (a1 : Nat) (a2 : Nat) (a3 : Int32) (w : XW) : (F_L_law fu (n + 1)).2.2.2.2.2.2.2.2.2.2.2.2.2.2.2.2.2.2.2.2.1 a0 a1 a2 a3 w = ev T_L_law (op_L_law fu) [18, 192, 245, 278, 297, 327, 350, 403, 436, 469, 502, 525, 548, 567, 597, 630, 649, 679, 712, 775, 808, 841, 884, 917, 960, 1013, 1036, 1069, 1102, 1178, 1221, 1244, 1287, 1331, 1394, 1417, 1440, 1473, 1486, 1499, 1522] (K_L_law fu n) 1116 808 [(0, .ref a0), (1, .ref a1), (2, .ref a2), (3, .int a3)] [] w := by
  rfl
set_option maxRecDepth 100000 in
set_option maxHeartbeats 4000000 in
theorem E_L_law_841 (fu : Nat) (n : Nat) (a0 : Nat) (a1 : Nat) (a2 : Nat) (a3 : Int32) (w : XW) : (F_L_law fu (n + 1)).2.2.2.2.2.2.2.2.2.2.2.2.2.2.2.2.2.2.2.2.2.1 a0 a1 a2 a3 w = ev T_L_law (op_L_law fu) [18, 192, 245, 278, 297, 327, 350, 403, 436, 469, 502, 525, 548, 567, 597, 630, 649, 679, 712, 775, 808, 841, 884, 917, 960, 1013, 1036, 1069, 1102, 1178, 1221, 1244, 1287, 1331, 1394, 1417, 1440, 1473, 1486, 1499, 1522] (K_L_law fu n) 1116 841 [(0, .ref a0), (1, .ref a1), (2, .ref a2), (3, .int a3)] [] w := by
  rfl
set_option maxRecDepth 100000 in
set_option maxHeartbeats 4000000 in
theorem E_L_law_884 (fu : Nat) (n : Nat) (a0 : Nat) (a1 : Nat) (a2 : Nat) (a3 : Int32) (w : XW) : (F_L_law fu (n + 1)).2.2.2.2.2.2.2.2.2.2.2.2.2.2.2.2.2.2.2.2.2.2.1 a0 a1 a2 a3 w = ev T_L_law (op_L_law fu) [18, 192, 245, 278, 297, 327, 350, 403, 436, 469, 502, 525, 548, 567, 597, 630, 649, 679, 712, 775, 808, 841, 884, 917, 960, 1013, 1036, 1069, 1102, 1178, 1221, 1244, 1287, 1331, 1394, 1417, 1440, 1473, 1486, 1499, 1522] (K_L_law fu n) 1116 884 [(0, .ref a0), (1, .ref a1), (2, .ref a2), (3, .int a3)] [] w := by
  rfl
set_option maxRecDepth 100000 in
set_option maxHeartbeats 4000000 in
theorem E_L_law_917 (fu : Nat) (n : Nat) (a0 : Nat) (a1 : Nat) (a2 : Nat) (a3 : Int32) (w : XW) : (F_L_law fu (n + 1)).2.2.2.2.2.2.2.2.2.2.2.2.2.2.2.2.2.2.2.2.2.2.2.1 a0 a1 a2 a3 w = ev T_L_law (op_L_law fu) [18, 192, 245, 278, 297, 327, 350, 403, 436, 469, 502, 525, 548, 567, 597, 630, 649, 679, 712, 775, 808, 841, 884, 917, 960, 1013, 1036, 1069, 1102, 1178, 1221, 1244, 1287, 1331, 1394, 1417, 1440, 1473, 1486, 1499, 1522] (K_L_law fu n) 1116 917 [(0, .ref a0), (1, .ref a1), (2, .ref a2), (3, .int a3)] [] w := by
  rfl
set_option maxRecDepth 100000 in
set_option maxHeartbeats 4000000 in
theorem E_L_law_960 (fu : Nat) (n : Nat) (a0 : Nat) (a1 : Nat) (a2 : Nat) (a3 : Int32) (w : XW) : (F_L_law fu (n + 1)).2.2.2.2.2.2.2.2.2.2.2.2.2.2.2.2.2.2.2.2.2.2.2.2.1 a0 a1 a2 a3 w = ev T_L_law (op_L_law fu) [18, 192, 245, 278, 297, 327, 350, 403, 436, 469, 502, 525, 548, 567, 597, 630, 649, 679, 712, 775, 808, 841, 884, 917, 960, 1013, 1036, 1069, 1102, 1178, 1221, 1244, 1287, 1331, 1394, 1417, 1440, 1473, 1486, 1499, 1522] (K_L_law fu n) 1116 960 [(0, .ref a0), (1, .ref a1), (2, .ref a2), (3, .int a3)] [] w := by
  rfl
set_option maxRecDepth 100000 in
set_option maxHeartbeats 4000000 in
theorem E_L_law_1013 (fu : Nat) (n : Nat) (a0 : Nat) (a1 : Nat) (a2 : Nat) (a3 : Int32) (w : XW) : (F_L_law fu (n + 1)).2.2.2.2.2.2.2.2.2.2.2.2.2.2.2.2.2.2.2.2.2.2.2.2.2.1 a0 a1 a2 a3 w = ev T_L_law (op_L_law fu) [18, 192, 245, 278, 297, 327, 350, 403, 436, 469, 502, 525, 548, 567, 597, 630, 649, 679, 712, 775, 808, 841, 884, 917, 960, 1013, 1036, 1069, 1102, 1178, 1221, 1244, 1287, 1331, 1394, 1417, 1440, 1473, 1486, 1499, 1522] (K_L_law fu n) 1116 1013 [(0, .ref a0), (1, .ref a1), (2, .ref a2), (3, .int a3)] [] w := by
  rfl
set_option maxRecDepth 100000 in
set_option maxHeartbeats 4000000 in
theorem E_L_law_1036 (fu : Nat) (n : Nat) (a0 : Nat) (a1 : Nat) (a2 : Nat) (a3 : Int32) (w : XW) : (F_L_law fu (n + 1)).2.2.2.2.2.2.2.2.2.2.2.2.2.2.2.2.2.2.2.2.2.2.2.2.2.2.1 a0 a1 a2 a3 w = ev T_L_law (op_L_law fu) [18, 192, 245, 278, 297, 327, 350, 403, 436, 469, 502, 525, 548, 567, 597, 630, 649, 679, 712, 775, 808, 841, 884, 917, 960, 1013, 1036, 1069, 1102, 1178, 1221, 1244, 1287, 1331, 1394, 1417, 1440, 1473, 1486, 1499, 1522] (K_L_law fu n) 1116 1036 [(0, .ref a0), (1, .ref a1), (2, .ref a2), (3, .int a3)] [] w := by
  rfl
set_option maxRecDepth 100000 in
set_option maxHeartbeats 4000000 in
theorem E_L_law_1069 (fu : Nat) (n : Nat) (a0 : Nat) (a1 : Nat) (a2 : Nat) (a3 : Int32) (w : XW) : (F_L_law fu (n + 1)).2.2.2.2.2.2.2.2.2.2.2.2.2.2.2.2.2.2.2.2.2.2.2.2.2.2.2.1 a0 a1 a2 a3 w = ev T_L_law (op_L_law fu) [18, 192, 245, 278, 297, 327, 350, 403, 436, 469, 502, 525, 548, 567, 597, 630, 649, 679, 712, 775, 808, 841, 884, 917, 960, 1013, 1036, 1069, 1102, 1178, 1221, 1244, 1287, 1331, 1394, 1417, 1440, 1473, 1486, 1499, 1522] (K_L_law fu n) 1116 1069 [(0, .ref a0), (1, .ref a1), (2, .ref a2), (3, .int a3)] [] w := by
  rfl
set_option maxRecDepth 100000 in
set_option maxHeartbeats 4000000 in
theorem E_L_law_1102 (fu : Nat) (n : Nat) (a0 : Nat) (a1 : Nat) (a2 : Nat) (a3 : Int32) (w : XW) : (F_L_law fu (n + 1)).2.2.2.2.2.2.2.2.2.2.2.2.2.2.2.2.2.2.2.2.2.2.2.2.2.2.2.2.1 a0 a1 a2 a3 w = ev T_L_law (op_L_law fu) [18, 192, 245, 278, 297, 327, 350, 403, 436, 469, 502, 525, 548, 567, 597, 630, 649, 679, 712, 775, 808, 841, 884, 917, 960, 1013, 1036, 1069, 1102, 1178, 1221, 1244, 1287, 1331, 1394, 1417, 1440, 1473, 1486, 1499, 1522] (K_L_law fu n) 1116 1102 [(0, .ref a0), (1, .ref a1), (2, .ref a2), (3, .int a3)] [] w := by
  rfl
set_option maxRecDepth 100000 in
set_option maxHeartbeats 4000000 in
theorem E_L_law_1178 (fu : Nat) (n : Nat) (a0 : Nat) (a1 : Nat) (a2 : Nat) (a3 : Int32) (w : XW) : (F_L_law fu (n + 1)).2.2.2.2.2.2.2.2.2.2.2.2.2.2.2.2.2.2.2.2.2.2.2.2.2.2.2.2.2.1 a0 a1 a2 a3 w = ev T_L_law (op_L_law fu) [18, 192, 245, 278, 297, 327, 350, 403, 436, 469, 502, 525, 548, 567, 597, 630, 649, 679, 712, 775, 808, 841, 884, 917, 960, 1013, 1036, 1069, 1102, 1178, 1221, 1244, 1287, 1331, 1394, 1417, 1440, 1473, 1486, 1499, 1522] (K_L_law fu n) 1116 1178 [(0, .ref a0), (1, .ref a1), (2, .ref a2), (3, .int a3)] [] w := by
  rfl
set_option maxRecDepth 100000 in
set_option maxHeartbeats 4000000 in
theorem E_L_law_1221 (fu : Nat) (n : Nat) (a0 : Nat) (a1 : Nat) (a2 : Nat) (a3 : Int32) (w : XW) : (F_L_law fu (n + 1)).2.2.2.2.2.2.2.2.2.2.2.2.2.2.2.2.2.2.2.2.2.2.2.2.2.2.2.2.2.2.1 a0 a1 a2 a3 w = ev T_L_law (op_L_law fu) [18, 192, 245, 278, 297, 327, 350, 403, 436, 469, 502, 525, 548, 567, 597, 630, 649, 679, 712, 775, 808, 841, 884, 917, 960, 1013, 1036, 1069, 1102, 1178, 1221, 1244, 1287, 1331, 1394, 1417, 1440, 1473, 1486, 1499, 1522] (K_L_law fu n) 1116 1221 [(0, .ref a0), (1, .ref a1), (2, .ref a2), (3, .int a3)] [] w := by
  rfl
set_option maxRecDepth 100000 in
set_option maxHeartbeats 4000000 in
theorem E_L_law_1244 (fu : Nat) (n : Nat) (a0 : Nat) (a1 : Nat) (a2 : Nat) (a3 : Int32) (w : XW) : (F_L_law fu (n + 1)).2.2.2.2.2.2.2.2.2.2.2.2.2.2.2.2.2.2.2.2.2.2.2.2.2.2.2.2.2.2.2.1 a0 a1 a2 a3 w = ev T_L_law (op_L_law fu) [18, 192, 245, 278, 297, 327, 350, 403, 436, 469, 502, 525, 548, 567, 597, 630, 649, 679, 712, 775, 808, 841, 884, 917, 960, 1013, 1036, 1069, 1102, 1178, 1221, 1244, 1287, 1331, 1394, 1417, 1440, 1473, 1486, 1499, 1522] (K_L_law fu n) 1116 1244 [(0, .ref a0), (1, .ref a1), (2, .ref a2), (3, .int a3)] [] w := by
  rfl
set_option maxRecDepth 100000 in
set_option maxHeartbeats 4000000 in
theorem E_L_law_1287 (fu : Nat) (n : Nat) (a0 : Nat) (a1 : Nat) (a2 : Nat) (a3 : Int32) (w : XW) : (F_L_law fu (n + 1)).2.2.2.2.2.2.2.2.2.2.2.2.2.2.2.2.2.2.2.2.2.2.2.2.2.2.2.2.2.2.2.2.1 a0 a1 a2 a3 w = ev T_L_law (op_L_law fu) [18, 192, 245, 278, 297, 327, 350, 403, 436, 469, 502, 525, 548, 567, 597, 630, 649, 679, 712, 775, 808, 841, 884, 917, 960, 1013, 1036, 1069, 1102, 1178, 1221, 1244, 1287, 1331, 1394, 1417, 1440, 1473, 1486, 1499, 1522] (K_L_law fu n) 1116 1287 [(0, .ref a0), (1, .ref a1), (2, .ref a2), (3, .int a3)] [] w := by
  rfl
set_option maxRecDepth 100000 in
set_option maxHeartbeats 4000000 in
theorem E_L_law_1331 (fu : Nat) (n : Nat) (a0 : Nat) (a1 : Nat) (a2 : Nat) (a3 : Int32) (w : XW) : (F_L_law fu (n + 1)).2.2.2.2.2.2.2.2.2.2.2.2.2.2.2.2.2.2.2.2.2.2.2.2.2.2.2.2.2.2.2.2.2.1 a0 a1 a2 a3 w = ev T_L_law (op_L_law fu) [18, 192, 245, 278, 297, 327, 350, 403, 436, 469, 502, 525, 548, 567, 597, 630, 649, 679, 712, 775, 808, 841, 884, 917, 960, 1013, 1036, 1069, 1102, 1178, 1221, 1244, 1287, 1331, 1394, 1417, 1440, 1473, 1486, 1499, 1522] (K_L_law fu n) 1116 1331 [(0, .ref a0), (1, .ref a1), (2, .ref a2), (3, .int a3)] [] w := by
  rfl
set_option maxRecDepth 100000 in
set_option maxHeartbeats 4000000 in
theorem E_L_law_1394 (fu : Nat) (n : Nat) (a0 : Nat) (a1 : Nat) (a2 : Nat) (a3 : Int32) (w : XW) : (F_L_law fu (n + 1)).2.2.2.2.2.2.2.2.2.2.2.2.2.2.2.2.2.2.2.2.2.2.2.2.2.2.2.2.2.2.2.2.2.2.1 a0 a1 a2 a3 w = ev T_L_law (op_L_law fu) [18, 192, 245, 278, 297, 327, 350, 403, 436, 469, 502, 525, 548, 567, 597, 630, 649, 679, 712, 775, 808, 841, 884, 917, 960, 1013, 1036, 1069, 1102, 1178, 1221, 1244, 1287, 1331, 1394, 1417, 1440, 1473, 1486, 1499, 1522] (K_L_law fu n) 1116 1394 [(0, .ref a0), (1, .ref a1), (2, .ref a2), (3, .int a3)] [] w := by
  rfl
set_option maxRecDepth 100000 in
set_option maxHeartbeats 4000000 in
theorem E_L_law_1417 (fu : Nat) (n : Nat) (a0 : Nat) (a1 : Nat) (a2 : Nat) (a3 : Int32) (w : XW) : (F_L_law fu (n + 1)).2.2.2.2.2.2.2.2.2.2.2.2.2.2.2.2.2.2.2.2.2.2.2.2.2.2.2.2.2.2.2.2.2.2.2.1 a0 a1 a2 a3 w = ev T_L_law (op_L_law fu) [18, 192, 245, 278, 297, 327, 350, 403, 436, 469, 502, 525, 548, 567, 597, 630, 649, 679, 712, 775, 808, 841, 884, 917, 960, 1013, 1036, 1069, 1102, 1178, 1221, 1244, 1287, 1331, 1394, 1417, 1440, 1473, 1486, 1499, 1522] (K_L_law fu n) 1116 1417 [(0, .ref a0), (1, .ref a1), (2, .ref a2), (3, .int a3)] [] w := by
  rfl
set_option maxRecDepth 100000 in
set_option maxHeartbeats 4000000 in
theorem E_L_law_1440 (fu : Nat) (n : Nat) (a0 : Nat) (a1 : Nat) (a2 : Nat) (a3 : Int32) (w : XW) : (F_L_law fu (n + 1)).2.2.2.2.2.2.2.2.2.2.2.2.2.2.2.2.2.2.2.2.2.2.2.2.2.2.2.2.2.2.2.2.2.2.2.2.1 a0 a1 a2 a3 w = ev T_L_law (op_L_law fu) [18, 192, 245, 278, 297, 327, 350, 403, 436, 469, 502, 525, 548, 567, 597, 630, 649, 679, 712, 775, 808, 841, 884, 917, 960, 1013, 1036, 1069, 1102, 1178, 1221, 1244, 1287, 1331, 1394, 1417, 1440, 1473, 1486, 1499, 1522] (K_L_law fu n) 1116 1440 [(0, .ref a0), (1, .ref a1), (2, .ref a2), (3, .int a3)] [] w := by
  rfl
set_option maxRecDepth 100000 in
set_option maxHeartbeats 4000000 in
theorem E_L_law_1473 (fu : Nat) (n : Nat) (a0 : Nat) (a1 : Nat) (a2 : Nat) (a3 : Int32) (w : XW) : (F_L_law fu (n + 1)).2.2.2.2.2.2.2.2.2.2.2.2.2.2.2.2.2.2.2.2.2.2.2.2.2.2.2.2.2.2.2.2.2.2.2.2.2.1 a0 a1 a2 a3 w = ev T_L_law (op_L_law fu) [18, 192, 245, 278, 297, 327, 350, 403, 436, 469, 502, 525, 548, 567, 597, 630, 649, 679, 712, 775, 808, 841, 884, 917, 960, 1013, 1036, 1069, 1102, 1178, 1221, 1244, 1287, 1331, 1394, 1417, 1440, 1473, 1486, 1499, 1522] (K_L_law fu n) 1116 1473 [(0, .ref a0), (1, .ref a1), (2, .ref a2), (3, .int a3)] [] w := by
  rfl
set_option maxRecDepth 100000 in
set_option maxHeartbeats 4000000 in
theorem E_L_law_1486 (fu : Nat) (n : Nat) (a0 : Nat) (a1 : Nat) (a2 : Nat) (a3 : Int32) (w : XW) : (F_L_law fu (n + 1)).2.2.2.2.2.2.2.2.2.2.2.2.2.2.2.2.2.2.2.2.2.2.2.2.2.2.2.2.2.2.2.2.2.2.2.2.2.2.1 a0 a1 a2 a3 w = ev T_L_law (op_L_law fu) [18, 192, 245, 278, 297, 327, 350, 403, 436, 469, 502, 525, 548, 567, 597, 630, 649, 679, 712, 775, 808, 841, 884, 917, 960, 1013, 1036, 1069, 1102, 1178, 1221, 1244, 1287, 1331, 1394, 1417, 1440, 1473, 1486, 1499, 1522] (K_L_law fu n) 1116 1486 [(0, .ref a0), (1, .ref a1), (2, .ref a2), (3, .int a3)] [] w := by
  rfl
set_option maxRecDepth 100000 in
set_option maxHeartbeats 4000000 in
theorem E_L_law_1499 (fu : Nat) (n : Nat) (a0 : Nat) (a1 : Nat) (a2 : Nat) (a3 : Int32) (w : XW) : (F_L_law fu (n + 1)).2.2.2.2.2.2.2.2.2.2.2.2.2.2.2.2.2.2.2.2.2.2.2.2.2.2.2.2.2.2.2.2.2.2.2.2.2.2.2.1 a0 a1 a2 a3 w = ev T_L_law (op_L_law fu) [18, 192, 245, 278, 297, 327, 350, 403, 436, 469, 502, 525, 548, 567, 597, 630, 649, 679, 712, 775, 808, 841, 884, 917, 960, 1013, 1036, 1069, 1102, 1178, 1221, 1244, 1287, 1331, 1394, 1417, 1440, 1473, 1486, 1499, 1522] (K_L_law fu n) 1116 1499 [(0, .ref a0), (1, .ref a1), (2, .ref a2), (3, .int a3)] [] w := by
  rfl
set_option maxRecDepth 100000 in
set_option maxHeartbeats 4000000 in
theorem E_L_law_1522 (fu : Nat) (n : Nat) (a0 : Nat) (a1 : Nat) (a2 : Nat) (a3 : Int32) (w : XW) : (F_L_law fu (n + 1)).2.2.2.2.2.2.2.2.2.2.2.2.2.2.2.2.2.2.2.2.2.2.2.2.2.2.2.2.2.2.2.2.2.2.2.2.2.2.2.2 a0 a1 a2 a3 w = ev T_L_law (op_L_law fu) [18, 192, 245, 278, 297, 327, 350, 403, 436, 469, 502, 525, 548, 567, 597, 630, 649, 679, 712, 775, 808, 841, 884, 917, 960, 1013, 1036, 1069, 1102, 1178, 1221, 1244, 1287, 1331, 1394, 1417, 1440, 1473, 1486, 1499, 1522] (K_L_law fu n) 1116 1522 [(0, .ref a0), (1, .ref a1), (2, .ref a2), (3, .int a3)] [] w := by
  rfl
set_option maxRecDepth 100000 in
set_option maxHeartbeats 4000000 in
theorem E_L_law (fu : Nat) (a0 : Nat) (w : XW) : M_L_law fu a0 w = ev T_L_law (op_L_law fu) [18, 192, 245, 278, 297, 327, 350, 403, 436, 469, 502, 525, 548, 567, 597, 630, 649, 679, 712, 775, 808, 841, 884, 917, 960, 1013, 1036, 1069, 1102, 1178, 1221, 1244, 1287, 1331, 1394, 1417, 1440, 1473, 1486, 1499, 1522] (K_L_law fu fu) 1116 0 (lv_args 0 [.ref a0]) [] w := by
  rfl
theorem D_L_law (fu : Nat) : DS T_L_law (op_L_law fu) [18, 192, 245, 278, 297, 327, 350, 403, 436, 469, 502, 525, 548, 567, 597, 630, 649, 679, 712, 775, 808, 841, 884, 917, 960, 1013, 1036, 1069, 1102, 1178, 1221, 1244, 1287, 1331, 1394, 1417, 1440, 1473, 1486, 1499, 1522] 1116 (K_L_law fu) := by
  refine ⟨fun pc ls st w => c_none (b_none fun _ => b_none fun _ => b_none fun _ => b_none fun _ => skN_none rfl) (c_none (b_none fun _ => b_none fun _ => b_none fun _ => b_none fun _ => skN_none rfl) (c_none (b_none fun _ => b_none fun _ => b_none fun _ => b_none fun _ => skN_none rfl) (c_none (b_none fun _ => b_none fun _ => b_none fun _ => b_none fun _ => skN_none rfl) (c_none (b_none fun _ => b_none fun _ => b_none fun _ => b_none fun _ => skI_none fun _ _ => skI_none fun _ _ => skR_none fun _ _ => skN_none rfl) (c_none (b_none fun _ => b_none fun _ => b_none fun _ => b_none fun _ => skN_none rfl) (c_none (b_none fun _ => b_none fun _ => b_none fun _ => b_none fun _ => skN_none rfl) (c_none (b_none fun _ => b_none fun _ => b_none fun _ => b_none fun _ => skN_none rfl) (c_none (b_none fun _ => b_none fun _ => b_none fun _ => b_none fun _ => skN_none rfl) (c_none (b_none fun _ => b_none fun _ => b_none fun _ => b_none fun _ => skN_none rfl) (c_none (b_none fun _ => b_none fun _ => b_none fun _ => b_none fun _ => skN_none rfl) (c_none (b_none fun _ => b_none fun _ => b_none fun _ => b_none fun _ => skN_none rfl) (c_none (b_none fun _ => b_none fun _ => b_none fun _ => b_none fun _ => skN_none rfl) (c_none (b_none fun _ => b_none fun _ => b_none fun _ => b_none fun _ => skI_none fun _ _ => skI_none fun _ _ => skR_none fun _ _ => skN_none rfl) (c_none (b_none fun _ => b_none fun _ => b_none fun _ => b_none fun _ => skN_none rfl) (c_none (b_none fun _ => b_none fun _ => b_none fun _ => b_none fun _ => skN_none rfl) (c_none (b_none fun _ => b_none fun _ => b_none fun _ => b_none fun _ => skI_none fun _ _ => skI_none fun _ _ => skR_none fun _ _ => skN_none rfl) (c_none (b_none fun _ => b_none fun _ => b_none fun _ => b_none fun _ => skN_none rfl) (c_none (b_none fun _ => b_none fun _ => b_none fun _ => b_none fun _ => skN_none rfl) (c_none (b_none fun _ => b_none fun _ => b_none fun _ => b_none fun _ => skN_none rfl) (c_none (b_none fun _ => b_none fun _ => b_none fun _ => b_none fun _ => skN_none rfl) (c_none (b_none fun _ => b_none fun _ => b_none fun _ => b_none fun _ => skN_none rfl) (c_none (b_none fun _ => b_none fun _ => b_none fun _ => b_none fun _ => skN_none rfl) (c_none (b_none fun _ => b_none fun _ => b_none fun _ => b_none fun _ => skN_none rfl) (c_none (b_none fun _ => b_none fun _ => b_none fun _ => b_none fun _ => skN_none rfl) (c_none (b_none fun _ => b_none fun _ => b_none fun _ => b_none fun _ => skN_none rfl) (c_none (b_none fun _ => b_none fun _ => b_none fun _ => b_none fun _ => skN_none rfl) (c_none (b_none fun _ => b_none fun _ => b_none fun _ => b_none fun _ => skN_none rfl) (c_none (b_none fun _ => b_none fun _ => b_none fun _ => b_none fun _ => skN_none rfl) (c_none (b_none fun _ => b_none fun _ => b_none fun _ => b_none fun _ => skN_none rfl) (c_none (b_none fun _ => b_none fun _ => b_none fun _ => b_none fun _ => skN_none rfl) (c_none (b_none fun _ => b_none fun _ => b_none fun _ => b_none fun _ => skN_none rfl) (c_none (b_none fun _ => b_none fun _ => b_none fun _ => b_none fun _ => skN_none rfl) (c_none (b_none fun _ => b_none fun _ => b_none fun _ => b_none fun _ => skN_none rfl) (c_none (b_none fun _ => b_none fun _ => b_none fun _ => b_none fun _ => skN_none rfl) (c_none (b_none fun _ => b_none fun _ => b_none fun _ => b_none fun _ => skN_none rfl) (c_none (b_none fun _ => b_none fun _ => b_none fun _ => b_none fun _ => skN_none rfl) (c_none (b_none fun _ => b_none fun _ => b_none fun _ => b_none fun _ => skN_none rfl) (c_none (b_none fun _ => b_none fun _ => b_none fun _ => b_none fun _ => skN_none rfl) (c_none (b_none fun _ => b_none fun _ => b_none fun _ => b_none fun _ => skN_none rfl) (c_none (b_none fun _ => b_none fun _ => b_none fun _ => b_none fun _ => skN_none rfl) (rfl))))))))))))))))))))))))))))))))))))))))), fun n pc ls st w o h => ?_⟩
  rcases c_some h with ⟨rfl, h⟩ | h
  · obtain ⟨a0, h0, h⟩ := some_of h; obtain ⟨a1, h1, h⟩ := some_of h; obtain ⟨a2, h2, h⟩ := some_of h; obtain ⟨a3, h3, h⟩ := some_of h;
    obtain ⟨e, g⟩ := skN_of h
    subst e
    exact ⟨[(0, .ref a0), (1, .ref a1), (2, .ref a2), (3, .int a3)], cons_all (xr_of h0) (cons_all (xr_of h1) (cons_all (xr_of h2) (cons_all (xi_of h3) (nil_all)))), (E_L_law_18 fu n a0 a1 a2 a3 w).symm.trans g⟩
  rcases c_some h with ⟨rfl, h⟩ | h
  · obtain ⟨a0, h0, h⟩ := some_of h; obtain ⟨a1, h1, h⟩ := some_of h; obtain ⟨a2, h2, h⟩ := some_of h; obtain ⟨a3, h3, h⟩ := some_of h;
    obtain ⟨e, g⟩ := skN_of h
    subst e
    exact ⟨[(0, .ref a0), (1, .ref a1), (2, .ref a2), (3, .int a3)], cons_all (xr_of h0) (cons_all (xr_of h1) (cons_all (xr_of h2) (cons_all (xi_of h3) (nil_all)))), (E_L_law_192 fu n a0 a1 a2 a3 w).symm.trans g⟩
  rcases c_some h with ⟨rfl, h⟩ | h
  · obtain ⟨a0, h0, h⟩ := some_of h; obtain ⟨a1, h1, h⟩ := some_of h; obtain ⟨a2, h2, h⟩ := some_of h; obtain ⟨a3, h3, h⟩ := some_of h;
    obtain ⟨e, g⟩ := skN_of h
    subst e
    exact ⟨[(0, .ref a0), (1, .ref a1), (2, .ref a2), (3, .int a3)], cons_all (xr_of h0) (cons_all (xr_of h1) (cons_all (xr_of h2) (cons_all (xi_of h3) (nil_all)))), (E_L_law_245 fu n a0 a1 a2 a3 w).symm.trans g⟩
  rcases c_some h with ⟨rfl, h⟩ | h
  · obtain ⟨a0, h0, h⟩ := some_of h; obtain ⟨a1, h1, h⟩ := some_of h; obtain ⟨a2, h2, h⟩ := some_of h; obtain ⟨a3, h3, h⟩ := some_of h;
    obtain ⟨e, g⟩ := skN_of h
    subst e
    exact ⟨[(0, .ref a0), (1, .ref a1), (2, .ref a2), (3, .int a3)], cons_all (xr_of h0) (cons_all (xr_of h1) (cons_all (xr_of h2) (cons_all (xi_of h3) (nil_all)))), (E_L_law_278 fu n a0 a1 a2 a3 w).symm.trans g⟩
  rcases c_some h with ⟨rfl, h⟩ | h
  · obtain ⟨a0, h0, h⟩ := some_of h; obtain ⟨a1, h1, h⟩ := some_of h; obtain ⟨a2, h2, h⟩ := some_of h; obtain ⟨a3, h3, h⟩ := some_of h;
    obtain ⟨s0, st0, e0, g0⟩ := skI_of h
    obtain ⟨s1, st1, e1, g1⟩ := skI_of g0
    obtain ⟨s2, st2, e2, g2⟩ := skR_of g1
    obtain ⟨e, g⟩ := skN_of g2
    subst e
    subst e2
    subst e1
    subst e0
    exact ⟨[(0, .ref a0), (1, .ref a1), (2, .ref a2), (3, .int a3)], cons_all (xr_of h0) (cons_all (xr_of h1) (cons_all (xr_of h2) (cons_all (xi_of h3) (nil_all)))), (E_L_law_297 fu n a0 a1 a2 a3 s0 s1 s2 w).symm.trans g⟩
  rcases c_some h with ⟨rfl, h⟩ | h
  · obtain ⟨a0, h0, h⟩ := some_of h; obtain ⟨a1, h1, h⟩ := some_of h; obtain ⟨a2, h2, h⟩ := some_of h; obtain ⟨a3, h3, h⟩ := some_of h;
    obtain ⟨e, g⟩ := skN_of h
    subst e
    exact ⟨[(0, .ref a0), (1, .ref a1), (2, .ref a2), (3, .int a3)], cons_all (xr_of h0) (cons_all (xr_of h1) (cons_all (xr_of h2) (cons_all (xi_of h3) (nil_all)))), (E_L_law_327 fu n a0 a1 a2 a3 w).symm.trans g⟩
  rcases c_some h with ⟨rfl, h⟩ | h
  · obtain ⟨a0, h0, h⟩ := some_of h; obtain ⟨a1, h1, h⟩ := some_of h; obtain ⟨a2, h2, h⟩ := some_of h; obtain ⟨a3, h3, h⟩ := some_of h;
    obtain ⟨e, g⟩ := skN_of h
    subst e
    exact ⟨[(0, .ref a0), (1, .ref a1), (2, .ref a2), (3, .int a3)], cons_all (xr_of h0) (cons_all (xr_of h1) (cons_all (xr_of h2) (cons_all (xi_of h3) (nil_all)))), (E_L_law_350 fu n a0 a1 a2 a3 w).symm.trans g⟩
  rcases c_some h with ⟨rfl, h⟩ | h
  · obtain ⟨a0, h0, h⟩ := some_of h; obtain ⟨a1, h1, h⟩ := some_of h; obtain ⟨a2, h2, h⟩ := some_of h; obtain ⟨a3, h3, h⟩ := some_of h;
    obtain ⟨e, g⟩ := skN_of h
    subst e
    exact ⟨[(0, .ref a0), (1, .ref a1), (2, .ref a2), (3, .int a3)], cons_all (xr_of h0) (cons_all (xr_of h1) (cons_all (xr_of h2) (cons_all (xi_of h3) (nil_all)))), (E_L_law_403 fu n a0 a1 a2 a3 w).symm.trans g⟩
  rcases c_some h with ⟨rfl, h⟩ | h
  · obtain ⟨a0, h0, h⟩ := some_of h; obtain ⟨a1, h1, h⟩ := some_of h; obtain ⟨a2, h2, h⟩ := some_of h; obtain ⟨a3, h3, h⟩ := some_of h;
    obtain ⟨e, g⟩ := skN_of h
    subst e
    exact ⟨[(0, .ref a0), (1, .ref a1), (2, .ref a2), (3, .int a3)], cons_all (xr_of h0) (cons_all (xr_of h1) (cons_all (xr_of h2) (cons_all (xi_of h3) (nil_all)))), (E_L_law_436 fu n a0 a1 a2 a3 w).symm.trans g⟩
  rcases c_some h with ⟨rfl, h⟩ | h
  · obtain ⟨a0, h0, h⟩ := some_of h; obtain ⟨a1, h1, h⟩ := some_of h; obtain ⟨a2, h2, h⟩ := some_of h; obtain ⟨a3, h3, h⟩ := some_of h;
    obtain ⟨e, g⟩ := skN_of h
    subst e
    exact ⟨[(0, .ref a0), (1, .ref a1), (2, .ref a2), (3, .int a3)], cons_all (xr_of h0) (cons_all (xr_of h1) (cons_all (xr_of h2) (cons_all (xi_of h3) (nil_all)))), (E_L_law_469 fu n a0 a1 a2 a3 w).symm.trans g⟩
  rcases c_some h with ⟨rfl, h⟩ | h
  · obtain ⟨a0, h0, h⟩ := some_of h; obtain ⟨a1, h1, h⟩ := some_of h; obtain ⟨a2, h2, h⟩ := some_of h; obtain ⟨a3, h3, h⟩ := some_of h;
    obtain ⟨e, g⟩ := skN_of h
    subst e
    exact ⟨[(0, .ref a0), (1, .ref a1), (2, .ref a2), (3, .int a3)], cons_all (xr_of h0) (cons_all (xr_of h1) (cons_all (xr_of h2) (cons_all (xi_of h3) (nil_all)))), (E_L_law_502 fu n a0 a1 a2 a3 w).symm.trans g⟩
  rcases c_some h with ⟨rfl, h⟩ | h
  · obtain ⟨a0, h0, h⟩ := some_of h; obtain ⟨a1, h1, h⟩ := some_of h; obtain ⟨a2, h2, h⟩ := some_of h; obtain ⟨a3, h3, h⟩ := some_of h;
    obtain ⟨e, g⟩ := skN_of h
    subst e
    exact ⟨[(0, .ref a0), (1, .ref a1), (2, .ref a2), (3, .int a3)], cons_all (xr_of h0) (cons_all (xr_of h1) (cons_all (xr_of h2) (cons_all (xi_of h3) (nil_all)))), (E_L_law_525 fu n a0 a1 a2 a3 w).symm.trans g⟩
  rcases c_some h with ⟨rfl, h⟩ | h
  · obtain ⟨a0, h0, h⟩ := some_of h; obtain ⟨a1, h1, h⟩ := some_of h; obtain ⟨a2, h2, h⟩ := some_of h; obtain ⟨a3, h3, h⟩ := some_of h;
    obtain ⟨e, g⟩ := skN_of h
    subst e
    exact ⟨[(0, .ref a0), (1, .ref a1), (2, .ref a2), (3, .int a3)], cons_all (xr_of h0) (cons_all (xr_of h1) (cons_all (xr_of h2) (cons_all (xi_of h3) (nil_all)))), (E_L_law_548 fu n a0 a1 a2 a3 w).symm.trans g⟩
  rcases c_some h with ⟨rfl, h⟩ | h
  · obtain ⟨a0, h0, h⟩ := some_of h; obtain ⟨a1, h1, h⟩ := some_of h; obtain ⟨a2, h2, h⟩ := some_of h; obtain ⟨a3, h3, h⟩ := some_of h;
    obtain ⟨s0, st0, e0, g0⟩ := skI_of h
    obtain ⟨s1, st1, e1, g1⟩ := skI_of g0
    obtain ⟨s2, st2, e2, g2⟩ := skR_of g1
    obtain ⟨e, g⟩ := skN_of g2
    subst e
    subst e2
    subst e1
    subst e0
    exact ⟨[(0, .ref a0), (1, .ref a1), (2, .ref a2), (3, .int a3)], cons_all (xr_of h0) (cons_all (xr_of h1) (cons_all (xr_of h2) (cons_all (xi_of h3) (nil_all)))), (E_L_law_567 fu n a0 a1 a2 a3 s0 s1 s2 w).symm.trans g⟩
  rcases c_some h with ⟨rfl, h⟩ | h
  · obtain ⟨a0, h0, h⟩ := some_of h; obtain ⟨a1, h1, h⟩ := some_of h; obtain ⟨a2, h2, h⟩ := some_of h; obtain ⟨a3, h3, h⟩ := some_of h;
    obtain ⟨e, g⟩ := skN_of h
    subst e
    exact ⟨[(0, .ref a0), (1, .ref a1), (2, .ref a2), (3, .int a3)], cons_all (xr_of h0) (cons_all (xr_of h1) (cons_all (xr_of h2) (cons_all (xi_of h3) (nil_all)))), (E_L_law_597 fu n a0 a1 a2 a3 w).symm.trans g⟩
  rcases c_some h with ⟨rfl, h⟩ | h
  · obtain ⟨a0, h0, h⟩ := some_of h; obtain ⟨a1, h1, h⟩ := some_of h; obtain ⟨a2, h2, h⟩ := some_of h; obtain ⟨a3, h3, h⟩ := some_of h;
    obtain ⟨e, g⟩ := skN_of h
    subst e
    exact ⟨[(0, .ref a0), (1, .ref a1), (2, .ref a2), (3, .int a3)], cons_all (xr_of h0) (cons_all (xr_of h1) (cons_all (xr_of h2) (cons_all (xi_of h3) (nil_all)))), (E_L_law_630 fu n a0 a1 a2 a3 w).symm.trans g⟩
  rcases c_some h with ⟨rfl, h⟩ | h
  · obtain ⟨a0, h0, h⟩ := some_of h; obtain ⟨a1, h1, h⟩ := some_of h; obtain ⟨a2, h2, h⟩ := some_of h; obtain ⟨a3, h3, h⟩ := some_of h;
    obtain ⟨s0, st0, e0, g0⟩ := skI_of h
    obtain ⟨s1, st1, e1, g1⟩ := skI_of g0
    obtain ⟨s2, st2, e2, g2⟩ := skR_of g1
    obtain ⟨e, g⟩ := skN_of g2
    subst e
    subst e2
    subst e1
    subst e0
    exact ⟨[(0, .ref a0), (1, .ref a1), (2, .ref a2), (3, .int a3)], cons_all (xr_of h0) (cons_all (xr_of h1) (cons_all (xr_of h2) (cons_all (xi_of h3) (nil_all)))), (E_L_law_649 fu n a0 a1 a2 a3 s0 s1 s2 w).symm.trans g⟩
  rcases c_some h with ⟨rfl, h⟩ | h
  · obtain ⟨a0, h0, h⟩ := some_of h; obtain ⟨a1, h1, h⟩ := some_of h; obtain ⟨a2, h2, h⟩ := some_of h; obtain ⟨a3, h3, h⟩ := some_of h;
    obtain ⟨e, g⟩ := skN_of h
    subst e
    exact ⟨[(0, .ref a0), (1, .ref a1), (2, .ref a2), (3, .int a3)], cons_all (xr_of h0) (cons_all (xr_of h1) (cons_all (xr_of h2) (cons_all (xi_of h3) (nil_all)))), (E_L_law_679 fu n a0 a1 a2 a3 w).symm.trans g⟩
  rcases c_some h with ⟨rfl, h⟩ | h
  · obtain ⟨a0, h0, h⟩ := some_of h; obtain ⟨a1, h1, h⟩ := some_of h; obtain ⟨a2, h2, h⟩ := some_of h; obtain ⟨a3, h3, h⟩ := some_of h;
    obtain ⟨e, g⟩ := skN_of h
    subst e
    exact ⟨[(0, .ref a0), (1, .ref a1), (2, .ref a2), (3, .int a3)], cons_all (xr_of h0) (cons_all (xr_of h1) (cons_all (xr_of h2) (cons_all (xi_of h3) (nil_all)))), (E_L_law_712 fu n a0 a1 a2 a3 w).symm.trans g⟩
  rcases c_some h with ⟨rfl, h⟩ | h
  · obtain ⟨a0, h0, h⟩ := some_of h; obtain ⟨a1, h1, h⟩ := some_of h; obtain ⟨a2, h2, h⟩ := some_of h; obtain ⟨a3, h3, h⟩ := some_of h;
    obtain ⟨e, g⟩ := skN_of h
    subst e
    exact ⟨[(0, .ref a0), (1, .ref a1), (2, .ref a2), (3, .int a3)], cons_all (xr_of h0) (cons_all (xr_of h1) (cons_all (xr_of h2) (cons_all (xi_of h3) (nil_all)))), (E_L_law_775 fu n a0 a1 a2 a3 w).symm.trans g⟩
  rcases c_some h with ⟨rfl, h⟩ | h
  · obtain ⟨a0, h0, h⟩ := some_of h; obtain ⟨a1, h1, h⟩ := some_of h; obtain ⟨a2, h2, h⟩ := some_of h; obtain ⟨a3, h3, h⟩ := some_of h;
    obtain ⟨e, g⟩ := skN_of h
    subst e
    exact ⟨[(0, .ref a0), (1, .ref a1), (2, .ref a2), (3, .int a3)], cons_all (xr_of h0) (cons_all (xr_of h1) (cons_all (xr_of h2) (cons_all (xi_of h3) (nil_all)))), (E_L_law_808 fu n a0 a1 a2 a3 w).symm.trans g⟩
  rcases c_some h with ⟨rfl, h⟩ | h
  · obtain ⟨a0, h0, h⟩ := some_of h; obtain ⟨a1, h1, h⟩ := some_of h; obtain ⟨a2, h2, h⟩ := some_of h; obtain ⟨a3, h3, h⟩ := some_of h;
    obtain ⟨e, g⟩ := skN_of h
    subst e
    exact ⟨[(0, .ref a0), (1, .ref a1), (2, .ref a2), (3, .int a3)], cons_all (xr_of h0) (cons_all (xr_of h1) (cons_all (xr_of h2) (cons_all (xi_of h3) (nil_all)))), (E_L_law_841 fu n a0 a1 a2 a3 w).symm.trans g⟩
  rcases c_some h with ⟨rfl, h⟩ | h
  · obtain ⟨a0, h0, h⟩ := some_of h; obtain ⟨a1, h1, h⟩ := some_of h; obtain ⟨a2, h2, h⟩ := some_of h; obtain ⟨a3, h3, h⟩ := some_of h;
    obtain ⟨e, g⟩ := skN_of h
    subst e
    exact ⟨[(0, .ref a0), (1, .ref a1), (2, .ref a2), (3, .int a3)], cons_all (xr_of h0) (cons_all (xr_of h1) (cons_all (xr_of h2) (cons_all (xi_of h3) (nil_all)))), (E_L_law_884 fu n a0 a1 a2 a3 w).symm.trans g⟩
  rcases c_some h with ⟨rfl, h⟩ | h
  · obtain ⟨a0, h0, h⟩ := some_of h; obtain ⟨a1, h1, h⟩ := some_of h; obtain ⟨a2, h2, h⟩ := some_of h; obtain ⟨a3, h3, h⟩ := some_of h;
    obtain ⟨e, g⟩ := skN_of h
    subst e
    exact ⟨[(0, .ref a0), (1, .ref a1), (2, .ref a2), (3, .int a3)], cons_all (xr_of h0) (cons_all (xr_of h1) (cons_all (xr_of h2) (cons_all (xi_of h3) (nil_all)))), (E_L_law_917 fu n a0 a1 a2 a3 w).symm.trans g⟩
  rcases c_some h with ⟨rfl, h⟩ | h
  · obtain ⟨a0, h0, h⟩ := some_of h; obtain ⟨a1, h1, h⟩ := some_of h; obtain ⟨a2, h2, h⟩ := some_of h; obtain ⟨a3, h3, h⟩ := some_of h;
    obtain ⟨e, g⟩ := skN_of h
    subst e
    exact ⟨[(0, .ref a0), (1, .ref a1), (2, .ref a2), (3, .int a3)], cons_all (xr_of h0) (cons_all (xr_of h1) (cons_all (xr_of h2) (cons_all (xi_of h3) (nil_all)))), (E_L_law_960 fu n a0 a1 a2 a3 w).symm.trans g⟩
  rcases c_some h with ⟨rfl, h⟩ | h
  · obtain ⟨a0, h0, h⟩ := some_of h; obtain ⟨a1, h1, h⟩ := some_of h; obtain ⟨a2, h2, h⟩ := some_of h; obtain ⟨a3, h3, h⟩ := some_of h;
    obtain ⟨e, g⟩ := skN_of h
    subst e
    exact ⟨[(0, .ref a0), (1, .ref a1), (2, .ref a2), (3, .int a3)], cons_all (xr_of h0) (cons_all (xr_of h1) (cons_all (xr_of h2) (cons_all (xi_of h3) (nil_all)))), (E_L_law_1013 fu n a0 a1 a2 a3 w).symm.trans g⟩
  rcases c_some h with ⟨rfl, h⟩ | h
  · obtain ⟨a0, h0, h⟩ := some_of h; obtain ⟨a1, h1, h⟩ := some_of h; obtain ⟨a2, h2, h⟩ := some_of h; obtain ⟨a3, h3, h⟩ := some_of h;
    obtain ⟨e, g⟩ := skN_of h
    subst e
    exact ⟨[(0, .ref a0), (1, .ref a1), (2, .ref a2), (3, .int a3)], cons_all (xr_of h0) (cons_all (xr_of h1) (cons_all (xr_of h2) (cons_all (xi_of h3) (nil_all)))), (E_L_law_1036 fu n a0 a1 a2 a3 w).symm.trans g⟩
  rcases c_some h with ⟨rfl, h⟩ | h
  · obtain ⟨a0, h0, h⟩ := some_of h; obtain ⟨a1, h1, h⟩ := some_of h; obtain ⟨a2, h2, h⟩ := some_of h; obtain ⟨a3, h3, h⟩ := some_of h;
    obtain ⟨e, g⟩ := skN_of h
    subst e
    exact ⟨[(0, .ref a0), (1, .ref a1), (2, .ref a2), (3, .int a3)], cons_all (xr_of h0) (cons_all (xr_of h1) (cons_all (xr_of h2) (cons_all (xi_of h3) (nil_all)))), (E_L_law_1069 fu n a0 a1 a2 a3 w).symm.trans g⟩
  rcases c_some h with ⟨rfl, h⟩ | h
  · obtain ⟨a0, h0, h⟩ := some_of h; obtain ⟨a1, h1, h⟩ := some_of h; obtain ⟨a2, h2, h⟩ := some_of h; obtain ⟨a3, h3, h⟩ := some_of h;
    obtain ⟨e, g⟩ := skN_of h
    subst e
    exact ⟨[(0, .ref a0), (1, .ref a1), (2, .ref a2), (3, .int a3)], cons_all (xr_of h0) (cons_all (xr_of h1) (cons_all (xr_of h2) (cons_all (xi_of h3) (nil_all)))), (E_L_law_1102 fu n a0 a1 a2 a3 w).symm.trans g⟩
  rcases c_some h with ⟨rfl, h⟩ | h
  · obtain ⟨a0, h0, h⟩ := some_of h; obtain ⟨a1, h1, h⟩ := some_of h; obtain ⟨a2, h2, h⟩ := some_of h; obtain ⟨a3, h3, h⟩ := some_of h;
    obtain ⟨e, g⟩ := skN_of h
    subst e
    exact ⟨[(0, .ref a0), (1, .ref a1), (2, .ref a2), (3, .int a3)], cons_all (xr_of h0) (cons_all (xr_of h1) (cons_all (xr_of h2) (cons_all (xi_of h3) (nil_all)))), (E_L_law_1178 fu n a0 a1 a2 a3 w).symm.trans g⟩
  rcases c_some h with ⟨rfl, h⟩ | h
  · obtain ⟨a0, h0, h⟩ := some_of h; obtain ⟨a1, h1, h⟩ := some_of h; obtain ⟨a2, h2, h⟩ := some_of h; obtain ⟨a3, h3, h⟩ := some_of h;
    obtain ⟨e, g⟩ := skN_of h
    subst e
    exact ⟨[(0, .ref a0), (1, .ref a1), (2, .ref a2), (3, .int a3)], cons_all (xr_of h0) (cons_all (xr_of h1) (cons_all (xr_of h2) (cons_all (xi_of h3) (nil_all)))), (E_L_law_1221 fu n a0 a1 a2 a3 w).symm.trans g⟩
  rcases c_some h with ⟨rfl, h⟩ | h
  · obtain ⟨a0, h0, h⟩ := some_of h; obtain ⟨a1, h1, h⟩ := some_of h; obtain ⟨a2, h2, h⟩ := some_of h; obtain ⟨a3, h3, h⟩ := some_of h;
    obtain ⟨e, g⟩ := skN_of h
    subst e
    exact ⟨[(0, .ref a0), (1, .ref a1), (2, .ref a2), (3, .int a3)], cons_all (xr_of h0) (cons_all (xr_of h1) (cons_all (xr_of h2) (cons_all (xi_of h3) (nil_all)))), (E_L_law_1244 fu n a0 a1 a2 a3 w).symm.trans g⟩
  rcases c_some h with ⟨rfl, h⟩ | h
  · obtain ⟨a0, h0, h⟩ := some_of h; obtain ⟨a1, h1, h⟩ := some_of h; obtain ⟨a2, h2, h⟩ := some_of h; obtain ⟨a3, h3, h⟩ := some_of h;
    obtain ⟨e, g⟩ := skN_of h
    subst e
    exact ⟨[(0, .ref a0), (1, .ref a1), (2, .ref a2), (3, .int a3)], cons_all (xr_of h0) (cons_all (xr_of h1) (cons_all (xr_of h2) (cons_all (xi_of h3) (nil_all)))), (E_L_law_1287 fu n a0 a1 a2 a3 w).symm.trans g⟩
  rcases c_some h with ⟨rfl, h⟩ | h
  · obtain ⟨a0, h0, h⟩ := some_of h; obtain ⟨a1, h1, h⟩ := some_of h; obtain ⟨a2, h2, h⟩ := some_of h; obtain ⟨a3, h3, h⟩ := some_of h;
    obtain ⟨e, g⟩ := skN_of h
    subst e
    exact ⟨[(0, .ref a0), (1, .ref a1), (2, .ref a2), (3, .int a3)], cons_all (xr_of h0) (cons_all (xr_of h1) (cons_all (xr_of h2) (cons_all (xi_of h3) (nil_all)))), (E_L_law_1331 fu n a0 a1 a2 a3 w).symm.trans g⟩
  rcases c_some h with ⟨rfl, h⟩ | h
  · obtain ⟨a0, h0, h⟩ := some_of h; obtain ⟨a1, h1, h⟩ := some_of h; obtain ⟨a2, h2, h⟩ := some_of h; obtain ⟨a3, h3, h⟩ := some_of h;
    obtain ⟨e, g⟩ := skN_of h
    subst e
    exact ⟨[(0, .ref a0), (1, .ref a1), (2, .ref a2), (3, .int a3)], cons_all (xr_of h0) (cons_all (xr_of h1) (cons_all (xr_of h2) (cons_all (xi_of h3) (nil_all)))), (E_L_law_1394 fu n a0 a1 a2 a3 w).symm.trans g⟩
  rcases c_some h with ⟨rfl, h⟩ | h
  · obtain ⟨a0, h0, h⟩ := some_of h; obtain ⟨a1, h1, h⟩ := some_of h; obtain ⟨a2, h2, h⟩ := some_of h; obtain ⟨a3, h3, h⟩ := some_of h;
    obtain ⟨e, g⟩ := skN_of h
    subst e
    exact ⟨[(0, .ref a0), (1, .ref a1), (2, .ref a2), (3, .int a3)], cons_all (xr_of h0) (cons_all (xr_of h1) (cons_all (xr_of h2) (cons_all (xi_of h3) (nil_all)))), (E_L_law_1417 fu n a0 a1 a2 a3 w).symm.trans g⟩
  rcases c_some h with ⟨rfl, h⟩ | h
  · obtain ⟨a0, h0, h⟩ := some_of h; obtain ⟨a1, h1, h⟩ := some_of h; obtain ⟨a2, h2, h⟩ := some_of h; obtain ⟨a3, h3, h⟩ := some_of h;
    obtain ⟨e, g⟩ := skN_of h
    subst e
    exact ⟨[(0, .ref a0), (1, .ref a1), (2, .ref a2), (3, .int a3)], cons_all (xr_of h0) (cons_all (xr_of h1) (cons_all (xr_of h2) (cons_all (xi_of h3) (nil_all)))), (E_L_law_1440 fu n a0 a1 a2 a3 w).symm.trans g⟩
  rcases c_some h with ⟨rfl, h⟩ | h
  · obtain ⟨a0, h0, h⟩ := some_of h; obtain ⟨a1, h1, h⟩ := some_of h; obtain ⟨a2, h2, h⟩ := some_of h; obtain ⟨a3, h3, h⟩ := some_of h;
    obtain ⟨e, g⟩ := skN_of h
    subst e
    exact ⟨[(0, .ref a0), (1, .ref a1), (2, .ref a2), (3, .int a3)], cons_all (xr_of h0) (cons_all (xr_of h1) (cons_all (xr_of h2) (cons_all (xi_of h3) (nil_all)))), (E_L_law_1473 fu n a0 a1 a2 a3 w).symm.trans g⟩
  rcases c_some h with ⟨rfl, h⟩ | h
  · obtain ⟨a0, h0, h⟩ := some_of h; obtain ⟨a1, h1, h⟩ := some_of h; obtain ⟨a2, h2, h⟩ := some_of h; obtain ⟨a3, h3, h⟩ := some_of h;
    obtain ⟨e, g⟩ := skN_of h
    subst e
    exact ⟨[(0, .ref a0), (1, .ref a1), (2, .ref a2), (3, .int a3)], cons_all (xr_of h0) (cons_all (xr_of h1) (cons_all (xr_of h2) (cons_all (xi_of h3) (nil_all)))), (E_L_law_1486 fu n a0 a1 a2 a3 w).symm.trans g⟩
  rcases c_some h with ⟨rfl, h⟩ | h
  · obtain ⟨a0, h0, h⟩ := some_of h; obtain ⟨a1, h1, h⟩ := some_of h; obtain ⟨a2, h2, h⟩ := some_of h; obtain ⟨a3, h3, h⟩ := some_of h;
    obtain ⟨e, g⟩ := skN_of h
    subst e
    exact ⟨[(0, .ref a0), (1, .ref a1), (2, .ref a2), (3, .int a3)], cons_all (xr_of h0) (cons_all (xr_of h1) (cons_all (xr_of h2) (cons_all (xi_of h3) (nil_all)))), (E_L_law_1499 fu n a0 a1 a2 a3 w).symm.trans g⟩
  rcases c_some h with ⟨rfl, h⟩ | h
  · obtain ⟨a0, h0, h⟩ := some_of h; obtain ⟨a1, h1, h⟩ := some_of h; obtain ⟨a2, h2, h⟩ := some_of h; obtain ⟨a3, h3, h⟩ := some_of h;
    obtain ⟨e, g⟩ := skN_of h
    subst e
    exact ⟨[(0, .ref a0), (1, .ref a1), (2, .ref a2), (3, .int a3)], cons_all (xr_of h0) (cons_all (xr_of h1) (cons_all (xr_of h2) (cons_all (xi_of h3) (nil_all)))), (E_L_law_1522 fu n a0 a1 a2 a3 w).symm.trans g⟩
  · cases h
set_option maxRecDepth 100000 in
set_option maxHeartbeats 4000000 in
theorem V_L_law (fu : Nat) {l : Launch} {D : va_G} {cA : Nat → ClassId} {base b : Nat} : ∀ q ∈ ([(13, 5, 1, (U_X7_brook fu)), (17, 5, 1, (U_X8_brook fu)), (18, 3, 1, (U_X7_ofCell fu)), (22, 3, 1, (U_X8_ofCell fu)), (23, 3, 1, (U_X7_guard fu)), (27, 3, 1, (U_X8_guard fu)), (28, 2, 1, (U_X7_water fu)), (32, 2, 1, (U_X8_water fu)), (33, 5, 1, (U_X7_stone fu)), (36, 5, 1, (U_X8_stone fu)), (37, 3, 1, (U_X7_ofStone fu)), (40, 3, 1, (U_X8_ofStone fu)), (41, 3, 1, (U_X7_set fu)), (44, 3, 1, (U_X8_set fu)), (45, 3, 1, (U_X7_work fu)), (48, 3, 1, (U_X8_work fu)), (49, 2, 1, (U_X7_walker fu)), (52, 2, 1, (U_X8_walker fu)), (53, 2, 1, (U_X7_stride fu)), (56, 2, 1, (U_X8_stride fu)), (57, 3, 1, (U_X7_can fu)), (60, 3, 1, (U_X8_can fu)), (61, 3, 1, (U_X7_way fu)), (64, 3, 1, (U_X8_way fu)), (65, 3, 1, (U_X7_highest fu)), (68, 3, 1, (U_X8_highest fu)), (69, 3, 1, (U_X7_pass fu)), (72, 3, 1, (U_X8_pass fu)), (73, 6, 1, (U_X7_days fu)), (77, 6, 1, (U_X8_days fu)), (78, 3, 1, (U_X7_stands fu)), (81, 3, 1, (U_X8_stands fu)), (82, 3, 1, (U_X7_goes fu)), (85, 3, 1, (U_X8_goes fu)), (86, 4, 1, (U_X7_dug fu)), (90, 4, 1, (U_X8_dug fu)), (91, 3, 1, (U_X7_flood fu)), (94, 3, 1, (U_X8_flood fu)), (95, 4, 1, (U_X7_save fu)), (98, 4, 1, (U_X8_save fu)), (99, 5, 1, (U_X7_plan fu)), (102, 5, 1, (U_X8_plan fu)), (103, 2, 1, (U_X7_orders fu)), (106, 2, 1, (U_X8_orders fu)), (107, 3, 1, (U_X7_order fu)), (110, 3, 1, (U_X8_order fu)), (111, 3, 1, (U_X7_fits fu)), (114, 3, 1, (U_X8_fits fu)), (115, 7, 2, (U_X7_odds fu)), (119, 7, 2, (U_X8_odds fu)), (120, 4, 1, (U_X7_sheet fu)), (123, 4, 1, (U_X8_sheet fu)), (124, 2, 1, (U_X7_lose fu)), (127, 2, 1, (U_X8_lose fu)), (128, 4, 1, (U_X7_put fu)), (131, 4, 1, (U_X8_put fu)), (132, 4, 2, (U_X7_cell fu)), (136, 4, 2, (U_X8_cell fu)), (137, 6, 1, (U_X7_copy fu)), (140, 6, 1, (U_X8_copy fu)), (141, 2, 1, (U_X7_tell fu)), (144, 2, 1, (U_X8_tell fu)), (145, 2, 1, (U_X7_tread fu)), (148, 2, 1, (U_X8_tread fu)), (149, 3, 1, (U_X7_as fu)), (152, 3, 1, (U_X8_as fu)), (153, 1, 1, (U_X7_trace fu)), (157, 1, 1, (U_X8_trace fu)), (158, 1, 1, (U_X7_fault fu)), (161, 1, 1, (U_X8_fault fu)), (162, 2, 1, (U_X7_many fu)), (165, 2, 1, (U_X8_many fu))] : List (Nat × Nat × Nat × Orc)), vOK l D cA base b 16 "BrookStonesLaw" q ∧ OM q.2.2.2 := cons_all (⟨⟨show (1 : Nat) ≠ 3 by decide, y_X7_brook, prog_1_method_2_code, 7, (some .int), 5, "BrookStones", 6, TX7, 8, 4, (S_X7_brook fu (l := l) (D := D) (cA := cA) (base := base) (b := b)).1, by decide, by decide, rfl, H_X7_brook fu, rfl, mi_X7_brook.1, mi_X7_brook.2.1, mi_X7_brook.2.2.1, mi_X7_brook.2.2.2.1, mi_X7_brook.2.2.2.2, Or.inl (tblG_of (i := 244) rfl rfl)⟩, (S_X7_brook fu (l := l) (D := D) (cA := cA) (base := base) (b := b)).2⟩) (cons_all (⟨⟨show (1 : Nat) ≠ 3 by decide, y_X8_brook, prog_10_method_13_code, 8, (some .int), 4, "BrookStones", 7, TX8, 37, 4, (S_X8_brook fu (l := l) (D := D) (cA := cA) (base := base) (b := b)).1, by decide, by decide, rfl, H_X8_brook fu, rfl, mi_X8_brook.1, mi_X8_brook.2.1, mi_X8_brook.2.2.1, mi_X8_brook.2.2.2.1, mi_X8_brook.2.2.2.2, Or.inl (tblG_of (i := 854) rfl rfl)⟩, (S_X8_brook fu (l := l) (D := D) (cA := cA) (base := base) (b := b)).2⟩) (cons_all (⟨⟨show (1 : Nat) ≠ 3 by decide, y_X7_ofCell, prog_1_method_3_code, 4, (some .int), 2, "BrookStones", 6, TX7, 8, 2, (S_X7_ofCell fu (l := l) (D := D) (cA := cA) (base := base) (b := b)).1, by decide, by decide, rfl, H_X7_ofCell fu, rfl, mi_X7_ofCell.1, mi_X7_ofCell.2.1, mi_X7_ofCell.2.2.1, mi_X7_ofCell.2.2.2.1, mi_X7_ofCell.2.2.2.2, Or.inl (tblG_of (i := 310) rfl rfl)⟩, (S_X7_ofCell fu (l := l) (D := D) (cA := cA) (base := base) (b := b)).2⟩) (cons_all (⟨⟨show (1 : Nat) ≠ 3 by decide, y_X8_ofCell, prog_10_method_16_code, 3, (some .int), 2, "BrookStones", 7, TX8, 37, 2, (S_X8_ofCell fu (l := l) (D := D) (cA := cA) (base := base) (b := b)).1, by decide, by decide, rfl, H_X8_ofCell fu, rfl, mi_X8_ofCell.1, mi_X8_ofCell.2.1, mi_X8_ofCell.2.2.1, mi_X8_ofCell.2.2.2.1, mi_X8_ofCell.2.2.2.2, Or.inl (tblG_of (i := 887) rfl rfl)⟩, (S_X8_ofCell fu (l := l) (D := D) (cA := cA) (base := base) (b := b)).2⟩) (cons_all (⟨⟨show (1 : Nat) ≠ 3 by decide, y_X7_guard, prog_1_method_4_code, 3, (some .int), 2, "BrookStones", 6, TX7, 8, 2, (S_X7_guard fu (l := l) (D := D) (cA := cA) (base := base) (b := b)).1, by decide, by decide, rfl, H_X7_guard fu, rfl, mi_X7_guard.1, mi_X7_guard.2.1, mi_X7_guard.2.2.1, mi_X7_guard.2.2.2.1, mi_X7_guard.2.2.2.2, Or.inl (tblG_of (i := 325) rfl rfl)⟩, (S_X7_guard fu (l := l) (D := D) (cA := cA) (base := base) (b := b)).2⟩) (cons_all (⟨⟨show (1 : Nat) ≠ 3 by decide, y_X8_guard, prog_10_method_17_code, 3, (some .int), 2, "BrookStones", 7, TX8, 37, 2, (S_X8_guard fu (l := l) (D := D) (cA := cA) (base := base) (b := b)).1, by decide, by decide, rfl, H_X8_guard fu, rfl, mi_X8_guard.1, mi_X8_guard.2.1, mi_X8_guard.2.2.1, mi_X8_guard.2.2.2.1, mi_X8_guard.2.2.2.2, Or.inl (tblG_of (i := 899) rfl rfl)⟩, (S_X8_guard fu (l := l) (D := D) (cA := cA) (base := base) (b := b)).2⟩) (cons_all (⟨⟨show (1 : Nat) ≠ 3 by decide, y_X7_water, prog_1_method_5_code, 3, (some .int), 2, "BrookStones", 6, TX7, 8, 1, (S_X7_water fu (l := l) (D := D) (cA := cA) (base := base) (b := b)).1, by decide, by decide, rfl, H_X7_water fu, rfl, mi_X7_water.1, mi_X7_water.2.1, mi_X7_water.2.2.1, mi_X7_water.2.2.2.1, mi_X7_water.2.2.2.2, Or.inl (tblG_of (i := 329) rfl rfl)⟩, (S_X7_water fu (l := l) (D := D) (cA := cA) (base := base) (b := b)).2⟩) (cons_all (⟨⟨show (1 : Nat) ≠ 3 by decide, y_X8_water, prog_10_method_18_code, 3, (some .int), 2, "BrookStones", 7, TX8, 37, 1, (S_X8_water fu (l := l) (D := D) (cA := cA) (base := base) (b := b)).1, by decide, by decide, rfl, H_X8_water fu, rfl, mi_X8_water.1, mi_X8_water.2.1, mi_X8_water.2.2.1, mi_X8_water.2.2.2.1, mi_X8_water.2.2.2.2, Or.inl (tblG_of (i := 903) rfl rfl)⟩, (S_X8_water fu (l := l) (D := D) (cA := cA) (base := base) (b := b)).2⟩) (cons_all (⟨⟨show (1 : Nat) ≠ 3 by decide, y_X7_stone, prog_1_method_6_code, 5, (some .int), 2, "BrookStones", 6, TX7, 8, 4, (S_X7_stone fu (l := l) (D := D) (cA := cA) (base := base) (b := b)).1, by decide, by decide, rfl, H_X7_stone fu, rfl, mi_X7_stone.1, mi_X7_stone.2.1, mi_X7_stone.2.2.1, mi_X7_stone.2.2.2.1, mi_X7_stone.2.2.2.2, Or.inl (tblG_of (i := 338) rfl rfl)⟩, (S_X7_stone fu (l := l) (D := D) (cA := cA) (base := base) (b := b)).2⟩) (cons_all (⟨⟨show (1 : Nat) ≠ 3 by decide, y_X8_stone, prog_10_method_20_code, 5, (some .int), 2, "BrookStones", 7, TX8, 37, 4, (S_X8_stone fu (l := l) (D := D) (cA := cA) (base := base) (b := b)).1, by decide, by decide, rfl, H_X8_stone fu, rfl, mi_X8_stone.1, mi_X8_stone.2.1, mi_X8_stone.2.2.1, mi_X8_stone.2.2.2.1, mi_X8_stone.2.2.2.2, Or.inl (tblG_of (i := 907) rfl rfl)⟩, (S_X8_stone fu (l := l) (D := D) (cA := cA) (base := base) (b := b)).2⟩) (cons_all (⟨⟨show (1 : Nat) ≠ 3 by decide, y_X7_ofStone, prog_1_method_7_code, 3, (some .int), 2, "BrookStones", 6, TX7, 8, 2, (S_X7_ofStone fu (l := l) (D := D) (cA := cA) (base := base) (b := b)).1, by decide, by decide, rfl, H_X7_ofStone fu, rfl, mi_X7_ofStone.1, mi_X7_ofStone.2.1, mi_X7_ofStone.2.2.1, mi_X7_ofStone.2.2.2.1, mi_X7_ofStone.2.2.2.2, Or.inl (tblG_of (i := 346) rfl rfl)⟩, (S_X7_ofStone fu (l := l) (D := D) (cA := cA) (base := base) (b := b)).2⟩) (cons_all (⟨⟨show (1 : Nat) ≠ 3 by decide, y_X8_ofStone, prog_10_method_22_code, 3, (some .int), 2, "BrookStones", 7, TX8, 37, 2, (S_X8_ofStone fu (l := l) (D := D) (cA := cA) (base := base) (b := b)).1, by decide, by decide, rfl, H_X8_ofStone fu, rfl, mi_X8_ofStone.1, mi_X8_ofStone.2.1, mi_X8_ofStone.2.2.1, mi_X8_ofStone.2.2.2.1, mi_X8_ofStone.2.2.2.2, Or.inl (tblG_of (i := 911) rfl rfl)⟩, (S_X8_ofStone fu (l := l) (D := D) (cA := cA) (base := base) (b := b)).2⟩) (cons_all (⟨⟨show (1 : Nat) ≠ 3 by decide, y_X7_set, prog_1_method_8_code, 3, (some .int), 3, "BrookStones", 6, TX7, 8, 2, (S_X7_set fu (l := l) (D := D) (cA := cA) (base := base) (b := b)).1, by decide, by decide, rfl, H_X7_set fu, rfl, mi_X7_set.1, mi_X7_set.2.1, mi_X7_set.2.2.1, mi_X7_set.2.2.2.1, mi_X7_set.2.2.2.2, Or.inl (tblG_of (i := 362) rfl rfl)⟩, (S_X7_set fu (l := l) (D := D) (cA := cA) (base := base) (b := b)).2⟩) (cons_all (⟨⟨show (1 : Nat) ≠ 3 by decide, y_X8_set, prog_10_method_23_code, 3, (some .int), 2, "BrookStones", 7, TX8, 37, 2, (S_X8_set fu (l := l) (D := D) (cA := cA) (base := base) (b := b)).1, by decide, by decide, rfl, H_X8_set fu, rfl, mi_X8_set.1, mi_X8_set.2.1, mi_X8_set.2.2.1, mi_X8_set.2.2.2.1, mi_X8_set.2.2.2.2, Or.inl (tblG_of (i := 923) rfl rfl)⟩, (S_X8_set fu (l := l) (D := D) (cA := cA) (base := base) (b := b)).2⟩) (cons_all (⟨⟨show (1 : Nat) ≠ 3 by decide, y_X7_work, prog_1_method_9_code, 3, (some .int), 2, "BrookStones", 6, TX7, 8, 2, (S_X7_work fu (l := l) (D := D) (cA := cA) (base := base) (b := b)).1, by decide, by decide, rfl, H_X7_work fu, rfl, mi_X7_work.1, mi_X7_work.2.1, mi_X7_work.2.2.1, mi_X7_work.2.2.2.1, mi_X7_work.2.2.2.2, Or.inl (tblG_of (i := 371) rfl rfl)⟩, (S_X7_work fu (l := l) (D := D) (cA := cA) (base := base) (b := b)).2⟩) (cons_all (⟨⟨show (1 : Nat) ≠ 3 by decide, y_X8_work, prog_10_method_25_code, 3, (some .int), 2, "BrookStones", 7, TX8, 37, 2, (S_X8_work fu (l := l) (D := D) (cA := cA) (base := base) (b := b)).1, by decide, by decide, rfl, H_X8_work fu, rfl, mi_X8_work.1, mi_X8_work.2.1, mi_X8_work.2.2.1, mi_X8_work.2.2.2.1, mi_X8_work.2.2.2.2, Or.inl (tblG_of (i := 927) rfl rfl)⟩, (S_X8_work fu (l := l) (D := D) (cA := cA) (base := base) (b := b)).2⟩) (cons_all (⟨⟨show (1 : Nat) ≠ 3 by decide, y_X7_walker, prog_1_method_10_code, 2, (some .int), 2, "BrookStones", 6, TX7, 8, 1, (S_X7_walker fu (l := l) (D := D) (cA := cA) (base := base) (b := b)).1, by decide, by decide, rfl, H_X7_walker fu, rfl, mi_X7_walker.1, mi_X7_walker.2.1, mi_X7_walker.2.2.1, mi_X7_walker.2.2.2.1, mi_X7_walker.2.2.2.2, Or.inl (tblG_of (i := 379) rfl rfl)⟩, (S_X7_walker fu (l := l) (D := D) (cA := cA) (base := base) (b := b)).2⟩) (cons_all (⟨⟨show (1 : Nat) ≠ 3 by decide, y_X8_walker, prog_10_method_27_code, 2, (some .int), 2, "BrookStones", 7, TX8, 37, 1, (S_X8_walker fu (l := l) (D := D) (cA := cA) (base := base) (b := b)).1, by decide, by decide, rfl, H_X8_walker fu, rfl, mi_X8_walker.1, mi_X8_walker.2.1, mi_X8_walker.2.2.1, mi_X8_walker.2.2.2.1, mi_X8_walker.2.2.2.2, Or.inl (tblG_of (i := 935) rfl rfl)⟩, (S_X8_walker fu (l := l) (D := D) (cA := cA) (base := base) (b := b)).2⟩) (cons_all (⟨⟨show (1 : Nat) ≠ 3 by decide, y_X7_stride, prog_1_method_11_code, 2, (some .int), 2, "BrookStones", 6, TX7, 8, 1, (S_X7_stride fu (l := l) (D := D) (cA := cA) (base := base) (b := b)).1, by decide, by decide, rfl, H_X7_stride fu, rfl, mi_X7_stride.1, mi_X7_stride.2.1, mi_X7_stride.2.2.1, mi_X7_stride.2.2.2.1, mi_X7_stride.2.2.2.2, Or.inl (tblG_of (i := 387) rfl rfl)⟩, (S_X7_stride fu (l := l) (D := D) (cA := cA) (base := base) (b := b)).2⟩) (cons_all (⟨⟨show (1 : Nat) ≠ 3 by decide, y_X8_stride, prog_10_method_28_code, 2, (some .int), 2, "BrookStones", 7, TX8, 37, 1, (S_X8_stride fu (l := l) (D := D) (cA := cA) (base := base) (b := b)).1, by decide, by decide, rfl, H_X8_stride fu, rfl, mi_X8_stride.1, mi_X8_stride.2.1, mi_X8_stride.2.2.1, mi_X8_stride.2.2.2.1, mi_X8_stride.2.2.2.2, Or.inl (tblG_of (i := 939) rfl rfl)⟩, (S_X8_stride fu (l := l) (D := D) (cA := cA) (base := base) (b := b)).2⟩) (cons_all (⟨⟨show (1 : Nat) ≠ 3 by decide, y_X7_can, prog_1_method_12_code, 3, (some .int), 4, "BrookStones", 6, TX7, 8, 2, (S_X7_can fu (l := l) (D := D) (cA := cA) (base := base) (b := b)).1, by decide, by decide, rfl, H_X7_can fu, rfl, mi_X7_can.1, mi_X7_can.2.1, mi_X7_can.2.2.1, mi_X7_can.2.2.2.1, mi_X7_can.2.2.2.2, Or.inl (tblG_of (i := 395) rfl rfl)⟩, (S_X7_can fu (l := l) (D := D) (cA := cA) (base := base) (b := b)).2⟩) (cons_all (⟨⟨show (1 : Nat) ≠ 3 by decide, y_X8_can, prog_10_method_37_code, 3, (some .int), 6, "BrookStones", 7, TX8, 37, 2, (S_X8_can fu (l := l) (D := D) (cA := cA) (base := base) (b := b)).1, by decide, by decide, rfl, H_X8_can fu, rfl, mi_X8_can.1, mi_X8_can.2.1, mi_X8_can.2.2.1, mi_X8_can.2.2.2.1, mi_X8_can.2.2.2.2, Or.inl (tblG_of (i := 947) rfl rfl)⟩, (S_X8_can fu (l := l) (D := D) (cA := cA) (base := base) (b := b)).2⟩) (cons_all (⟨⟨show (1 : Nat) ≠ 3 by decide, y_X7_way, prog_1_method_13_code, 4, (some .int), 5, "BrookStones", 6, TX7, 8, 2, (S_X7_way fu (l := l) (D := D) (cA := cA) (base := base) (b := b)).1, by decide, by decide, rfl, H_X7_way fu, rfl, mi_X7_way.1, mi_X7_way.2.1, mi_X7_way.2.2.1, mi_X7_way.2.2.2.1, mi_X7_way.2.2.2.2, Or.inl (tblG_of (i := 423) rfl rfl)⟩, (S_X7_way fu (l := l) (D := D) (cA := cA) (base := base) (b := b)).2⟩) (cons_all (⟨⟨show (1 : Nat) ≠ 3 by decide, y_X8_way, prog_10_method_38_code, 7, (some .int), 5, "BrookStones", 7, TX8, 37, 2, (S_X8_way fu (l := l) (D := D) (cA := cA) (base := base) (b := b)).1, by decide, by decide, rfl, H_X8_way fu, rfl, mi_X8_way.1, mi_X8_way.2.1, mi_X8_way.2.2.1, mi_X8_way.2.2.2.1, mi_X8_way.2.2.2.2, Or.inl (tblG_of (i := 984) rfl rfl)⟩, (S_X8_way fu (l := l) (D := D) (cA := cA) (base := base) (b := b)).2⟩) (cons_all (⟨⟨show (1 : Nat) ≠ 3 by decide, y_X7_highest, prog_1_method_14_code, 4, (some .int), 4, "BrookStones", 6, TX7, 8, 2, (S_X7_highest fu (l := l) (D := D) (cA := cA) (base := base) (b := b)).1, by decide, by decide, rfl, H_X7_highest fu, rfl, mi_X7_highest.1, mi_X7_highest.2.1, mi_X7_highest.2.2.1, mi_X7_highest.2.2.2.1, mi_X7_highest.2.2.2.2, Or.inl (tblG_of (i := 447) rfl rfl)⟩, (S_X7_highest fu (l := l) (D := D) (cA := cA) (base := base) (b := b)).2⟩) (cons_all (⟨⟨show (1 : Nat) ≠ 3 by decide, y_X8_highest, prog_10_method_39_code, 5, (some .int), 6, "BrookStones", 7, TX8, 37, 2, (S_X8_highest fu (l := l) (D := D) (cA := cA) (base := base) (b := b)).1, by decide, by decide, rfl, H_X8_highest fu, rfl, mi_X8_highest.1, mi_X8_highest.2.1, mi_X8_highest.2.2.1, mi_X8_highest.2.2.2.1, mi_X8_highest.2.2.2.2, Or.inl (tblG_of (i := 988) rfl rfl)⟩, (S_X8_highest fu (l := l) (D := D) (cA := cA) (base := base) (b := b)).2⟩) (cons_all (⟨⟨show (1 : Nat) ≠ 3 by decide, y_X7_pass, prog_1_method_15_code, 4, (some .int), 4, "BrookStones", 6, TX7, 8, 2, (S_X7_pass fu (l := l) (D := D) (cA := cA) (base := base) (b := b)).1, by decide, by decide, rfl, H_X7_pass fu, rfl, mi_X7_pass.1, mi_X7_pass.2.1, mi_X7_pass.2.2.1, mi_X7_pass.2.2.2.1, mi_X7_pass.2.2.2.2, Or.inl (tblG_of (i := 451) rfl rfl)⟩, (S_X7_pass fu (l := l) (D := D) (cA := cA) (base := base) (b := b)).2⟩) (cons_all (⟨⟨show (1 : Nat) ≠ 3 by decide, y_X8_pass, prog_10_method_41_code, 6, (some .int), 6, "BrookStones", 7, TX8, 37, 2, (S_X8_pass fu (l := l) (D := D) (cA := cA) (base := base) (b := b)).1, by decide, by decide, rfl, H_X8_pass fu, rfl, mi_X8_pass.1, mi_X8_pass.2.1, mi_X8_pass.2.2.1, mi_X8_pass.2.2.2.1, mi_X8_pass.2.2.2.2, Or.inl (tblG_of (i := 992) rfl rfl)⟩, (S_X8_pass fu (l := l) (D := D) (cA := cA) (base := base) (b := b)).2⟩) (cons_all (⟨⟨show (1 : Nat) ≠ 3 by decide, y_X7_days, prog_1_method_16_code, 10, (some .int), 4, "BrookStones", 6, TX7, 8, 5, (S_X7_days fu (l := l) (D := D) (cA := cA) (base := base) (b := b)).1, by decide, by decide, rfl, H_X7_days fu, rfl, mi_X7_days.1, mi_X7_days.2.1, mi_X7_days.2.2.1, mi_X7_days.2.2.2.1, mi_X7_days.2.2.2.2, Or.inl (tblG_of (i := 458) rfl rfl)⟩, (S_X7_days fu (l := l) (D := D) (cA := cA) (base := base) (b := b)).2⟩) (cons_all (⟨⟨show (1 : Nat) ≠ 3 by decide, y_X8_days, prog_10_method_42_code, 10, (some .int), 6, "BrookStones", 7, TX8, 37, 5, (S_X8_days fu (l := l) (D := D) (cA := cA) (base := base) (b := b)).1, by decide, by decide, rfl, H_X8_days fu, rfl, mi_X8_days.1, mi_X8_days.2.1, mi_X8_days.2.2.1, mi_X8_days.2.2.2.1, mi_X8_days.2.2.2.2, Or.inl (tblG_of (i := 1003) rfl rfl)⟩, (S_X8_days fu (l := l) (D := D) (cA := cA) (base := base) (b := b)).2⟩) (cons_all (⟨⟨show (1 : Nat) ≠ 3 by decide, y_X7_stands, prog_1_method_17_code, 3, (some .int), 4, "BrookStones", 6, TX7, 8, 2, (S_X7_stands fu (l := l) (D := D) (cA := cA) (base := base) (b := b)).1, by decide, by decide, rfl, H_X7_stands fu, rfl, mi_X7_stands.1, mi_X7_stands.2.1, mi_X7_stands.2.2.1, mi_X7_stands.2.2.2.1, mi_X7_stands.2.2.2.2, Or.inl (tblG_of (i := 468) rfl rfl)⟩, (S_X7_stands fu (l := l) (D := D) (cA := cA) (base := base) (b := b)).2⟩) (cons_all (⟨⟨show (1 : Nat) ≠ 3 by decide, y_X8_stands, prog_10_method_48_code, 3, (some .int), 3, "BrookStones", 7, TX8, 37, 2, (S_X8_stands fu (l := l) (D := D) (cA := cA) (base := base) (b := b)).1, by decide, by decide, rfl, H_X8_stands fu, rfl, mi_X8_stands.1, mi_X8_stands.2.1, mi_X8_stands.2.2.1, mi_X8_stands.2.2.2.1, mi_X8_stands.2.2.2.2, Or.inl (tblG_of (i := 1007) rfl rfl)⟩, (S_X8_stands fu (l := l) (D := D) (cA := cA) (base := base) (b := b)).2⟩) (cons_all (⟨⟨show (1 : Nat) ≠ 3 by decide, y_X7_goes, prog_1_method_18_code, 3, (some .int), 4, "BrookStones", 6, TX7, 8, 2, (S_X7_goes fu (l := l) (D := D) (cA := cA) (base := base) (b := b)).1, by decide, by decide, rfl, H_X7_goes fu, rfl, mi_X7_goes.1, mi_X7_goes.2.1, mi_X7_goes.2.2.1, mi_X7_goes.2.2.2.1, mi_X7_goes.2.2.2.2, Or.inl (tblG_of (i := 490) rfl rfl)⟩, (S_X7_goes fu (l := l) (D := D) (cA := cA) (base := base) (b := b)).2⟩) (cons_all (⟨⟨show (1 : Nat) ≠ 3 by decide, y_X8_goes, prog_10_method_49_code, 3, (some .int), 3, "BrookStones", 7, TX8, 37, 2, (S_X8_goes fu (l := l) (D := D) (cA := cA) (base := base) (b := b)).1, by decide, by decide, rfl, H_X8_goes fu, rfl, mi_X8_goes.1, mi_X8_goes.2.1, mi_X8_goes.2.2.1, mi_X8_goes.2.2.2.1, mi_X8_goes.2.2.2.2, Or.inl (tblG_of (i := 1026) rfl rfl)⟩, (S_X8_goes fu (l := l) (D := D) (cA := cA) (base := base) (b := b)).2⟩) (cons_all (⟨⟨show (1 : Nat) ≠ 3 by decide, y_X7_dug, prog_1_method_19_code, 4, (some .int), 4, "BrookStones", 6, TX7, 8, 3, (S_X7_dug fu (l := l) (D := D) (cA := cA) (base := base) (b := b)).1, by decide, by decide, rfl, H_X7_dug fu, rfl, mi_X7_dug.1, mi_X7_dug.2.1, mi_X7_dug.2.2.1, mi_X7_dug.2.2.2.1, mi_X7_dug.2.2.2.2, Or.inl (tblG_of (i := 494) rfl rfl)⟩, (S_X7_dug fu (l := l) (D := D) (cA := cA) (base := base) (b := b)).2⟩) (cons_all (⟨⟨show (1 : Nat) ≠ 3 by decide, y_X8_dug, prog_10_method_50_code, 4, (some .int), 3, "BrookStones", 7, TX8, 37, 3, (S_X8_dug fu (l := l) (D := D) (cA := cA) (base := base) (b := b)).1, by decide, by decide, rfl, H_X8_dug fu, rfl, mi_X8_dug.1, mi_X8_dug.2.1, mi_X8_dug.2.2.1, mi_X8_dug.2.2.2.1, mi_X8_dug.2.2.2.2, Or.inl (tblG_of (i := 1030) rfl rfl)⟩, (S_X8_dug fu (l := l) (D := D) (cA := cA) (base := base) (b := b)).2⟩) (cons_all (⟨⟨show (1 : Nat) ≠ 3 by decide, y_X7_flood, prog_1_method_20_code, 4, (some .int), 4, "BrookStones", 6, TX7, 8, 2, (S_X7_flood fu (l := l) (D := D) (cA := cA) (base := base) (b := b)).1, by decide, by decide, rfl, H_X7_flood fu, rfl, mi_X7_flood.1, mi_X7_flood.2.1, mi_X7_flood.2.2.1, mi_X7_flood.2.2.2.1, mi_X7_flood.2.2.2.2, Or.inl (tblG_of (i := 498) rfl rfl)⟩, (S_X7_flood fu (l := l) (D := D) (cA := cA) (base := base) (b := b)).2⟩) (cons_all (⟨⟨show (1 : Nat) ≠ 3 by decide, y_X8_flood, prog_10_method_51_code, 5, (some .int), 3, "BrookStones", 7, TX8, 37, 2, (S_X8_flood fu (l := l) (D := D) (cA := cA) (base := base) (b := b)).1, by decide, by decide, rfl, H_X8_flood fu, rfl, mi_X8_flood.1, mi_X8_flood.2.1, mi_X8_flood.2.2.1, mi_X8_flood.2.2.2.1, mi_X8_flood.2.2.2.2, Or.inl (tblG_of (i := 1034) rfl rfl)⟩, (S_X8_flood fu (l := l) (D := D) (cA := cA) (base := base) (b := b)).2⟩) (cons_all (⟨⟨show (1 : Nat) ≠ 3 by decide, y_X7_save, prog_1_method_21_code, 8, (some .int), 4, "BrookStones", 6, TX7, 8, 3, (S_X7_save fu (l := l) (D := D) (cA := cA) (base := base) (b := b)).1, by decide, by decide, rfl, H_X7_save fu, rfl, mi_X7_save.1, mi_X7_save.2.1, mi_X7_save.2.2.1, mi_X7_save.2.2.2.1, mi_X7_save.2.2.2.2, Or.inl (tblG_of (i := 513) rfl rfl)⟩, (S_X7_save fu (l := l) (D := D) (cA := cA) (base := base) (b := b)).2⟩) (cons_all (⟨⟨show (1 : Nat) ≠ 3 by decide, y_X8_save, prog_10_method_52_code, 8, (some .int), 3, "BrookStones", 7, TX8, 37, 3, (S_X8_save fu (l := l) (D := D) (cA := cA) (base := base) (b := b)).1, by decide, by decide, rfl, H_X8_save fu, rfl, mi_X8_save.1, mi_X8_save.2.1, mi_X8_save.2.2.1, mi_X8_save.2.2.2.1, mi_X8_save.2.2.2.2, Or.inl (tblG_of (i := 1038) rfl rfl)⟩, (S_X8_save fu (l := l) (D := D) (cA := cA) (base := base) (b := b)).2⟩) (cons_all (⟨⟨show (1 : Nat) ≠ 3 by decide, y_X7_plan, prog_1_method_22_code, 5, (some .int), 16, "BrookStones", 6, TX7, 8, 4, (S_X7_plan fu (l := l) (D := D) (cA := cA) (base := base) (b := b)).1, by decide, by decide, rfl, H_X7_plan fu, rfl, mi_X7_plan.1, mi_X7_plan.2.1, mi_X7_plan.2.2.1, mi_X7_plan.2.2.2.1, mi_X7_plan.2.2.2.2, Or.inl (tblG_of (i := 517) rfl rfl)⟩, (S_X7_plan fu (l := l) (D := D) (cA := cA) (base := base) (b := b)).2⟩) (cons_all (⟨⟨show (1 : Nat) ≠ 3 by decide, y_X8_plan, prog_10_method_58_code, 5, (some .int), 9, "BrookStones", 7, TX8, 37, 4, (S_X8_plan fu (l := l) (D := D) (cA := cA) (base := base) (b := b)).1, by decide, by decide, rfl, H_X8_plan fu, rfl, mi_X8_plan.1, mi_X8_plan.2.1, mi_X8_plan.2.2.1, mi_X8_plan.2.2.2.1, mi_X8_plan.2.2.2.2, Or.inl (tblG_of (i := 1045) rfl rfl)⟩, (S_X8_plan fu (l := l) (D := D) (cA := cA) (base := base) (b := b)).2⟩) (cons_all (⟨⟨show (1 : Nat) ≠ 3 by decide, y_X7_orders, prog_1_method_23_code, 2, (some .int), 6, "BrookStones", 6, TX7, 8, 1, (S_X7_orders fu (l := l) (D := D) (cA := cA) (base := base) (b := b)).1, by decide, by decide, rfl, H_X7_orders fu, rfl, mi_X7_orders.1, mi_X7_orders.2.1, mi_X7_orders.2.2.1, mi_X7_orders.2.2.2.1, mi_X7_orders.2.2.2.2, Or.inl (tblG_of (i := 592) rfl rfl)⟩, (S_X7_orders fu (l := l) (D := D) (cA := cA) (base := base) (b := b)).2⟩) (cons_all (⟨⟨show (1 : Nat) ≠ 3 by decide, y_X8_orders, prog_10_method_61_code, 2, (some .int), 7, "BrookStones", 7, TX8, 37, 1, (S_X8_orders fu (l := l) (D := D) (cA := cA) (base := base) (b := b)).1, by decide, by decide, rfl, H_X8_orders fu, rfl, mi_X8_orders.1, mi_X8_orders.2.1, mi_X8_orders.2.2.1, mi_X8_orders.2.2.2.1, mi_X8_orders.2.2.2.2, Or.inl (tblG_of (i := 1069) rfl rfl)⟩, (S_X8_orders fu (l := l) (D := D) (cA := cA) (base := base) (b := b)).2⟩) (cons_all (⟨⟨show (1 : Nat) ≠ 3 by decide, y_X7_order, prog_1_method_24_code, 3, (some .int), 7, "BrookStones", 6, TX7, 8, 2, (S_X7_order fu (l := l) (D := D) (cA := cA) (base := base) (b := b)).1, by decide, by decide, rfl, H_X7_order fu, rfl, mi_X7_order.1, mi_X7_order.2.1, mi_X7_order.2.2.1, mi_X7_order.2.2.2.1, mi_X7_order.2.2.2.2, Or.inl (tblG_of (i := 613) rfl rfl)⟩, (S_X7_order fu (l := l) (D := D) (cA := cA) (base := base) (b := b)).2⟩) (cons_all (⟨⟨show (1 : Nat) ≠ 3 by decide, y_X8_order, prog_10_method_62_code, 6, (some .int), 7, "BrookStones", 7, TX8, 37, 2, (S_X8_order fu (l := l) (D := D) (cA := cA) (base := base) (b := b)).1, by decide, by decide, rfl, H_X8_order fu, rfl, mi_X8_order.1, mi_X8_order.2.1, mi_X8_order.2.2.1, mi_X8_order.2.2.2.1, mi_X8_order.2.2.2.2, Or.inl (tblG_of (i := 1081) rfl rfl)⟩, (S_X8_order fu (l := l) (D := D) (cA := cA) (base := base) (b := b)).2⟩) (cons_all (⟨⟨show (1 : Nat) ≠ 3 by decide, y_X7_fits, prog_1_method_25_code, 5, (some .int), 4, "BrookStones", 6, TX7, 8, 2, (S_X7_fits fu (l := l) (D := D) (cA := cA) (base := base) (b := b)).1, by decide, by decide, rfl, H_X7_fits fu, rfl, mi_X7_fits.1, mi_X7_fits.2.1, mi_X7_fits.2.2.1, mi_X7_fits.2.2.2.1, mi_X7_fits.2.2.2.2, Or.inl (tblG_of (i := 627) rfl rfl)⟩, (S_X7_fits fu (l := l) (D := D) (cA := cA) (base := base) (b := b)).2⟩) (cons_all (⟨⟨show (1 : Nat) ≠ 3 by decide, y_X8_fits, prog_10_method_63_code, 5, (some .int), 3, "BrookStones", 7, TX8, 37, 2, (S_X8_fits fu (l := l) (D := D) (cA := cA) (base := base) (b := b)).1, by decide, by decide, rfl, H_X8_fits fu, rfl, mi_X8_fits.1, mi_X8_fits.2.1, mi_X8_fits.2.2.1, mi_X8_fits.2.2.2.1, mi_X8_fits.2.2.2.2, Or.inl (tblG_of (i := 1085) rfl rfl)⟩, (S_X8_fits fu (l := l) (D := D) (cA := cA) (base := base) (b := b)).2⟩) (cons_all (⟨⟨show (2 : Nat) ≠ 3 by decide, y_X7_odds, prog_1_method_26_code, 10, (some .long), 5, "BrookStones", 6, TX7, 8, 6, (S_X7_odds fu (l := l) (D := D) (cA := cA) (base := base) (b := b)).1, by decide, by decide, rfl, H_X7_odds fu, rfl, mi_X7_odds.1, mi_X7_odds.2.1, mi_X7_odds.2.2.1, mi_X7_odds.2.2.2.1, mi_X7_odds.2.2.2.2, Or.inl (tblG_of (i := 631) rfl rfl)⟩, (S_X7_odds fu (l := l) (D := D) (cA := cA) (base := base) (b := b)).2⟩) (cons_all (⟨⟨show (2 : Nat) ≠ 3 by decide, y_X8_odds, prog_10_method_65_code, 13, (some .long), 6, "BrookStones", 7, TX8, 37, 6, (S_X8_odds fu (l := l) (D := D) (cA := cA) (base := base) (b := b)).1, by decide, by decide, rfl, H_X8_odds fu, rfl, mi_X8_odds.1, mi_X8_odds.2.1, mi_X8_odds.2.2.1, mi_X8_odds.2.2.2.1, mi_X8_odds.2.2.2.2, Or.inl (tblG_of (i := 1089) rfl rfl)⟩, (S_X8_odds fu (l := l) (D := D) (cA := cA) (base := base) (b := b)).2⟩) (cons_all (⟨⟨show (1 : Nat) ≠ 3 by decide, y_X7_sheet, prog_1_method_28_code, 4, (some .int), 4, "BrookStones", 6, TX7, 8, 3, (S_X7_sheet fu (l := l) (D := D) (cA := cA) (base := base) (b := b)).1, by decide, by decide, rfl, H_X7_sheet fu, rfl, mi_X7_sheet.1, mi_X7_sheet.2.1, mi_X7_sheet.2.2.1, mi_X7_sheet.2.2.2.1, mi_X7_sheet.2.2.2.2, Or.inl (tblG_of (i := 647) rfl rfl)⟩, (S_X7_sheet fu (l := l) (D := D) (cA := cA) (base := base) (b := b)).2⟩) (cons_all (⟨⟨show (1 : Nat) ≠ 3 by decide, y_X8_sheet, prog_10_method_66_code, 5, (some .int), 3, "BrookStones", 7, TX8, 37, 3, (S_X8_sheet fu (l := l) (D := D) (cA := cA) (base := base) (b := b)).1, by decide, by decide, rfl, H_X8_sheet fu, rfl, mi_X8_sheet.1, mi_X8_sheet.2.1, mi_X8_sheet.2.2.1, mi_X8_sheet.2.2.2.1, mi_X8_sheet.2.2.2.2, Or.inl (tblG_of (i := 1101) rfl rfl)⟩, (S_X8_sheet fu (l := l) (D := D) (cA := cA) (base := base) (b := b)).2⟩) (cons_all (⟨⟨show (1 : Nat) ≠ 3 by decide, y_X7_lose, prog_1_method_29_code, 2, (some .int), 3, "BrookStones", 6, TX7, 8, 1, (S_X7_lose fu (l := l) (D := D) (cA := cA) (base := base) (b := b)).1, by decide, by decide, rfl, H_X7_lose fu, rfl, mi_X7_lose.1, mi_X7_lose.2.1, mi_X7_lose.2.2.1, mi_X7_lose.2.2.2.1, mi_X7_lose.2.2.2.2, Or.inl (tblG_of (i := 661) rfl rfl)⟩, (S_X7_lose fu (l := l) (D := D) (cA := cA) (base := base) (b := b)).2⟩) (cons_all (⟨⟨show (1 : Nat) ≠ 3 by decide, y_X8_lose, prog_10_method_67_code, 3, (some .int), 3, "BrookStones", 7, TX8, 37, 1, (S_X8_lose fu (l := l) (D := D) (cA := cA) (base := base) (b := b)).1, by decide, by decide, rfl, H_X8_lose fu, rfl, mi_X8_lose.1, mi_X8_lose.2.1, mi_X8_lose.2.2.1, mi_X8_lose.2.2.2.1, mi_X8_lose.2.2.2.2, Or.inl (tblG_of (i := 1105) rfl rfl)⟩, (S_X8_lose fu (l := l) (D := D) (cA := cA) (base := base) (b := b)).2⟩) (cons_all (⟨⟨show (1 : Nat) ≠ 3 by decide, y_X7_put, prog_1_method_30_code, 4, (some .int), 3, "BrookStones", 6, TX7, 8, 3, (S_X7_put fu (l := l) (D := D) (cA := cA) (base := base) (b := b)).1, by decide, by decide, rfl, H_X7_put fu, rfl, mi_X7_put.1, mi_X7_put.2.1, mi_X7_put.2.2.1, mi_X7_put.2.2.2.1, mi_X7_put.2.2.2.2, Or.inl (tblG_of (i := 670) rfl rfl)⟩, (S_X7_put fu (l := l) (D := D) (cA := cA) (base := base) (b := b)).2⟩) (cons_all (⟨⟨show (1 : Nat) ≠ 3 by decide, y_X8_put, prog_10_method_68_code, 4, (some .int), 3, "BrookStones", 7, TX8, 37, 3, (S_X8_put fu (l := l) (D := D) (cA := cA) (base := base) (b := b)).1, by decide, by decide, rfl, H_X8_put fu, rfl, mi_X8_put.1, mi_X8_put.2.1, mi_X8_put.2.2.1, mi_X8_put.2.2.2.1, mi_X8_put.2.2.2.2, Or.inl (tblG_of (i := 1109) rfl rfl)⟩, (S_X8_put fu (l := l) (D := D) (cA := cA) (base := base) (b := b)).2⟩) (cons_all (⟨⟨show (2 : Nat) ≠ 3 by decide, y_X7_cell, prog_1_method_31_code, 4, (some .long), 4, "BrookStones", 6, TX7, 8, 3, (S_X7_cell fu (l := l) (D := D) (cA := cA) (base := base) (b := b)).1, by decide, by decide, rfl, H_X7_cell fu, rfl, mi_X7_cell.1, mi_X7_cell.2.1, mi_X7_cell.2.2.1, mi_X7_cell.2.2.2.1, mi_X7_cell.2.2.2.2, Or.inl (tblG_of (i := 681) rfl rfl)⟩, (S_X7_cell fu (l := l) (D := D) (cA := cA) (base := base) (b := b)).2⟩) (cons_all (⟨⟨show (2 : Nat) ≠ 3 by decide, y_X8_cell, prog_10_method_69_code, 4, (some .long), 3, "BrookStones", 7, TX8, 37, 3, (S_X8_cell fu (l := l) (D := D) (cA := cA) (base := base) (b := b)).1, by decide, by decide, rfl, H_X8_cell fu, rfl, mi_X8_cell.1, mi_X8_cell.2.1, mi_X8_cell.2.2.1, mi_X8_cell.2.2.2.1, mi_X8_cell.2.2.2.2, Or.inl (tblG_of (i := 1113) rfl rfl)⟩, (S_X8_cell fu (l := l) (D := D) (cA := cA) (base := base) (b := b)).2⟩) (cons_all (⟨⟨show (1 : Nat) ≠ 3 by decide, y_X7_copy, prog_1_method_32_code, 6, (some .int), 3, "BrookStones", 6, TX7, 8, 5, (S_X7_copy fu (l := l) (D := D) (cA := cA) (base := base) (b := b)).1, by decide, by decide, rfl, H_X7_copy fu, rfl, mi_X7_copy.1, mi_X7_copy.2.1, mi_X7_copy.2.2.1, mi_X7_copy.2.2.2.1, mi_X7_copy.2.2.2.2, Or.inl (tblG_of (i := 685) rfl rfl)⟩, (S_X7_copy fu (l := l) (D := D) (cA := cA) (base := base) (b := b)).2⟩) (cons_all (⟨⟨show (1 : Nat) ≠ 3 by decide, y_X8_copy, prog_10_method_70_code, 10, (some .int), 3, "BrookStones", 7, TX8, 37, 5, (S_X8_copy fu (l := l) (D := D) (cA := cA) (base := base) (b := b)).1, by decide, by decide, rfl, H_X8_copy fu, rfl, mi_X8_copy.1, mi_X8_copy.2.1, mi_X8_copy.2.2.1, mi_X8_copy.2.2.2.1, mi_X8_copy.2.2.2.2, Or.inl (tblG_of (i := 1117) rfl rfl)⟩, (S_X8_copy fu (l := l) (D := D) (cA := cA) (base := base) (b := b)).2⟩) (cons_all (⟨⟨show (1 : Nat) ≠ 3 by decide, y_X7_tell, prog_1_method_33_code, 2, (some .int), 5, "BrookStones", 6, TX7, 8, 1, (S_X7_tell fu (l := l) (D := D) (cA := cA) (base := base) (b := b)).1, by decide, by decide, rfl, H_X7_tell fu, rfl, mi_X7_tell.1, mi_X7_tell.2.1, mi_X7_tell.2.2.1, mi_X7_tell.2.2.2.1, mi_X7_tell.2.2.2.2, Or.inl (tblG_of (i := 695) rfl rfl)⟩, (S_X7_tell fu (l := l) (D := D) (cA := cA) (base := base) (b := b)).2⟩) (cons_all (⟨⟨show (1 : Nat) ≠ 3 by decide, y_X8_tell, prog_10_method_72_code, 3, (some .int), 2, "BrookStones", 7, TX8, 37, 1, (S_X8_tell fu (l := l) (D := D) (cA := cA) (base := base) (b := b)).1, by decide, by decide, rfl, H_X8_tell fu, rfl, mi_X8_tell.1, mi_X8_tell.2.1, mi_X8_tell.2.2.1, mi_X8_tell.2.2.2.1, mi_X8_tell.2.2.2.2, Or.inl (tblG_of (i := 1121) rfl rfl)⟩, (S_X8_tell fu (l := l) (D := D) (cA := cA) (base := base) (b := b)).2⟩) (cons_all (⟨⟨show (1 : Nat) ≠ 3 by decide, y_X7_tread, prog_1_method_34_code, 2, (some .int), 2, "BrookStones", 6, TX7, 8, 1, (S_X7_tread fu (l := l) (D := D) (cA := cA) (base := base) (b := b)).1, by decide, by decide, rfl, H_X7_tread fu, rfl, mi_X7_tread.1, mi_X7_tread.2.1, mi_X7_tread.2.2.1, mi_X7_tread.2.2.2.1, mi_X7_tread.2.2.2.2, Or.inl (tblG_of (i := 715) rfl rfl)⟩, (S_X7_tread fu (l := l) (D := D) (cA := cA) (base := base) (b := b)).2⟩) (cons_all (⟨⟨show (1 : Nat) ≠ 3 by decide, y_X8_tread, prog_10_method_73_code, 2, (some .int), 2, "BrookStones", 7, TX8, 37, 1, (S_X8_tread fu (l := l) (D := D) (cA := cA) (base := base) (b := b)).1, by decide, by decide, rfl, H_X8_tread fu, rfl, mi_X8_tread.1, mi_X8_tread.2.1, mi_X8_tread.2.2.1, mi_X8_tread.2.2.2.1, mi_X8_tread.2.2.2.2, Or.inl (tblG_of (i := 1129) rfl rfl)⟩, (S_X8_tread fu (l := l) (D := D) (cA := cA) (base := base) (b := b)).2⟩) (cons_all (⟨⟨show (1 : Nat) ≠ 3 by decide, y_X7_as, prog_1_method_35_code, 3, (some .int), 2, "BrookStones", 6, TX7, 8, 2, (S_X7_as fu (l := l) (D := D) (cA := cA) (base := base) (b := b)).1, by decide, by decide, rfl, H_X7_as fu, rfl, mi_X7_as.1, mi_X7_as.2.1, mi_X7_as.2.2.1, mi_X7_as.2.2.2.1, mi_X7_as.2.2.2.2, Or.inl (tblG_of (i := 719) rfl rfl)⟩, (S_X7_as fu (l := l) (D := D) (cA := cA) (base := base) (b := b)).2⟩) (cons_all (⟨⟨show (1 : Nat) ≠ 3 by decide, y_X8_as, prog_10_method_74_code, 3, (some .int), 2, "BrookStones", 7, TX8, 37, 2, (S_X8_as fu (l := l) (D := D) (cA := cA) (base := base) (b := b)).1, by decide, by decide, rfl, H_X8_as fu, rfl, mi_X8_as.1, mi_X8_as.2.1, mi_X8_as.2.2.1, mi_X8_as.2.2.2.1, mi_X8_as.2.2.2.2, Or.inl (tblG_of (i := 1133) rfl rfl)⟩, (S_X8_as fu (l := l) (D := D) (cA := cA) (base := base) (b := b)).2⟩) (cons_all (⟨⟨show (1 : Nat) ≠ 3 by decide, y_X7_trace, prog_1_method_36_code, 1, (some .int), 1, "BrookStones", 6, TX7, 8, 0, (S_X7_trace fu (l := l) (D := D) (cA := cA) (base := base) (b := b)).1, by decide, by decide, rfl, H_X7_trace fu, rfl, mi_X7_trace.1, mi_X7_trace.2.1, mi_X7_trace.2.2.1, mi_X7_trace.2.2.2.1, mi_X7_trace.2.2.2.2, Or.inl (tblG_of (i := 723) rfl rfl)⟩, (S_X7_trace fu (l := l) (D := D) (cA := cA) (base := base) (b := b)).2⟩) (cons_all (⟨⟨show (1 : Nat) ≠ 3 by decide, y_X8_trace, prog_10_method_75_code, 1, (some .int), 1, "BrookStones", 7, TX8, 37, 0, (S_X8_trace fu (l := l) (D := D) (cA := cA) (base := base) (b := b)).1, by decide, by decide, rfl, H_X8_trace fu, rfl, mi_X8_trace.1, mi_X8_trace.2.1, mi_X8_trace.2.2.1, mi_X8_trace.2.2.2.1, mi_X8_trace.2.2.2.2, Or.inl (tblG_of (i := 1137) rfl rfl)⟩, (S_X8_trace fu (l := l) (D := D) (cA := cA) (base := base) (b := b)).2⟩) (cons_all (⟨⟨show (1 : Nat) ≠ 3 by decide, y_X7_fault, prog_1_method_37_code, 1, (some .int), 1, "BrookStones", 6, TX7, 8, 0, (S_X7_fault fu (l := l) (D := D) (cA := cA) (base := base) (b := b)).1, by decide, by decide, rfl, H_X7_fault fu, rfl, mi_X7_fault.1, mi_X7_fault.2.1, mi_X7_fault.2.2.1, mi_X7_fault.2.2.2.1, mi_X7_fault.2.2.2.2, Or.inl (tblG_of (i := 727) rfl rfl)⟩, (S_X7_fault fu (l := l) (D := D) (cA := cA) (base := base) (b := b)).2⟩) (cons_all (⟨⟨show (1 : Nat) ≠ 3 by decide, y_X8_fault, prog_10_method_76_code, 1, (some .int), 1, "BrookStones", 7, TX8, 37, 0, (S_X8_fault fu (l := l) (D := D) (cA := cA) (base := base) (b := b)).1, by decide, by decide, rfl, H_X8_fault fu, rfl, mi_X8_fault.1, mi_X8_fault.2.1, mi_X8_fault.2.2.1, mi_X8_fault.2.2.2.1, mi_X8_fault.2.2.2.2, Or.inl (tblG_of (i := 1141) rfl rfl)⟩, (S_X8_fault fu (l := l) (D := D) (cA := cA) (base := base) (b := b)).2⟩) (cons_all (⟨⟨show (1 : Nat) ≠ 3 by decide, y_X7_many, prog_1_method_38_code, 2, (some .int), 3, "BrookStones", 6, TX7, 8, 1, (S_X7_many fu (l := l) (D := D) (cA := cA) (base := base) (b := b)).1, by decide, by decide, rfl, H_X7_many fu, rfl, mi_X7_many.1, mi_X7_many.2.1, mi_X7_many.2.2.1, mi_X7_many.2.2.2.1, mi_X7_many.2.2.2.2, Or.inl (tblG_of (i := 731) rfl rfl)⟩, (S_X7_many fu (l := l) (D := D) (cA := cA) (base := base) (b := b)).2⟩) (cons_all (⟨⟨show (1 : Nat) ≠ 3 by decide, y_X8_many, prog_10_method_79_code, 2, (some .int), 2, "BrookStones", 7, TX8, 37, 1, (S_X8_many fu (l := l) (D := D) (cA := cA) (base := base) (b := b)).1, by decide, by decide, rfl, H_X8_many fu, rfl, mi_X8_many.1, mi_X8_many.2.1, mi_X8_many.2.2.1, mi_X8_many.2.2.2.1, mi_X8_many.2.2.2.2, Or.inl (tblG_of (i := 1145) rfl rfl)⟩, (S_X8_many fu (l := l) (D := D) (cA := cA) (base := base) (b := b)).2⟩) (nil_all))))))))))))))))))))))))))))))))))))))))))))))))))))))))))))))))))))))))
set_option maxRecDepth 100000 in
set_option maxHeartbeats 4000000 in
theorem W_L_law (fu : Nat) {l : Launch} {D : va_G} {cA : Nat → ClassId} {base b : Nat} : ∀ q ∈ ([] : List (Nat × Nat × Nat × Orc)), sOK l D cA base b 16 "BrookStonesLaw" q ∧ OM q.2.2.2 := nil_all
set_option maxRecDepth 100000 in
set_option maxHeartbeats 4000000 in
theorem I_L_law (fu : Nat) {l : Launch} {D : va_G} {cA : Nat → ClassId} {base b : Nat} : ∀ q ∈ ([(9, 1, 0, (U_X7_init fu)), (12, 1, 0, (U_X8_init fu))] : List (Nat × Nat × Nat × Orc)), iOK l D cA base b 16 "BrookStonesLaw" q ∧ OM q.2.2.2 := cons_all (⟨Or.inl ⟨show (0 : Nat) ≠ 3 by decide, y_X7_init, prog_1_method_1_code, 1, 3, "BrookStones", 0, (S_X7_init fu (l := l) (D := D) (cA := cA) (base := base) (b := b)).1, by decide, by decide, rfl, H_X7_init fu, rfl, mi_X7_init.1, mi_X7_init.2.1, mi_X7_init.2.2.1, mi_X7_init.2.2.2, Or.inl (tblG_of (i := 16) rfl rfl)⟩, (S_X7_init fu (l := l) (D := D) (cA := cA) (base := base) (b := b)).2⟩) (cons_all (⟨Or.inl ⟨show (0 : Nat) ≠ 3 by decide, y_X8_init, prog_10_method_1_code, 1, 1, "BrookStones", 0, (S_X8_init fu (l := l) (D := D) (cA := cA) (base := base) (b := b)).1, by decide, by decide, rfl, H_X8_init fu, rfl, mi_X8_init.1, mi_X8_init.2.1, mi_X8_init.2.2.1, mi_X8_init.2.2.2, Or.inl (tblG_of (i := 737) rfl rfl)⟩, (S_X8_init fu (l := l) (D := D) (cA := cA) (base := base) (b := b)).2⟩) (nil_all))
def T_L_law_0 : List (Nat × Instr) := [(0, .new 7), (3, .dup), (4, .invokespecial 9), (7, .astore_n 1), (8, .new 10), (11, .dup), (12, .invokespecial 12), (15, .astore_n 2), (16, .iconst 0), (17, .istore_n 3), (18, .iload_n 3), (19, .aload_n 0), (20, .arraylength), (21, .bipush 7), (23, .isub), (24, .if_icmp .gt 1504), (27, .aload_n 0), (28, .iload_n 3), (29, .iaload), (30, .bipush 63), (32, .iand), (33, .tableswitch 1489 0 35 #[159, 212, 245, 294, 317, 370, 403, 436, 469, 492, 515, 564, 597, 646, 679, 742, 775, 808, 851, 884, 927, 980, 1003, 1036, 1069, 1145, 1188, 1211, 1254, 1298, 1361, 1384, 1407, 1440, 1453, 1466]), (192, .aload_n 1), (193, .aload_n 0), (194, .iload_n 3), (195, .iconst 1), (196, .iadd), (197, .iaload), (198, .aload_n 0), (199, .iload_n 3), (200, .iconst 2), (201, .iadd), (202, .iaload), (203, .aload_n 0), (204, .iload_n 3), (205, .iconst 3), (206, .iadd), (207, .iaload), (208, .aload_n 0), (209, .iload_n 3), (210, .iconst 4), (211, .iadd), (212, .iaload), (213, .invokevirtual 13), (216, .aload_n 2), (217, .aload_n 0), (218, .iload_n 3), (219, .iconst 1), (220, .iadd), (221, .iaload)]
set_option maxRecDepth 100000 in
theorem T_L_law_0_ok : chkT code T_L_law_0 = true := by decide +kernel
def T_L_law_1 : List (Nat × Instr) := [(222, .aload_n 0), (223, .iload_n 3), (224, .iconst 2), (225, .iadd), (226, .iaload), (227, .aload_n 0), (228, .iload_n 3), (229, .iconst 3), (230, .iadd), (231, .iaload), (232, .aload_n 0), (233, .iload_n 3), (234, .iconst 4), (235, .iadd), (236, .iaload), (237, .invokevirtual 17), (240, .if_icmp .eq 1282), (243, .iconst 0), (244, .ireturn), (245, .aload_n 1), (246, .aload_n 0), (247, .iload_n 3), (248, .iconst 1), (249, .iadd), (250, .iaload), (251, .aload_n 0), (252, .iload_n 3), (253, .iconst 2), (254, .iadd), (255, .iaload), (256, .invokevirtual 18), (259, .aload_n 2), (260, .aload_n 0), (261, .iload_n 3), (262, .iconst 1), (263, .iadd), (264, .iaload), (265, .aload_n 0), (266, .iload_n 3), (267, .iconst 2), (268, .iadd), (269, .iaload), (270, .invokevirtual 22), (273, .if_icmp .eq 1249), (276, .iconst 0), (277, .ireturn), (278, .aload_n 1), (279, .aload_n 0), (280, .iload_n 3), (281, .iconst 1)]
set_option maxRecDepth 100000 in
theorem T_L_law_1_ok : chkT code T_L_law_1 = true := by decide +kernel
def T_L_law_2 : List (Nat × Instr) := [(282, .iadd), (283, .iaload), (284, .aload_n 0), (285, .iload_n 3), (286, .iconst 2), (287, .iadd), (288, .iaload), (289, .ifCond .eq 7), (292, .iconst 1), (293, .goto 4), (296, .iconst 0), (297, .invokevirtual 23), (300, .aload_n 2), (301, .aload_n 0), (302, .iload_n 3), (303, .iconst 1), (304, .iadd), (305, .iaload), (306, .aload_n 0), (307, .iload_n 3), (308, .iconst 2), (309, .iadd), (310, .iaload), (311, .ifCond .eq 7), (314, .iconst 1), (315, .goto 4), (318, .iconst 0), (319, .invokevirtual 27), (322, .if_icmp .eq 1200), (325, .iconst 0), (326, .ireturn), (327, .aload_n 1), (328, .aload_n 0), (329, .iload_n 3), (330, .iconst 1), (331, .iadd), (332, .iaload), (333, .invokevirtual 28), (336, .aload_n 2), (337, .aload_n 0), (338, .iload_n 3), (339, .iconst 1), (340, .iadd), (341, .iaload), (342, .invokevirtual 32), (345, .if_icmp .eq 1177), (348, .iconst 0), (349, .ireturn), (350, .aload_n 1), (351, .aload_n 0)]
set_option maxRecDepth 100000 in
theorem T_L_law_2_ok : chkT code T_L_law_2 = true := by decide +kernel
def T_L_law_3 : List (Nat × Instr) := [(352, .iload_n 3), (353, .iconst 1), (354, .iadd), (355, .iaload), (356, .aload_n 0), (357, .iload_n 3), (358, .iconst 2), (359, .iadd), (360, .iaload), (361, .aload_n 0), (362, .iload_n 3), (363, .iconst 3), (364, .iadd), (365, .iaload), (366, .aload_n 0), (367, .iload_n 3), (368, .iconst 4), (369, .iadd), (370, .iaload), (371, .invokevirtual 33), (374, .aload_n 2), (375, .aload_n 0), (376, .iload_n 3), (377, .iconst 1), (378, .iadd), (379, .iaload), (380, .aload_n 0), (381, .iload_n 3), (382, .iconst 2), (383, .iadd), (384, .iaload), (385, .aload_n 0), (386, .iload_n 3), (387, .iconst 3), (388, .iadd), (389, .iaload), (390, .aload_n 0), (391, .iload_n 3), (392, .iconst 4), (393, .iadd), (394, .iaload), (395, .invokevirtual 36), (398, .if_icmp .eq 1124), (401, .iconst 0), (402, .ireturn), (403, .aload_n 1), (404, .aload_n 0), (405, .iload_n 3), (406, .iconst 1), (407, .iadd)]
set_option maxRecDepth 100000 in
theorem T_L_law_3_ok : chkT code T_L_law_3 = true := by decide +kernel
def T_L_law_4 : List (Nat × Instr) := [(408, .iaload), (409, .aload_n 0), (410, .iload_n 3), (411, .iconst 2), (412, .iadd), (413, .iaload), (414, .invokevirtual 37), (417, .aload_n 2), (418, .aload_n 0), (419, .iload_n 3), (420, .iconst 1), (421, .iadd), (422, .iaload), (423, .aload_n 0), (424, .iload_n 3), (425, .iconst 2), (426, .iadd), (427, .iaload), (428, .invokevirtual 40), (431, .if_icmp .eq 1091), (434, .iconst 0), (435, .ireturn), (436, .aload_n 1), (437, .aload_n 0), (438, .iload_n 3), (439, .iconst 1), (440, .iadd), (441, .iaload), (442, .aload_n 0), (443, .iload_n 3), (444, .iconst 2), (445, .iadd), (446, .iaload), (447, .invokevirtual 41), (450, .aload_n 2), (451, .aload_n 0), (452, .iload_n 3), (453, .iconst 1), (454, .iadd), (455, .iaload), (456, .aload_n 0), (457, .iload_n 3), (458, .iconst 2), (459, .iadd), (460, .iaload), (461, .invokevirtual 44), (464, .if_icmp .eq 1058), (467, .iconst 0), (468, .ireturn), (469, .aload_n 1)]
set_option maxRecDepth 100000 in
theorem T_L_law_4_ok : chkT code T_L_law_4 = true := by decide +kernel
def T_L_law_5 : List (Nat × Instr) := [(470, .aload_n 0), (471, .iload_n 3), (472, .iconst 1), (473, .iadd), (474, .iaload), (475, .aload_n 0), (476, .iload_n 3), (477, .iconst 2), (478, .iadd), (479, .iaload), (480, .invokevirtual 45), (483, .aload_n 2), (484, .aload_n 0), (485, .iload_n 3), (486, .iconst 1), (487, .iadd), (488, .iaload), (489, .aload_n 0), (490, .iload_n 3), (491, .iconst 2), (492, .iadd), (493, .iaload), (494, .invokevirtual 48), (497, .if_icmp .eq 1025), (500, .iconst 0), (501, .ireturn), (502, .aload_n 1), (503, .aload_n 0), (504, .iload_n 3), (505, .iconst 1), (506, .iadd), (507, .iaload), (508, .invokevirtual 49), (511, .aload_n 2), (512, .aload_n 0), (513, .iload_n 3), (514, .iconst 1), (515, .iadd), (516, .iaload), (517, .invokevirtual 52), (520, .if_icmp .eq 1002), (523, .iconst 0), (524, .ireturn), (525, .aload_n 1), (526, .aload_n 0), (527, .iload_n 3), (528, .iconst 1), (529, .iadd), (530, .iaload), (531, .invokevirtual 53)]
set_option maxRecDepth 100000 in
theorem T_L_law_5_ok : chkT code T_L_law_5 = true := by decide +kernel
def T_L_law_6 : List (Nat × Instr) := [(534, .aload_n 2), (535, .aload_n 0), (536, .iload_n 3), (537, .iconst 1), (538, .iadd), (539, .iaload), (540, .invokevirtual 56), (543, .if_icmp .eq 979), (546, .iconst 0), (547, .ireturn), (548, .aload_n 1), (549, .aload_n 0), (550, .iload_n 3), (551, .iconst 1), (552, .iadd), (553, .iaload), (554, .aload_n 0), (555, .iload_n 3), (556, .iconst 2), (557, .iadd), (558, .iaload), (559, .ifCond .eq 7), (562, .iconst 1), (563, .goto 4), (566, .iconst 0), (567, .invokevirtual 57), (570, .aload_n 2), (571, .aload_n 0), (572, .iload_n 3), (573, .iconst 1), (574, .iadd), (575, .iaload), (576, .aload_n 0), (577, .iload_n 3), (578, .iconst 2), (579, .iadd), (580, .iaload), (581, .ifCond .eq 7), (584, .iconst 1), (585, .goto 4), (588, .iconst 0), (589, .invokevirtual 60), (592, .if_icmp .eq 930), (595, .iconst 0), (596, .ireturn), (597, .aload_n 1), (598, .aload_n 0), (599, .iload_n 3), (600, .iconst 1), (601, .iadd)]
set_option maxRecDepth 100000 in
theorem T_L_law_6_ok : chkT code T_L_law_6 = true := by decide +kernel
def T_L_law_7 : List (Nat × Instr) := [(602, .iaload), (603, .aload_n 0), (604, .iload_n 3), (605, .iconst 2), (606, .iadd), (607, .iaload), (608, .invokevirtual 61), (611, .aload_n 2), (612, .aload_n 0), (613, .iload_n 3), (614, .iconst 1), (615, .iadd), (616, .iaload), (617, .aload_n 0), (618, .iload_n 3), (619, .iconst 2), (620, .iadd), (621, .iaload), (622, .invokevirtual 64), (625, .if_icmp .eq 897), (628, .iconst 0), (629, .ireturn), (630, .aload_n 1), (631, .aload_n 0), (632, .iload_n 3), (633, .iconst 1), (634, .iadd), (635, .iaload), (636, .aload_n 0), (637, .iload_n 3), (638, .iconst 2), (639, .iadd), (640, .iaload), (641, .ifCond .eq 7), (644, .iconst 1), (645, .goto 4), (648, .iconst 0), (649, .invokevirtual 65), (652, .aload_n 2), (653, .aload_n 0), (654, .iload_n 3), (655, .iconst 1), (656, .iadd), (657, .iaload), (658, .aload_n 0), (659, .iload_n 3), (660, .iconst 2), (661, .iadd), (662, .iaload), (663, .ifCond .eq 7)]
set_option maxRecDepth 100000 in
theorem T_L_law_7_ok : chkT code T_L_law_7 = true := by decide +kernel
def T_L_law_8 : List (Nat × Instr) := [(666, .iconst 1), (667, .goto 4), (670, .iconst 0), (671, .invokevirtual 68), (674, .if_icmp .eq 848), (677, .iconst 0), (678, .ireturn), (679, .aload_n 1), (680, .aload_n 0), (681, .iload_n 3), (682, .iconst 1), (683, .iadd), (684, .iaload), (685, .aload_n 0), (686, .iload_n 3), (687, .iconst 2), (688, .iadd), (689, .iaload), (690, .invokevirtual 69), (693, .aload_n 2), (694, .aload_n 0), (695, .iload_n 3), (696, .iconst 1), (697, .iadd), (698, .iaload), (699, .aload_n 0), (700, .iload_n 3), (701, .iconst 2), (702, .iadd), (703, .iaload), (704, .invokevirtual 72), (707, .if_icmp .eq 815), (710, .iconst 0), (711, .ireturn), (712, .aload_n 1), (713, .aload_n 0), (714, .iload_n 3), (715, .iconst 1), (716, .iadd), (717, .iaload), (718, .aload_n 0), (719, .iload_n 3), (720, .iconst 2), (721, .iadd), (722, .iaload), (723, .aload_n 0), (724, .iload_n 3), (725, .iconst 3), (726, .iadd), (727, .iaload)]
set_option maxRecDepth 100000 in
theorem T_L_law_8_ok : chkT code T_L_law_8 = true := by decide +kernel
def T_L_law_9 : List (Nat × Instr) := [(728, .aload_n 0), (729, .iload_n 3), (730, .iconst 4), (731, .iadd), (732, .iaload), (733, .aload_n 0), (734, .iload_n 3), (735, .iconst 5), (736, .iadd), (737, .iaload), (738, .invokevirtual 73), (741, .aload_n 2), (742, .aload_n 0), (743, .iload_n 3), (744, .iconst 1), (745, .iadd), (746, .iaload), (747, .aload_n 0), (748, .iload_n 3), (749, .iconst 2), (750, .iadd), (751, .iaload), (752, .aload_n 0), (753, .iload_n 3), (754, .iconst 3), (755, .iadd), (756, .iaload), (757, .aload_n 0), (758, .iload_n 3), (759, .iconst 4), (760, .iadd), (761, .iaload), (762, .aload_n 0), (763, .iload_n 3), (764, .iconst 5), (765, .iadd), (766, .iaload), (767, .invokevirtual 77), (770, .if_icmp .eq 752), (773, .iconst 0), (774, .ireturn), (775, .aload_n 1), (776, .aload_n 0), (777, .iload_n 3), (778, .iconst 1), (779, .iadd), (780, .iaload), (781, .aload_n 0), (782, .iload_n 3), (783, .iconst 2)]
set_option maxRecDepth 100000 in
theorem T_L_law_9_ok : chkT code T_L_law_9 = true := by decide +kernel
def T_L_law_10 : List (Nat × Instr) := [(784, .iadd), (785, .iaload), (786, .invokevirtual 78), (789, .aload_n 2), (790, .aload_n 0), (791, .iload_n 3), (792, .iconst 1), (793, .iadd), (794, .iaload), (795, .aload_n 0), (796, .iload_n 3), (797, .iconst 2), (798, .iadd), (799, .iaload), (800, .invokevirtual 81), (803, .if_icmp .eq 719), (806, .iconst 0), (807, .ireturn), (808, .aload_n 1), (809, .aload_n 0), (810, .iload_n 3), (811, .iconst 1), (812, .iadd), (813, .iaload), (814, .aload_n 0), (815, .iload_n 3), (816, .iconst 2), (817, .iadd), (818, .iaload), (819, .invokevirtual 82), (822, .aload_n 2), (823, .aload_n 0), (824, .iload_n 3), (825, .iconst 1), (826, .iadd), (827, .iaload), (828, .aload_n 0), (829, .iload_n 3), (830, .iconst 2), (831, .iadd), (832, .iaload), (833, .invokevirtual 85), (836, .if_icmp .eq 686), (839, .iconst 0), (840, .ireturn), (841, .aload_n 1), (842, .aload_n 0), (843, .iload_n 3), (844, .iconst 1), (845, .iadd)]
set_option maxRecDepth 100000 in
theorem T_L_law_10_ok : chkT code T_L_law_10 = true := by decide +kernel
def T_L_law_11 : List (Nat × Instr) := [(846, .iaload), (847, .aload_n 0), (848, .iload_n 3), (849, .iconst 2), (850, .iadd), (851, .iaload), (852, .aload_n 0), (853, .iload_n 3), (854, .iconst 3), (855, .iadd), (856, .iaload), (857, .invokevirtual 86), (860, .aload_n 2), (861, .aload_n 0), (862, .iload_n 3), (863, .iconst 1), (864, .iadd), (865, .iaload), (866, .aload_n 0), (867, .iload_n 3), (868, .iconst 2), (869, .iadd), (870, .iaload), (871, .aload_n 0), (872, .iload_n 3), (873, .iconst 3), (874, .iadd), (875, .iaload), (876, .invokevirtual 90), (879, .if_icmp .eq 643), (882, .iconst 0), (883, .ireturn), (884, .aload_n 1), (885, .aload_n 0), (886, .iload_n 3), (887, .iconst 1), (888, .iadd), (889, .iaload), (890, .aload_n 0), (891, .iload_n 3), (892, .iconst 2), (893, .iadd), (894, .iaload), (895, .invokevirtual 91), (898, .aload_n 2), (899, .aload_n 0), (900, .iload_n 3), (901, .iconst 1), (902, .iadd), (903, .iaload)]
set_option maxRecDepth 100000 in
theorem T_L_law_11_ok : chkT code T_L_law_11 = true := by decide +kernel
def T_L_law_12 : List (Nat × Instr) := [(904, .aload_n 0), (905, .iload_n 3), (906, .iconst 2), (907, .iadd), (908, .iaload), (909, .invokevirtual 94), (912, .if_icmp .eq 610), (915, .iconst 0), (916, .ireturn), (917, .aload_n 1), (918, .aload_n 0), (919, .iload_n 3), (920, .iconst 1), (921, .iadd), (922, .iaload), (923, .aload_n 0), (924, .iload_n 3), (925, .iconst 2), (926, .iadd), (927, .iaload), (928, .aload_n 0), (929, .iload_n 3), (930, .iconst 3), (931, .iadd), (932, .iaload), (933, .invokevirtual 95), (936, .aload_n 2), (937, .aload_n 0), (938, .iload_n 3), (939, .iconst 1), (940, .iadd), (941, .iaload), (942, .aload_n 0), (943, .iload_n 3), (944, .iconst 2), (945, .iadd), (946, .iaload), (947, .aload_n 0), (948, .iload_n 3), (949, .iconst 3), (950, .iadd), (951, .iaload), (952, .invokevirtual 98), (955, .if_icmp .eq 567), (958, .iconst 0), (959, .ireturn), (960, .aload_n 1), (961, .aload_n 0), (962, .iload_n 3), (963, .iconst 1)]
set_option maxRecDepth 100000 in
theorem T_L_law_12_ok : chkT code T_L_law_12 = true := by decide +kernel
def T_L_law_13 : List (Nat × Instr) := [(964, .iadd), (965, .iaload), (966, .aload_n 0), (967, .iload_n 3), (968, .iconst 2), (969, .iadd), (970, .iaload), (971, .aload_n 0), (972, .iload_n 3), (973, .iconst 3), (974, .iadd), (975, .iaload), (976, .aload_n 0), (977, .iload_n 3), (978, .iconst 4), (979, .iadd), (980, .iaload), (981, .invokevirtual 99), (984, .aload_n 2), (985, .aload_n 0), (986, .iload_n 3), (987, .iconst 1), (988, .iadd), (989, .iaload), (990, .aload_n 0), (991, .iload_n 3), (992, .iconst 2), (993, .iadd), (994, .iaload), (995, .aload_n 0), (996, .iload_n 3), (997, .iconst 3), (998, .iadd), (999, .iaload), (1000, .aload_n 0), (1001, .iload_n 3), (1002, .iconst 4), (1003, .iadd), (1004, .iaload), (1005, .invokevirtual 102), (1008, .if_icmp .eq 514), (1011, .iconst 0), (1012, .ireturn), (1013, .aload_n 1), (1014, .aload_n 0), (1015, .iload_n 3), (1016, .iconst 1), (1017, .iadd), (1018, .iaload), (1019, .invokevirtual 103)]
set_option maxRecDepth 100000 in
theorem T_L_law_13_ok : chkT code T_L_law_13 = true := by decide +kernel
def T_L_law_14 : List (Nat × Instr) := [(1022, .aload_n 2), (1023, .aload_n 0), (1024, .iload_n 3), (1025, .iconst 1), (1026, .iadd), (1027, .iaload), (1028, .invokevirtual 106), (1031, .if_icmp .eq 491), (1034, .iconst 0), (1035, .ireturn), (1036, .aload_n 1), (1037, .aload_n 0), (1038, .iload_n 3), (1039, .iconst 1), (1040, .iadd), (1041, .iaload), (1042, .aload_n 0), (1043, .iload_n 3), (1044, .iconst 2), (1045, .iadd), (1046, .iaload), (1047, .invokevirtual 107), (1050, .aload_n 2), (1051, .aload_n 0), (1052, .iload_n 3), (1053, .iconst 1), (1054, .iadd), (1055, .iaload), (1056, .aload_n 0), (1057, .iload_n 3), (1058, .iconst 2), (1059, .iadd), (1060, .iaload), (1061, .invokevirtual 110), (1064, .if_icmp .eq 458), (1067, .iconst 0), (1068, .ireturn), (1069, .aload_n 1), (1070, .aload_n 0), (1071, .iload_n 3), (1072, .iconst 1), (1073, .iadd), (1074, .iaload), (1075, .aload_n 0), (1076, .iload_n 3), (1077, .iconst 2), (1078, .iadd), (1079, .iaload), (1080, .invokevirtual 111), (1083, .aload_n 2)]
set_option maxRecDepth 100000 in
theorem T_L_law_14_ok : chkT code T_L_law_14 = true := by decide +kernel
def T_L_law_15 : List (Nat × Instr) := [(1084, .aload_n 0), (1085, .iload_n 3), (1086, .iconst 1), (1087, .iadd), (1088, .iaload), (1089, .aload_n 0), (1090, .iload_n 3), (1091, .iconst 2), (1092, .iadd), (1093, .iaload), (1094, .invokevirtual 114), (1097, .if_icmp .eq 425), (1100, .iconst 0), (1101, .ireturn), (1102, .aload_n 1), (1103, .aload_n 0), (1104, .iload_n 3), (1105, .iconst 1), (1106, .iadd), (1107, .iaload), (1108, .aload_n 0), (1109, .iload_n 3), (1110, .iconst 2), (1111, .iadd), (1112, .iaload), (1113, .aload_n 0), (1114, .iload_n 3), (1115, .iconst 3), (1116, .iadd), (1117, .iaload), (1118, .aload_n 0), (1119, .iload_n 3), (1120, .iconst 4), (1121, .iadd), (1122, .iaload), (1123, .aload_n 0), (1124, .iload_n 3), (1125, .iconst 5), (1126, .iadd), (1127, .iaload), (1128, .aload_n 0), (1129, .iload_n 3), (1130, .bipush 6), (1132, .iadd), (1133, .iaload), (1134, .invokevirtual 115), (1137, .aload_n 2), (1138, .aload_n 0), (1139, .iload_n 3), (1140, .iconst 1)]
set_option maxRecDepth 100000 in
theorem T_L_law_15_ok : chkT code T_L_law_15 = true := by decide +kernel
def T_L_law_16 : List (Nat × Instr) := [(1141, .iadd), (1142, .iaload), (1143, .aload_n 0), (1144, .iload_n 3), (1145, .iconst 2), (1146, .iadd), (1147, .iaload), (1148, .aload_n 0), (1149, .iload_n 3), (1150, .iconst 3), (1151, .iadd), (1152, .iaload), (1153, .aload_n 0), (1154, .iload_n 3), (1155, .iconst 4), (1156, .iadd), (1157, .iaload), (1158, .aload_n 0), (1159, .iload_n 3), (1160, .iconst 5), (1161, .iadd), (1162, .iaload), (1163, .aload_n 0), (1164, .iload_n 3), (1165, .bipush 6), (1167, .iadd), (1168, .iaload), (1169, .invokevirtual 119), (1172, .lcmp), (1173, .ifCond .eq 349), (1176, .iconst 0), (1177, .ireturn), (1178, .aload_n 1), (1179, .aload_n 0), (1180, .iload_n 3), (1181, .iconst 1), (1182, .iadd), (1183, .iaload), (1184, .aload_n 0), (1185, .iload_n 3), (1186, .iconst 2), (1187, .iadd), (1188, .iaload), (1189, .aload_n 0), (1190, .iload_n 3), (1191, .iconst 3), (1192, .iadd), (1193, .iaload), (1194, .invokevirtual 120), (1197, .aload_n 2)]
set_option maxRecDepth 100000 in
theorem T_L_law_16_ok : chkT code T_L_law_16 = true := by decide +kernel
def T_L_law_17 : List (Nat × Instr) := [(1198, .aload_n 0), (1199, .iload_n 3), (1200, .iconst 1), (1201, .iadd), (1202, .iaload), (1203, .aload_n 0), (1204, .iload_n 3), (1205, .iconst 2), (1206, .iadd), (1207, .iaload), (1208, .aload_n 0), (1209, .iload_n 3), (1210, .iconst 3), (1211, .iadd), (1212, .iaload), (1213, .invokevirtual 123), (1216, .if_icmp .eq 306), (1219, .iconst 0), (1220, .ireturn), (1221, .aload_n 1), (1222, .aload_n 0), (1223, .iload_n 3), (1224, .iconst 1), (1225, .iadd), (1226, .iaload), (1227, .invokevirtual 124), (1230, .aload_n 2), (1231, .aload_n 0), (1232, .iload_n 3), (1233, .iconst 1), (1234, .iadd), (1235, .iaload), (1236, .invokevirtual 127), (1239, .if_icmp .eq 283), (1242, .iconst 0), (1243, .ireturn), (1244, .aload_n 1), (1245, .aload_n 0), (1246, .iload_n 3), (1247, .iconst 1), (1248, .iadd), (1249, .iaload), (1250, .aload_n 0), (1251, .iload_n 3), (1252, .iconst 2), (1253, .iadd), (1254, .iaload), (1255, .aload_n 0), (1256, .iload_n 3), (1257, .iconst 3)]
set_option maxRecDepth 100000 in
theorem T_L_law_17_ok : chkT code T_L_law_17 = true := by decide +kernel
def T_L_law_18 : List (Nat × Instr) := [(1258, .iadd), (1259, .iaload), (1260, .invokevirtual 128), (1263, .aload_n 2), (1264, .aload_n 0), (1265, .iload_n 3), (1266, .iconst 1), (1267, .iadd), (1268, .iaload), (1269, .aload_n 0), (1270, .iload_n 3), (1271, .iconst 2), (1272, .iadd), (1273, .iaload), (1274, .aload_n 0), (1275, .iload_n 3), (1276, .iconst 3), (1277, .iadd), (1278, .iaload), (1279, .invokevirtual 131), (1282, .if_icmp .eq 240), (1285, .iconst 0), (1286, .ireturn), (1287, .aload_n 1), (1288, .aload_n 0), (1289, .iload_n 3), (1290, .iconst 1), (1291, .iadd), (1292, .iaload), (1293, .aload_n 0), (1294, .iload_n 3), (1295, .iconst 2), (1296, .iadd), (1297, .iaload), (1298, .aload_n 0), (1299, .iload_n 3), (1300, .iconst 3), (1301, .iadd), (1302, .iaload), (1303, .invokevirtual 132), (1306, .aload_n 2), (1307, .aload_n 0), (1308, .iload_n 3), (1309, .iconst 1), (1310, .iadd), (1311, .iaload), (1312, .aload_n 0), (1313, .iload_n 3), (1314, .iconst 2), (1315, .iadd)]
set_option maxRecDepth 100000 in
theorem T_L_law_18_ok : chkT code T_L_law_18 = true := by decide +kernel
def T_L_law_19 : List (Nat × Instr) := [(1316, .iaload), (1317, .aload_n 0), (1318, .iload_n 3), (1319, .iconst 3), (1320, .iadd), (1321, .iaload), (1322, .invokevirtual 136), (1325, .lcmp), (1326, .ifCond .eq 196), (1329, .iconst 0), (1330, .ireturn), (1331, .aload_n 1), (1332, .aload_n 0), (1333, .iload_n 3), (1334, .iconst 1), (1335, .iadd), (1336, .iaload), (1337, .aload_n 0), (1338, .iload_n 3), (1339, .iconst 2), (1340, .iadd), (1341, .iaload), (1342, .aload_n 0), (1343, .iload_n 3), (1344, .iconst 3), (1345, .iadd), (1346, .iaload), (1347, .aload_n 0), (1348, .iload_n 3), (1349, .iconst 4), (1350, .iadd), (1351, .iaload), (1352, .aload_n 0), (1353, .iload_n 3), (1354, .iconst 5), (1355, .iadd), (1356, .iaload), (1357, .invokevirtual 137), (1360, .aload_n 2), (1361, .aload_n 0), (1362, .iload_n 3), (1363, .iconst 1), (1364, .iadd), (1365, .iaload), (1366, .aload_n 0), (1367, .iload_n 3), (1368, .iconst 2), (1369, .iadd), (1370, .iaload), (1371, .aload_n 0)]
set_option maxRecDepth 100000 in
theorem T_L_law_19_ok : chkT code T_L_law_19 = true := by decide +kernel
def T_L_law_20 : List (Nat × Instr) := [(1372, .iload_n 3), (1373, .iconst 3), (1374, .iadd), (1375, .iaload), (1376, .aload_n 0), (1377, .iload_n 3), (1378, .iconst 4), (1379, .iadd), (1380, .iaload), (1381, .aload_n 0), (1382, .iload_n 3), (1383, .iconst 5), (1384, .iadd), (1385, .iaload), (1386, .invokevirtual 140), (1389, .if_icmp .eq 133), (1392, .iconst 0), (1393, .ireturn), (1394, .aload_n 1), (1395, .aload_n 0), (1396, .iload_n 3), (1397, .iconst 1), (1398, .iadd), (1399, .iaload), (1400, .invokevirtual 141), (1403, .aload_n 2), (1404, .aload_n 0), (1405, .iload_n 3), (1406, .iconst 1), (1407, .iadd), (1408, .iaload), (1409, .invokevirtual 144), (1412, .if_icmp .eq 110), (1415, .iconst 0), (1416, .ireturn), (1417, .aload_n 1), (1418, .aload_n 0), (1419, .iload_n 3), (1420, .iconst 1), (1421, .iadd), (1422, .iaload), (1423, .invokevirtual 145), (1426, .aload_n 2), (1427, .aload_n 0), (1428, .iload_n 3), (1429, .iconst 1), (1430, .iadd), (1431, .iaload), (1432, .invokevirtual 148), (1435, .if_icmp .eq 87)]
set_option maxRecDepth 100000 in
theorem T_L_law_20_ok : chkT code T_L_law_20 = true := by decide +kernel
def T_L_law_21 : List (Nat × Instr) := [(1438, .iconst 0), (1439, .ireturn), (1440, .aload_n 1), (1441, .aload_n 0), (1442, .iload_n 3), (1443, .iconst 1), (1444, .iadd), (1445, .iaload), (1446, .aload_n 0), (1447, .iload_n 3), (1448, .iconst 2), (1449, .iadd), (1450, .iaload), (1451, .invokevirtual 149), (1454, .aload_n 2), (1455, .aload_n 0), (1456, .iload_n 3), (1457, .iconst 1), (1458, .iadd), (1459, .iaload), (1460, .aload_n 0), (1461, .iload_n 3), (1462, .iconst 2), (1463, .iadd), (1464, .iaload), (1465, .invokevirtual 152), (1468, .if_icmp .eq 54), (1471, .iconst 0), (1472, .ireturn), (1473, .aload_n 1), (1474, .invokevirtual 153), (1477, .aload_n 2), (1478, .invokevirtual 157), (1481, .if_icmp .eq 41), (1484, .iconst 0), (1485, .ireturn), (1486, .aload_n 1), (1487, .invokevirtual 158), (1490, .aload_n 2), (1491, .invokevirtual 161), (1494, .if_icmp .eq 28), (1497, .iconst 0), (1498, .ireturn), (1499, .aload_n 1), (1500, .aload_n 0), (1501, .iload_n 3), (1502, .iconst 1), (1503, .iadd), (1504, .iaload), (1505, .invokevirtual 162)]
set_option maxRecDepth 100000 in
theorem T_L_law_21_ok : chkT code T_L_law_21 = true := by decide +kernel
def T_L_law_22 : List (Nat × Instr) := [(1508, .aload_n 2), (1509, .aload_n 0), (1510, .iload_n 3), (1511, .iconst 1), (1512, .iadd), (1513, .iaload), (1514, .invokevirtual 165), (1517, .if_icmp .eq 5), (1520, .iconst 0), (1521, .ireturn), (1522, .iinc 3 7), (1525, .goto (-1507)), (1528, .iconst 1), (1529, .ireturn)]
set_option maxRecDepth 100000 in
theorem T_L_law_22_ok : chkT code T_L_law_22 = true := by decide +kernel
theorem chkT_app {cc : ByteArray} {a b : List (Nat × Instr)} (ha : chkT cc a = true) (hb : chkT cc b = true) : chkT cc (a ++ b) = true := by
  unfold chkT at *
  rw [List.all_append, ha, hb]; rfl
set_option maxRecDepth 100000 in
theorem T_L_law_ok : chkT code T_L_law = true := by
  have h : chkT code (T_L_law_0 ++ (T_L_law_1 ++ (T_L_law_2 ++ (T_L_law_3 ++ (T_L_law_4 ++ (T_L_law_5 ++ (T_L_law_6 ++ (T_L_law_7 ++ (T_L_law_8 ++ (T_L_law_9 ++ (T_L_law_10 ++ (T_L_law_11 ++ (T_L_law_12 ++ (T_L_law_13 ++ (T_L_law_14 ++ (T_L_law_15 ++ (T_L_law_16 ++ (T_L_law_17 ++ (T_L_law_18 ++ (T_L_law_19 ++ (T_L_law_20 ++ (T_L_law_21 ++ (T_L_law_22))))))))))))))))))))))) = true := chkT_app T_L_law_0_ok (chkT_app T_L_law_1_ok (chkT_app T_L_law_2_ok (chkT_app T_L_law_3_ok (chkT_app T_L_law_4_ok (chkT_app T_L_law_5_ok (chkT_app T_L_law_6_ok (chkT_app T_L_law_7_ok (chkT_app T_L_law_8_ok (chkT_app T_L_law_9_ok (chkT_app T_L_law_10_ok (chkT_app T_L_law_11_ok (chkT_app T_L_law_12_ok (chkT_app T_L_law_13_ok (chkT_app T_L_law_14_ok (chkT_app T_L_law_15_ok (chkT_app T_L_law_16_ok (chkT_app T_L_law_17_ok (chkT_app T_L_law_18_ok (chkT_app T_L_law_19_ok (chkT_app T_L_law_20_ok (chkT_app T_L_law_21_ok (T_L_law_22_ok))))))))))))))))))))))
  exact h
