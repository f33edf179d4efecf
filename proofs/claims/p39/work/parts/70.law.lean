def T_L_law : List (Nat × Instr) := [(0, .new 20), (3, .dup), (4, .invokespecial 47), (7, .astore_n 1), (8, .bipush 16), (10, .newarray .int), (12, .astore_n 2), (13, .aload_n 1), (14, .aload_n 0), (15, .iconst 0), (16, .bipush 7), (18, .aload_n 2), (19, .invokestatic 48), (22, .istore_n 3), (23, .iload_n 3), (24, .bipush 12), (26, .if_icmp .lt 17), (29, .aload_n 1), (30, .iconst 0), (31, .iconst 0), (32, .iconst 0), (33, .iload_n 3), (34, .invokevirtual 51), (37, .aload_n 2), (38, .iconst 0), (39, .iaload), (40, .if_icmp .eq 5), (43, .iconst 0), (44, .ireturn), (45, .bipush 24), (47, .newarray .int), (49, .astore 4), (51, .aload_n 1), (52, .aload_n 0), (53, .iconst 3), (54, .bipush 6), (56, .aload 4), (58, .invokestatic 54), (61, .istore 5), (63, .iload 5), (65, .ifCond .ge 5), (68, .iconst 0), (69, .ireturn), (70, .iconst 3), (71, .newarray .int), (73, .astore 6), (75, .iconst 0), (76, .istore 7), (78, .iload 7), (80, .iconst 3), (81, .if_icmp .ge 82), (84, .aload 6), (86, .iload 7), (88, .iconst 1), (89, .aload_n 0), (90, .bipush 7), (92, .invokestatic 9), (95, .iconst 4), (96, .iload 7), (98, .imul), (99, .ishr), (100, .aload_n 0), (101, .bipush 7), (103, .invokestatic 9), (106, .bipush 13), (108, .ishr), (109, .iconst 2), (110, .invokestatic 15), (113, .ifCond .ne 8), (116, .bipush 9), (118, .goto 4), (121, .iconst 4), (122, .invokestatic 15), (125, .iadd), (126, .iastore), (127, .aload_n 1), (128, .aload 6), (130, .iload 7), (132, .iaload), (133, .invokevirtual 57), (136, .iload 7), (138, .if_icmp .ne 17), (141, .aload_n 1), (142, .iload 7), (144, .invokevirtual 61), (147, .aload 6), (149, .iload 7), (151, .iaload), (152, .if_icmp .eq 5), (155, .iconst 0), (156, .ireturn), (157, .iinc 7 1), (160, .goto (-82)), (163, .bipush 7), (165, .newarray .int), (167, .astore 7), (169, .iconst 0), (170, .istore 8), (172, .iload 8), (174, .bipush 7), (176, .if_icmp .ge 15), (179, .aload 7), (181, .iload 8), (183, .iconst (-1)), (184, .iastore), (185, .iinc 8 1), (188, .goto (-16)), (191, .iconst 0), (192, .istore 8), (194, .iconst 0), (195, .istore 9), (197, .iload 9), (199, .bipush 14), (201, .if_icmp .ge 1141), (204, .aload_n 0), (205, .bipush 8), (207, .iload 9), (209, .iadd), (210, .invokestatic 9), (213, .istore 10), (215, .iload 10), (217, .iload 5), (219, .iconst 1), (220, .iadd), (221, .invokestatic 15), (224, .istore 11), (226, .iload 10), (228, .iconst 3), (229, .ishr), (230, .aload_n 2), (231, .iconst 0), (232, .iaload), (233, .iconst 1), (234, .iadd), (235, .invokestatic 15), (238, .istore 12), (240, .iload 11), (242, .iload 5), (244, .if_icmp .ge 195), (247, .iconst (-1)), (248, .istore 13), (250, .iconst 0), (251, .istore 14), (253, .iload 14), (255, .aload_n 2), (256, .iconst 0), (257, .iaload), (258, .if_icmp .ge 28), (261, .aload 7), (263, .iload 14), (265, .iaload), (266, .iload 11), (268, .if_icmp .ne 8), (271, .iload 14), (273, .goto 5), (276, .iload 13), (278, .istore 13), (280, .iinc 14 1), (283, .goto (-30)), (286, .iload 12), (288, .aload_n 2), (289, .iconst 0), (290, .iaload), (291, .if_icmp .eq 11), (294, .aload 7), (296, .iload 12), (298, .iaload), (299, .ifCond .ge 7), (302, .iconst 1), (303, .goto 4), (306, .iconst 0), (307, .istore 14), (309, .aload_n 1), (310, .iload 11), (312, .iload 12), (314, .aload_n 2), (315, .iconst 0), (316, .iaload), (317, .if_icmp .ne 8), (320, .bipush (-9)), (322, .goto 5), (325, .iload 12), (327, .invokevirtual 64), (330, .iload 14), (332, .ifCond .eq 7), (335, .iconst 1), (336, .goto 5), (339, .bipush (-3)), (341, .if_icmp .eq 5), (344, .iconst 0), (345, .ireturn), (346, .iload 14), (348, .ifCond .eq 14), (351, .iload 13), (353, .ifCond .lt 9), (356, .aload 7), (358, .iload 13), (360, .iconst (-1)), (361, .iastore), (362, .iload 14), (364, .ifCond .eq 18), (367, .iload 12), (369, .aload_n 2), (370, .iconst 0), (371, .iaload), (372, .if_icmp .ge 10), (375, .aload 7), (377, .iload 12), (379, .iload 11), (381, .iastore), (382, .bipush (-9)), (384, .istore 15), (386, .iconst 0), (387, .istore 16), (389, .iload 16), (391, .aload_n 2), (392, .iconst 0), (393, .iaload), (394, .if_icmp .ge 28), (397, .aload 7), (399, .iload 16), (401, .iaload), (402, .iload 11), (404, .if_icmp .ne 8), (407, .iload 16), (409, .goto 5), (412, .iload 15), (414, .istore 15), (416, .iinc 16 1), (419, .goto (-30)), (422, .aload_n 1), (423, .iload 11), (425, .iconst 5), (426, .invokevirtual 67), (429, .iload 15), (431, .if_icmp .eq 5), (434, .iconst 0), (435, .ireturn), (436, .goto 31), (439, .iload 10), (441, .bipush 7), (443, .ishr), (444, .iconst 4), (445, .invokestatic 15), (448, .istore 13), (450, .aload_n 1), (451, .iload 13), (453, .invokevirtual 70), (456, .iload 8), (458, .if_icmp .eq 5), (461, .iconst 0), (462, .ireturn), (463, .iload 13), (465, .istore 8), (467, .iconst 0), (468, .istore 13), (470, .iconst 0), (471, .istore 14), (473, .iload 14), (475, .aload_n 2), (476, .iconst 0), (477, .iaload), (478, .if_icmp .ge 101), (481, .iload 13), (483, .aload 7), (485, .iload 14), (487, .iaload), (488, .ifCond .lt 7), (491, .iconst 1), (492, .goto 4), (495, .iconst 0), (496, .iadd), (497, .istore 13), (499, .aload_n 1), (500, .iload 14), (502, .iconst 2), (503, .invokevirtual 73), (506, .aload 7), (508, .iload 14), (510, .iaload), (511, .ifCond .ge 8), (514, .bipush (-9)), (516, .goto 8), (519, .aload 7), (521, .iload 14), (523, .iaload), (524, .if_icmp .ne 47), (527, .aload_n 1), (528, .iload 14), (530, .iconst 4), (531, .invokevirtual 73), (534, .aload 7), (536, .iload 14), (538, .iaload), (539, .ifCond .ge 8), (542, .bipush (-99)), (544, .goto 24), (547, .aload 4), (549, .bipush 6), (551, .aload 7), (553, .iload 14), (555, .iaload), (556, .iadd), (557, .iaload), (558, .aload_n 2), (559, .iconst 2), (560, .iload 14), (562, .iadd), (563, .iaload), (564, .isub), (565, .iload 8), (567, .isub), (568, .if_icmp .eq 5), (571, .iconst 0), (572, .ireturn), (573, .iinc 14 1), (576, .goto (-103)), (579, .aload_n 1), (580, .iconst 3), (581, .invokevirtual 76), (584, .iload 13), (586, .if_icmp .ne 14), (589, .aload_n 1), (590, .bipush 6), (592, .invokevirtual 76), (595, .iload 8), (597, .if_icmp .eq 5), (600, .iconst 0), (601, .ireturn), (602, .iload 10), (604, .bipush 11), (606, .ishr), (607, .iconst 3), (608, .invokestatic 15), (611, .istore 14), (613, .iconst 0), (614, .istore 15), (616, .iload 15), (618, .iconst 2), (619, .if_icmp .ge 131), (622, .aload_n 1), (623, .iload 14), (625, .iload 15), (627, .iconst 1), (628, .if_icmp .ne 7), (631, .iconst 1), (632, .goto 4), (635, .iconst 0), (636, .invokevirtual 79), (639, .aload_n 2), (640, .aload 4), (642, .aload 7), (644, .iload 8), (646, .aload 6), (648, .iload 14), (650, .iaload), (651, .iload 15), (653, .isub), (654, .invokestatic 83), (657, .ifCond .eq 7), (660, .iconst 1), (661, .goto 4), (664, .iconst 0), (665, .if_icmp .eq 5), (668, .iconst 0), (669, .ireturn), (670, .bipush (-9)), (672, .istore 16), (674, .iconst 0), (675, .istore 17), (677, .iload 17), (679, .bipush 10), (681, .if_icmp .ge 39), (684, .aload_n 2), (685, .aload 4), (687, .aload 7), (689, .iload 17), (691, .aload 6), (693, .iload 14), (695, .iaload), (696, .iload 15), (698, .isub), (699, .invokestatic 83), (702, .ifCond .eq 8), (705, .iload 17), (707, .goto 5), (710, .iload 16), (712, .istore 16), (714, .iinc 17 1), (717, .goto (-40)), (720, .aload_n 1), (721, .iload 14), (723, .iload 15), (725, .iconst 1), (726, .if_icmp .ne 7), (729, .iconst 1), (730, .goto 4), (733, .iconst 0), (734, .invokevirtual 85), (737, .iload 16), (739, .if_icmp .eq 5), (742, .iconst 0), (743, .ireturn), (744, .iinc 15 1), (747, .goto (-131)), (750, .aload_n 2), (751, .iconst 0), (752, .iaload), (753, .iconst 1), (754, .iadd), (755, .istore 15), (757, .bipush (-9)), (759, .istore 16), (761, .bipush 9), (763, .istore 17), (765, .iload 17), (767, .ifCond .le 45), (770, .aload_n 2), (771, .aload 4), (773, .aload 7), (775, .iload 8), (777, .aload 6), (779, .iload 14), (781, .iaload), (782, .iconst 0), (783, .iload 17), (785, .invokestatic 40), (788, .iload 15), (790, .ishr), (791, .iconst 1), (792, .iand), (793, .iconst 1), (794, .if_icmp .ne 8), (797, .iload 17), (799, .goto 5), (802, .iload 16), (804, .istore 16), (806, .iinc 17 (-1)), (809, .goto (-44)), (812, .aload_n 1), (813, .iload 14), (815, .iconst (-1)), (816, .invokevirtual 88), (819, .iload 16), (821, .if_icmp .eq 5), (824, .iconst 0), (825, .ireturn), (826, .iconst 0), (827, .istore 17), (829, .iconst 0), (830, .istore 18), (832, .iload 18), (834, .bipush 9), (836, .if_icmp .ge 171), (839, .iload 16), (841, .ifCond .lt 10), (844, .iload 18), (846, .iload 16), (848, .if_icmp .lt 18), (851, .aload_n 1), (852, .iload 14), (854, .iload 18), (856, .invokevirtual 88), (859, .bipush (-9)), (861, .if_icmp .eq 140), (864, .iconst 0), (865, .ireturn), (866, .iconst (-1)), (867, .istore 19), (869, .iload 15), (871, .istore 20), (873, .iload 20), (875, .ifCond .le 100), (878, .iload 20), (880, .iload 17), (882, .if_icmp .eq 42), (885, .aload_n 2), (886, .aload 4), (888, .aload 7), (890, .iload 8), (892, .iload 20), (894, .invokestatic 32), (897, .ifCond .eq 27), (900, .aload_n 2), (901, .aload 4), (903, .aload 7), (905, .aload 6), (907, .iload 14), (909, .iaload), (910, .iload 17), (912, .iload 20), (914, .invokestatic 36), (917, .ifCond .eq 7), (920, .iconst 1), (921, .goto 4), (924, .iconst 0), (925, .istore 21), (927, .iload 21), (929, .ifCond .eq 40), (932, .aload_n 2), (933, .aload 4), (935, .aload 7), (937, .iload 8), (939, .aload 6), (941, .iload 14), (943, .iaload), (944, .iload 20), (946, .iload 16), (948, .iconst 1), (949, .isub), (950, .iload 18), (952, .isub), (953, .invokestatic 40), (956, .iload 15), (958, .ishr), (959, .iconst 1), (960, .iand), (961, .iconst 1), (962, .if_icmp .ne 7), (965, .iload 20), (967, .istore 19), (969, .iinc 20 (-1)), (972, .goto (-99)), (975, .iload 19), (977, .ifCond .lt 18), (980, .aload_n 1), (981, .iload 14), (983, .iload 18), (985, .invokevirtual 88), (988, .iload 19), (990, .iconst 1), (991, .isub), (992, .if_icmp .eq 5), (995, .iconst 0), (996, .ireturn), (997, .iload 19), (999, .istore 17), (1001, .iinc 18 1), (1004, .goto (-172)), (1007, .iload 16), (1009, .ifCond .le 12), (1012, .iload 17), (1014, .iload 15), (1016, .if_icmp .eq 5), (1019, .iconst 0), (1020, .ireturn), (1021, .iload 10), (1023, .bipush 13), (1025, .ishr), (1026, .iconst 3), (1027, .invokestatic 15), (1030, .istore 18), (1032, .aload_n 2), (1033, .aload 4), (1035, .aload 7), (1037, .iload 8), (1039, .aload 6), (1041, .iload 14), (1043, .iaload), (1044, .iconst 0), (1045, .bipush 9), (1047, .invokestatic 40), (1050, .aload_n 2), (1051, .aload 4), (1053, .aload 7), (1055, .iload 8), (1057, .aload 6), (1059, .iload 14), (1061, .iaload), (1062, .iload 15), (1064, .bipush 9), (1066, .invokestatic 40), (1069, .iand), (1070, .aload_n 2), (1071, .aload 4), (1073, .aload 7), (1075, .iload 8), (1077, .aload 6), (1079, .iload 18), (1081, .iaload), (1082, .iconst 0), (1083, .bipush 9), (1085, .invokestatic 40), (1088, .iand), (1089, .aload_n 2), (1090, .aload 4), (1092, .aload 7), (1094, .iload 8), (1096, .aload 6), (1098, .iload 18), (1100, .iaload), (1101, .iload 15), (1103, .bipush 9), (1105, .invokestatic 40), (1108, .iand), (1109, .istore 19), (1111, .iconst 0), (1112, .istore 20), (1114, .iconst 0), (1115, .istore 21), (1117, .iload 21), (1119, .aload_n 2), (1120, .iconst 0), (1121, .iaload), (1122, .if_icmp .ge 42), (1125, .iload 19), (1127, .iload 21), (1129, .iconst 1), (1130, .iadd), (1131, .ishr), (1132, .iconst 1), (1133, .iand), (1134, .iconst 1), (1135, .if_icmp .ne 23), (1138, .aload 4), (1140, .aload 7), (1142, .iload 21), (1144, .iaload), (1145, .iaload), (1146, .ifCond .le 12), (1149, .iload 20), (1151, .iconst 1), (1152, .iload 21), (1154, .ishl), (1155, .ior), (1156, .istore 20), (1158, .iinc 21 1), (1161, .goto (-44)), (1164, .aload_n 1), (1165, .iload 14), (1167, .iload 18), (1169, .invokevirtual 91), (1172, .iload 20), (1174, .if_icmp .ne 16), (1177, .aload_n 1), (1178, .iload 18), (1180, .iload 14), (1182, .invokevirtual 91), (1185, .iload 20), (1187, .if_icmp .eq 5), (1190, .iconst 0), (1191, .ireturn), (1192, .iload 9), (1194, .iconst 5), (1195, .irem), (1196, .ifCond .le 6), (1199, .goto 137), (1202, .iload 10), (1204, .bipush 15), (1206, .ishr), (1207, .bipush 7), (1209, .invokestatic 15), (1212, .istore 21), (1214, .iconst 0), (1215, .istore 22), (1217, .aload_n 1), (1218, .iconst 1), (1219, .iconst 1), (1220, .bipush 8), (1222, .invokevirtual 19), (1225, .iconst 1), (1226, .if_icmp .eq 5), (1229, .iconst 0), (1230, .ireturn), (1231, .iconst 0), (1232, .istore 23), (1234, .iload 23), (1236, .iload 21), (1238, .if_icmp .ge 69), (1241, .iload 10), (1243, .bipush 9), (1245, .iload 23), (1247, .iadd), (1248, .ishr), (1249, .bipush 10), (1251, .invokestatic 15), (1254, .istore 24), (1256, .aload_n 1), (1257, .iconst 1), (1258, .iconst 1), (1259, .iload 23), (1261, .iadd), (1262, .iload 24), (1264, .invokevirtual 25), (1267, .iconst 1), (1268, .if_icmp .eq 5), (1271, .iconst 0), (1272, .ireturn), (1273, .iload 22), (1275, .aload_n 2), (1276, .aload 4), (1278, .aload 7), (1280, .iload 24), (1282, .aload 6), (1284, .iload 14), (1286, .iaload), (1287, .invokestatic 83), (1290, .ifCond .eq 7), (1293, .iconst 1), (1294, .goto 4), (1297, .iconst 0), (1298, .iadd), (1299, .istore 22), (1301, .iinc 23 1), (1304, .goto (-70)), (1307, .aload_n 1), (1308, .iload 14), (1310, .iconst 1), (1311, .iconst 1), (1312, .iconst 1), (1313, .iload 21), (1315, .invokevirtual 94), (1318, .iload 22), (1320, .if_icmp .ne 14), (1323, .aload_n 1), (1324, .bipush 6), (1326, .invokevirtual 76), (1329, .iload 8), (1331, .if_icmp .eq 5), (1334, .iconst 0), (1335, .ireturn), (1336, .iinc 9 1), (1339, .goto (-1142)), (1342, .aload_n 1), (1343, .iload 5), (1345, .iconst 0), (1346, .invokevirtual 64), (1349, .iconst (-1)), (1350, .if_icmp .ne 234), (1353, .iload 5), (1355, .ifCond .eq 25), (1358, .aload_n 1), (1359, .iconst 0), (1360, .aload_n 2), (1361, .iconst 0), (1362, .iaload), (1363, .invokevirtual 64), (1366, .iconst (-1)), (1367, .if_icmp .ne 217), (1370, .aload_n 1), (1371, .iconst 0), (1372, .iconst (-1)), (1373, .invokevirtual 64), (1376, .iconst (-1)), (1377, .if_icmp .ne 207), (1380, .aload_n 1), (1381, .bipush 10), (1383, .invokevirtual 70), (1386, .bipush (-2)), (1388, .if_icmp .ne 196), (1391, .aload_n 1), (1392, .iconst 0), (1393, .invokevirtual 57), (1396, .bipush (-2)), (1398, .if_icmp .ne 186), (1401, .aload_n 1), (1402, .bipush 10), (1404, .invokevirtual 57), (1407, .bipush (-2)), (1409, .if_icmp .ne 175), (1412, .aload_n 1), (1413, .iconst 3), (1414, .invokevirtual 61), (1417, .iconst (-1)), (1418, .if_icmp .ne 166), (1421, .aload_n 1), (1422, .iconst 3), (1423, .iconst 1), (1424, .invokevirtual 79), (1427, .iconst (-1)), (1428, .if_icmp .ne 156), (1431, .aload_n 1), (1432, .iconst 3), (1433, .iconst 0), (1434, .invokevirtual 88), (1437, .iconst (-1)), (1438, .if_icmp .ne 146), (1441, .aload_n 1), (1442, .iconst 0), (1443, .bipush (-2)), (1445, .invokevirtual 88), (1448, .iconst (-1)), (1449, .if_icmp .ne 135), (1452, .aload_n 1), (1453, .iconst (-1)), (1454, .iconst 1), (1455, .invokevirtual 85), (1458, .iconst (-1)), (1459, .if_icmp .ne 125), (1462, .aload_n 1), (1463, .iconst 0), (1464, .iconst 3), (1465, .invokevirtual 91), (1468, .iconst (-1)), (1469, .if_icmp .ne 115), (1472, .aload_n 1), (1473, .iconst 3), (1474, .iconst 1), (1475, .iconst 1), (1476, .iconst 0), (1477, .iconst 0), (1478, .invokevirtual 94), (1481, .iconst (-1)), (1482, .if_icmp .ne 102), (1485, .aload_n 1), (1486, .iconst 0), (1487, .iconst 1), (1488, .iconst 1), (1489, .iconst 0), (1490, .iconst 0), (1491, .invokevirtual 94), (1494, .ifCond .ne 90), (1497, .aload_n 1), (1498, .iconst 1), (1499, .iconst 0), (1500, .bipush 10), (1502, .invokevirtual 25), (1505, .iconst 1), (1506, .if_icmp .ne 78), (1509, .aload_n 1), (1510, .iconst 0), (1511, .iconst 1), (1512, .iconst 1), (1513, .iconst 0), (1514, .iconst 1), (1515, .invokevirtual 94), (1518, .bipush (-2)), (1520, .if_icmp .ne 64), (1523, .aload_n 1), (1524, .iconst 0), (1525, .iconst 1), (1526, .iconst 1), (1527, .bipush 8), (1529, .iconst 1), (1530, .invokevirtual 94), (1533, .bipush (-13)), (1535, .if_icmp .ne 49), (1538, .aload_n 1), (1539, .iconst 0), (1540, .iconst 1), (1541, .iconst 0), (1542, .iconst 0), (1543, .iconst 1), (1544, .invokevirtual 94), (1547, .bipush (-12)), (1549, .if_icmp .ne 35), (1552, .aload_n 1), (1553, .iconst 0), (1554, .iconst 1), (1555, .iconst 1), (1556, .iconst 0), (1557, .iconst (-1)), (1558, .invokevirtual 94), (1561, .bipush (-14)), (1563, .if_icmp .ne 21), (1566, .aload_n 1), (1567, .iconst 0), (1568, .iconst 2), (1569, .iconst 1), (1570, .iconst 0), (1571, .iconst 1), (1572, .invokevirtual 94), (1575, .bipush (-11)), (1577, .if_icmp .ne 7), (1580, .iconst 1), (1581, .goto 4), (1584, .iconst 0), (1585, .ireturn)]
def op_L_law (fu : Nat) : Nat → Kont → XL → List Value → XW → Instr → Option XO := opK 25 (rzOf (some .boolean)) [] nl_BrookStonesLaw kl_BrookStonesLaw [] [(51, 5, 1, (U_X7_brook fu)), (57, 2, 1, (U_X7_walker fu)), (61, 2, 1, (U_X7_stride fu)), (64, 3, 1, (U_X7_set fu)), (67, 3, 1, (U_X7_ofStone fu)), (70, 2, 1, (U_X7_water fu)), (73, 3, 1, (U_X7_ofCell fu)), (76, 2, 1, (U_X7_many fu)), (79, 3, 1, (U_X7_can fu)), (85, 3, 1, (U_X7_highest fu)), (88, 3, 1, (U_X7_way fu)), (91, 3, 1, (U_X7_pass fu)), (19, 4, 1, (U_X7_sheet fu)), (25, 4, 1, (U_X7_put fu)), (94, 6, 1, (U_X7_days fu))] [(48, 5, 1, (U_L_put fu)), (54, 5, 1, (U_L_stones fu)), (9, 2, 1, (U_L_cell fu)), (15, 2, 1, (U_L_some fu)), (83, 5, 1, (U_L_can fu)), (40, 7, 1, (U_L_come fu)), (32, 5, 1, (U_L_stands fu)), (36, 6, 1, (U_L_goes fu))] [(47, 1, 0, (U_X7_init fu))]
def F_L_law (fu : Nat) : Nat → (Nat → Nat → Nat → Nat → Int32 → Nat → Int32 → XW → Option XO) × (Nat → Nat → Nat → Nat → Int32 → Nat → Int32 → Int32 → Int32 → Int32 → Int32 → Nat → XW → Option XO) × (Nat → Nat → Nat → Nat → Int32 → Nat → Nat → Int32 → XW → Option XO) × (Nat → Nat → Nat → Nat → Int32 → Nat → Nat → Int32 → Int32 → XW → Option XO) × (Nat → Nat → Nat → Nat → Int32 → Nat → Nat → Int32 → Int32 → Int32 → Int32 → Int32 → Int32 → Int32 → XW → Option XO) × (Nat → Nat → Nat → Nat → Int32 → Nat → Nat → Int32 → Int32 → Int32 → Int32 → Int32 → Int32 → XW → Option XO) × (Nat → Nat → Nat → Nat → Int32 → Nat → Nat → Int32 → Int32 → Int32 → Int32 → Int32 → Int32 → Int32 → Int32 → Int32 → Nat → XW → Option XO) × (Nat → Nat → Nat → Nat → Int32 → Nat → Nat → Int32 → Int32 → Int32 → Int32 → Int32 → Int32 → XW → Option XO) × (Nat → Nat → Nat → Nat → Int32 → Nat → Nat → Int32 → Int32 → Int32 → Int32 → Int32 → Int32 → XW → Option XO) × (Nat → Nat → Nat → Nat → Int32 → Nat → Nat → Int32 → Int32 → Int32 → Int32 → Int32 → XW → Option XO) × (Nat → Nat → Nat → Nat → Int32 → Nat → Nat → Int32 → Int32 → Int32 → Int32 → Int32 → Int32 → XW → Option XO) × (Nat → Nat → Nat → Nat → Int32 → Nat → Nat → Int32 → Int32 → Int32 → Int32 → Int32 → Int32 → Int32 → XW → Option XO) × (Nat → Nat → Nat → Nat → Int32 → Nat → Nat → Int32 → Int32 → Int32 → Int32 → Int32 → XW → Option XO) × (Nat → Nat → Nat → Nat → Int32 → Nat → Nat → Int32 → Int32 → Int32 → Int32 → Int32 → Int32 → Int32 → Nat → XW → Option XO) × (Nat → Nat → Nat → Nat → Int32 → Nat → Nat → Int32 → Int32 → Int32 → Int32 → Int32 → Int32 → Int32 → XW → Option XO) × (Nat → Nat → Nat → Nat → Int32 → Nat → Nat → Int32 → Int32 → Int32 → Int32 → Int32 → Int32 → Int32 → XW → Option XO) × (Nat → Nat → Nat → Nat → Int32 → Nat → Nat → Int32 → Int32 → Int32 → Int32 → Int32 → Int32 → Int32 → Int32 → XW → Option XO) × (Nat → Nat → Nat → Nat → Int32 → Nat → Nat → Int32 → Int32 → Int32 → Int32 → Int32 → Int32 → Int32 → Int32 → Int32 → Int32 → XW → Option XO) × (Nat → Nat → Nat → Nat → Int32 → Nat → Nat → Int32 → Int32 → Int32 → Int32 → Int32 → Int32 → Int32 → Int32 → Int32 → Int32 → Int32 → XW → Option XO) × (Nat → Nat → Nat → Nat → Int32 → Nat → Nat → Int32 → Int32 → Int32 → Int32 → Int32 → XW → Option XO) × (Nat → Nat → Nat → Nat → Int32 → Nat → Nat → Int32 → Int32 → Int32 → Int32 → Int32 → Int32 → Int32 → Int32 → XW → Option XO) × (Nat → Nat → Nat → Nat → Int32 → Nat → Nat → Int32 → Int32 → Int32 → Int32 → Int32 → Int32 → Int32 → XW → Option XO) × (Nat → XW → Option XO)
  | 0 => (fun _ _ _ _ _ _ _ _ => none, fun _ _ _ _ _ _ _ _ _ _ _ _ _ => none, fun _ _ _ _ _ _ _ _ _ => none, fun _ _ _ _ _ _ _ _ _ _ => none, fun _ _ _ _ _ _ _ _ _ _ _ _ _ _ _ => none, fun _ _ _ _ _ _ _ _ _ _ _ _ _ _ => none, fun _ _ _ _ _ _ _ _ _ _ _ _ _ _ _ _ _ _ => none, fun _ _ _ _ _ _ _ _ _ _ _ _ _ _ => none, fun _ _ _ _ _ _ _ _ _ _ _ _ _ _ => none, fun _ _ _ _ _ _ _ _ _ _ _ _ _ => none, fun _ _ _ _ _ _ _ _ _ _ _ _ _ _ => none, fun _ _ _ _ _ _ _ _ _ _ _ _ _ _ _ => none, fun _ _ _ _ _ _ _ _ _ _ _ _ _ => none, fun _ _ _ _ _ _ _ _ _ _ _ _ _ _ _ _ => none, fun _ _ _ _ _ _ _ _ _ _ _ _ _ _ _ => none, fun _ _ _ _ _ _ _ _ _ _ _ _ _ _ _ => none, fun _ _ _ _ _ _ _ _ _ _ _ _ _ _ _ _ => none, fun _ _ _ _ _ _ _ _ _ _ _ _ _ _ _ _ _ _ => none, fun _ _ _ _ _ _ _ _ _ _ _ _ _ _ _ _ _ _ _ => none, fun _ _ _ _ _ _ _ _ _ _ _ _ _ => none, fun _ _ _ _ _ _ _ _ _ _ _ _ _ _ _ _ => none, fun _ _ _ _ _ _ _ _ _ _ _ _ _ _ _ => none, fun _ _ => none)
  | n + 1 => ((fun a0 a1 a2 a4 a5 a6 a7 w =>
    (if a7 < (3 : Int32) then
      cI (U_L_cell fu [.ref a0, .int (7 : Int32)] w) fun x2 w1 =>
      cI (U_L_cell fu [.ref a0, .int (7 : Int32)] w1) fun x4 w3 =>
      cI (U_L_some fu [.int (x4 >>> ((13 : Int32) &&& 31)), .int (2 : Int32)] w3) fun x6 w5 =>
      (if x6 = 0 then
        (F_L_law fu n).2.1 a0 a1 a2 a4 a5 a6 a7 (9 : Int32) (x2 >>> (((4 : Int32) * a7) &&& 31)) (1 : Int32) a7 a6 w5
      else
        (F_L_law fu n).2.1 a0 a1 a2 a4 a5 a6 a7 (4 : Int32) (x2 >>> (((4 : Int32) * a7) &&& 31)) (1 : Int32) a7 a6 w5)
    else
      (if 0 ≤ (7 : Int32) ∧ (7 : Int32) ≤ 1000 ∧ 0 < List.length w then
      (F_L_law fu n).2.2.1 a0 a1 a2 a4 a5 a6 (List.length w) (0 : Int32) (w ++ [.inr (0, List.replicate (Int32.toNatClampNeg (7 : Int32)) 0)])
      else none))),
   (fun a0 a1 a2 a4 a5 a6 a7 s0 s1 s2 s3 s4 w =>
    cI (U_L_some fu [.int s1, .int s0] w) fun x8 w7 =>
    (sI w7 s4 s3 (s2 + x8)).bind fun w9 =>
    (aI w9 a6 a7).bind fun x10 =>
    cI (U_X7_walker fu [.ref a1, .int x10] w9) fun x12 w11 =>
    (if x12 = a7 then
      cI (U_X7_stride fu [.ref a1, .int a7] w11) fun x14 w13 =>
      (aI w13 a6 a7).bind fun x15 =>
      (if x14 = x15 then
        (F_L_law fu n).1 a0 a1 a2 a4 a5 a6 (a7 + (1 : Int32)) w13
      else
        retZ (0 : Int32) w13)
    else
      retZ (0 : Int32) w11)),
   (fun a0 a1 a2 a4 a5 a6 a7 a8 w =>
    (if a8 < (7 : Int32) then
      (sI w a7 a8 (-1 : Int32)).bind fun w16 =>
      (F_L_law fu n).2.2.1 a0 a1 a2 a4 a5 a6 a7 (a8 + (1 : Int32)) w16
    else
      (F_L_law fu n).2.2.2.1 a0 a1 a2 a4 a5 a6 a7 (0 : Int32) (0 : Int32) w)),
   (fun a0 a1 a2 a4 a5 a6 a7 a8 a9 w =>
    (if a9 < (14 : Int32) then
      cI (U_L_cell fu [.ref a0, .int ((8 : Int32) + a9)] w) fun x25 w24 =>
      cI (U_L_some fu [.int x25, .int (a5 + (1 : Int32))] w24) fun x27 w26 =>
      (aI w26 a2 (0 : Int32)).bind fun x28 =>
      cI (U_L_some fu [.int (x25 >>> ((3 : Int32) &&& 31)), .int (x28 + (1 : Int32))] w26) fun x30 w29 =>
      (if x27 < a5 then
        (F_L_law fu n).2.2.2.2.1 a0 a1 a2 a4 a5 a6 a7 a8 a9 x25 x27 x30 (-1 : Int32) (0 : Int32) w29
      else
        cI (U_L_some fu [.int (x25 >>> ((7 : Int32) &&& 31)), .int (4 : Int32)] w29) fun x32 w31 =>
        cI (U_X7_water fu [.ref a1, .int x32] w31) fun x34 w33 =>
        (if x34 = a8 then
          (F_L_law fu n).2.2.2.2.2.2.2.2.2.1 a0 a1 a2 a4 a5 a6 a7 x32 a9 x25 (0 : Int32) (0 : Int32) w33
        else
          retZ (0 : Int32) w33))
    else
      cI (U_X7_set fu [.ref a1, .int a5, .int (0 : Int32)] w) fun x18 w17 =>
      (if x18 = (-1 : Int32) then
        (if a5 = 0 then
          (F_L_law fu n).2.2.2.2.2.2.2.2.2.2.2.2.2.2.2.2.2.2.2.2.2.2 a1 w17
        else
          (aI w17 a2 (0 : Int32)).bind fun x19 =>
          cI (U_X7_set fu [.ref a1, .int (0 : Int32), .int x19] w17) fun x21 w20 =>
          (if x21 = (-1 : Int32) then
            cI (U_X7_set fu [.ref a1, .int (0 : Int32), .int (-1 : Int32)] w20) fun x23 w22 =>
            (if x23 = (-1 : Int32) then
              (F_L_law fu n).2.2.2.2.2.2.2.2.2.2.2.2.2.2.2.2.2.2.2.2.2.2 a1 w22
            else
              retZ (0 : Int32) w22)
          else
            retZ (0 : Int32) w20))
      else
        retZ (0 : Int32) w17))),
   (fun a0 a1 a2 a4 a5 a6 a7 a8 a9 a10 a11 a12 a13 a14 w =>
    (aI w a2 (0 : Int32)).bind fun x35 =>
    (if a14 < x35 then
      (aI w a7 a14).bind fun x39 =>
      (if x39 = a11 then
        (F_L_law fu n).2.2.2.2.1 a0 a1 a2 a4 a5 a6 a7 a8 a9 a10 a11 a12 a14 (a14 + (1 : Int32)) w
      else
        (F_L_law fu n).2.2.2.2.1 a0 a1 a2 a4 a5 a6 a7 a8 a9 a10 a11 a12 a13 (a14 + (1 : Int32)) w)
    else
      (aI w a2 (0 : Int32)).bind fun x36 =>
      (if a12 = x36 then
        (F_L_law fu n).2.2.2.2.2.1 a0 a1 a2 a4 a5 a6 a7 a8 a9 a10 a11 a12 a13 w
      else
        (aI w a7 a12).bind fun x37 =>
        (if x37 < 0 then
          (F_L_law fu n).2.2.2.2.2.1 a0 a1 a2 a4 a5 a6 a7 a8 a9 a10 a11 a12 a13 w
        else
          (aI w a2 (0 : Int32)).bind fun x38 =>
          (if a12 = x38 then
            (F_L_law fu n).2.2.2.2.2.2.1 a0 a1 a2 a4 a5 a6 a7 a8 a9 a10 a11 a12 a13 (0 : Int32) (-9 : Int32) a11 a1 w
          else
            (F_L_law fu n).2.2.2.2.2.2.1 a0 a1 a2 a4 a5 a6 a7 a8 a9 a10 a11 a12 a13 (0 : Int32) a12 a11 a1 w))))),
   (fun a0 a1 a2 a4 a5 a6 a7 a8 a9 a10 a11 a12 a13 w =>
    (aI w a2 (0 : Int32)).bind fun x40 =>
    (if a12 = x40 then
      (F_L_law fu n).2.2.2.2.2.2.1 a0 a1 a2 a4 a5 a6 a7 a8 a9 a10 a11 a12 a13 (1 : Int32) (-9 : Int32) a11 a1 w
    else
      (F_L_law fu n).2.2.2.2.2.2.1 a0 a1 a2 a4 a5 a6 a7 a8 a9 a10 a11 a12 a13 (1 : Int32) a12 a11 a1 w)),
   (fun a0 a1 a2 a4 a5 a6 a7 a8 a9 a10 a11 a12 a13 a14 s0 s1 s2 w =>
    cI (U_X7_set fu [.ref s2, .int s1, .int s0] w) fun x42 w41 =>
    (if a14 = 0 then
      (if x42 = (-3 : Int32) then
        (if a14 = 0 then
          (F_L_law fu n).2.2.2.2.2.2.2.1 a0 a1 a2 a4 a5 a6 a7 a8 a9 a10 a11 a12 a14 w41
        else
          (if a13 < 0 then
            (F_L_law fu n).2.2.2.2.2.2.2.1 a0 a1 a2 a4 a5 a6 a7 a8 a9 a10 a11 a12 a14 w41
          else
            (sI w41 a7 a13 (-1 : Int32)).bind fun w43 =>
            (F_L_law fu n).2.2.2.2.2.2.2.1 a0 a1 a2 a4 a5 a6 a7 a8 a9 a10 a11 a12 a14 w43))
      else
        retZ (0 : Int32) w41)
    else
      (if x42 = (1 : Int32) then
        (if a14 = 0 then
          (F_L_law fu n).2.2.2.2.2.2.2.1 a0 a1 a2 a4 a5 a6 a7 a8 a9 a10 a11 a12 a14 w41
        else
          (if a13 < 0 then
            (F_L_law fu n).2.2.2.2.2.2.2.1 a0 a1 a2 a4 a5 a6 a7 a8 a9 a10 a11 a12 a14 w41
          else
            (sI w41 a7 a13 (-1 : Int32)).bind fun w44 =>
            (F_L_law fu n).2.2.2.2.2.2.2.1 a0 a1 a2 a4 a5 a6 a7 a8 a9 a10 a11 a12 a14 w44))
      else
        retZ (0 : Int32) w41))),
   (fun a0 a1 a2 a4 a5 a6 a7 a8 a9 a10 a11 a12 a14 w =>
    (if a14 = 0 then
      (F_L_law fu n).2.2.2.2.2.2.2.2.1 a0 a1 a2 a4 a5 a6 a7 a8 a9 a10 a11 (-9 : Int32) (0 : Int32) w
    else
      (aI w a2 (0 : Int32)).bind fun x45 =>
      (if a12 < x45 then
        (sI w a7 a12 a11).bind fun w46 =>
        (F_L_law fu n).2.2.2.2.2.2.2.2.1 a0 a1 a2 a4 a5 a6 a7 a8 a9 a10 a11 (-9 : Int32) (0 : Int32) w46
      else
        (F_L_law fu n).2.2.2.2.2.2.2.2.1 a0 a1 a2 a4 a5 a6 a7 a8 a9 a10 a11 (-9 : Int32) (0 : Int32) w))),
   (fun a0 a1 a2 a4 a5 a6 a7 a8 a9 a10 a11 a15 a16 w =>
    (aI w a2 (0 : Int32)).bind fun x47 =>
    (if a16 < x47 then
      (aI w a7 a16).bind fun x50 =>
      (if x50 = a11 then
        (F_L_law fu n).2.2.2.2.2.2.2.2.1 a0 a1 a2 a4 a5 a6 a7 a8 a9 a10 a11 a16 (a16 + (1 : Int32)) w
      else
        (F_L_law fu n).2.2.2.2.2.2.2.2.1 a0 a1 a2 a4 a5 a6 a7 a8 a9 a10 a11 a15 (a16 + (1 : Int32)) w)
    else
      cI (U_X7_ofStone fu [.ref a1, .int a11, .int (5 : Int32)] w) fun x49 w48 =>
      (if x49 = a15 then
        (F_L_law fu n).2.2.2.2.2.2.2.2.2.1 a0 a1 a2 a4 a5 a6 a7 a8 a9 a10 (0 : Int32) (0 : Int32) w48
      else
        retZ (0 : Int32) w48))),
   (fun a0 a1 a2 a4 a5 a6 a7 a8 a9 a10 a13 a14 w =>
    (aI w a2 (0 : Int32)).bind fun x51 =>
    (if a14 < x51 then
      (aI w a7 a14).bind fun x58 =>
      (if x58 < 0 then
        (F_L_law fu n).2.2.2.2.2.2.2.2.2.2.1 a0 a1 a2 a4 a5 a6 a7 a8 a9 a10 a14 (0 : Int32) a13 w
      else
        (F_L_law fu n).2.2.2.2.2.2.2.2.2.2.1 a0 a1 a2 a4 a5 a6 a7 a8 a9 a10 a14 (1 : Int32) a13 w)
    else
      cI (U_X7_many fu [.ref a1, .int (3 : Int32)] w) fun x53 w52 =>
      (if x53 = a13 then
        cI (U_X7_many fu [.ref a1, .int (6 : Int32)] w52) fun x55 w54 =>
        (if x55 = a8 then
          cI (U_L_some fu [.int (a10 >>> ((11 : Int32) &&& 31)), .int (3 : Int32)] w54) fun x57 w56 =>
          (F_L_law fu n).2.2.2.2.2.2.2.2.2.2.2.2.1 a0 a1 a2 a4 a5 a6 a7 a8 a9 a10 x57 (0 : Int32) w56
        else
          retZ (0 : Int32) w54)
      else
        retZ (0 : Int32) w52))),
   (fun a0 a1 a2 a4 a5 a6 a7 a8 a9 a10 a14 s0 s1 w =>
    cI (U_X7_ofCell fu [.ref a1, .int a14, .int (2 : Int32)] w) fun x60 w59 =>
    (aI w59 a7 a14).bind fun x61 =>
    (if x61 < 0 then
      (F_L_law fu n).2.2.2.2.2.2.2.2.2.2.2.1 a0 a1 a2 a4 a5 a6 a7 a8 a9 a10 (s1 + s0) a14 (-9 : Int32) x60 w59
    else
      (aI w59 a7 a14).bind fun x62 =>
      (F_L_law fu n).2.2.2.2.2.2.2.2.2.2.2.1 a0 a1 a2 a4 a5 a6 a7 a8 a9 a10 (s1 + s0) a14 x62 x60 w59)),
   (fun a0 a1 a2 a4 a5 a6 a7 a8 a9 a10 a13 a14 s0 s1 w =>
    (if s1 = s0 then
      cI (U_X7_ofCell fu [.ref a1, .int a14, .int (4 : Int32)] w) fun x64 w63 =>
      (aI w63 a7 a14).bind fun x65 =>
      (if x65 < 0 then
        (if x64 = (-99 : Int32) then
          (F_L_law fu n).2.2.2.2.2.2.2.2.2.1 a0 a1 a2 a4 a5 a6 a7 a8 a9 a10 a13 (a14 + (1 : Int32)) w63
        else
          retZ (0 : Int32) w63)
      else
        (aI w63 a7 a14).bind fun x66 =>
        (aI w63 a4 ((6 : Int32) + x66)).bind fun x67 =>
        (aI w63 a2 ((2 : Int32) + a14)).bind fun x68 =>
        (if x64 = ((x67 - x68) - a8) then
          (F_L_law fu n).2.2.2.2.2.2.2.2.2.1 a0 a1 a2 a4 a5 a6 a7 a8 a9 a10 a13 (a14 + (1 : Int32)) w63
        else
          retZ (0 : Int32) w63))
    else
      retZ (0 : Int32) w)),
   (fun a0 a1 a2 a4 a5 a6 a7 a8 a9 a10 a14 a15 w =>
    (if a15 < (2 : Int32) then
      (if a15 = (1 : Int32) then
        (F_L_law fu n).2.2.2.2.2.2.2.2.2.2.2.2.2.1 a0 a1 a2 a4 a5 a6 a7 a8 a9 a10 a14 a15 (1 : Int32) a14 a1 w
      else
        (F_L_law fu n).2.2.2.2.2.2.2.2.2.2.2.2.2.1 a0 a1 a2 a4 a5 a6 a7 a8 a9 a10 a14 a15 (0 : Int32) a14 a1 w)
    else
      (aI w a2 (0 : Int32)).bind fun x69 =>
      (F_L_law fu n).2.2.2.2.2.2.2.2.2.2.2.2.2.2.2.1 a0 a1 a2 a4 a5 a6 a7 a8 a9 a10 a14 (x69 + (1 : Int32)) (-9 : Int32) (9 : Int32) w)),
   (fun a0 a1 a2 a4 a5 a6 a7 a8 a9 a10 a14 a15 s0 s1 s2 w =>
    cI (U_X7_can fu [.ref s2, .int s1, .int s0] w) fun x71 w70 =>
    (aI w70 a6 a14).bind fun x72 =>
    cI (U_L_can fu [.ref a2, .ref a4, .ref a7, .int a8, .int (x72 - a15)] w70) fun x74 w73 =>
    (if x74 = 0 then
      (if x71 = (0 : Int32) then
        (F_L_law fu n).2.2.2.2.2.2.2.2.2.2.2.2.2.2.1 a0 a1 a2 a4 a5 a6 a7 a8 a9 a10 a14 a15 (-9 : Int32) (0 : Int32) w73
      else
        retZ (0 : Int32) w73)
    else
      (if x71 = (1 : Int32) then
        (F_L_law fu n).2.2.2.2.2.2.2.2.2.2.2.2.2.2.1 a0 a1 a2 a4 a5 a6 a7 a8 a9 a10 a14 a15 (-9 : Int32) (0 : Int32) w73
      else
        retZ (0 : Int32) w73))),
   (fun a0 a1 a2 a4 a5 a6 a7 a8 a9 a10 a14 a15 a16 a17 w =>
    (if a17 < (10 : Int32) then
      (aI w a6 a14).bind fun x79 =>
      cI (U_L_can fu [.ref a2, .ref a4, .ref a7, .int a17, .int (x79 - a15)] w) fun x81 w80 =>
      (if x81 = 0 then
        (F_L_law fu n).2.2.2.2.2.2.2.2.2.2.2.2.2.2.1 a0 a1 a2 a4 a5 a6 a7 a8 a9 a10 a14 a15 a16 (a17 + (1 : Int32)) w80
      else
        (F_L_law fu n).2.2.2.2.2.2.2.2.2.2.2.2.2.2.1 a0 a1 a2 a4 a5 a6 a7 a8 a9 a10 a14 a15 a17 (a17 + (1 : Int32)) w80)
    else
      (if a15 = (1 : Int32) then
        cI (U_X7_highest fu [.ref a1, .int a14, .int (1 : Int32)] w) fun x78 w77 =>
        (if x78 = a16 then
          (F_L_law fu n).2.2.2.2.2.2.2.2.2.2.2.2.1 a0 a1 a2 a4 a5 a6 a7 a8 a9 a10 a14 (a15 + (1 : Int32)) w77
        else
          retZ (0 : Int32) w77)
      else
        cI (U_X7_highest fu [.ref a1, .int a14, .int (0 : Int32)] w) fun x76 w75 =>
        (if x76 = a16 then
          (F_L_law fu n).2.2.2.2.2.2.2.2.2.2.2.2.1 a0 a1 a2 a4 a5 a6 a7 a8 a9 a10 a14 (a15 + (1 : Int32)) w75
        else
          retZ (0 : Int32) w75)))),
   (fun a0 a1 a2 a4 a5 a6 a7 a8 a9 a10 a14 a15 a16 a17 w =>
    (if 0 < a17 then
      (aI w a6 a14).bind fun x84 =>
      cI (U_L_come fu [.ref a2, .ref a4, .ref a7, .int a8, .int x84, .int (0 : Int32), .int a17] w) fun x86 w85 =>
      (if ((x86 >>> (a15 &&& 31)) &&& (1 : Int32)) = (1 : Int32) then
        (F_L_law fu n).2.2.2.2.2.2.2.2.2.2.2.2.2.2.2.1 a0 a1 a2 a4 a5 a6 a7 a8 a9 a10 a14 a15 a17 (a17 + (-1 : Int32)) w85
      else
        (F_L_law fu n).2.2.2.2.2.2.2.2.2.2.2.2.2.2.2.1 a0 a1 a2 a4 a5 a6 a7 a8 a9 a10 a14 a15 a16 (a17 + (-1 : Int32)) w85)
    else
      cI (U_X7_way fu [.ref a1, .int a14, .int (-1 : Int32)] w) fun x83 w82 =>
      (if x83 = a16 then
        (F_L_law fu n).2.2.2.2.2.2.2.2.2.2.2.2.2.2.2.2.1 a0 a1 a2 a4 a5 a6 a7 a8 a9 a10 a14 a15 a16 (0 : Int32) (0 : Int32) w82
      else
        retZ (0 : Int32) w82))),
   (fun a0 a1 a2 a4 a5 a6 a7 a8 a9 a10 a14 a15 a16 a17 a18 w =>
    (if a18 < (9 : Int32) then
      (if a16 < 0 then
        cI (U_X7_way fu [.ref a1, .int a14, .int a18] w) fun x88 w87 =>
        (if x88 = (-9 : Int32) then
          (F_L_law fu n).2.2.2.2.2.2.2.2.2.2.2.2.2.2.2.2.1 a0 a1 a2 a4 a5 a6 a7 a8 a9 a10 a14 a15 a16 a17 (a18 + (1 : Int32)) w87
        else
          retZ (0 : Int32) w87)
      else
        (if a18 < a16 then
          (F_L_law fu n).2.2.2.2.2.2.2.2.2.2.2.2.2.2.2.2.2.1 a0 a1 a2 a4 a5 a6 a7 a8 a9 a10 a14 a15 a16 a17 a18 (-1 : Int32) a15 w
        else
          cI (U_X7_way fu [.ref a1, .int a14, .int a18] w) fun x90 w89 =>
          (if x90 = (-9 : Int32) then
            (F_L_law fu n).2.2.2.2.2.2.2.2.2.2.2.2.2.2.2.2.1 a0 a1 a2 a4 a5 a6 a7 a8 a9 a10 a14 a15 a16 a17 (a18 + (1 : Int32)) w89
          else
            retZ (0 : Int32) w89)))
    else
      (if 0 < a16 then
        (if a17 = a15 then
          (F_L_law fu n).2.2.2.2.2.2.2.2.2.2.2.2.2.2.2.2.2.2.2.1 a0 a1 a2 a4 a5 a6 a7 a8 a9 a10 a14 a15 w
        else
          retZ (0 : Int32) w)
      else
        (F_L_law fu n).2.2.2.2.2.2.2.2.2.2.2.2.2.2.2.2.2.2.2.1 a0 a1 a2 a4 a5 a6 a7 a8 a9 a10 a14 a15 w))),
   (fun a0 a1 a2 a4 a5 a6 a7 a8 a9 a10 a14 a15 a16 a17 a18 a19 a20 w =>
    (if 0 < a20 then
      (if a20 = a17 then
        (F_L_law fu n).2.2.2.2.2.2.2.2.2.2.2.2.2.2.2.2.2.2.1 a0 a1 a2 a4 a5 a6 a7 a8 a9 a10 a14 a15 a16 a17 a18 a19 a20 (0 : Int32) w
      else
        cI (U_L_stands fu [.ref a2, .ref a4, .ref a7, .int a8, .int a20] w) fun x94 w93 =>
        (if x94 = 0 then
          (F_L_law fu n).2.2.2.2.2.2.2.2.2.2.2.2.2.2.2.2.2.2.1 a0 a1 a2 a4 a5 a6 a7 a8 a9 a10 a14 a15 a16 a17 a18 a19 a20 (0 : Int32) w93
        else
          (aI w93 a6 a14).bind fun x95 =>
          cI (U_L_goes fu [.ref a2, .ref a4, .ref a7, .int x95, .int a17, .int a20] w93) fun x97 w96 =>
          (if x97 = 0 then
            (F_L_law fu n).2.2.2.2.2.2.2.2.2.2.2.2.2.2.2.2.2.2.1 a0 a1 a2 a4 a5 a6 a7 a8 a9 a10 a14 a15 a16 a17 a18 a19 a20 (0 : Int32) w96
          else
            (F_L_law fu n).2.2.2.2.2.2.2.2.2.2.2.2.2.2.2.2.2.2.1 a0 a1 a2 a4 a5 a6 a7 a8 a9 a10 a14 a15 a16 a17 a18 a19 a20 (1 : Int32) w96)))
    else
      (if a19 < 0 then
        retZ (0 : Int32) w
      else
        cI (U_X7_way fu [.ref a1, .int a14, .int a18] w) fun x92 w91 =>
        (if x92 = (a19 - (1 : Int32)) then
          (F_L_law fu n).2.2.2.2.2.2.2.2.2.2.2.2.2.2.2.2.1 a0 a1 a2 a4 a5 a6 a7 a8 a9 a10 a14 a15 a16 a19 (a18 + (1 : Int32)) w91
        else
          retZ (0 : Int32) w91)))),
   (fun a0 a1 a2 a4 a5 a6 a7 a8 a9 a10 a14 a15 a16 a17 a18 a19 a20 s0 w =>
    (if s0 = 0 then
      (F_L_law fu n).2.2.2.2.2.2.2.2.2.2.2.2.2.2.2.2.2.1 a0 a1 a2 a4 a5 a6 a7 a8 a9 a10 a14 a15 a16 a17 a18 a19 (a20 + (-1 : Int32)) w
    else
      (aI w a6 a14).bind fun x98 =>
      cI (U_L_come fu [.ref a2, .ref a4, .ref a7, .int a8, .int x98, .int a20, .int ((a16 - (1 : Int32)) - a18)] w) fun x100 w99 =>
      (if ((x100 >>> (a15 &&& 31)) &&& (1 : Int32)) = (1 : Int32) then
        (F_L_law fu n).2.2.2.2.2.2.2.2.2.2.2.2.2.2.2.2.2.1 a0 a1 a2 a4 a5 a6 a7 a8 a9 a10 a14 a15 a16 a17 a18 a20 (a20 + (-1 : Int32)) w99
      else
        (F_L_law fu n).2.2.2.2.2.2.2.2.2.2.2.2.2.2.2.2.2.1 a0 a1 a2 a4 a5 a6 a7 a8 a9 a10 a14 a15 a16 a17 a18 a19 (a20 + (-1 : Int32)) w99))),
   (fun a0 a1 a2 a4 a5 a6 a7 a8 a9 a10 a14 a15 w =>
    cI (U_L_some fu [.int (a10 >>> ((13 : Int32) &&& 31)), .int (3 : Int32)] w) fun x102 w101 =>
    (aI w101 a6 a14).bind fun x103 =>
    cI (U_L_come fu [.ref a2, .ref a4, .ref a7, .int a8, .int x103, .int (0 : Int32), .int (9 : Int32)] w101) fun x105 w104 =>
    (aI w104 a6 a14).bind fun x106 =>
    cI (U_L_come fu [.ref a2, .ref a4, .ref a7, .int a8, .int x106, .int a15, .int (9 : Int32)] w104) fun x108 w107 =>
    (aI w107 a6 x102).bind fun x109 =>
    cI (U_L_come fu [.ref a2, .ref a4, .ref a7, .int a8, .int x109, .int (0 : Int32), .int (9 : Int32)] w107) fun x111 w110 =>
    (aI w110 a6 x102).bind fun x112 =>
    cI (U_L_come fu [.ref a2, .ref a4, .ref a7, .int a8, .int x112, .int a15, .int (9 : Int32)] w110) fun x114 w113 =>
    (F_L_law fu n).2.2.2.2.2.2.2.2.2.2.2.2.2.2.2.2.2.2.2.2.1 a0 a1 a2 a4 a5 a6 a7 a8 a9 a10 a14 x102 (((x105 &&& x108) &&& x111) &&& x114) (0 : Int32) (0 : Int32) w113),
   (fun a0 a1 a2 a4 a5 a6 a7 a8 a9 a10 a14 a18 a19 a20 a21 w =>
    (aI w a2 (0 : Int32)).bind fun x115 =>
    (if a21 < x115 then
      (if ((a19 >>> ((a21 + (1 : Int32)) &&& 31)) &&& (1 : Int32)) = (1 : Int32) then
        (aI w a7 a21).bind fun x124 =>
        (aI w a4 x124).bind fun x125 =>
        (if 0 < x125 then
          (F_L_law fu n).2.2.2.2.2.2.2.2.2.2.2.2.2.2.2.2.2.2.2.2.1 a0 a1 a2 a4 a5 a6 a7 a8 a9 a10 a14 a18 a19 (a20 ||| ((1 : Int32) <<< (a21 &&& 31))) (a21 + (1 : Int32)) w
        else
          (F_L_law fu n).2.2.2.2.2.2.2.2.2.2.2.2.2.2.2.2.2.2.2.2.1 a0 a1 a2 a4 a5 a6 a7 a8 a9 a10 a14 a18 a19 a20 (a21 + (1 : Int32)) w)
      else
        (F_L_law fu n).2.2.2.2.2.2.2.2.2.2.2.2.2.2.2.2.2.2.2.2.1 a0 a1 a2 a4 a5 a6 a7 a8 a9 a10 a14 a18 a19 a20 (a21 + (1 : Int32)) w)
    else
      cI (U_X7_pass fu [.ref a1, .int a14, .int a18] w) fun x117 w116 =>
      (if x117 = a20 then
        cI (U_X7_pass fu [.ref a1, .int a18, .int a14] w116) fun x119 w118 =>
        (if x119 = a20 then
          (if (5 : Int32) = 0 then none else
          (if 0 < (a9 - a9 / (5 : Int32) * (5 : Int32)) then
            (F_L_law fu n).2.2.2.1 a0 a1 a2 a4 a5 a6 a7 a8 (a9 + (1 : Int32)) w118
          else
            cI (U_L_some fu [.int (a10 >>> ((15 : Int32) &&& 31)), .int (7 : Int32)] w118) fun x121 w120 =>
            cI (U_X7_sheet fu [.ref a1, .int (1 : Int32), .int (1 : Int32), .int (8 : Int32)] w120) fun x123 w122 =>
            (if x123 = (1 : Int32) then
              (F_L_law fu n).2.2.2.2.2.2.2.2.2.2.2.2.2.2.2.2.2.2.2.2.2.1 a0 a1 a2 a4 a5 a6 a7 a8 a9 a10 a14 x121 (0 : Int32) (0 : Int32) w122
            else
              retZ (0 : Int32) w122)))
        else
          retZ (0 : Int32) w118)
      else
        retZ (0 : Int32) w116))),
   (fun a0 a1 a2 a4 a5 a6 a7 a8 a9 a10 a14 a21 a22 a23 w =>
    (if a23 < a21 then
      cI (U_L_some fu [.int (a10 >>> (((9 : Int32) + a23) &&& 31)), .int (10 : Int32)] w) fun x131 w130 =>
      cI (U_X7_put fu [.ref a1, .int (1 : Int32), .int ((1 : Int32) + a23), .int x131] w130) fun x133 w132 =>
      (if x133 = (1 : Int32) then
        (aI w132 a6 a14).bind fun x134 =>
        cI (U_L_can fu [.ref a2, .ref a4, .ref a7, .int x131, .int x134] w132) fun x136 w135 =>
        (if x136 = 0 then
          (F_L_law fu n).2.2.2.2.2.2.2.2.2.2.2.2.2.2.2.2.2.2.2.2.2.1 a0 a1 a2 a4 a5 a6 a7 a8 a9 a10 a14 a21 (a22 + (0 : Int32)) (a23 + (1 : Int32)) w135
        else
          (F_L_law fu n).2.2.2.2.2.2.2.2.2.2.2.2.2.2.2.2.2.2.2.2.2.1 a0 a1 a2 a4 a5 a6 a7 a8 a9 a10 a14 a21 (a22 + (1 : Int32)) (a23 + (1 : Int32)) w135)
      else
        retZ (0 : Int32) w132)
    else
      cI (U_X7_days fu [.ref a1, .int a14, .int (1 : Int32), .int (1 : Int32), .int (1 : Int32), .int a21] w) fun x127 w126 =>
      (if x127 = a22 then
        cI (U_X7_many fu [.ref a1, .int (6 : Int32)] w126) fun x129 w128 =>
        (if x129 = a8 then
          (F_L_law fu n).2.2.2.1 a0 a1 a2 a4 a5 a6 a7 a8 (a9 + (1 : Int32)) w128
        else
          retZ (0 : Int32) w128)
      else
        retZ (0 : Int32) w126))),
   (fun a1 w =>
    cI (U_X7_water fu [.ref a1, .int (10 : Int32)] w) fun x138 w137 =>
    (if x138 = (-2 : Int32) then
      cI (U_X7_walker fu [.ref a1, .int (0 : Int32)] w137) fun x140 w139 =>
      (if x140 = (-2 : Int32) then
        cI (U_X7_walker fu [.ref a1, .int (10 : Int32)] w139) fun x142 w141 =>
        (if x142 = (-2 : Int32) then
          cI (U_X7_stride fu [.ref a1, .int (3 : Int32)] w141) fun x144 w143 =>
          (if x144 = (-1 : Int32) then
            cI (U_X7_can fu [.ref a1, .int (3 : Int32), .int (1 : Int32)] w143) fun x146 w145 =>
            (if x146 = (-1 : Int32) then
              cI (U_X7_way fu [.ref a1, .int (3 : Int32), .int (0 : Int32)] w145) fun x148 w147 =>
              (if x148 = (-1 : Int32) then
                cI (U_X7_way fu [.ref a1, .int (0 : Int32), .int (-2 : Int32)] w147) fun x150 w149 =>
                (if x150 = (-1 : Int32) then
                  cI (U_X7_highest fu [.ref a1, .int (-1 : Int32), .int (1 : Int32)] w149) fun x152 w151 =>
                  (if x152 = (-1 : Int32) then
                    cI (U_X7_pass fu [.ref a1, .int (0 : Int32), .int (3 : Int32)] w151) fun x154 w153 =>
                    (if x154 = (-1 : Int32) then
                      cI (U_X7_days fu [.ref a1, .int (3 : Int32), .int (1 : Int32), .int (1 : Int32), .int (0 : Int32), .int (0 : Int32)] w153) fun x156 w155 =>
                      (if x156 = (-1 : Int32) then
                        cI (U_X7_days fu [.ref a1, .int (0 : Int32), .int (1 : Int32), .int (1 : Int32), .int (0 : Int32), .int (0 : Int32)] w155) fun x158 w157 =>
                        (if x158 = 0 then
                          cI (U_X7_put fu [.ref a1, .int (1 : Int32), .int (0 : Int32), .int (10 : Int32)] w157) fun x160 w159 =>
                          (if x160 = (1 : Int32) then
                            cI (U_X7_days fu [.ref a1, .int (0 : Int32), .int (1 : Int32), .int (1 : Int32), .int (0 : Int32), .int (1 : Int32)] w159) fun x162 w161 =>
                            (if x162 = (-2 : Int32) then
                              cI (U_X7_days fu [.ref a1, .int (0 : Int32), .int (1 : Int32), .int (1 : Int32), .int (8 : Int32), .int (1 : Int32)] w161) fun x164 w163 =>
                              (if x164 = (-13 : Int32) then
                                cI (U_X7_days fu [.ref a1, .int (0 : Int32), .int (1 : Int32), .int (0 : Int32), .int (0 : Int32), .int (1 : Int32)] w163) fun x166 w165 =>
                                (if x166 = (-12 : Int32) then
                                  cI (U_X7_days fu [.ref a1, .int (0 : Int32), .int (1 : Int32), .int (1 : Int32), .int (0 : Int32), .int (-1 : Int32)] w165) fun x168 w167 =>
                                  (if x168 = (-14 : Int32) then
                                    cI (U_X7_days fu [.ref a1, .int (0 : Int32), .int (2 : Int32), .int (1 : Int32), .int (0 : Int32), .int (1 : Int32)] w167) fun x170 w169 =>
                                    (if x170 = (-11 : Int32) then
                                      retZ (1 : Int32) w169
                                    else
                                      retZ (0 : Int32) w169)
                                  else
                                    retZ (0 : Int32) w167)
                                else
                                  retZ (0 : Int32) w165)
                              else
                                retZ (0 : Int32) w163)
                            else
                              retZ (0 : Int32) w161)
                          else
                            retZ (0 : Int32) w159)
                        else
                          retZ (0 : Int32) w157)
                      else
                        retZ (0 : Int32) w155)
                    else
                      retZ (0 : Int32) w153)
                  else
                    retZ (0 : Int32) w151)
                else
                  retZ (0 : Int32) w149)
              else
                retZ (0 : Int32) w147)
            else
              retZ (0 : Int32) w145)
          else
            retZ (0 : Int32) w143)
        else
          retZ (0 : Int32) w141)
      else
        retZ (0 : Int32) w139)
    else
      retZ (0 : Int32) w137)))
def M_L_law (fu : Nat) (a0 : Nat) (w : XW) : Option XO :=
  (if 0 < List.length w then
  cV (U_X7_init fu [.ref (List.length w)] (w ++ [.inl (6, [.null, .null, .null, .null, .null, .null, .int 0, .int 0])])) fun w171 =>
  (if 0 ≤ (16 : Int32) ∧ (16 : Int32) ≤ 1000 ∧ 0 < List.length w171 then
  cI (U_L_put fu [.ref (List.length w), .ref a0, .int (0 : Int32), .int (7 : Int32), .ref (List.length w171)] (w171 ++ [.inr (0, List.replicate (Int32.toNatClampNeg (16 : Int32)) 0)])) fun x173 w172 =>
  (if x173 < (12 : Int32) then
    retZ (0 : Int32) w172
  else
    cI (U_X7_brook fu [.ref (List.length w), .int (0 : Int32), .int (0 : Int32), .int (0 : Int32), .int x173] w172) fun x175 w174 =>
    (aI w174 (List.length w171) (0 : Int32)).bind fun x176 =>
    (if x175 = x176 then
      (if 0 ≤ (24 : Int32) ∧ (24 : Int32) ≤ 1000 ∧ 0 < List.length w174 then
      cI (U_L_stones fu [.ref (List.length w), .ref a0, .int (3 : Int32), .int (6 : Int32), .ref (List.length w174)] (w174 ++ [.inr (0, List.replicate (Int32.toNatClampNeg (24 : Int32)) 0)])) fun x178 w177 =>
      (if x178 < 0 then
        retZ (0 : Int32) w177
      else
        (if 0 ≤ (3 : Int32) ∧ (3 : Int32) ≤ 1000 ∧ 0 < List.length w177 then
        (F_L_law fu fu).1 a0 (List.length w) (List.length w171) (List.length w174) x178 (List.length w177) (0 : Int32) (w177 ++ [.inr (0, List.replicate (Int32.toNatClampNeg (3 : Int32)) 0)])
        else none))
      else none)
    else
      retZ (0 : Int32) w174))
  else none)
  else none)
def U_L_law (fu : Nat) : Orc := fun as w => match as with
  | [.ref a0] => M_L_law fu a0 w
  | _ => none
def K_L_law (fu : Nat) (n : Nat) : Kont := fun pc ls st w => bif pc == 78 then ((xr ls 0).bind fun a0 => (xr ls 1).bind fun a1 => (xr ls 2).bind fun a2 => (xr ls 4).bind fun a4 => (xi ls 5).bind fun a5 => (xr ls 6).bind fun a6 => (xi ls 7).bind fun a7 => skN st ((F_L_law fu n).1 a0 a1 a2 a4 a5 a6 a7 w)) else bif pc == 122 then ((xr ls 0).bind fun a0 => (xr ls 1).bind fun a1 => (xr ls 2).bind fun a2 => (xr ls 4).bind fun a4 => (xi ls 5).bind fun a5 => (xr ls 6).bind fun a6 => (xi ls 7).bind fun a7 => skI st fun s0 st => skI st fun s1 st => skI st fun s2 st => skI st fun s3 st => skR st fun s4 st => skN st ((F_L_law fu n).2.1 a0 a1 a2 a4 a5 a6 a7 s0 s1 s2 s3 s4 w)) else bif pc == 172 then ((xr ls 0).bind fun a0 => (xr ls 1).bind fun a1 => (xr ls 2).bind fun a2 => (xr ls 4).bind fun a4 => (xi ls 5).bind fun a5 => (xr ls 6).bind fun a6 => (xr ls 7).bind fun a7 => (xi ls 8).bind fun a8 => skN st ((F_L_law fu n).2.2.1 a0 a1 a2 a4 a5 a6 a7 a8 w)) else bif pc == 197 then ((xr ls 0).bind fun a0 => (xr ls 1).bind fun a1 => (xr ls 2).bind fun a2 => (xr ls 4).bind fun a4 => (xi ls 5).bind fun a5 => (xr ls 6).bind fun a6 => (xr ls 7).bind fun a7 => (xi ls 8).bind fun a8 => (xi ls 9).bind fun a9 => skN st ((F_L_law fu n).2.2.2.1 a0 a1 a2 a4 a5 a6 a7 a8 a9 w)) else bif pc == 253 then ((xr ls 0).bind fun a0 => (xr ls 1).bind fun a1 => (xr ls 2).bind fun a2 => (xr ls 4).bind fun a4 => (xi ls 5).bind fun a5 => (xr ls 6).bind fun a6 => (xr ls 7).bind fun a7 => (xi ls 8).bind fun a8 => (xi ls 9).bind fun a9 => (xi ls 10).bind fun a10 => (xi ls 11).bind fun a11 => (xi ls 12).bind fun a12 => (xi ls 13).bind fun a13 => (xi ls 14).bind fun a14 => skN st ((F_L_law fu n).2.2.2.2.1 a0 a1 a2 a4 a5 a6 a7 a8 a9 a10 a11 a12 a13 a14 w)) else bif pc == 302 then ((xr ls 0).bind fun a0 => (xr ls 1).bind fun a1 => (xr ls 2).bind fun a2 => (xr ls 4).bind fun a4 => (xi ls 5).bind fun a5 => (xr ls 6).bind fun a6 => (xr ls 7).bind fun a7 => (xi ls 8).bind fun a8 => (xi ls 9).bind fun a9 => (xi ls 10).bind fun a10 => (xi ls 11).bind fun a11 => (xi ls 12).bind fun a12 => (xi ls 13).bind fun a13 => skN st ((F_L_law fu n).2.2.2.2.2.1 a0 a1 a2 a4 a5 a6 a7 a8 a9 a10 a11 a12 a13 w)) else bif pc == 327 then ((xr ls 0).bind fun a0 => (xr ls 1).bind fun a1 => (xr ls 2).bind fun a2 => (xr ls 4).bind fun a4 => (xi ls 5).bind fun a5 => (xr ls 6).bind fun a6 => (xr ls 7).bind fun a7 => (xi ls 8).bind fun a8 => (xi ls 9).bind fun a9 => (xi ls 10).bind fun a10 => (xi ls 11).bind fun a11 => (xi ls 12).bind fun a12 => (xi ls 13).bind fun a13 => (xi ls 14).bind fun a14 => skI st fun s0 st => skI st fun s1 st => skR st fun s2 st => skN st ((F_L_law fu n).2.2.2.2.2.2.1 a0 a1 a2 a4 a5 a6 a7 a8 a9 a10 a11 a12 a13 a14 s0 s1 s2 w)) else bif pc == 362 then ((xr ls 0).bind fun a0 => (xr ls 1).bind fun a1 => (xr ls 2).bind fun a2 => (xr ls 4).bind fun a4 => (xi ls 5).bind fun a5 => (xr ls 6).bind fun a6 => (xr ls 7).bind fun a7 => (xi ls 8).bind fun a8 => (xi ls 9).bind fun a9 => (xi ls 10).bind fun a10 => (xi ls 11).bind fun a11 => (xi ls 12).bind fun a12 => (xi ls 14).bind fun a14 => skN st ((F_L_law fu n).2.2.2.2.2.2.2.1 a0 a1 a2 a4 a5 a6 a7 a8 a9 a10 a11 a12 a14 w)) else bif pc == 389 then ((xr ls 0).bind fun a0 => (xr ls 1).bind fun a1 => (xr ls 2).bind fun a2 => (xr ls 4).bind fun a4 => (xi ls 5).bind fun a5 => (xr ls 6).bind fun a6 => (xr ls 7).bind fun a7 => (xi ls 8).bind fun a8 => (xi ls 9).bind fun a9 => (xi ls 10).bind fun a10 => (xi ls 11).bind fun a11 => (xi ls 15).bind fun a15 => (xi ls 16).bind fun a16 => skN st ((F_L_law fu n).2.2.2.2.2.2.2.2.1 a0 a1 a2 a4 a5 a6 a7 a8 a9 a10 a11 a15 a16 w)) else bif pc == 473 then ((xr ls 0).bind fun a0 => (xr ls 1).bind fun a1 => (xr ls 2).bind fun a2 => (xr ls 4).bind fun a4 => (xi ls 5).bind fun a5 => (xr ls 6).bind fun a6 => (xr ls 7).bind fun a7 => (xi ls 8).bind fun a8 => (xi ls 9).bind fun a9 => (xi ls 10).bind fun a10 => (xi ls 13).bind fun a13 => (xi ls 14).bind fun a14 => skN st ((F_L_law fu n).2.2.2.2.2.2.2.2.2.1 a0 a1 a2 a4 a5 a6 a7 a8 a9 a10 a13 a14 w)) else bif pc == 496 then ((xr ls 0).bind fun a0 => (xr ls 1).bind fun a1 => (xr ls 2).bind fun a2 => (xr ls 4).bind fun a4 => (xi ls 5).bind fun a5 => (xr ls 6).bind fun a6 => (xr ls 7).bind fun a7 => (xi ls 8).bind fun a8 => (xi ls 9).bind fun a9 => (xi ls 10).bind fun a10 => (xi ls 14).bind fun a14 => skI st fun s0 st => skI st fun s1 st => skN st ((F_L_law fu n).2.2.2.2.2.2.2.2.2.2.1 a0 a1 a2 a4 a5 a6 a7 a8 a9 a10 a14 s0 s1 w)) else bif pc == 524 then ((xr ls 0).bind fun a0 => (xr ls 1).bind fun a1 => (xr ls 2).bind fun a2 => (xr ls 4).bind fun a4 => (xi ls 5).bind fun a5 => (xr ls 6).bind fun a6 => (xr ls 7).bind fun a7 => (xi ls 8).bind fun a8 => (xi ls 9).bind fun a9 => (xi ls 10).bind fun a10 => (xi ls 13).bind fun a13 => (xi ls 14).bind fun a14 => skI st fun s0 st => skI st fun s1 st => skN st ((F_L_law fu n).2.2.2.2.2.2.2.2.2.2.2.1 a0 a1 a2 a4 a5 a6 a7 a8 a9 a10 a13 a14 s0 s1 w)) else bif pc == 616 then ((xr ls 0).bind fun a0 => (xr ls 1).bind fun a1 => (xr ls 2).bind fun a2 => (xr ls 4).bind fun a4 => (xi ls 5).bind fun a5 => (xr ls 6).bind fun a6 => (xr ls 7).bind fun a7 => (xi ls 8).bind fun a8 => (xi ls 9).bind fun a9 => (xi ls 10).bind fun a10 => (xi ls 14).bind fun a14 => (xi ls 15).bind fun a15 => skN st ((F_L_law fu n).2.2.2.2.2.2.2.2.2.2.2.2.1 a0 a1 a2 a4 a5 a6 a7 a8 a9 a10 a14 a15 w)) else bif pc == 636 then ((xr ls 0).bind fun a0 => (xr ls 1).bind fun a1 => (xr ls 2).bind fun a2 => (xr ls 4).bind fun a4 => (xi ls 5).bind fun a5 => (xr ls 6).bind fun a6 => (xr ls 7).bind fun a7 => (xi ls 8).bind fun a8 => (xi ls 9).bind fun a9 => (xi ls 10).bind fun a10 => (xi ls 14).bind fun a14 => (xi ls 15).bind fun a15 => skI st fun s0 st => skI st fun s1 st => skR st fun s2 st => skN st ((F_L_law fu n).2.2.2.2.2.2.2.2.2.2.2.2.2.1 a0 a1 a2 a4 a5 a6 a7 a8 a9 a10 a14 a15 s0 s1 s2 w)) else bif pc == 677 then ((xr ls 0).bind fun a0 => (xr ls 1).bind fun a1 => (xr ls 2).bind fun a2 => (xr ls 4).bind fun a4 => (xi ls 5).bind fun a5 => (xr ls 6).bind fun a6 => (xr ls 7).bind fun a7 => (xi ls 8).bind fun a8 => (xi ls 9).bind fun a9 => (xi ls 10).bind fun a10 => (xi ls 14).bind fun a14 => (xi ls 15).bind fun a15 => (xi ls 16).bind fun a16 => (xi ls 17).bind fun a17 => skN st ((F_L_law fu n).2.2.2.2.2.2.2.2.2.2.2.2.2.2.1 a0 a1 a2 a4 a5 a6 a7 a8 a9 a10 a14 a15 a16 a17 w)) else bif pc == 765 then ((xr ls 0).bind fun a0 => (xr ls 1).bind fun a1 => (xr ls 2).bind fun a2 => (xr ls 4).bind fun a4 => (xi ls 5).bind fun a5 => (xr ls 6).bind fun a6 => (xr ls 7).bind fun a7 => (xi ls 8).bind fun a8 => (xi ls 9).bind fun a9 => (xi ls 10).bind fun a10 => (xi ls 14).bind fun a14 => (xi ls 15).bind fun a15 => (xi ls 16).bind fun a16 => (xi ls 17).bind fun a17 => skN st ((F_L_law fu n).2.2.2.2.2.2.2.2.2.2.2.2.2.2.2.1 a0 a1 a2 a4 a5 a6 a7 a8 a9 a10 a14 a15 a16 a17 w)) else bif pc == 832 then ((xr ls 0).bind fun a0 => (xr ls 1).bind fun a1 => (xr ls 2).bind fun a2 => (xr ls 4).bind fun a4 => (xi ls 5).bind fun a5 => (xr ls 6).bind fun a6 => (xr ls 7).bind fun a7 => (xi ls 8).bind fun a8 => (xi ls 9).bind fun a9 => (xi ls 10).bind fun a10 => (xi ls 14).bind fun a14 => (xi ls 15).bind fun a15 => (xi ls 16).bind fun a16 => (xi ls 17).bind fun a17 => (xi ls 18).bind fun a18 => skN st ((F_L_law fu n).2.2.2.2.2.2.2.2.2.2.2.2.2.2.2.2.1 a0 a1 a2 a4 a5 a6 a7 a8 a9 a10 a14 a15 a16 a17 a18 w)) else bif pc == 873 then ((xr ls 0).bind fun a0 => (xr ls 1).bind fun a1 => (xr ls 2).bind fun a2 => (xr ls 4).bind fun a4 => (xi ls 5).bind fun a5 => (xr ls 6).bind fun a6 => (xr ls 7).bind fun a7 => (xi ls 8).bind fun a8 => (xi ls 9).bind fun a9 => (xi ls 10).bind fun a10 => (xi ls 14).bind fun a14 => (xi ls 15).bind fun a15 => (xi ls 16).bind fun a16 => (xi ls 17).bind fun a17 => (xi ls 18).bind fun a18 => (xi ls 19).bind fun a19 => (xi ls 20).bind fun a20 => skN st ((F_L_law fu n).2.2.2.2.2.2.2.2.2.2.2.2.2.2.2.2.2.1 a0 a1 a2 a4 a5 a6 a7 a8 a9 a10 a14 a15 a16 a17 a18 a19 a20 w)) else bif pc == 925 then ((xr ls 0).bind fun a0 => (xr ls 1).bind fun a1 => (xr ls 2).bind fun a2 => (xr ls 4).bind fun a4 => (xi ls 5).bind fun a5 => (xr ls 6).bind fun a6 => (xr ls 7).bind fun a7 => (xi ls 8).bind fun a8 => (xi ls 9).bind fun a9 => (xi ls 10).bind fun a10 => (xi ls 14).bind fun a14 => (xi ls 15).bind fun a15 => (xi ls 16).bind fun a16 => (xi ls 17).bind fun a17 => (xi ls 18).bind fun a18 => (xi ls 19).bind fun a19 => (xi ls 20).bind fun a20 => skI st fun s0 st => skN st ((F_L_law fu n).2.2.2.2.2.2.2.2.2.2.2.2.2.2.2.2.2.2.1 a0 a1 a2 a4 a5 a6 a7 a8 a9 a10 a14 a15 a16 a17 a18 a19 a20 s0 w)) else bif pc == 1021 then ((xr ls 0).bind fun a0 => (xr ls 1).bind fun a1 => (xr ls 2).bind fun a2 => (xr ls 4).bind fun a4 => (xi ls 5).bind fun a5 => (xr ls 6).bind fun a6 => (xr ls 7).bind fun a7 => (xi ls 8).bind fun a8 => (xi ls 9).bind fun a9 => (xi ls 10).bind fun a10 => (xi ls 14).bind fun a14 => (xi ls 15).bind fun a15 => skN st ((F_L_law fu n).2.2.2.2.2.2.2.2.2.2.2.2.2.2.2.2.2.2.2.1 a0 a1 a2 a4 a5 a6 a7 a8 a9 a10 a14 a15 w)) else bif pc == 1117 then ((xr ls 0).bind fun a0 => (xr ls 1).bind fun a1 => (xr ls 2).bind fun a2 => (xr ls 4).bind fun a4 => (xi ls 5).bind fun a5 => (xr ls 6).bind fun a6 => (xr ls 7).bind fun a7 => (xi ls 8).bind fun a8 => (xi ls 9).bind fun a9 => (xi ls 10).bind fun a10 => (xi ls 14).bind fun a14 => (xi ls 18).bind fun a18 => (xi ls 19).bind fun a19 => (xi ls 20).bind fun a20 => (xi ls 21).bind fun a21 => skN st ((F_L_law fu n).2.2.2.2.2.2.2.2.2.2.2.2.2.2.2.2.2.2.2.2.1 a0 a1 a2 a4 a5 a6 a7 a8 a9 a10 a14 a18 a19 a20 a21 w)) else bif pc == 1234 then ((xr ls 0).bind fun a0 => (xr ls 1).bind fun a1 => (xr ls 2).bind fun a2 => (xr ls 4).bind fun a4 => (xi ls 5).bind fun a5 => (xr ls 6).bind fun a6 => (xr ls 7).bind fun a7 => (xi ls 8).bind fun a8 => (xi ls 9).bind fun a9 => (xi ls 10).bind fun a10 => (xi ls 14).bind fun a14 => (xi ls 21).bind fun a21 => (xi ls 22).bind fun a22 => (xi ls 23).bind fun a23 => skN st ((F_L_law fu n).2.2.2.2.2.2.2.2.2.2.2.2.2.2.2.2.2.2.2.2.2.1 a0 a1 a2 a4 a5 a6 a7 a8 a9 a10 a14 a21 a22 a23 w)) else bif pc == 1380 then ((xr ls 1).bind fun a1 => skN st ((F_L_law fu n).2.2.2.2.2.2.2.2.2.2.2.2.2.2.2.2.2.2.2.2.2.2 a1 w)) else none
set_option maxRecDepth 100000 in
set_option maxHeartbeats 4000000 in
theorem E_L_law_78 (fu : Nat) (n : Nat) (a0 : Nat) (a1 : Nat) (a2 : Nat) (a4 : Nat) (a5 : Int32) (a6 : Nat) (a7 : Int32) (w : XW) : (F_L_law fu (n + 1)).1 a0 a1 a2 a4 a5 a6 a7 w = ev T_L_law (op_L_law fu) [78, 122, 172, 197, 253, 302, 327, 362, 389, 473, 496, 524, 616, 636, 677, 765, 832, 873, 925, 1021, 1117, 1234, 1380] (K_L_law fu n) 870 78 [(0, .ref a0), (1, .ref a1), (2, .ref a2), (4, .ref a4), (5, .int a5), (6, .ref a6), (7, .int a7)] [] w := by
  rfl
set_option maxRecDepth 100000 in
set_option maxHeartbeats 4000000 in
theorem E_L_law_122 (fu : Nat) (n : Nat) (a0 : Nat) (a1 : Nat) (a2 : Nat) (a4 : Nat) (a5 : Int32) (a6 : Nat) (a7 : Int32) (s0 : Int32) (s1 : Int32) (s2 : Int32) (s3 : Int32) (s4 : Nat) (w : XW) : (F_L_law fu (n + 1)).2.1 a0 a1 a2 a4 a5 a6 a7 s0 s1 s2 s3 s4 w = ev T_L_law (op_L_law fu) [78, 122, 172, 197, 253, 302, 327, 362, 389, 473, 496, 524, 616, 636, 677, 765, 832, 873, 925, 1021, 1117, 1234, 1380] (K_L_law fu n) 870 122 [(0, .ref a0), (1, .ref a1), (2, .ref a2), (4, .ref a4), (5, .int a5), (6, .ref a6), (7, .int a7)] [.int s0, .int s1, .int s2, .int s3, .ref s4] w := by
  rfl
set_option maxRecDepth 100000 in
set_option maxHeartbeats 4000000 in
theorem E_L_law_172 (fu : Nat) (n : Nat) (a0 : Nat) (a1 : Nat) (a2 : Nat) (a4 : Nat) (a5 : Int32) (a6 : Nat) (a7 : Nat) (a8 : Int32) (w : XW) : (F_L_law fu (n + 1)).2.2.1 a0 a1 a2 a4 a5 a6 a7 a8 w = ev T_L_law (op_L_law fu) [78, 122, 172, 197, 253, 302, 327, 362, 389, 473, 496, 524, 616, 636, 677, 765, 832, 873, 925, 1021, 1117, 1234, 1380] (K_L_law fu n) 870 172 [(0, .ref a0), (1, .ref a1), (2, .ref a2), (4, .ref a4), (5, .int a5), (6, .ref a6), (7, .ref a7), (8, .int a8)] [] w := by
  rfl
set_option maxRecDepth 100000 in
set_option maxHeartbeats 4000000 in
theorem E_L_law_197 (fu : Nat) (n : Nat) (a0 : Nat) (a1 : Nat) (a2 : Nat) (a4 : Nat) (a5 : Int32) (a6 : Nat) (a7 : Nat) (a8 : Int32) (a9 : Int32) (w : XW) : (F_L_law fu (n + 1)).2.2.2.1 a0 a1 a2 a4 a5 a6 a7 a8 a9 w = ev T_L_law (op_L_law fu) [78, 122, 172, 197, 253, 302, 327, 362, 389, 473, 496, 524, 616, 636, 677, 765, 832, 873, 925, 1021, 1117, 1234, 1380] (K_L_law fu n) 870 197 [(0, .ref a0), (1, .ref a1), (2, .ref a2), (4, .ref a4), (5, .int a5), (6, .ref a6), (7, .ref a7), (8, .int a8), (9, .int a9)] [] w := by
  rfl
set_option maxRecDepth 100000 in
set_option maxHeartbeats 4000000 in
theorem E_L_law_253 (fu : Nat) (n : Nat) (a0 : Nat) (a1 : Nat) (a2 : Nat) (a4 : Nat) (a5 : Int32) (a6 : Nat) (a7 : Nat) (a8 : Int32) (a9 : Int32) (a10 : Int32) (a11 : Int32) (a12 : Int32) (a13 : Int32) (a14 : Int32) (w : XW) : (F_L_law fu (n + 1)).2.2.2.2.1 a0 a1 a2 a4 a5 a6 a7 a8 a9 a10 a11 a12 a13 a14 w = ev T_L_law (op_L_law fu) [78, 122, 172, 197, 253, 302, 327, 362, 389, 473, 496, 524, 616, 636, 677, 765, 832, 873, 925, 1021, 1117, 1234, 1380] (K_L_law fu n) 870 253 [(0, .ref a0), (1, .ref a1), (2, .ref a2), (4, .ref a4), (5, .int a5), (6, .ref a6), (7, .ref a7), (8, .int a8), (9, .int a9), (10, .int a10), (11, .int a11), (12, .int a12), (13, .int a13), (14, .int a14)] [] w := by
  rfl
set_option maxRecDepth 100000 in
set_option maxHeartbeats 4000000 in
theorem E_L_law_302 (fu : Nat) (n : Nat) (a0 : Nat) (a1 : Nat) (a2 : Nat) (a4 : Nat) (a5 : Int32) (a6 : Nat) (a7 : Nat) (a8 : Int32) (a9 : Int32) (a10 : Int32) (a11 : Int32) (a12 : Int32) (a13 : Int32) (w : XW) : (F_L_law fu (n + 1)).2.2.2.2.2.1 a0 a1 a2 a4 a5 a6 a7 a8 a9 a10 a11 a12 a13 w = ev T_L_law (op_L_law fu) [78, 122, 172, 197, 253, 302, 327, 362, 389, 473, 496, 524, 616, 636, 677, 765, 832, 873, 925, 1021, 1117, 1234, 1380] (K_L_law fu n) 870 302 [(0, .ref a0), (1, .ref a1), (2, .ref a2), (4, .ref a4), (5, .int a5), (6, .ref a6), (7, .ref a7), (8, .int a8), (9, .int a9), (10, .int a10), (11, .int a11), (12, .int a12), (13, .int a13)] [] w := by
  rfl
set_option maxRecDepth 100000 in
set_option maxHeartbeats 4000000 in
theorem E_L_law_327 (fu : Nat) (n : Nat) (a0 : Nat) (a1 : Nat) (a2 : Nat) (a4 : Nat) (a5 : Int32) (a6 : Nat) (a7 : Nat) (a8 : Int32) (a9 : Int32) (a10 : Int32) (a11 : Int32) (a12 : Int32) (a13 : Int32) (a14 : Int32) (s0 : Int32) (s1 : Int32) (s2 : Nat) (w : XW) : (F_L_law fu (n + 1)).2.2.2.2.2.2.1 a0 a1 a2 a4 a5 a6 a7 a8 a9 a10 a11 a12 a13 a14 s0 s1 s2 w = ev T_L_law (op_L_law fu) [78, 122, 172, 197, 253, 302, 327, 362, 389, 473, 496, 524, 616, 636, 677, 765, 832, 873, 925, 1021, 1117, 1234, 1380] (K_L_law fu n) 870 327 [(0, .ref a0), (1, .ref a1), (2, .ref a2), (4, .ref a4), (5, .int a5), (6, .ref a6), (7, .ref a7), (8, .int a8), (9, .int a9), (10, .int a10), (11, .int a11), (12, .int a12), (13, .int a13), (14, .int a14)] [.int s0, .int s1, .ref s2] w := by
  rfl
set_option maxRecDepth 100000 in
set_option maxHeartbeats 4000000 in
theorem E_L_law_362 (fu : Nat) (n : Nat) (a0 : Nat) (a1 : Nat) (a2 : Nat) (a4 : Nat) (a5 : Int32) (a6 : Nat) (a7 : Nat) (a8 : Int32) (a9 : Int32) (a10 : Int32) (a11 : Int32) (a12 : Int32) (a14 : Int32) (w : XW) : (F_L_law fu (n + 1)).2.2.2.2.2.2.2.1 a0 a1 a2 a4 a5 a6 a7 a8 a9 a10 a11 a12 a14 w = ev T_L_law (op_L_law fu) [78, 122, 172, 197, 253, 302, 327, 362, 389, 473, 496, 524, 616, 636, 677, 765, 832, 873, 925, 1021, 1117, 1234, 1380] (K_L_law fu n) 870 362 [(0, .ref a0), (1, .ref a1), (2, .ref a2), (4, .ref a4), (5, .int a5), (6, .ref a6), (7, .ref a7), (8, .int a8), (9, .int a9), (10, .int a10), (11, .int a11), (12, .int a12), (14, .int a14)] [] w := by
  rfl
set_option maxRecDepth 100000 in
set_option maxHeartbeats 4000000 in
theorem E_L_law_389 (fu : Nat) (n : Nat) (a0 : Nat) (a1 : Nat) (a2 : Nat) (a4 : Nat) (a5 : Int32) (a6 : Nat) (a7 : Nat) (a8 : Int32) (a9 : Int32) (a10 : Int32) (a11 : Int32) (a15 : Int32) (a16 : Int32) (w : XW) : (F_L_law fu (n + 1)).2.2.2.2.2.2.2.2.1 a0 a1 a2 a4 a5 a6 a7 a8 a9 a10 a11 a15 a16 w = ev T_L_law (op_L_law fu) [78, 122, 172, 197, 253, 302, 327, 362, 389, 473, 496, 524, 616, 636, 677, 765, 832, 873, 925, 1021, 1117, 1234, 1380] (K_L_law fu n) 870 389 [(0, .ref a0), (1, .ref a1), (2, .ref a2), (4, .ref a4), (5, .int a5), (6, .ref a6), (7, .ref a7), (8, .int a8), (9, .int a9), (10, .int a10), (11, .int a11), (15, .int a15), (16, .int a16)] [] w := by
  rfl
set_option maxRecDepth 100000 in
set_option maxHeartbeats 4000000 in
theorem E_L_law_473 (fu : Nat) (n : Nat) (a0 : Nat) (a1 : Nat) (a2 : Nat) (a4 : Nat) (a5 : Int32) (a6 : Nat) (a7 : Nat) (a8 : Int32) (a9 : Int32) (a10 : Int32) (a13 : Int32) (a14 : Int32) (w : XW) : (F_L_law fu (n + 1)).2.2.2.2.2.2.2.2.2.1 a0 a1 a2 a4 a5 a6 a7 a8 a9 a10 a13 a14 w = ev T_L_law (op_L_law fu) [78, 122, 172, 197, 253, 302, 327, 362, 389, 473, 496, 524, 616, 636, 677, 765, 832, 873, 925, 1021, 1117, 1234, 1380] (K_L_law fu n) 870 473 [(0, .ref a0), (1, .ref a1), (2, .ref a2), (4, .ref a4), (5, .int a5), (6, .ref a6), (7, .ref a7), (8, .int a8), (9, .int a9), (10, .int a10), (13, .int a13), (14, .int a14)] [] w := by
  rfl
set_option maxRecDepth 100000 in
set_option maxHeartbeats 4000000 in
theorem E_L_law_496 (fu : Nat) (n : Nat) (a0 : Nat) (a1 : Nat) (a2 : Nat) (a4 : Nat) (a5 : Int32) (a6 : Nat) (a7 : Nat) (a8 : Int32) (a9 : Int32) (a10 : Int32) (a14 : Int32) (s0 : Int32) (s1 : Int32) (w : XW) : (F_L_law fu (n + 1)).2.2.2.2.2.2.2.2.2.2.1 a0 a1 a2 a4 a5 a6 a7 a8 a9 a10 a14 s0 s1 w = ev T_L_law (op_L_law fu) [78, 122, 172, 197, 253, 302, 327, 362, 389, 473, 496, 524, 616, 636, 677, 765, 832, 873, 925, 1021, 1117, 1234, 1380] (K_L_law fu n) 870 496 [(0, .ref a0), (1, .ref a1), (2, .ref a2), (4, .ref a4), (5, .int a5), (6, .ref a6), (7, .ref a7), (8, .int a8), (9, .int a9), (10, .int a10), (14, .int a14)] [.int s0, .int s1] w := by
  rfl
set_option maxRecDepth 100000 in
set_option maxHeartbeats 4000000 in
theorem E_L_law_524 (fu : Nat) (n : Nat) (a0 : Nat) (a1 : Nat) (a2 : Nat) (a4 : Nat) (a5 : Int32) (a6 : Nat) (a7 : Nat) (a8 : Int32) (a9 : Int32) (a10 : Int32) (a13 : Int32) (a14 : Int32) (s0 : Int32) (s1 : Int32) (w : XW) : (F_L_law fu (n + 1)).2.2.2.2.2.2.2.2.2.2.2.1 a0 a1 a2 a4 a5 a6 a7 a8 a9 a10 a13 a14 s0 s1 w = ev T_L_law (op_L_law fu) [78, 122, 172, 197, 253, 302, 327, 362, 389, 473, 496, 524, 616, 636, 677, 765, 832, 873, 925, 1021, 1117, 1234, 1380] (K_L_law fu n) 870 524 [(0, .ref a0), (1, .ref a1), (2, .ref a2), (4, .ref a4), (5, .int a5), (6, .ref a6), (7, .ref a7), (8, .int a8), (9, .int a9), (10, .int a10), (13, .int a13), (14, .int a14)] [.int s0, .int s1] w := by
  rfl
set_option maxRecDepth 100000 in
set_option maxHeartbeats 4000000 in
theorem E_L_law_616 (fu : Nat) (n : Nat) (a0 : Nat) (a1 : Nat) (a2 : Nat) (a4 : Nat) (a5 : Int32) (a6 : Nat) (a7 : Nat) (a8 : Int32) (a9 : Int32) (a10 : Int32) (a14 : Int32) (a15 : Int32) (w : XW) : (F_L_law fu (n + 1)).2.2.2.2.2.2.2.2.2.2.2.2.1 a0 a1 a2 a4 a5 a6 a7 a8 a9 a10 a14 a15 w = ev T_L_law (op_L_law fu) [78, 122, 172, 197, 253, 302, 327, 362, 389, 473, 496, 524, 616, 636, 677, 765, 832, 873, 925, 1021, 1117, 1234, 1380] (K_L_law fu n) 870 616 [(0, .ref a0), (1, .ref a1), (2, .ref a2), (4, .ref a4), (5, .int a5), (6, .ref a6), (7, .ref a7), (8, .int a8), (9, .int a9), (10, .int a10), (14, .int a14), (15, .int a15)] [] w := by
  rfl
set_option maxRecDepth 100000 in
set_option maxHeartbeats 4000000 in
theorem E_L_law_636 (fu : Nat) (n : Nat) (a0 : Nat) (a1 : Nat) (a2 : Nat) (a4 : Nat) (a5 : Int32) (a6 : Nat) (a7 : Nat) (a8 : Int32) (a9 : Int32) (a10 : Int32) (a14 : Int32) (a15 : Int32) (s0 : Int32) (s1 : Int32) (s2 : Nat) (w : XW) : (F_L_law fu (n + 1)).2.2.2.2.2.2.2.2.2.2.2.2.2.1 a0 a1 a2 a4 a5 a6 a7 a8 a9 a10 a14 a15 s0 s1 s2 w = ev T_L_law (op_L_law fu) [78, 122, 172, 197, 253, 302, 327, 362, 389, 473, 496, 524, 616, 636, 677, 765, 832, 873, 925, 1021, 1117, 1234, 1380] (K_L_law fu n) 870 636 [(0, .ref a0), (1, .ref a1), (2, .ref a2), (4, .ref a4), (5, .int a5), (6, .ref a6), (7, .ref a7), (8, .int a8), (9, .int a9), (10, .int a10), (14, .int a14), (15, .int a15)] [.int s0, .int s1, .ref s2] w := by
  rfl
set_option maxRecDepth 100000 in
set_option maxHeartbeats 4000000 in
theorem E_L_law_677 (fu : Nat) (n : Nat) (a0 : Nat) (a1 : Nat) (a2 : Nat) (a4 : Nat) (a5 : Int32) (a6 : Nat) (a7 : Nat) (a8 : Int32) (a9 : Int32) (a10 : Int32) (a14 : Int32) (a15 : Int32) (a16 : Int32) (a17 : Int32) (w : XW) : (F_L_law fu (n + 1)).2.2.2.2.2.2.2.2.2.2.2.2.2.2.1 a0 a1 a2 a4 a5 a6 a7 a8 a9 a10 a14 a15 a16 a17 w = ev T_L_law (op_L_law fu) [78, 122, 172, 197, 253, 302, 327, 362, 389, 473, 496, 524, 616, 636, 677, 765, 832, 873, 925, 1021, 1117, 1234, 1380] (K_L_law fu n) 870 677 [(0, .ref a0), (1, .ref a1), (2, .ref a2), (4, .ref a4), (5, .int a5), (6, .ref a6), (7, .ref a7), (8, .int a8), (9, .int a9), (10, .int a10), (14, .int a14), (15, .int a15), (16, .int a16), (17, .int a17)] [] w := by
  rfl
set_option maxRecDepth 100000 in
set_option maxHeartbeats 4000000 in
theorem E_L_law_765 (fu : Nat) (n : Nat) (a0 : Nat) (a1 : Nat) (a2 : Nat) (a4 : Nat) (a5 : Int32) (a6 : Nat) (a7 : Nat) (a8 : Int32) (a9 : Int32) (a10 : Int32) (a14 : Int32) (a15 : Int32) (a16 : Int32) (a17 : Int32) (w : XW) : (F_L_law fu (n + 1)).2.2.2.2.2.2.2.2.2.2.2.2.2.2.2.1 a0 a1 a2 a4 a5 a6 a7 a8 a9 a10 a14 a15 a16 a17 w = ev T_L_law (op_L_law fu) [78, 122, 172, 197, 253, 302, 327, 362, 389, 473, 496, 524, 616, 636, 677, 765, 832, 873, 925, 1021, 1117, 1234, 1380] (K_L_law fu n) 870 765 [(0, .ref a0), (1, .ref a1), (2, .ref a2), (4, .ref a4), (5, .int a5), (6, .ref a6), (7, .ref a7), (8, .int a8), (9, .int a9), (10, .int a10), (14, .int a14), (15, .int a15), (16, .int a16), (17, .int a17)] [] w := by
  rfl
set_option maxRecDepth 100000 in
set_option maxHeartbeats 4000000 in
theorem E_L_law_832 (fu : Nat) (n : Nat) (a0 : Nat) (a1 : Nat) (a2 : Nat) (a4 : Nat) (a5 : Int32) (a6 : Nat) (a7 : Nat) (a8 : Int32) (a9 : Int32) (a10 : Int32) (a14 : Int32) (a15 : Int32) (a16 : Int32) (a17 : Int32) (a18 : Int32) (w : XW) : (F_L_law fu (n + 1)).2.2.2.2.2.2.2.2.2.2.2.2.2.2.2.2.1 a0 a1 a2 a4 a5 a6 a7 a8 a9 a10 a14 a15 a16 a17 a18 w = ev T_L_law (op_L_law fu) [78, 122, 172, 197, 253, 302, 327, 362, 389, 473, 496, 524, 616, 636, 677, 765, 832, 873, 925, 1021, 1117, 1234, 1380] (K_L_law fu n) 870 832 [(0, .ref a0), (1, .ref a1), (2, .ref a2), (4, .ref a4), (5, .int a5), (6, .ref a6), (7, .ref a7), (8, .int a8), (9, .int a9), (10, .int a10), (14, .int a14), (15, .int a15), (16, .int a16), (17, .int a17), (18, .int a18)] [] w := by
  rfl
set_option maxRecDepth 100000 in
set_option maxHeartbeats 4000000 in
theorem E_L_law_873 (fu : Nat) (n : Nat) (a0 : Nat) (a1 : Nat) (a2 : Nat) (a4 : Nat) (a5 : Int32) (a6 : Nat) (a7 : Nat) (a8 : Int32) (a9 : Int32) (a10 : Int32) (a14 : Int32) (a15 : Int32) (a16 : Int32) (a17 : Int32) (a18 : Int32) (a19 : Int32) (a20 : Int32) (w : XW) : (F_L_law fu (n + 1)).2.2.2.2.2.2.2.2.2.2.2.2.2.2.2.2.2.1 a0 a1 a2 a4 a5 a6 a7 a8 a9 a10 a14 a15 a16 a17 a18 a19 a20 w = ev T_L_law (op_L_law fu) [78, 122, 172, 197, 253, 302, 327, 362, 389, 473, 496, 524, 616, 636, 677, 765, 832, 873, 925, 1021, 1117, 1234, 1380] (K_L_law fu n) 870 873 [(0, .ref a0), (1, .ref a1), (2, .ref a2), (4, .ref a4), (5, .int a5), (6, .ref a6), (7, .ref a7), (8, .int a8), (9, .int a9), (10, .int a10), (14, .int a14), (15, .int a15), (16, .int a16), (17, .int a17), (18, .int a18), (19, .int a19), (20, .int a20)] [] w := by
  rfl
set_option maxRecDepth 100000 in
set_option maxHeartbeats 4000000 in
theorem E_L_law_925 (fu : Nat) (n : Nat) (a0 : Nat) (a1 : Nat) (a2 : Nat) (a4 : Nat) (a5 : Int32) (a6 : Nat) (a7 : Nat) (a8 : Int32) (a9 : Int32) (a10 : Int32) (a14 : Int32) (a15 : Int32) (a16 : Int32) (a17 : Int32) (a18 : Int32) (a19 : Int32) (a20 : Int32) (s0 : Int32) (w : XW) : (F_L_law fu (n + 1)).2.2.2.2.2.2.2.2.2.2.2.2.2.2.2.2.2.2.1 a0 a1 a2 a4 a5 a6 a7 a8 a9 a10 a14 a15 a16 a17 a18 a19 a20 s0 w = ev T_L_law (op_L_law fu) [78, 122, 172, 197, 253, 302, 327, 362, 389, 473, 496, 524, 616, 636, 677, 765, 832, 873, 925, 1021, 1117, 1234, 1380] (K_L_law fu n) 870 925 [(0, .ref a0), (1, .ref a1), (2, .ref a2), (4, .ref a4), (5, .int a5), (6, .ref a6), (7, .ref a7), (8, .int a8), (9, .int a9), (10, .int a10), (14, .int a14), (15, .int a15), (16, .int a16), (17, .int a17), (18, .int a18), (19, .int a19), (20, .int a20)] [.int s0] w := by
  rfl
set_option maxRecDepth 100000 in
set_option maxHeartbeats 4000000 in
theorem E_L_law_1021 (fu : Nat) (n : Nat) (a0 : Nat) (a1 : Nat) (a2 : Nat) (a4 : Nat) (a5 : Int32) (a6 : Nat) (a7 : Nat) (a8 : Int32) (a9 : Int32) (a10 : Int32) (a14 : Int32) (a15 : Int32) (w : XW) : (F_L_law fu (n + 1)).2.2.2.2.2.2.2.2.2.2.2.2.2.2.2.2.2.2.2.1 a0 a1 a2 a4 a5 a6 a7 a8 a9 a10 a14 a15 w = ev T_L_law (op_L_law fu) [78, 122, 172, 197, 253, 302, 327, 362, 389, 473, 496, 524, 616, 636, 677, 765, 832, 873, 925, 1021, 1117, 1234, 1380] (K_L_law fu n) 870 1021 [(0, .ref a0), (1, .ref a1), (2, .ref a2), (4, .ref a4), (5, .int a5), (6, .ref a6), (7, .ref a7), (8, .int a8), (9, .int a9), (10, .int a10), (14, .int a14), (15, .int a15)] [] w := by
  rfl
set_option maxRecDepth 100000 in
set_option maxHeartbeats 4000000 in
theorem E_L_law_1117 (fu : Nat) (n : Nat) (a0 : Nat) (a1 : Nat) (a2 : Nat) (a4 : Nat) (a5 : Int32) (a6 : Nat) (a7 : Nat) (a8 : Int32) (a9 : Int32) (a10 : Int32) (a14 : Int32) (a18 : Int32) (a19 : Int32) (a20 : Int32) (a21 : Int32) (w : XW) : (F_L_law fu (n + 1)).2.2.2.2.2.2.2.2.2.2.2.2.2.2.2.2.2.2.2.2.1 a0 a1 a2 a4 a5 a6 a7 a8 a9 a10 a14 a18 a19 a20 a21 w = ev T_L_law (op_L_law fu) [78, 122, 172, 197, 253, 302, 327, 362, 389, 473, 496, 524, 616, 636, 677, 765, 832, 873, 925, 1021, 1117, 1234, 1380] (K_L_law fu n) 870 1117 [(0, .ref a0), (1, .ref a1), (2, .ref a2), (4, .ref a4), (5, .int a5), (6, .ref a6), (7, .ref a7), (8, .int a8), (9, .int a9), (10, .int a10), (14, .int a14), (18, .int a18), (19, .int a19), (20, .int a20), (21, .int a21)] [] w := by
  rfl
set_option maxRecDepth 100000 in
set_option maxHeartbeats 4000000 in
theorem E_L_law_1234 (fu : Nat) (n : Nat) (a0 : Nat) (a1 : Nat) (a2 : Nat) (a4 : Nat) (a5 : Int32) (a6 : Nat) (a7 : Nat) (a8 : Int32) (a9 : Int32) (a10 : Int32) (a14 : Int32) (a21 : Int32) (a22 : Int32) (a23 : Int32) (w : XW) : (F_L_law fu (n + 1)).2.2.2.2.2.2.2.2.2.2.2.2.2.2.2.2.2.2.2.2.2.1 a0 a1 a2 a4 a5 a6 a7 a8 a9 a10 a14 a21 a22 a23 w = ev T_L_law (op_L_law fu) [78, 122, 172, 197, 253, 302, 327, 362, 389, 473, 496, 524, 616, 636, 677, 765, 832, 873, 925, 1021, 1117, 1234, 1380] (K_L_law fu n) 870 1234 [(0, .ref a0), (1, .ref a1), (2, .ref a2), (4, .ref a4), (5, .int a5), (6, .ref a6), (7, .ref a7), (8, .int a8), (9, .int a9), (10, .int a10), (14, .int a14), (21, .int a21), (22, .int a22), (23, .int a23)] [] w := by
  rfl
set_option maxRecDepth 100000 in
set_option maxHeartbeats 4000000 in
theorem E_L_law_1380 (fu : Nat) (n : Nat) (a1 : Nat) (w : XW) : (F_L_law fu (n + 1)).2.2.2.2.2.2.2.2.2.2.2.2.2.2.2.2.2.2.2.2.2.2 a1 w = ev T_L_law (op_L_law fu) [78, 122, 172, 197, 253, 302, 327, 362, 389, 473, 496, 524, 616, 636, 677, 765, 832, 873, 925, 1021, 1117, 1234, 1380] (K_L_law fu n) 870 1380 [(1, .ref a1)] [] w := by
  rfl
set_option maxRecDepth 100000 in
set_option maxHeartbeats 4000000 in
theorem E_L_law (fu : Nat) (a0 : Nat) (w : XW) : M_L_law fu a0 w = ev T_L_law (op_L_law fu) [78, 122, 172, 197, 253, 302, 327, 362, 389, 473, 496, 524, 616, 636, 677, 765, 832, 873, 925, 1021, 1117, 1234, 1380] (K_L_law fu fu) 870 0 (lv_args 0 [.ref a0]) [] w := by
  rfl
theorem D_L_law (fu : Nat) : DS T_L_law (op_L_law fu) [78, 122, 172, 197, 253, 302, 327, 362, 389, 473, 496, 524, 616, 636, 677, 765, 832, 873, 925, 1021, 1117, 1234, 1380] 870 (K_L_law fu) := by
  refine ⟨fun pc ls st w => c_none (b_none fun _ => b_none fun _ => b_none fun _ => b_none fun _ => b_none fun _ => b_none fun _ => b_none fun _ => skN_none rfl) (c_none (b_none fun _ => b_none fun _ => b_none fun _ => b_none fun _ => b_none fun _ => b_none fun _ => b_none fun _ => skI_none fun _ _ => skI_none fun _ _ => skI_none fun _ _ => skI_none fun _ _ => skR_none fun _ _ => skN_none rfl) (c_none (b_none fun _ => b_none fun _ => b_none fun _ => b_none fun _ => b_none fun _ => b_none fun _ => b_none fun _ => b_none fun _ => skN_none rfl) (c_none (b_none fun _ => b_none fun _ => b_none fun _ => b_none fun _ => b_none fun _ => b_none fun _ => b_none fun _ => b_none fun _ => b_none fun _ => skN_none rfl) (c_none (b_none fun _ => b_none fun _ => b_none fun _ => b_none fun _ => b_none fun _ => b_none fun _ => b_none fun _ => b_none fun _ => b_none fun _ => b_none fun _ => b_none fun _ => b_none fun _ => b_none fun _ => b_none fun _ => skN_none rfl) (c_none (b_none fun _ => b_none fun _ => b_none fun _ => b_none fun _ => b_none fun _ => b_none fun _ => b_none fun _ => b_none fun _ => b_none fun _ => b_none fun _ => b_none fun _ => b_none fun _ => b_none fun _ => skN_none rfl) (c_none (b_none fun _ => b_none fun _ => b_none fun _ => b_none fun _ => b_none fun _ => b_none fun _ => b_none fun _ => b_none fun _ => b_none fun _ => b_none fun _ => b_none fun _ => b_none fun _ => b_none fun _ => b_none fun _ => skI_none fun _ _ => skI_none fun _ _ => skR_none fun _ _ => skN_none rfl) (c_none (b_none fun _ => b_none fun _ => b_none fun _ => b_none fun _ => b_none fun _ => b_none fun _ => b_none fun _ => b_none fun _ => b_none fun _ => b_none fun _ => b_none fun _ => b_none fun _ => b_none fun _ => skN_none rfl) (c_none (b_none fun _ => b_none fun _ => b_none fun _ => b_none fun _ => b_none fun _ => b_none fun _ => b_none fun _ => b_none fun _ => b_none fun _ => b_none fun _ => b_none fun _ => b_none fun _ => b_none fun _ => skN_none rfl) (c_none (b_none fun _ => b_none fun _ => b_none fun _ => b_none fun _ => b_none fun _ => b_none fun _ => b_none fun _ => b_none fun _ => b_none fun _ => b_none fun _ => b_none fun _ => b_none fun _ => skN_none rfl) (c_none (b_none fun _ => b_none fun _ => b_none fun _ => b_none fun _ => b_none fun _ => b_none fun _ => b_none fun _ => b_none fun _ => b_none fun _ => b_none fun _ => b_none fun _ => skI_none fun _ _ => skI_none fun _ _ => skN_none rfl) (c_none (b_none fun _ => b_none fun _ => b_none fun _ => b_none fun _ => b_none fun _ => b_none fun _ => b_none fun _ => b_none fun _ => b_none fun _ => b_none fun _ => b_none fun _ => b_none fun _ => skI_none fun _ _ => skI_none fun _ _ => skN_none rfl) (c_none (b_none fun _ => b_none fun _ => b_none fun _ => b_none fun _ => b_none fun _ => b_none fun _ => b_none fun _ => b_none fun _ => b_none fun _ => b_none fun _ => b_none fun _ => b_none fun _ => skN_none rfl) (c_none (b_none fun _ => b_none fun _ => b_none fun _ => b_none fun _ => b_none fun _ => b_none fun _ => b_none fun _ => b_none fun _ => b_none fun _ => b_none fun _ => b_none fun _ => b_none fun _ => skI_none fun _ _ => skI_none fun _ _ => skR_none fun _ _ => skN_none rfl) (c_none (b_none fun _ => b_none fun _ => b_none fun _ => b_none fun _ => b_none fun _ => b_none fun _ => b_none fun _ => b_none fun _ => b_none fun _ => b_none fun _ => b_none fun _ => b_none fun _ => b_none fun _ => b_none fun _ => skN_none rfl) (c_none (b_none fun _ => b_none fun _ => b_none fun _ => b_none fun _ => b_none fun _ => b_none fun _ => b_none fun _ => b_none fun _ => b_none fun _ => b_none fun _ => b_none fun _ => b_none fun _ => b_none fun _ => b_none fun _ => skN_none rfl) (c_none (b_none fun _ => b_none fun _ => b_none fun _ => b_none fun _ => b_none fun _ => b_none fun _ => b_none fun _ => b_none fun _ => b_none fun _ => b_none fun _ => b_none fun _ => b_none fun _ => b_none fun _ => b_none fun _ => b_none fun _ => skN_none rfl) (c_none (b_none fun _ => b_none fun _ => b_none fun _ => b_none fun _ => b_none fun _ => b_none fun _ => b_none fun _ => b_none fun _ => b_none fun _ => b_none fun _ => b_none fun _ => b_none fun _ => b_none fun _ => b_none fun _ => b_none fun _ => b_none fun _ => b_none fun _ => skN_none rfl) (c_none (b_none fun _ => b_none fun _ => b_none fun _ => b_none fun _ => b_none fun _ => b_none fun _ => b_none fun _ => b_none fun _ => b_none fun _ => b_none fun _ => b_none fun _ => b_none fun _ => b_none fun _ => b_none fun _ => b_none fun _ => b_none fun _ => b_none fun _ => skI_none fun _ _ => skN_none rfl) (c_none (b_none fun _ => b_none fun _ => b_none fun _ => b_none fun _ => b_none fun _ => b_none fun _ => b_none fun _ => b_none fun _ => b_none fun _ => b_none fun _ => b_none fun _ => b_none fun _ => skN_none rfl) (c_none (b_none fun _ => b_none fun _ => b_none fun _ => b_none fun _ => b_none fun _ => b_none fun _ => b_none fun _ => b_none fun _ => b_none fun _ => b_none fun _ => b_none fun _ => b_none fun _ => b_none fun _ => b_none fun _ => b_none fun _ => skN_none rfl) (c_none (b_none fun _ => b_none fun _ => b_none fun _ => b_none fun _ => b_none fun _ => b_none fun _ => b_none fun _ => b_none fun _ => b_none fun _ => b_none fun _ => b_none fun _ => b_none fun _ => b_none fun _ => b_none fun _ => skN_none rfl) (c_none (b_none fun _ => skN_none rfl) (rfl))))))))))))))))))))))), fun n pc ls st w o h => ?_⟩
  rcases c_some h with ⟨rfl, h⟩ | h
  · obtain ⟨a0, h0, h⟩ := some_of h; obtain ⟨a1, h1, h⟩ := some_of h; obtain ⟨a2, h2, h⟩ := some_of h; obtain ⟨a4, h4, h⟩ := some_of h; obtain ⟨a5, h5, h⟩ := some_of h; obtain ⟨a6, h6, h⟩ := some_of h; obtain ⟨a7, h7, h⟩ := some_of h;
    obtain ⟨e, g⟩ := skN_of h
    subst e
    exact ⟨[(0, .ref a0), (1, .ref a1), (2, .ref a2), (4, .ref a4), (5, .int a5), (6, .ref a6), (7, .int a7)], cons_all (xr_of h0) (cons_all (xr_of h1) (cons_all (xr_of h2) (cons_all (xr_of h4) (cons_all (xi_of h5) (cons_all (xr_of h6) (cons_all (xi_of h7) (nil_all))))))), (E_L_law_78 fu n a0 a1 a2 a4 a5 a6 a7 w).symm.trans g⟩
  rcases c_some h with ⟨rfl, h⟩ | h
  · obtain ⟨a0, h0, h⟩ := some_of h; obtain ⟨a1, h1, h⟩ := some_of h; obtain ⟨a2, h2, h⟩ := some_of h; obtain ⟨a4, h4, h⟩ := some_of h; obtain ⟨a5, h5, h⟩ := some_of h; obtain ⟨a6, h6, h⟩ := some_of h; obtain ⟨a7, h7, h⟩ := some_of h;
    obtain ⟨s0, st0, e0, g0⟩ := skI_of h
    obtain ⟨s1, st1, e1, g1⟩ := skI_of g0
    obtain ⟨s2, st2, e2, g2⟩ := skI_of g1
    obtain ⟨s3, st3, e3, g3⟩ := skI_of g2
    obtain ⟨s4, st4, e4, g4⟩ := skR_of g3
    obtain ⟨e, g⟩ := skN_of g4
    subst e
    subst e4
    subst e3
    subst e2
    subst e1
    subst e0
    exact ⟨[(0, .ref a0), (1, .ref a1), (2, .ref a2), (4, .ref a4), (5, .int a5), (6, .ref a6), (7, .int a7)], cons_all (xr_of h0) (cons_all (xr_of h1) (cons_all (xr_of h2) (cons_all (xr_of h4) (cons_all (xi_of h5) (cons_all (xr_of h6) (cons_all (xi_of h7) (nil_all))))))), (E_L_law_122 fu n a0 a1 a2 a4 a5 a6 a7 s0 s1 s2 s3 s4 w).symm.trans g⟩
  rcases c_some h with ⟨rfl, h⟩ | h
  · obtain ⟨a0, h0, h⟩ := some_of h; obtain ⟨a1, h1, h⟩ := some_of h; obtain ⟨a2, h2, h⟩ := some_of h; obtain ⟨a4, h4, h⟩ := some_of h; obtain ⟨a5, h5, h⟩ := some_of h; obtain ⟨a6, h6, h⟩ := some_of h; obtain ⟨a7, h7, h⟩ := some_of h; obtain ⟨a8, h8, h⟩ := some_of h;
    obtain ⟨e, g⟩ := skN_of h
    subst e
    exact ⟨[(0, .ref a0), (1, .ref a1), (2, .ref a2), (4, .ref a4), (5, .int a5), (6, .ref a6), (7, .ref a7), (8, .int a8)], cons_all (xr_of h0) (cons_all (xr_of h1) (cons_all (xr_of h2) (cons_all (xr_of h4) (cons_all (xi_of h5) (cons_all (xr_of h6) (cons_all (xr_of h7) (cons_all (xi_of h8) (nil_all)))))))), (E_L_law_172 fu n a0 a1 a2 a4 a5 a6 a7 a8 w).symm.trans g⟩
  rcases c_some h with ⟨rfl, h⟩ | h
  · obtain ⟨a0, h0, h⟩ := some_of h; obtain ⟨a1, h1, h⟩ := some_of h; obtain ⟨a2, h2, h⟩ := some_of h; obtain ⟨a4, h4, h⟩ := some_of h; obtain ⟨a5, h5, h⟩ := some_of h; obtain ⟨a6, h6, h⟩ := some_of h; obtain ⟨a7, h7, h⟩ := some_of h; obtain ⟨a8, h8, h⟩ := some_of h; obtain ⟨a9, h9, h⟩ := some_of h;
    obtain ⟨e, g⟩ := skN_of h
    subst e
    exact ⟨[(0, .ref a0), (1, .ref a1), (2, .ref a2), (4, .ref a4), (5, .int a5), (6, .ref a6), (7, .ref a7), (8, .int a8), (9, .int a9)], cons_all (xr_of h0) (cons_all (xr_of h1) (cons_all (xr_of h2) (cons_all (xr_of h4) (cons_all (xi_of h5) (cons_all (xr_of h6) (cons_all (xr_of h7) (cons_all (xi_of h8) (cons_all (xi_of h9) (nil_all))))))))), (E_L_law_197 fu n a0 a1 a2 a4 a5 a6 a7 a8 a9 w).symm.trans g⟩
  rcases c_some h with ⟨rfl, h⟩ | h
  · obtain ⟨a0, h0, h⟩ := some_of h; obtain ⟨a1, h1, h⟩ := some_of h; obtain ⟨a2, h2, h⟩ := some_of h; obtain ⟨a4, h4, h⟩ := some_of h; obtain ⟨a5, h5, h⟩ := some_of h; obtain ⟨a6, h6, h⟩ := some_of h; obtain ⟨a7, h7, h⟩ := some_of h; obtain ⟨a8, h8, h⟩ := some_of h; obtain ⟨a9, h9, h⟩ := some_of h; obtain ⟨a10, h10, h⟩ := some_of h; obtain ⟨a11, h11, h⟩ := some_of h; obtain ⟨a12, h12, h⟩ := some_of h; obtain ⟨a13, h13, h⟩ := some_of h; obtain ⟨a14, h14, h⟩ := some_of h;
    obtain ⟨e, g⟩ := skN_of h
    subst e
    exact ⟨[(0, .ref a0), (1, .ref a1), (2, .ref a2), (4, .ref a4), (5, .int a5), (6, .ref a6), (7, .ref a7), (8, .int a8), (9, .int a9), (10, .int a10), (11, .int a11), (12, .int a12), (13, .int a13), (14, .int a14)], cons_all (xr_of h0) (cons_all (xr_of h1) (cons_all (xr_of h2) (cons_all (xr_of h4) (cons_all (xi_of h5) (cons_all (xr_of h6) (cons_all (xr_of h7) (cons_all (xi_of h8) (cons_all (xi_of h9) (cons_all (xi_of h10) (cons_all (xi_of h11) (cons_all (xi_of h12) (cons_all (xi_of h13) (cons_all (xi_of h14) (nil_all)))))))))))))), (E_L_law_253 fu n a0 a1 a2 a4 a5 a6 a7 a8 a9 a10 a11 a12 a13 a14 w).symm.trans g⟩
  rcases c_some h with ⟨rfl, h⟩ | h
  · obtain ⟨a0, h0, h⟩ := some_of h; obtain ⟨a1, h1, h⟩ := some_of h; obtain ⟨a2, h2, h⟩ := some_of h; obtain ⟨a4, h4, h⟩ := some_of h; obtain ⟨a5, h5, h⟩ := some_of h; obtain ⟨a6, h6, h⟩ := some_of h; obtain ⟨a7, h7, h⟩ := some_of h; obtain ⟨a8, h8, h⟩ := some_of h; obtain ⟨a9, h9, h⟩ := some_of h; obtain ⟨a10, h10, h⟩ := some_of h; obtain ⟨a11, h11, h⟩ := some_of h; obtain ⟨a12, h12, h⟩ := some_of h; obtain ⟨a13, h13, h⟩ := some_of h;
    obtain ⟨e, g⟩ := skN_of h
    subst e
    exact ⟨[(0, .ref a0), (1, .ref a1), (2, .ref a2), (4, .ref a4), (5, .int a5), (6, .ref a6), (7, .ref a7), (8, .int a8), (9, .int a9), (10, .int a10), (11, .int a11), (12, .int a12), (13, .int a13)], cons_all (xr_of h0) (cons_all (xr_of h1) (cons_all (xr_of h2) (cons_all (xr_of h4) (cons_all (xi_of h5) (cons_all (xr_of h6) (cons_all (xr_of h7) (cons_all (xi_of h8) (cons_all (xi_of h9) (cons_all (xi_of h10) (cons_all (xi_of h11) (cons_all (xi_of h12) (cons_all (xi_of h13) (nil_all))))))))))))), (E_L_law_302 fu n a0 a1 a2 a4 a5 a6 a7 a8 a9 a10 a11 a12 a13 w).symm.trans g⟩
  rcases c_some h with ⟨rfl, h⟩ | h
  · obtain ⟨a0, h0, h⟩ := some_of h; obtain ⟨a1, h1, h⟩ := some_of h; obtain ⟨a2, h2, h⟩ := some_of h; obtain ⟨a4, h4, h⟩ := some_of h; obtain ⟨a5, h5, h⟩ := some_of h; obtain ⟨a6, h6, h⟩ := some_of h; obtain ⟨a7, h7, h⟩ := some_of h; obtain ⟨a8, h8, h⟩ := some_of h; obtain ⟨a9, h9, h⟩ := some_of h; obtain ⟨a10, h10, h⟩ := some_of h; obtain ⟨a11, h11, h⟩ := some_of h; obtain ⟨a12, h12, h⟩ := some_of h; obtain ⟨a13, h13, h⟩ := some_of h; obtain ⟨a14, h14, h⟩ := some_of h;
    obtain ⟨s0, st0, e0, g0⟩ := skI_of h
    obtain ⟨s1, st1, e1, g1⟩ := skI_of g0
    obtain ⟨s2, st2, e2, g2⟩ := skR_of g1
    obtain ⟨e, g⟩ := skN_of g2
    subst e
    subst e2
    subst e1
    subst e0
    exact ⟨[(0, .ref a0), (1, .ref a1), (2, .ref a2), (4, .ref a4), (5, .int a5), (6, .ref a6), (7, .ref a7), (8, .int a8), (9, .int a9), (10, .int a10), (11, .int a11), (12, .int a12), (13, .int a13), (14, .int a14)], cons_all (xr_of h0) (cons_all (xr_of h1) (cons_all (xr_of h2) (cons_all (xr_of h4) (cons_all (xi_of h5) (cons_all (xr_of h6) (cons_all (xr_of h7) (cons_all (xi_of h8) (cons_all (xi_of h9) (cons_all (xi_of h10) (cons_all (xi_of h11) (cons_all (xi_of h12) (cons_all (xi_of h13) (cons_all (xi_of h14) (nil_all)))))))))))))), (E_L_law_327 fu n a0 a1 a2 a4 a5 a6 a7 a8 a9 a10 a11 a12 a13 a14 s0 s1 s2 w).symm.trans g⟩
  rcases c_some h with ⟨rfl, h⟩ | h
  · obtain ⟨a0, h0, h⟩ := some_of h; obtain ⟨a1, h1, h⟩ := some_of h; obtain ⟨a2, h2, h⟩ := some_of h; obtain ⟨a4, h4, h⟩ := some_of h; obtain ⟨a5, h5, h⟩ := some_of h; obtain ⟨a6, h6, h⟩ := some_of h; obtain ⟨a7, h7, h⟩ := some_of h; obtain ⟨a8, h8, h⟩ := some_of h; obtain ⟨a9, h9, h⟩ := some_of h; obtain ⟨a10, h10, h⟩ := some_of h; obtain ⟨a11, h11, h⟩ := some_of h; obtain ⟨a12, h12, h⟩ := some_of h; obtain ⟨a14, h14, h⟩ := some_of h;
    obtain ⟨e, g⟩ := skN_of h
    subst e
    exact ⟨[(0, .ref a0), (1, .ref a1), (2, .ref a2), (4, .ref a4), (5, .int a5), (6, .ref a6), (7, .ref a7), (8, .int a8), (9, .int a9), (10, .int a10), (11, .int a11), (12, .int a12), (14, .int a14)], cons_all (xr_of h0) (cons_all (xr_of h1) (cons_all (xr_of h2) (cons_all (xr_of h4) (cons_all (xi_of h5) (cons_all (xr_of h6) (cons_all (xr_of h7) (cons_all (xi_of h8) (cons_all (xi_of h9) (cons_all (xi_of h10) (cons_all (xi_of h11) (cons_all (xi_of h12) (cons_all (xi_of h14) (nil_all))))))))))))), (E_L_law_362 fu n a0 a1 a2 a4 a5 a6 a7 a8 a9 a10 a11 a12 a14 w).symm.trans g⟩
  rcases c_some h with ⟨rfl, h⟩ | h
  · obtain ⟨a0, h0, h⟩ := some_of h; obtain ⟨a1, h1, h⟩ := some_of h; obtain ⟨a2, h2, h⟩ := some_of h; obtain ⟨a4, h4, h⟩ := some_of h; obtain ⟨a5, h5, h⟩ := some_of h; obtain ⟨a6, h6, h⟩ := some_of h; obtain ⟨a7, h7, h⟩ := some_of h; obtain ⟨a8, h8, h⟩ := some_of h; obtain ⟨a9, h9, h⟩ := some_of h; obtain ⟨a10, h10, h⟩ := some_of h; obtain ⟨a11, h11, h⟩ := some_of h; obtain ⟨a15, h15, h⟩ := some_of h; obtain ⟨a16, h16, h⟩ := some_of h;
    obtain ⟨e, g⟩ := skN_of h
    subst e
    exact ⟨[(0, .ref a0), (1, .ref a1), (2, .ref a2), (4, .ref a4), (5, .int a5), (6, .ref a6), (7, .ref a7), (8, .int a8), (9, .int a9), (10, .int a10), (11, .int a11), (15, .int a15), (16, .int a16)], cons_all (xr_of h0) (cons_all (xr_of h1) (cons_all (xr_of h2) (cons_all (xr_of h4) (cons_all (xi_of h5) (cons_all (xr_of h6) (cons_all (xr_of h7) (cons_all (xi_of h8) (cons_all (xi_of h9) (cons_all (xi_of h10) (cons_all (xi_of h11) (cons_all (xi_of h15) (cons_all (xi_of h16) (nil_all))))))))))))), (E_L_law_389 fu n a0 a1 a2 a4 a5 a6 a7 a8 a9 a10 a11 a15 a16 w).symm.trans g⟩
  rcases c_some h with ⟨rfl, h⟩ | h
  · obtain ⟨a0, h0, h⟩ := some_of h; obtain ⟨a1, h1, h⟩ := some_of h; obtain ⟨a2, h2, h⟩ := some_of h; obtain ⟨a4, h4, h⟩ := some_of h; obtain ⟨a5, h5, h⟩ := some_of h; obtain ⟨a6, h6, h⟩ := some_of h; obtain ⟨a7, h7, h⟩ := some_of h; obtain ⟨a8, h8, h⟩ := some_of h; obtain ⟨a9, h9, h⟩ := some_of h; obtain ⟨a10, h10, h⟩ := some_of h; obtain ⟨a13, h13, h⟩ := some_of h; obtain ⟨a14, h14, h⟩ := some_of h;
    obtain ⟨e, g⟩ := skN_of h
    subst e
    exact ⟨[(0, .ref a0), (1, .ref a1), (2, .ref a2), (4, .ref a4), (5, .int a5), (6, .ref a6), (7, .ref a7), (8, .int a8), (9, .int a9), (10, .int a10), (13, .int a13), (14, .int a14)], cons_all (xr_of h0) (cons_all (xr_of h1) (cons_all (xr_of h2) (cons_all (xr_of h4) (cons_all (xi_of h5) (cons_all (xr_of h6) (cons_all (xr_of h7) (cons_all (xi_of h8) (cons_all (xi_of h9) (cons_all (xi_of h10) (cons_all (xi_of h13) (cons_all (xi_of h14) (nil_all)))))))))))), (E_L_law_473 fu n a0 a1 a2 a4 a5 a6 a7 a8 a9 a10 a13 a14 w).symm.trans g⟩
  rcases c_some h with ⟨rfl, h⟩ | h
  · obtain ⟨a0, h0, h⟩ := some_of h; obtain ⟨a1, h1, h⟩ := some_of h; obtain ⟨a2, h2, h⟩ := some_of h; obtain ⟨a4, h4, h⟩ := some_of h; obtain ⟨a5, h5, h⟩ := some_of h; obtain ⟨a6, h6, h⟩ := some_of h; obtain ⟨a7, h7, h⟩ := some_of h; obtain ⟨a8, h8, h⟩ := some_of h; obtain ⟨a9, h9, h⟩ := some_of h; obtain ⟨a10, h10, h⟩ := some_of h; obtain ⟨a14, h14, h⟩ := some_of h;
    obtain ⟨s0, st0, e0, g0⟩ := skI_of h
    obtain ⟨s1, st1, e1, g1⟩ := skI_of g0
    obtain ⟨e, g⟩ := skN_of g1
    subst e
    subst e1
    subst e0
    exact ⟨[(0, .ref a0), (1, .ref a1), (2, .ref a2), (4, .ref a4), (5, .int a5), (6, .ref a6), (7, .ref a7), (8, .int a8), (9, .int a9), (10, .int a10), (14, .int a14)], cons_all (xr_of h0) (cons_all (xr_of h1) (cons_all (xr_of h2) (cons_all (xr_of h4) (cons_all (xi_of h5) (cons_all (xr_of h6) (cons_all (xr_of h7) (cons_all (xi_of h8) (cons_all (xi_of h9) (cons_all (xi_of h10) (cons_all (xi_of h14) (nil_all))))))))))), (E_L_law_496 fu n a0 a1 a2 a4 a5 a6 a7 a8 a9 a10 a14 s0 s1 w).symm.trans g⟩
  rcases c_some h with ⟨rfl, h⟩ | h
  · obtain ⟨a0, h0, h⟩ := some_of h; obtain ⟨a1, h1, h⟩ := some_of h; obtain ⟨a2, h2, h⟩ := some_of h; obtain ⟨a4, h4, h⟩ := some_of h; obtain ⟨a5, h5, h⟩ := some_of h; obtain ⟨a6, h6, h⟩ := some_of h; obtain ⟨a7, h7, h⟩ := some_of h; obtain ⟨a8, h8, h⟩ := some_of h; obtain ⟨a9, h9, h⟩ := some_of h; obtain ⟨a10, h10, h⟩ := some_of h; obtain ⟨a13, h13, h⟩ := some_of h; obtain ⟨a14, h14, h⟩ := some_of h;
    obtain ⟨s0, st0, e0, g0⟩ := skI_of h
    obtain ⟨s1, st1, e1, g1⟩ := skI_of g0
    obtain ⟨e, g⟩ := skN_of g1
    subst e
    subst e1
    subst e0
    exact ⟨[(0, .ref a0), (1, .ref a1), (2, .ref a2), (4, .ref a4), (5, .int a5), (6, .ref a6), (7, .ref a7), (8, .int a8), (9, .int a9), (10, .int a10), (13, .int a13), (14, .int a14)], cons_all (xr_of h0) (cons_all (xr_of h1) (cons_all (xr_of h2) (cons_all (xr_of h4) (cons_all (xi_of h5) (cons_all (xr_of h6) (cons_all (xr_of h7) (cons_all (xi_of h8) (cons_all (xi_of h9) (cons_all (xi_of h10) (cons_all (xi_of h13) (cons_all (xi_of h14) (nil_all)))))))))))), (E_L_law_524 fu n a0 a1 a2 a4 a5 a6 a7 a8 a9 a10 a13 a14 s0 s1 w).symm.trans g⟩
  rcases c_some h with ⟨rfl, h⟩ | h
  · obtain ⟨a0, h0, h⟩ := some_of h; obtain ⟨a1, h1, h⟩ := some_of h; obtain ⟨a2, h2, h⟩ := some_of h; obtain ⟨a4, h4, h⟩ := some_of h; obtain ⟨a5, h5, h⟩ := some_of h; obtain ⟨a6, h6, h⟩ := some_of h; obtain ⟨a7, h7, h⟩ := some_of h; obtain ⟨a8, h8, h⟩ := some_of h; obtain ⟨a9, h9, h⟩ := some_of h; obtain ⟨a10, h10, h⟩ := some_of h; obtain ⟨a14, h14, h⟩ := some_of h; obtain ⟨a15, h15, h⟩ := some_of h;
    obtain ⟨e, g⟩ := skN_of h
    subst e
    exact ⟨[(0, .ref a0), (1, .ref a1), (2, .ref a2), (4, .ref a4), (5, .int a5), (6, .ref a6), (7, .ref a7), (8, .int a8), (9, .int a9), (10, .int a10), (14, .int a14), (15, .int a15)], cons_all (xr_of h0) (cons_all (xr_of h1) (cons_all (xr_of h2) (cons_all (xr_of h4) (cons_all (xi_of h5) (cons_all (xr_of h6) (cons_all (xr_of h7) (cons_all (xi_of h8) (cons_all (xi_of h9) (cons_all (xi_of h10) (cons_all (xi_of h14) (cons_all (xi_of h15) (nil_all)))))))))))), (E_L_law_616 fu n a0 a1 a2 a4 a5 a6 a7 a8 a9 a10 a14 a15 w).symm.trans g⟩
  rcases c_some h with ⟨rfl, h⟩ | h
  · obtain ⟨a0, h0, h⟩ := some_of h; obtain ⟨a1, h1, h⟩ := some_of h; obtain ⟨a2, h2, h⟩ := some_of h; obtain ⟨a4, h4, h⟩ := some_of h; obtain ⟨a5, h5, h⟩ := some_of h; obtain ⟨a6, h6, h⟩ := some_of h; obtain ⟨a7, h7, h⟩ := some_of h; obtain ⟨a8, h8, h⟩ := some_of h; obtain ⟨a9, h9, h⟩ := some_of h; obtain ⟨a10, h10, h⟩ := some_of h; obtain ⟨a14, h14, h⟩ := some_of h; obtain ⟨a15, h15, h⟩ := some_of h;
    obtain ⟨s0, st0, e0, g0⟩ := skI_of h
    obtain ⟨s1, st1, e1, g1⟩ := skI_of g0
    obtain ⟨s2, st2, e2, g2⟩ := skR_of g1
    obtain ⟨e, g⟩ := skN_of g2
    subst e
    subst e2
    subst e1
    subst e0
    exact ⟨[(0, .ref a0), (1, .ref a1), (2, .ref a2), (4, .ref a4), (5, .int a5), (6, .ref a6), (7, .ref a7), (8, .int a8), (9, .int a9), (10, .int a10), (14, .int a14), (15, .int a15)], cons_all (xr_of h0) (cons_all (xr_of h1) (cons_all (xr_of h2) (cons_all (xr_of h4) (cons_all (xi_of h5) (cons_all (xr_of h6) (cons_all (xr_of h7) (cons_all (xi_of h8) (cons_all (xi_of h9) (cons_all (xi_of h10) (cons_all (xi_of h14) (cons_all (xi_of h15) (nil_all)))))))))))), (E_L_law_636 fu n a0 a1 a2 a4 a5 a6 a7 a8 a9 a10 a14 a15 s0 s1 s2 w).symm.trans g⟩
  rcases c_some h with ⟨rfl, h⟩ | h
  · obtain ⟨a0, h0, h⟩ := some_of h; obtain ⟨a1, h1, h⟩ := some_of h; obtain ⟨a2, h2, h⟩ := some_of h; obtain ⟨a4, h4, h⟩ := some_of h; obtain ⟨a5, h5, h⟩ := some_of h; obtain ⟨a6, h6, h⟩ := some_of h; obtain ⟨a7, h7, h⟩ := some_of h; obtain ⟨a8, h8, h⟩ := some_of h; obtain ⟨a9, h9, h⟩ := some_of h; obtain ⟨a10, h10, h⟩ := some_of h; obtain ⟨a14, h14, h⟩ := some_of h; obtain ⟨a15, h15, h⟩ := some_of h; obtain ⟨a16, h16, h⟩ := some_of h; obtain ⟨a17, h17, h⟩ := some_of h;
    obtain ⟨e, g⟩ := skN_of h
    subst e
    exact ⟨[(0, .ref a0), (1, .ref a1), (2, .ref a2), (4, .ref a4), (5, .int a5), (6, .ref a6), (7, .ref a7), (8, .int a8), (9, .int a9), (10, .int a10), (14, .int a14), (15, .int a15), (16, .int a16), (17, .int a17)], cons_all (xr_of h0) (cons_all (xr_of h1) (cons_all (xr_of h2) (cons_all (xr_of h4) (cons_all (xi_of h5) (cons_all (xr_of h6) (cons_all (xr_of h7) (cons_all (xi_of h8) (cons_all (xi_of h9) (cons_all (xi_of h10) (cons_all (xi_of h14) (cons_all (xi_of h15) (cons_all (xi_of h16) (cons_all (xi_of h17) (nil_all)))))))))))))), (E_L_law_677 fu n a0 a1 a2 a4 a5 a6 a7 a8 a9 a10 a14 a15 a16 a17 w).symm.trans g⟩
  rcases c_some h with ⟨rfl, h⟩ | h
  · obtain ⟨a0, h0, h⟩ := some_of h; obtain ⟨a1, h1, h⟩ := some_of h; obtain ⟨a2, h2, h⟩ := some_of h; obtain ⟨a4, h4, h⟩ := some_of h; obtain ⟨a5, h5, h⟩ := some_of h; obtain ⟨a6, h6, h⟩ := some_of h; obtain ⟨a7, h7, h⟩ := some_of h; obtain ⟨a8, h8, h⟩ := some_of h; obtain ⟨a9, h9, h⟩ := some_of h; obtain ⟨a10, h10, h⟩ := some_of h; obtain ⟨a14, h14, h⟩ := some_of h; obtain ⟨a15, h15, h⟩ := some_of h; obtain ⟨a16, h16, h⟩ := some_of h; obtain ⟨a17, h17, h⟩ := some_of h;
    obtain ⟨e, g⟩ := skN_of h
    subst e
    exact ⟨[(0, .ref a0), (1, .ref a1), (2, .ref a2), (4, .ref a4), (5, .int a5), (6, .ref a6), (7, .ref a7), (8, .int a8), (9, .int a9), (10, .int a10), (14, .int a14), (15, .int a15), (16, .int a16), (17, .int a17)], cons_all (xr_of h0) (cons_all (xr_of h1) (cons_all (xr_of h2) (cons_all (xr_of h4) (cons_all (xi_of h5) (cons_all (xr_of h6) (cons_all (xr_of h7) (cons_all (xi_of h8) (cons_all (xi_of h9) (cons_all (xi_of h10) (cons_all (xi_of h14) (cons_all (xi_of h15) (cons_all (xi_of h16) (cons_all (xi_of h17) (nil_all)))))))))))))), (E_L_law_765 fu n a0 a1 a2 a4 a5 a6 a7 a8 a9 a10 a14 a15 a16 a17 w).symm.trans g⟩
  rcases c_some h with ⟨rfl, h⟩ | h
  · obtain ⟨a0, h0, h⟩ := some_of h; obtain ⟨a1, h1, h⟩ := some_of h; obtain ⟨a2, h2, h⟩ := some_of h; obtain ⟨a4, h4, h⟩ := some_of h; obtain ⟨a5, h5, h⟩ := some_of h; obtain ⟨a6, h6, h⟩ := some_of h; obtain ⟨a7, h7, h⟩ := some_of h; obtain ⟨a8, h8, h⟩ := some_of h; obtain ⟨a9, h9, h⟩ := some_of h; obtain ⟨a10, h10, h⟩ := some_of h; obtain ⟨a14, h14, h⟩ := some_of h; obtain ⟨a15, h15, h⟩ := some_of h; obtain ⟨a16, h16, h⟩ := some_of h; obtain ⟨a17, h17, h⟩ := some_of h; obtain ⟨a18, h18, h⟩ := some_of h;
    obtain ⟨e, g⟩ := skN_of h
    subst e
    exact ⟨[(0, .ref a0), (1, .ref a1), (2, .ref a2), (4, .ref a4), (5, .int a5), (6, .ref a6), (7, .ref a7), (8, .int a8), (9, .int a9), (10, .int a10), (14, .int a14), (15, .int a15), (16, .int a16), (17, .int a17), (18, .int a18)], cons_all (xr_of h0) (cons_all (xr_of h1) (cons_all (xr_of h2) (cons_all (xr_of h4) (cons_all (xi_of h5) (cons_all (xr_of h6) (cons_all (xr_of h7) (cons_all (xi_of h8) (cons_all (xi_of h9) (cons_all (xi_of h10) (cons_all (xi_of h14) (cons_all (xi_of h15) (cons_all (xi_of h16) (cons_all (xi_of h17) (cons_all (xi_of h18) (nil_all))))))))))))))), (E_L_law_832 fu n a0 a1 a2 a4 a5 a6 a7 a8 a9 a10 a14 a15 a16 a17 a18 w).symm.trans g⟩
  rcases c_some h with ⟨rfl, h⟩ | h
  · obtain ⟨a0, h0, h⟩ := some_of h; obtain ⟨a1, h1, h⟩ := some_of h; obtain ⟨a2, h2, h⟩ := some_of h; obtain ⟨a4, h4, h⟩ := some_of h; obtain ⟨a5, h5, h⟩ := some_of h; obtain ⟨a6, h6, h⟩ := some_of h; obtain ⟨a7, h7, h⟩ := some_of h; obtain ⟨a8, h8, h⟩ := some_of h; obtain ⟨a9, h9, h⟩ := some_of h; obtain ⟨a10, h10, h⟩ := some_of h; obtain ⟨a14, h14, h⟩ := some_of h; obtain ⟨a15, h15, h⟩ := some_of h; obtain ⟨a16, h16, h⟩ := some_of h; obtain ⟨a17, h17, h⟩ := some_of h; obtain ⟨a18, h18, h⟩ := some_of h; obtain ⟨a19, h19, h⟩ := some_of h; obtain ⟨a20, h20, h⟩ := some_of h;
    obtain ⟨e, g⟩ := skN_of h
    subst e
    exact ⟨[(0, .ref a0), (1, .ref a1), (2, .ref a2), (4, .ref a4), (5, .int a5), (6, .ref a6), (7, .ref a7), (8, .int a8), (9, .int a9), (10, .int a10), (14, .int a14), (15, .int a15), (16, .int a16), (17, .int a17), (18, .int a18), (19, .int a19), (20, .int a20)], cons_all (xr_of h0) (cons_all (xr_of h1) (cons_all (xr_of h2) (cons_all (xr_of h4) (cons_all (xi_of h5) (cons_all (xr_of h6) (cons_all (xr_of h7) (cons_all (xi_of h8) (cons_all (xi_of h9) (cons_all (xi_of h10) (cons_all (xi_of h14) (cons_all (xi_of h15) (cons_all (xi_of h16) (cons_all (xi_of h17) (cons_all (xi_of h18) (cons_all (xi_of h19) (cons_all (xi_of h20) (nil_all))))))))))))))))), (E_L_law_873 fu n a0 a1 a2 a4 a5 a6 a7 a8 a9 a10 a14 a15 a16 a17 a18 a19 a20 w).symm.trans g⟩
  rcases c_some h with ⟨rfl, h⟩ | h
  · obtain ⟨a0, h0, h⟩ := some_of h; obtain ⟨a1, h1, h⟩ := some_of h; obtain ⟨a2, h2, h⟩ := some_of h; obtain ⟨a4, h4, h⟩ := some_of h; obtain ⟨a5, h5, h⟩ := some_of h; obtain ⟨a6, h6, h⟩ := some_of h; obtain ⟨a7, h7, h⟩ := some_of h; obtain ⟨a8, h8, h⟩ := some_of h; obtain ⟨a9, h9, h⟩ := some_of h; obtain ⟨a10, h10, h⟩ := some_of h; obtain ⟨a14, h14, h⟩ := some_of h; obtain ⟨a15, h15, h⟩ := some_of h; obtain ⟨a16, h16, h⟩ := some_of h; obtain ⟨a17, h17, h⟩ := some_of h; obtain ⟨a18, h18, h⟩ := some_of h; obtain ⟨a19, h19, h⟩ := some_of h; obtain ⟨a20, h20, h⟩ := some_of h;
    obtain ⟨s0, st0, e0, g0⟩ := skI_of h
    obtain ⟨e, g⟩ := skN_of g0
    subst e
    subst e0
    exact ⟨[(0, .ref a0), (1, .ref a1), (2, .ref a2), (4, .ref a4), (5, .int a5), (6, .ref a6), (7, .ref a7), (8, .int a8), (9, .int a9), (10, .int a10), (14, .int a14), (15, .int a15), (16, .int a16), (17, .int a17), (18, .int a18), (19, .int a19), (20, .int a20)], cons_all (xr_of h0) (cons_all (xr_of h1) (cons_all (xr_of h2) (cons_all (xr_of h4) (cons_all (xi_of h5) (cons_all (xr_of h6) (cons_all (xr_of h7) (cons_all (xi_of h8) (cons_all (xi_of h9) (cons_all (xi_of h10) (cons_all (xi_of h14) (cons_all (xi_of h15) (cons_all (xi_of h16) (cons_all (xi_of h17) (cons_all (xi_of h18) (cons_all (xi_of h19) (cons_all (xi_of h20) (nil_all))))))))))))))))), (E_L_law_925 fu n a0 a1 a2 a4 a5 a6 a7 a8 a9 a10 a14 a15 a16 a17 a18 a19 a20 s0 w).symm.trans g⟩
  rcases c_some h with ⟨rfl, h⟩ | h
  · obtain ⟨a0, h0, h⟩ := some_of h; obtain ⟨a1, h1, h⟩ := some_of h; obtain ⟨a2, h2, h⟩ := some_of h; obtain ⟨a4, h4, h⟩ := some_of h; obtain ⟨a5, h5, h⟩ := some_of h; obtain ⟨a6, h6, h⟩ := some_of h; obtain ⟨a7, h7, h⟩ := some_of h; obtain ⟨a8, h8, h⟩ := some_of h; obtain ⟨a9, h9, h⟩ := some_of h; obtain ⟨a10, h10, h⟩ := some_of h; obtain ⟨a14, h14, h⟩ := some_of h; obtain ⟨a15, h15, h⟩ := some_of h;
    obtain ⟨e, g⟩ := skN_of h
    subst e
    exact ⟨[(0, .ref a0), (1, .ref a1), (2, .ref a2), (4, .ref a4), (5, .int a5), (6, .ref a6), (7, .ref a7), (8, .int a8), (9, .int a9), (10, .int a10), (14, .int a14), (15, .int a15)], cons_all (xr_of h0) (cons_all (xr_of h1) (cons_all (xr_of h2) (cons_all (xr_of h4) (cons_all (xi_of h5) (cons_all (xr_of h6) (cons_all (xr_of h7) (cons_all (xi_of h8) (cons_all (xi_of h9) (cons_all (xi_of h10) (cons_all (xi_of h14) (cons_all (xi_of h15) (nil_all)))))))))))), (E_L_law_1021 fu n a0 a1 a2 a4 a5 a6 a7 a8 a9 a10 a14 a15 w).symm.trans g⟩
  rcases c_some h with ⟨rfl, h⟩ | h
  · obtain ⟨a0, h0, h⟩ := some_of h; obtain ⟨a1, h1, h⟩ := some_of h; obtain ⟨a2, h2, h⟩ := some_of h; obtain ⟨a4, h4, h⟩ := some_of h; obtain ⟨a5, h5, h⟩ := some_of h; obtain ⟨a6, h6, h⟩ := some_of h; obtain ⟨a7, h7, h⟩ := some_of h; obtain ⟨a8, h8, h⟩ := some_of h; obtain ⟨a9, h9, h⟩ := some_of h; obtain ⟨a10, h10, h⟩ := some_of h; obtain ⟨a14, h14, h⟩ := some_of h; obtain ⟨a18, h18, h⟩ := some_of h; obtain ⟨a19, h19, h⟩ := some_of h; obtain ⟨a20, h20, h⟩ := some_of h; obtain ⟨a21, h21, h⟩ := some_of h;
    obtain ⟨e, g⟩ := skN_of h
    subst e
    exact ⟨[(0, .ref a0), (1, .ref a1), (2, .ref a2), (4, .ref a4), (5, .int a5), (6, .ref a6), (7, .ref a7), (8, .int a8), (9, .int a9), (10, .int a10), (14, .int a14), (18, .int a18), (19, .int a19), (20, .int a20), (21, .int a21)], cons_all (xr_of h0) (cons_all (xr_of h1) (cons_all (xr_of h2) (cons_all (xr_of h4) (cons_all (xi_of h5) (cons_all (xr_of h6) (cons_all (xr_of h7) (cons_all (xi_of h8) (cons_all (xi_of h9) (cons_all (xi_of h10) (cons_all (xi_of h14) (cons_all (xi_of h18) (cons_all (xi_of h19) (cons_all (xi_of h20) (cons_all (xi_of h21) (nil_all))))))))))))))), (E_L_law_1117 fu n a0 a1 a2 a4 a5 a6 a7 a8 a9 a10 a14 a18 a19 a20 a21 w).symm.trans g⟩
  rcases c_some h with ⟨rfl, h⟩ | h
  · obtain ⟨a0, h0, h⟩ := some_of h; obtain ⟨a1, h1, h⟩ := some_of h; obtain ⟨a2, h2, h⟩ := some_of h; obtain ⟨a4, h4, h⟩ := some_of h; obtain ⟨a5, h5, h⟩ := some_of h; obtain ⟨a6, h6, h⟩ := some_of h; obtain ⟨a7, h7, h⟩ := some_of h; obtain ⟨a8, h8, h⟩ := some_of h; obtain ⟨a9, h9, h⟩ := some_of h; obtain ⟨a10, h10, h⟩ := some_of h; obtain ⟨a14, h14, h⟩ := some_of h; obtain ⟨a21, h21, h⟩ := some_of h; obtain ⟨a22, h22, h⟩ := some_of h; obtain ⟨a23, h23, h⟩ := some_of h;
    obtain ⟨e, g⟩ := skN_of h
    subst e
    exact ⟨[(0, .ref a0), (1, .ref a1), (2, .ref a2), (4, .ref a4), (5, .int a5), (6, .ref a6), (7, .ref a7), (8, .int a8), (9, .int a9), (10, .int a10), (14, .int a14), (21, .int a21), (22, .int a22), (23, .int a23)], cons_all (xr_of h0) (cons_all (xr_of h1) (cons_all (xr_of h2) (cons_all (xr_of h4) (cons_all (xi_of h5) (cons_all (xr_of h6) (cons_all (xr_of h7) (cons_all (xi_of h8) (cons_all (xi_of h9) (cons_all (xi_of h10) (cons_all (xi_of h14) (cons_all (xi_of h21) (cons_all (xi_of h22) (cons_all (xi_of h23) (nil_all)))))))))))))), (E_L_law_1234 fu n a0 a1 a2 a4 a5 a6 a7 a8 a9 a10 a14 a21 a22 a23 w).symm.trans g⟩
  rcases c_some h with ⟨rfl, h⟩ | h
  · obtain ⟨a1, h1, h⟩ := some_of h;
    obtain ⟨e, g⟩ := skN_of h
    subst e
    exact ⟨[(1, .ref a1)], cons_all (xr_of h1) (nil_all), (E_L_law_1380 fu n a1 w).symm.trans g⟩
  · cases h
set_option maxRecDepth 100000 in
set_option maxHeartbeats 4000000 in
theorem V_L_law (fu : Nat) {l : Launch} {D : va_G} {cA : Nat → ClassId} {base b : Nat} : ∀ q ∈ ([(51, 5, 1, (U_X7_brook fu)), (57, 2, 1, (U_X7_walker fu)), (61, 2, 1, (U_X7_stride fu)), (64, 3, 1, (U_X7_set fu)), (67, 3, 1, (U_X7_ofStone fu)), (70, 2, 1, (U_X7_water fu)), (73, 3, 1, (U_X7_ofCell fu)), (76, 2, 1, (U_X7_many fu)), (79, 3, 1, (U_X7_can fu)), (85, 3, 1, (U_X7_highest fu)), (88, 3, 1, (U_X7_way fu)), (91, 3, 1, (U_X7_pass fu)), (19, 4, 1, (U_X7_sheet fu)), (25, 4, 1, (U_X7_put fu)), (94, 6, 1, (U_X7_days fu))] : List (Nat × Nat × Nat × Orc)), vOK l D cA base b 5 "BrookStonesLaw" q ∧ OM q.2.2.2 := cons_all (⟨⟨show (1 : Nat) ≠ 3 by decide, y_X7_brook, prog_1_method_2_code, 7, (some .int), 5, "BrookStones", 6, TX7, 8, 4, (S_X7_brook fu (l := l) (D := D) (cA := cA) (base := base) (b := b)).1, by decide, by decide, rfl, H_X7_brook fu, rfl, mi_X7_brook.1, mi_X7_brook.2.1, mi_X7_brook.2.2.1, mi_X7_brook.2.2.2.1, mi_X7_brook.2.2.2.2, Or.inl (tblG_of (i := 219) rfl rfl)⟩, (S_X7_brook fu (l := l) (D := D) (cA := cA) (base := base) (b := b)).2⟩) (cons_all (⟨⟨show (1 : Nat) ≠ 3 by decide, y_X7_walker, prog_1_method_10_code, 2, (some .int), 2, "BrookStones", 6, TX7, 8, 1, (S_X7_walker fu (l := l) (D := D) (cA := cA) (base := base) (b := b)).1, by decide, by decide, rfl, H_X7_walker fu, rfl, mi_X7_walker.1, mi_X7_walker.2.1, mi_X7_walker.2.2.1, mi_X7_walker.2.2.2.1, mi_X7_walker.2.2.2.2, Or.inl (tblG_of (i := 334) rfl rfl)⟩, (S_X7_walker fu (l := l) (D := D) (cA := cA) (base := base) (b := b)).2⟩) (cons_all (⟨⟨show (1 : Nat) ≠ 3 by decide, y_X7_stride, prog_1_method_11_code, 2, (some .int), 2, "BrookStones", 6, TX7, 8, 1, (S_X7_stride fu (l := l) (D := D) (cA := cA) (base := base) (b := b)).1, by decide, by decide, rfl, H_X7_stride fu, rfl, mi_X7_stride.1, mi_X7_stride.2.1, mi_X7_stride.2.2.1, mi_X7_stride.2.2.2.1, mi_X7_stride.2.2.2.2, Or.inl (tblG_of (i := 342) rfl rfl)⟩, (S_X7_stride fu (l := l) (D := D) (cA := cA) (base := base) (b := b)).2⟩) (cons_all (⟨⟨show (1 : Nat) ≠ 3 by decide, y_X7_set, prog_1_method_8_code, 3, (some .int), 3, "BrookStones", 6, TX7, 8, 2, (S_X7_set fu (l := l) (D := D) (cA := cA) (base := base) (b := b)).1, by decide, by decide, rfl, H_X7_set fu, rfl, mi_X7_set.1, mi_X7_set.2.1, mi_X7_set.2.2.1, mi_X7_set.2.2.2.1, mi_X7_set.2.2.2.2, Or.inl (tblG_of (i := 325) rfl rfl)⟩, (S_X7_set fu (l := l) (D := D) (cA := cA) (base := base) (b := b)).2⟩) (cons_all (⟨⟨show (1 : Nat) ≠ 3 by decide, y_X7_ofStone, prog_1_method_7_code, 3, (some .int), 2, "BrookStones", 6, TX7, 8, 2, (S_X7_ofStone fu (l := l) (D := D) (cA := cA) (base := base) (b := b)).1, by decide, by decide, rfl, H_X7_ofStone fu, rfl, mi_X7_ofStone.1, mi_X7_ofStone.2.1, mi_X7_ofStone.2.2.1, mi_X7_ofStone.2.2.2.1, mi_X7_ofStone.2.2.2.2, Or.inl (tblG_of (i := 309) rfl rfl)⟩, (S_X7_ofStone fu (l := l) (D := D) (cA := cA) (base := base) (b := b)).2⟩) (cons_all (⟨⟨show (1 : Nat) ≠ 3 by decide, y_X7_water, prog_1_method_5_code, 3, (some .int), 2, "BrookStones", 6, TX7, 8, 1, (S_X7_water fu (l := l) (D := D) (cA := cA) (base := base) (b := b)).1, by decide, by decide, rfl, H_X7_water fu, rfl, mi_X7_water.1, mi_X7_water.2.1, mi_X7_water.2.2.1, mi_X7_water.2.2.2.1, mi_X7_water.2.2.2.2, Or.inl (tblG_of (i := 300) rfl rfl)⟩, (S_X7_water fu (l := l) (D := D) (cA := cA) (base := base) (b := b)).2⟩) (cons_all (⟨⟨show (1 : Nat) ≠ 3 by decide, y_X7_ofCell, prog_1_method_3_code, 4, (some .int), 2, "BrookStones", 6, TX7, 8, 2, (S_X7_ofCell fu (l := l) (D := D) (cA := cA) (base := base) (b := b)).1, by decide, by decide, rfl, H_X7_ofCell fu, rfl, mi_X7_ofCell.1, mi_X7_ofCell.2.1, mi_X7_ofCell.2.2.1, mi_X7_ofCell.2.2.2.1, mi_X7_ofCell.2.2.2.2, Or.inl (tblG_of (i := 285) rfl rfl)⟩, (S_X7_ofCell fu (l := l) (D := D) (cA := cA) (base := base) (b := b)).2⟩) (cons_all (⟨⟨show (1 : Nat) ≠ 3 by decide, y_X7_many, prog_1_method_38_code, 2, (some .int), 3, "BrookStones", 6, TX7, 8, 1, (S_X7_many fu (l := l) (D := D) (cA := cA) (base := base) (b := b)).1, by decide, by decide, rfl, H_X7_many fu, rfl, mi_X7_many.1, mi_X7_many.2.1, mi_X7_many.2.2.1, mi_X7_many.2.2.2.1, mi_X7_many.2.2.2.2, Or.inl (tblG_of (i := 449) rfl rfl)⟩, (S_X7_many fu (l := l) (D := D) (cA := cA) (base := base) (b := b)).2⟩) (cons_all (⟨⟨show (1 : Nat) ≠ 3 by decide, y_X7_can, prog_1_method_12_code, 3, (some .int), 4, "BrookStones", 6, TX7, 8, 2, (S_X7_can fu (l := l) (D := D) (cA := cA) (base := base) (b := b)).1, by decide, by decide, rfl, H_X7_can fu, rfl, mi_X7_can.1, mi_X7_can.2.1, mi_X7_can.2.2.1, mi_X7_can.2.2.2.1, mi_X7_can.2.2.2.2, Or.inl (tblG_of (i := 350) rfl rfl)⟩, (S_X7_can fu (l := l) (D := D) (cA := cA) (base := base) (b := b)).2⟩) (cons_all (⟨⟨show (1 : Nat) ≠ 3 by decide, y_X7_highest, prog_1_method_14_code, 4, (some .int), 4, "BrookStones", 6, TX7, 8, 2, (S_X7_highest fu (l := l) (D := D) (cA := cA) (base := base) (b := b)).1, by decide, by decide, rfl, H_X7_highest fu, rfl, mi_X7_highest.1, mi_X7_highest.2.1, mi_X7_highest.2.2.1, mi_X7_highest.2.2.2.1, mi_X7_highest.2.2.2.2, Or.inl (tblG_of (i := 402) rfl rfl)⟩, (S_X7_highest fu (l := l) (D := D) (cA := cA) (base := base) (b := b)).2⟩) (cons_all (⟨⟨show (1 : Nat) ≠ 3 by decide, y_X7_way, prog_1_method_13_code, 4, (some .int), 5, "BrookStones", 6, TX7, 8, 2, (S_X7_way fu (l := l) (D := D) (cA := cA) (base := base) (b := b)).1, by decide, by decide, rfl, H_X7_way fu, rfl, mi_X7_way.1, mi_X7_way.2.1, mi_X7_way.2.2.1, mi_X7_way.2.2.2.1, mi_X7_way.2.2.2.2, Or.inl (tblG_of (i := 378) rfl rfl)⟩, (S_X7_way fu (l := l) (D := D) (cA := cA) (base := base) (b := b)).2⟩) (cons_all (⟨⟨show (1 : Nat) ≠ 3 by decide, y_X7_pass, prog_1_method_15_code, 4, (some .int), 4, "BrookStones", 6, TX7, 8, 2, (S_X7_pass fu (l := l) (D := D) (cA := cA) (base := base) (b := b)).1, by decide, by decide, rfl, H_X7_pass fu, rfl, mi_X7_pass.1, mi_X7_pass.2.1, mi_X7_pass.2.2.1, mi_X7_pass.2.2.2.1, mi_X7_pass.2.2.2.2, Or.inl (tblG_of (i := 406) rfl rfl)⟩, (S_X7_pass fu (l := l) (D := D) (cA := cA) (base := base) (b := b)).2⟩) (cons_all (⟨⟨show (1 : Nat) ≠ 3 by decide, y_X7_sheet, prog_1_method_28_code, 4, (some .int), 4, "BrookStones", 6, TX7, 8, 3, (S_X7_sheet fu (l := l) (D := D) (cA := cA) (base := base) (b := b)).1, by decide, by decide, rfl, H_X7_sheet fu, rfl, mi_X7_sheet.1, mi_X7_sheet.2.1, mi_X7_sheet.2.2.1, mi_X7_sheet.2.2.2.1, mi_X7_sheet.2.2.2.2, Or.inl (tblG_of (i := 423) rfl rfl)⟩, (S_X7_sheet fu (l := l) (D := D) (cA := cA) (base := base) (b := b)).2⟩) (cons_all (⟨⟨show (1 : Nat) ≠ 3 by decide, y_X7_put, prog_1_method_30_code, 4, (some .int), 3, "BrookStones", 6, TX7, 8, 3, (S_X7_put fu (l := l) (D := D) (cA := cA) (base := base) (b := b)).1, by decide, by decide, rfl, H_X7_put fu, rfl, mi_X7_put.1, mi_X7_put.2.1, mi_X7_put.2.2.1, mi_X7_put.2.2.2.1, mi_X7_put.2.2.2.2, Or.inl (tblG_of (i := 437) rfl rfl)⟩, (S_X7_put fu (l := l) (D := D) (cA := cA) (base := base) (b := b)).2⟩) (cons_all (⟨⟨show (1 : Nat) ≠ 3 by decide, y_X7_days, prog_1_method_16_code, 10, (some .int), 4, "BrookStones", 6, TX7, 8, 5, (S_X7_days fu (l := l) (D := D) (cA := cA) (base := base) (b := b)).1, by decide, by decide, rfl, H_X7_days fu, rfl, mi_X7_days.1, mi_X7_days.2.1, mi_X7_days.2.2.1, mi_X7_days.2.2.2.1, mi_X7_days.2.2.2.2, Or.inl (tblG_of (i := 413) rfl rfl)⟩, (S_X7_days fu (l := l) (D := D) (cA := cA) (base := base) (b := b)).2⟩) (nil_all)))))))))))))))
set_option maxRecDepth 100000 in
set_option maxHeartbeats 4000000 in
theorem W_L_law (fu : Nat) {l : Launch} {D : va_G} {cA : Nat → ClassId} {base b : Nat} : ∀ q ∈ ([(48, 5, 1, (U_L_put fu)), (54, 5, 1, (U_L_stones fu)), (9, 2, 1, (U_L_cell fu)), (15, 2, 1, (U_L_some fu)), (83, 5, 1, (U_L_can fu)), (40, 7, 1, (U_L_come fu)), (32, 5, 1, (U_L_stands fu)), (36, 6, 1, (U_L_goes fu))] : List (Nat × Nat × Nat × Orc)), sOK l D cA base b 5 "BrookStonesLaw" q ∧ OM q.2.2.2 := cons_all (⟨Or.inl ⟨show (1 : Nat) ≠ 3 by decide, y_L_put, method_4_code, 8, (some .int), 5, "BrookStones", (S_L_put fu (l := l) (D := D) (cA := cA) (base := base) (b := b)).1, by decide, by decide, mi_L_put.1, mi_L_put.2.1, mi_L_put.2.2.1, mi_L_put.2.2.2, Or.inl (tblG_of (i := 467) rfl rfl)⟩, (S_L_put fu (l := l) (D := D) (cA := cA) (base := base) (b := b)).2⟩) (cons_all (⟨Or.inl ⟨show (1 : Nat) ≠ 3 by decide, y_L_stones, method_5_code, 8, (some .int), 3, "BrookStones", (S_L_stones fu (l := l) (D := D) (cA := cA) (base := base) (b := b)).1, by decide, by decide, mi_L_stones.1, mi_L_stones.2.1, mi_L_stones.2.2.1, mi_L_stones.2.2.2, Or.inl (tblG_of (i := 470) rfl rfl)⟩, (S_L_stones fu (l := l) (D := D) (cA := cA) (base := base) (b := b)).2⟩) (cons_all (⟨Or.inl ⟨show (1 : Nat) ≠ 3 by decide, y_L_cell, method_2_code, 2, (some .int), 1, "BrookStones", (S_L_cell fu (l := l) (D := D) (cA := cA) (base := base) (b := b)).1, by decide, by decide, mi_L_cell.1, mi_L_cell.2.1, mi_L_cell.2.2.1, mi_L_cell.2.2.2, Or.inl (tblG_of (i := 459) rfl rfl)⟩, (S_L_cell fu (l := l) (D := D) (cA := cA) (base := base) (b := b)).2⟩) (cons_all (⟨Or.inl ⟨show (1 : Nat) ≠ 3 by decide, y_L_some, method_3_code, 2, (some .int), 1, "BrookStones", (S_L_some fu (l := l) (D := D) (cA := cA) (base := base) (b := b)).1, by decide, by decide, mi_L_some.1, mi_L_some.2.1, mi_L_some.2.2.1, mi_L_some.2.2.2, Or.inl (tblG_of (i := 463) rfl rfl)⟩, (S_L_some fu (l := l) (D := D) (cA := cA) (base := base) (b := b)).2⟩) (cons_all (⟨Or.inl ⟨show (1 : Nat) ≠ 3 by decide, y_L_can, method_9_code, 5, (some .boolean), 3, "BrookStones", (S_L_can fu (l := l) (D := D) (cA := cA) (base := base) (b := b)).1, by decide, by decide, mi_L_can.1, mi_L_can.2.1, mi_L_can.2.2.1, mi_L_can.2.2.2, Or.inl (tblG_of (i := 490) rfl rfl)⟩, (S_L_can fu (l := l) (D := D) (cA := cA) (base := base) (b := b)).2⟩) (cons_all (⟨Or.inl ⟨show (1 : Nat) ≠ 3 by decide, y_L_come, method_8_code, 12, (some .int), 2, "BrookStones", (S_L_come fu (l := l) (D := D) (cA := cA) (base := base) (b := b)).1, by decide, by decide, mi_L_come.1, mi_L_come.2.1, mi_L_come.2.2.1, mi_L_come.2.2.2, Or.inl (tblG_of (i := 487) rfl rfl)⟩, (S_L_come fu (l := l) (D := D) (cA := cA) (base := base) (b := b)).2⟩) (cons_all (⟨Or.inl ⟨show (1 : Nat) ≠ 3 by decide, y_L_stands, method_6_code, 6, (some .boolean), 1, "BrookStones", (S_L_stands fu (l := l) (D := D) (cA := cA) (base := base) (b := b)).1, by decide, by decide, mi_L_stands.1, mi_L_stands.2.1, mi_L_stands.2.2.1, mi_L_stands.2.2.2, Or.inl (tblG_of (i := 481) rfl rfl)⟩, (S_L_stands fu (l := l) (D := D) (cA := cA) (base := base) (b := b)).2⟩) (cons_all (⟨Or.inl ⟨show (1 : Nat) ≠ 3 by decide, y_L_goes, method_7_code, 7, (some .boolean), 1, "BrookStones", (S_L_goes fu (l := l) (D := D) (cA := cA) (base := base) (b := b)).1, by decide, by decide, mi_L_goes.1, mi_L_goes.2.1, mi_L_goes.2.2.1, mi_L_goes.2.2.2, Or.inl (tblG_of (i := 484) rfl rfl)⟩, (S_L_goes fu (l := l) (D := D) (cA := cA) (base := base) (b := b)).2⟩) (nil_all))))))))
set_option maxRecDepth 100000 in
set_option maxHeartbeats 4000000 in
theorem I_L_law (fu : Nat) {l : Launch} {D : va_G} {cA : Nat → ClassId} {base b : Nat} : ∀ q ∈ ([(47, 1, 0, (U_X7_init fu))] : List (Nat × Nat × Nat × Orc)), iOK l D cA base b 5 "BrookStonesLaw" q ∧ OM q.2.2.2 := cons_all (⟨Or.inl ⟨show (0 : Nat) ≠ 3 by decide, y_X7_init, prog_1_method_1_code, 1, 3, "BrookStones", 0, (S_X7_init fu (l := l) (D := D) (cA := cA) (base := base) (b := b)).1, by decide, by decide, rfl, H_X7_init fu, rfl, mi_X7_init.1, mi_X7_init.2.1, mi_X7_init.2.2.1, mi_X7_init.2.2.2, Or.inl (tblG_of (i := 14) rfl rfl)⟩, (S_X7_init fu (l := l) (D := D) (cA := cA) (base := base) (b := b)).2⟩) (nil_all)
def T_L_law_0 : List (Nat × Instr) := [(0, .new 20), (3, .dup), (4, .invokespecial 47), (7, .astore_n 1), (8, .bipush 16), (10, .newarray .int), (12, .astore_n 2), (13, .aload_n 1), (14, .aload_n 0), (15, .iconst 0), (16, .bipush 7), (18, .aload_n 2), (19, .invokestatic 48), (22, .istore_n 3), (23, .iload_n 3), (24, .bipush 12), (26, .if_icmp .lt 17), (29, .aload_n 1), (30, .iconst 0), (31, .iconst 0), (32, .iconst 0), (33, .iload_n 3), (34, .invokevirtual 51), (37, .aload_n 2), (38, .iconst 0), (39, .iaload), (40, .if_icmp .eq 5), (43, .iconst 0), (44, .ireturn), (45, .bipush 24), (47, .newarray .int), (49, .astore 4), (51, .aload_n 1), (52, .aload_n 0), (53, .iconst 3), (54, .bipush 6), (56, .aload 4), (58, .invokestatic 54), (61, .istore 5), (63, .iload 5), (65, .ifCond .ge 5), (68, .iconst 0), (69, .ireturn), (70, .iconst 3), (71, .newarray .int), (73, .astore 6), (75, .iconst 0), (76, .istore 7), (78, .iload 7), (80, .iconst 3)]
set_option maxRecDepth 100000 in
theorem T_L_law_0_ok : chkT code T_L_law_0 = true := by decide +kernel
def T_L_law_1 : List (Nat × Instr) := [(81, .if_icmp .ge 82), (84, .aload 6), (86, .iload 7), (88, .iconst 1), (89, .aload_n 0), (90, .bipush 7), (92, .invokestatic 9), (95, .iconst 4), (96, .iload 7), (98, .imul), (99, .ishr), (100, .aload_n 0), (101, .bipush 7), (103, .invokestatic 9), (106, .bipush 13), (108, .ishr), (109, .iconst 2), (110, .invokestatic 15), (113, .ifCond .ne 8), (116, .bipush 9), (118, .goto 4), (121, .iconst 4), (122, .invokestatic 15), (125, .iadd), (126, .iastore), (127, .aload_n 1), (128, .aload 6), (130, .iload 7), (132, .iaload), (133, .invokevirtual 57), (136, .iload 7), (138, .if_icmp .ne 17), (141, .aload_n 1), (142, .iload 7), (144, .invokevirtual 61), (147, .aload 6), (149, .iload 7), (151, .iaload), (152, .if_icmp .eq 5), (155, .iconst 0), (156, .ireturn), (157, .iinc 7 1), (160, .goto (-82)), (163, .bipush 7), (165, .newarray .int), (167, .astore 7), (169, .iconst 0), (170, .istore 8), (172, .iload 8), (174, .bipush 7)]
set_option maxRecDepth 100000 in
theorem T_L_law_1_ok : chkT code T_L_law_1 = true := by decide +kernel
def T_L_law_2 : List (Nat × Instr) := [(176, .if_icmp .ge 15), (179, .aload 7), (181, .iload 8), (183, .iconst (-1)), (184, .iastore), (185, .iinc 8 1), (188, .goto (-16)), (191, .iconst 0), (192, .istore 8), (194, .iconst 0), (195, .istore 9), (197, .iload 9), (199, .bipush 14), (201, .if_icmp .ge 1141), (204, .aload_n 0), (205, .bipush 8), (207, .iload 9), (209, .iadd), (210, .invokestatic 9), (213, .istore 10), (215, .iload 10), (217, .iload 5), (219, .iconst 1), (220, .iadd), (221, .invokestatic 15), (224, .istore 11), (226, .iload 10), (228, .iconst 3), (229, .ishr), (230, .aload_n 2), (231, .iconst 0), (232, .iaload), (233, .iconst 1), (234, .iadd), (235, .invokestatic 15), (238, .istore 12), (240, .iload 11), (242, .iload 5), (244, .if_icmp .ge 195), (247, .iconst (-1)), (248, .istore 13), (250, .iconst 0), (251, .istore 14), (253, .iload 14), (255, .aload_n 2), (256, .iconst 0), (257, .iaload), (258, .if_icmp .ge 28), (261, .aload 7), (263, .iload 14)]
set_option maxRecDepth 100000 in
theorem T_L_law_2_ok : chkT code T_L_law_2 = true := by decide +kernel
def T_L_law_3 : List (Nat × Instr) := [(265, .iaload), (266, .iload 11), (268, .if_icmp .ne 8), (271, .iload 14), (273, .goto 5), (276, .iload 13), (278, .istore 13), (280, .iinc 14 1), (283, .goto (-30)), (286, .iload 12), (288, .aload_n 2), (289, .iconst 0), (290, .iaload), (291, .if_icmp .eq 11), (294, .aload 7), (296, .iload 12), (298, .iaload), (299, .ifCond .ge 7), (302, .iconst 1), (303, .goto 4), (306, .iconst 0), (307, .istore 14), (309, .aload_n 1), (310, .iload 11), (312, .iload 12), (314, .aload_n 2), (315, .iconst 0), (316, .iaload), (317, .if_icmp .ne 8), (320, .bipush (-9)), (322, .goto 5), (325, .iload 12), (327, .invokevirtual 64), (330, .iload 14), (332, .ifCond .eq 7), (335, .iconst 1), (336, .goto 5), (339, .bipush (-3)), (341, .if_icmp .eq 5), (344, .iconst 0), (345, .ireturn), (346, .iload 14), (348, .ifCond .eq 14), (351, .iload 13), (353, .ifCond .lt 9), (356, .aload 7), (358, .iload 13), (360, .iconst (-1)), (361, .iastore), (362, .iload 14)]
set_option maxRecDepth 100000 in
theorem T_L_law_3_ok : chkT code T_L_law_3 = true := by decide +kernel
def T_L_law_4 : List (Nat × Instr) := [(364, .ifCond .eq 18), (367, .iload 12), (369, .aload_n 2), (370, .iconst 0), (371, .iaload), (372, .if_icmp .ge 10), (375, .aload 7), (377, .iload 12), (379, .iload 11), (381, .iastore), (382, .bipush (-9)), (384, .istore 15), (386, .iconst 0), (387, .istore 16), (389, .iload 16), (391, .aload_n 2), (392, .iconst 0), (393, .iaload), (394, .if_icmp .ge 28), (397, .aload 7), (399, .iload 16), (401, .iaload), (402, .iload 11), (404, .if_icmp .ne 8), (407, .iload 16), (409, .goto 5), (412, .iload 15), (414, .istore 15), (416, .iinc 16 1), (419, .goto (-30)), (422, .aload_n 1), (423, .iload 11), (425, .iconst 5), (426, .invokevirtual 67), (429, .iload 15), (431, .if_icmp .eq 5), (434, .iconst 0), (435, .ireturn), (436, .goto 31), (439, .iload 10), (441, .bipush 7), (443, .ishr), (444, .iconst 4), (445, .invokestatic 15), (448, .istore 13), (450, .aload_n 1), (451, .iload 13), (453, .invokevirtual 70), (456, .iload 8), (458, .if_icmp .eq 5)]
set_option maxRecDepth 100000 in
theorem T_L_law_4_ok : chkT code T_L_law_4 = true := by decide +kernel
def T_L_law_5 : List (Nat × Instr) := [(461, .iconst 0), (462, .ireturn), (463, .iload 13), (465, .istore 8), (467, .iconst 0), (468, .istore 13), (470, .iconst 0), (471, .istore 14), (473, .iload 14), (475, .aload_n 2), (476, .iconst 0), (477, .iaload), (478, .if_icmp .ge 101), (481, .iload 13), (483, .aload 7), (485, .iload 14), (487, .iaload), (488, .ifCond .lt 7), (491, .iconst 1), (492, .goto 4), (495, .iconst 0), (496, .iadd), (497, .istore 13), (499, .aload_n 1), (500, .iload 14), (502, .iconst 2), (503, .invokevirtual 73), (506, .aload 7), (508, .iload 14), (510, .iaload), (511, .ifCond .ge 8), (514, .bipush (-9)), (516, .goto 8), (519, .aload 7), (521, .iload 14), (523, .iaload), (524, .if_icmp .ne 47), (527, .aload_n 1), (528, .iload 14), (530, .iconst 4), (531, .invokevirtual 73), (534, .aload 7), (536, .iload 14), (538, .iaload), (539, .ifCond .ge 8), (542, .bipush (-99)), (544, .goto 24), (547, .aload 4), (549, .bipush 6), (551, .aload 7)]
set_option maxRecDepth 100000 in
theorem T_L_law_5_ok : chkT code T_L_law_5 = true := by decide +kernel
def T_L_law_6 : List (Nat × Instr) := [(553, .iload 14), (555, .iaload), (556, .iadd), (557, .iaload), (558, .aload_n 2), (559, .iconst 2), (560, .iload 14), (562, .iadd), (563, .iaload), (564, .isub), (565, .iload 8), (567, .isub), (568, .if_icmp .eq 5), (571, .iconst 0), (572, .ireturn), (573, .iinc 14 1), (576, .goto (-103)), (579, .aload_n 1), (580, .iconst 3), (581, .invokevirtual 76), (584, .iload 13), (586, .if_icmp .ne 14), (589, .aload_n 1), (590, .bipush 6), (592, .invokevirtual 76), (595, .iload 8), (597, .if_icmp .eq 5), (600, .iconst 0), (601, .ireturn), (602, .iload 10), (604, .bipush 11), (606, .ishr), (607, .iconst 3), (608, .invokestatic 15), (611, .istore 14), (613, .iconst 0), (614, .istore 15), (616, .iload 15), (618, .iconst 2), (619, .if_icmp .ge 131), (622, .aload_n 1), (623, .iload 14), (625, .iload 15), (627, .iconst 1), (628, .if_icmp .ne 7), (631, .iconst 1), (632, .goto 4), (635, .iconst 0), (636, .invokevirtual 79), (639, .aload_n 2)]
set_option maxRecDepth 100000 in
theorem T_L_law_6_ok : chkT code T_L_law_6 = true := by decide +kernel
def T_L_law_7 : List (Nat × Instr) := [(640, .aload 4), (642, .aload 7), (644, .iload 8), (646, .aload 6), (648, .iload 14), (650, .iaload), (651, .iload 15), (653, .isub), (654, .invokestatic 83), (657, .ifCond .eq 7), (660, .iconst 1), (661, .goto 4), (664, .iconst 0), (665, .if_icmp .eq 5), (668, .iconst 0), (669, .ireturn), (670, .bipush (-9)), (672, .istore 16), (674, .iconst 0), (675, .istore 17), (677, .iload 17), (679, .bipush 10), (681, .if_icmp .ge 39), (684, .aload_n 2), (685, .aload 4), (687, .aload 7), (689, .iload 17), (691, .aload 6), (693, .iload 14), (695, .iaload), (696, .iload 15), (698, .isub), (699, .invokestatic 83), (702, .ifCond .eq 8), (705, .iload 17), (707, .goto 5), (710, .iload 16), (712, .istore 16), (714, .iinc 17 1), (717, .goto (-40)), (720, .aload_n 1), (721, .iload 14), (723, .iload 15), (725, .iconst 1), (726, .if_icmp .ne 7), (729, .iconst 1), (730, .goto 4), (733, .iconst 0), (734, .invokevirtual 85), (737, .iload 16)]
set_option maxRecDepth 100000 in
theorem T_L_law_7_ok : chkT code T_L_law_7 = true := by decide +kernel
def T_L_law_8 : List (Nat × Instr) := [(739, .if_icmp .eq 5), (742, .iconst 0), (743, .ireturn), (744, .iinc 15 1), (747, .goto (-131)), (750, .aload_n 2), (751, .iconst 0), (752, .iaload), (753, .iconst 1), (754, .iadd), (755, .istore 15), (757, .bipush (-9)), (759, .istore 16), (761, .bipush 9), (763, .istore 17), (765, .iload 17), (767, .ifCond .le 45), (770, .aload_n 2), (771, .aload 4), (773, .aload 7), (775, .iload 8), (777, .aload 6), (779, .iload 14), (781, .iaload), (782, .iconst 0), (783, .iload 17), (785, .invokestatic 40), (788, .iload 15), (790, .ishr), (791, .iconst 1), (792, .iand), (793, .iconst 1), (794, .if_icmp .ne 8), (797, .iload 17), (799, .goto 5), (802, .iload 16), (804, .istore 16), (806, .iinc 17 (-1)), (809, .goto (-44)), (812, .aload_n 1), (813, .iload 14), (815, .iconst (-1)), (816, .invokevirtual 88), (819, .iload 16), (821, .if_icmp .eq 5), (824, .iconst 0), (825, .ireturn), (826, .iconst 0), (827, .istore 17), (829, .iconst 0)]
set_option maxRecDepth 100000 in
theorem T_L_law_8_ok : chkT code T_L_law_8 = true := by decide +kernel
def T_L_law_9 : List (Nat × Instr) := [(830, .istore 18), (832, .iload 18), (834, .bipush 9), (836, .if_icmp .ge 171), (839, .iload 16), (841, .ifCond .lt 10), (844, .iload 18), (846, .iload 16), (848, .if_icmp .lt 18), (851, .aload_n 1), (852, .iload 14), (854, .iload 18), (856, .invokevirtual 88), (859, .bipush (-9)), (861, .if_icmp .eq 140), (864, .iconst 0), (865, .ireturn), (866, .iconst (-1)), (867, .istore 19), (869, .iload 15), (871, .istore 20), (873, .iload 20), (875, .ifCond .le 100), (878, .iload 20), (880, .iload 17), (882, .if_icmp .eq 42), (885, .aload_n 2), (886, .aload 4), (888, .aload 7), (890, .iload 8), (892, .iload 20), (894, .invokestatic 32), (897, .ifCond .eq 27), (900, .aload_n 2), (901, .aload 4), (903, .aload 7), (905, .aload 6), (907, .iload 14), (909, .iaload), (910, .iload 17), (912, .iload 20), (914, .invokestatic 36), (917, .ifCond .eq 7), (920, .iconst 1), (921, .goto 4), (924, .iconst 0), (925, .istore 21), (927, .iload 21), (929, .ifCond .eq 40), (932, .aload_n 2)]
set_option maxRecDepth 100000 in
theorem T_L_law_9_ok : chkT code T_L_law_9 = true := by decide +kernel
def T_L_law_10 : List (Nat × Instr) := [(933, .aload 4), (935, .aload 7), (937, .iload 8), (939, .aload 6), (941, .iload 14), (943, .iaload), (944, .iload 20), (946, .iload 16), (948, .iconst 1), (949, .isub), (950, .iload 18), (952, .isub), (953, .invokestatic 40), (956, .iload 15), (958, .ishr), (959, .iconst 1), (960, .iand), (961, .iconst 1), (962, .if_icmp .ne 7), (965, .iload 20), (967, .istore 19), (969, .iinc 20 (-1)), (972, .goto (-99)), (975, .iload 19), (977, .ifCond .lt 18), (980, .aload_n 1), (981, .iload 14), (983, .iload 18), (985, .invokevirtual 88), (988, .iload 19), (990, .iconst 1), (991, .isub), (992, .if_icmp .eq 5), (995, .iconst 0), (996, .ireturn), (997, .iload 19), (999, .istore 17), (1001, .iinc 18 1), (1004, .goto (-172)), (1007, .iload 16), (1009, .ifCond .le 12), (1012, .iload 17), (1014, .iload 15), (1016, .if_icmp .eq 5), (1019, .iconst 0), (1020, .ireturn), (1021, .iload 10), (1023, .bipush 13), (1025, .ishr), (1026, .iconst 3)]
set_option maxRecDepth 100000 in
theorem T_L_law_10_ok : chkT code T_L_law_10 = true := by decide +kernel
def T_L_law_11 : List (Nat × Instr) := [(1027, .invokestatic 15), (1030, .istore 18), (1032, .aload_n 2), (1033, .aload 4), (1035, .aload 7), (1037, .iload 8), (1039, .aload 6), (1041, .iload 14), (1043, .iaload), (1044, .iconst 0), (1045, .bipush 9), (1047, .invokestatic 40), (1050, .aload_n 2), (1051, .aload 4), (1053, .aload 7), (1055, .iload 8), (1057, .aload 6), (1059, .iload 14), (1061, .iaload), (1062, .iload 15), (1064, .bipush 9), (1066, .invokestatic 40), (1069, .iand), (1070, .aload_n 2), (1071, .aload 4), (1073, .aload 7), (1075, .iload 8), (1077, .aload 6), (1079, .iload 18), (1081, .iaload), (1082, .iconst 0), (1083, .bipush 9), (1085, .invokestatic 40), (1088, .iand), (1089, .aload_n 2), (1090, .aload 4), (1092, .aload 7), (1094, .iload 8), (1096, .aload 6), (1098, .iload 18), (1100, .iaload), (1101, .iload 15), (1103, .bipush 9), (1105, .invokestatic 40), (1108, .iand), (1109, .istore 19), (1111, .iconst 0), (1112, .istore 20), (1114, .iconst 0), (1115, .istore 21)]
set_option maxRecDepth 100000 in
theorem T_L_law_11_ok : chkT code T_L_law_11 = true := by decide +kernel
def T_L_law_12 : List (Nat × Instr) := [(1117, .iload 21), (1119, .aload_n 2), (1120, .iconst 0), (1121, .iaload), (1122, .if_icmp .ge 42), (1125, .iload 19), (1127, .iload 21), (1129, .iconst 1), (1130, .iadd), (1131, .ishr), (1132, .iconst 1), (1133, .iand), (1134, .iconst 1), (1135, .if_icmp .ne 23), (1138, .aload 4), (1140, .aload 7), (1142, .iload 21), (1144, .iaload), (1145, .iaload), (1146, .ifCond .le 12), (1149, .iload 20), (1151, .iconst 1), (1152, .iload 21), (1154, .ishl), (1155, .ior), (1156, .istore 20), (1158, .iinc 21 1), (1161, .goto (-44)), (1164, .aload_n 1), (1165, .iload 14), (1167, .iload 18), (1169, .invokevirtual 91), (1172, .iload 20), (1174, .if_icmp .ne 16), (1177, .aload_n 1), (1178, .iload 18), (1180, .iload 14), (1182, .invokevirtual 91), (1185, .iload 20), (1187, .if_icmp .eq 5), (1190, .iconst 0), (1191, .ireturn), (1192, .iload 9), (1194, .iconst 5), (1195, .irem), (1196, .ifCond .le 6), (1199, .goto 137), (1202, .iload 10), (1204, .bipush 15), (1206, .ishr)]
set_option maxRecDepth 100000 in
theorem T_L_law_12_ok : chkT code T_L_law_12 = true := by decide +kernel
def T_L_law_13 : List (Nat × Instr) := [(1207, .bipush 7), (1209, .invokestatic 15), (1212, .istore 21), (1214, .iconst 0), (1215, .istore 22), (1217, .aload_n 1), (1218, .iconst 1), (1219, .iconst 1), (1220, .bipush 8), (1222, .invokevirtual 19), (1225, .iconst 1), (1226, .if_icmp .eq 5), (1229, .iconst 0), (1230, .ireturn), (1231, .iconst 0), (1232, .istore 23), (1234, .iload 23), (1236, .iload 21), (1238, .if_icmp .ge 69), (1241, .iload 10), (1243, .bipush 9), (1245, .iload 23), (1247, .iadd), (1248, .ishr), (1249, .bipush 10), (1251, .invokestatic 15), (1254, .istore 24), (1256, .aload_n 1), (1257, .iconst 1), (1258, .iconst 1), (1259, .iload 23), (1261, .iadd), (1262, .iload 24), (1264, .invokevirtual 25), (1267, .iconst 1), (1268, .if_icmp .eq 5), (1271, .iconst 0), (1272, .ireturn), (1273, .iload 22), (1275, .aload_n 2), (1276, .aload 4), (1278, .aload 7), (1280, .iload 24), (1282, .aload 6), (1284, .iload 14), (1286, .iaload), (1287, .invokestatic 83), (1290, .ifCond .eq 7), (1293, .iconst 1), (1294, .goto 4)]
set_option maxRecDepth 100000 in
theorem T_L_law_13_ok : chkT code T_L_law_13 = true := by decide +kernel
def T_L_law_14 : List (Nat × Instr) := [(1297, .iconst 0), (1298, .iadd), (1299, .istore 22), (1301, .iinc 23 1), (1304, .goto (-70)), (1307, .aload_n 1), (1308, .iload 14), (1310, .iconst 1), (1311, .iconst 1), (1312, .iconst 1), (1313, .iload 21), (1315, .invokevirtual 94), (1318, .iload 22), (1320, .if_icmp .ne 14), (1323, .aload_n 1), (1324, .bipush 6), (1326, .invokevirtual 76), (1329, .iload 8), (1331, .if_icmp .eq 5), (1334, .iconst 0), (1335, .ireturn), (1336, .iinc 9 1), (1339, .goto (-1142)), (1342, .aload_n 1), (1343, .iload 5), (1345, .iconst 0), (1346, .invokevirtual 64), (1349, .iconst (-1)), (1350, .if_icmp .ne 234), (1353, .iload 5), (1355, .ifCond .eq 25), (1358, .aload_n 1), (1359, .iconst 0), (1360, .aload_n 2), (1361, .iconst 0), (1362, .iaload), (1363, .invokevirtual 64), (1366, .iconst (-1)), (1367, .if_icmp .ne 217), (1370, .aload_n 1), (1371, .iconst 0), (1372, .iconst (-1)), (1373, .invokevirtual 64), (1376, .iconst (-1)), (1377, .if_icmp .ne 207), (1380, .aload_n 1), (1381, .bipush 10), (1383, .invokevirtual 70), (1386, .bipush (-2)), (1388, .if_icmp .ne 196)]
set_option maxRecDepth 100000 in
theorem T_L_law_14_ok : chkT code T_L_law_14 = true := by decide +kernel
def T_L_law_15 : List (Nat × Instr) := [(1391, .aload_n 1), (1392, .iconst 0), (1393, .invokevirtual 57), (1396, .bipush (-2)), (1398, .if_icmp .ne 186), (1401, .aload_n 1), (1402, .bipush 10), (1404, .invokevirtual 57), (1407, .bipush (-2)), (1409, .if_icmp .ne 175), (1412, .aload_n 1), (1413, .iconst 3), (1414, .invokevirtual 61), (1417, .iconst (-1)), (1418, .if_icmp .ne 166), (1421, .aload_n 1), (1422, .iconst 3), (1423, .iconst 1), (1424, .invokevirtual 79), (1427, .iconst (-1)), (1428, .if_icmp .ne 156), (1431, .aload_n 1), (1432, .iconst 3), (1433, .iconst 0), (1434, .invokevirtual 88), (1437, .iconst (-1)), (1438, .if_icmp .ne 146), (1441, .aload_n 1), (1442, .iconst 0), (1443, .bipush (-2)), (1445, .invokevirtual 88), (1448, .iconst (-1)), (1449, .if_icmp .ne 135), (1452, .aload_n 1), (1453, .iconst (-1)), (1454, .iconst 1), (1455, .invokevirtual 85), (1458, .iconst (-1)), (1459, .if_icmp .ne 125), (1462, .aload_n 1), (1463, .iconst 0), (1464, .iconst 3), (1465, .invokevirtual 91), (1468, .iconst (-1)), (1469, .if_icmp .ne 115), (1472, .aload_n 1), (1473, .iconst 3), (1474, .iconst 1), (1475, .iconst 1), (1476, .iconst 0)]
set_option maxRecDepth 100000 in
theorem T_L_law_15_ok : chkT code T_L_law_15 = true := by decide +kernel
def T_L_law_16 : List (Nat × Instr) := [(1477, .iconst 0), (1478, .invokevirtual 94), (1481, .iconst (-1)), (1482, .if_icmp .ne 102), (1485, .aload_n 1), (1486, .iconst 0), (1487, .iconst 1), (1488, .iconst 1), (1489, .iconst 0), (1490, .iconst 0), (1491, .invokevirtual 94), (1494, .ifCond .ne 90), (1497, .aload_n 1), (1498, .iconst 1), (1499, .iconst 0), (1500, .bipush 10), (1502, .invokevirtual 25), (1505, .iconst 1), (1506, .if_icmp .ne 78), (1509, .aload_n 1), (1510, .iconst 0), (1511, .iconst 1), (1512, .iconst 1), (1513, .iconst 0), (1514, .iconst 1), (1515, .invokevirtual 94), (1518, .bipush (-2)), (1520, .if_icmp .ne 64), (1523, .aload_n 1), (1524, .iconst 0), (1525, .iconst 1), (1526, .iconst 1), (1527, .bipush 8), (1529, .iconst 1), (1530, .invokevirtual 94), (1533, .bipush (-13)), (1535, .if_icmp .ne 49), (1538, .aload_n 1), (1539, .iconst 0), (1540, .iconst 1), (1541, .iconst 0), (1542, .iconst 0), (1543, .iconst 1), (1544, .invokevirtual 94), (1547, .bipush (-12)), (1549, .if_icmp .ne 35), (1552, .aload_n 1), (1553, .iconst 0), (1554, .iconst 1), (1555, .iconst 1)]
set_option maxRecDepth 100000 in
theorem T_L_law_16_ok : chkT code T_L_law_16 = true := by decide +kernel
def T_L_law_17 : List (Nat × Instr) := [(1556, .iconst 0), (1557, .iconst (-1)), (1558, .invokevirtual 94), (1561, .bipush (-14)), (1563, .if_icmp .ne 21), (1566, .aload_n 1), (1567, .iconst 0), (1568, .iconst 2), (1569, .iconst 1), (1570, .iconst 0), (1571, .iconst 1), (1572, .invokevirtual 94), (1575, .bipush (-11)), (1577, .if_icmp .ne 7), (1580, .iconst 1), (1581, .goto 4), (1584, .iconst 0), (1585, .ireturn)]
set_option maxRecDepth 100000 in
theorem T_L_law_17_ok : chkT code T_L_law_17 = true := by decide +kernel
theorem chkT_app {cc : ByteArray} {a b : List (Nat × Instr)} (ha : chkT cc a = true) (hb : chkT cc b = true) : chkT cc (a ++ b) = true := by
  unfold chkT at *
  rw [List.all_append, ha, hb]; rfl
set_option maxRecDepth 100000 in
theorem T_L_law_ok : chkT code T_L_law = true := by
  have h : chkT code (T_L_law_0 ++ (T_L_law_1 ++ (T_L_law_2 ++ (T_L_law_3 ++ (T_L_law_4 ++ (T_L_law_5 ++ (T_L_law_6 ++ (T_L_law_7 ++ (T_L_law_8 ++ (T_L_law_9 ++ (T_L_law_10 ++ (T_L_law_11 ++ (T_L_law_12 ++ (T_L_law_13 ++ (T_L_law_14 ++ (T_L_law_15 ++ (T_L_law_16 ++ (T_L_law_17)))))))))))))))))) = true := chkT_app T_L_law_0_ok (chkT_app T_L_law_1_ok (chkT_app T_L_law_2_ok (chkT_app T_L_law_3_ok (chkT_app T_L_law_4_ok (chkT_app T_L_law_5_ok (chkT_app T_L_law_6_ok (chkT_app T_L_law_7_ok (chkT_app T_L_law_8_ok (chkT_app T_L_law_9_ok (chkT_app T_L_law_10_ok (chkT_app T_L_law_11_ok (chkT_app T_L_law_12_ok (chkT_app T_L_law_13_ok (chkT_app T_L_law_14_ok (chkT_app T_L_law_15_ok (chkT_app T_L_law_16_ok (T_L_law_17_ok)))))))))))))))))
  exact h
