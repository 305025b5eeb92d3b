-- the tables of the small machine, by program out of the class files
def SHL : List (Nat × Nat) := [
  (0, 10), (1, 1600), (1, 52), (0, 9), (1, 12), (1, 12), (1, 12), (1, 12), (1, 12), (1, 12), (1, 8), (0, 5),
  (0, 1), (1, 4), (1, 4), (1, 4), (1, 4), (1, 4), (0, 0), (1, 20), (0, 6), (1, 6), (1, 6), (1, 6),
  (1, 6), (1, 6), (1, 6), (0, 2), (1, 12), (1, 12), (1, 20), (1, 20), (1, 20), (1, 20), (1, 20), (1, 20),
  (1, 1200), (0, 8), (0, 5), (0, 1), (1, 4), (1, 4), (1, 4), (1, 4), (1, 4), (0, 0), (1, 20), (0, 6),
  (1, 6), (1, 6), (1, 6), (1, 6), (1, 6), (1, 6), (0, 2), (1, 12), (1, 12), (1, 12), (1, 12), (1, 12),
  (1, 12), (1, 12), (1, 12), (1, 720), (0, 4), (1, 12), (1, 12), (1, 12), (1, 12), (1, 1600), (1, 64), (0, 8),
  (0, 5), (0, 1), (1, 4), (1, 4), (1, 4), (1, 4), (1, 4), (0, 0), (1, 20), (0, 6), (1, 6), (1, 6),
  (1, 6), (1, 6), (1, 6), (1, 6), (0, 2), (1, 12), (1, 12), (1, 12), (1, 12), (1, 12), (1, 12), (1, 12),
  (1, 12), (1, 720), (0, 4), (1, 12), (1, 12), (1, 12), (1, 12), (1, 1600), (1, 64), (0, 3), (0, 7), (1, 33),
  (1, 1601), (1, 1601), (1, 1601), (1, 1601), (0, 11), (1, 1600), (2, 5), (2, 4), (2, 6), (2, 5), (2, 4), (2, 5),
  (2, 4), (2, 3), (2, 5), (2, 5), (2, 5), (2, 5), (2, 6), (2, 4), (2, 5), (2, 6), (2, 2), (2, 4),
  (2, 5), (2, 4), (2, 2), (2, 3), (2, 3), (2, 3), (2, 4), (2, 4), (2, 4), (2, 4), (2, 5), (2, 3),
  (2, 4), (2, 3), (2, 3), (3, 72), (1, 6), (1, 60), (1, 32), (1, 12), (1, 12), (1, 12), (1, 6), (1, 3200),
  (1, 1700), (1, 2), (1, 24), (1, 24), (1, 24), (1, 24), (1, 32), (1, 32), (1, 32), (1, 32), (1, 12), (1, 12),
  (1, 12), (1, 12), (1, 6), (1, 12), (1, 12), (1, 5), (1, 12), (3, 1700), (1, 12), (1, 12), (1, 60)
]
def KNDL : List (List Nat) := [
  [3, 1, 1, 0, 0, 0, 0, 0, 0, 0, 0, 0, 0, 0, 0, 0],
  [3, 3, 3, 3, 3, 0],
  [3, 3, 3, 3, 3, 3, 3, 3, 0, 0],
  [3, 3, 3, 3, 3, 3, 0, 0, 0, 0],
  [3, 3, 3, 3, 3, 3, 0, 0],
  [3, 3, 3, 3, 0, 3, 0],
  [3, 3, 3, 3, 3, 3, 0],
  [3, 3, 3, 3, 3, 0],
  [3, 3],
  [3, 3, 3, 3, 3, 3, 3, 0, 0, 0],
  [3, 3, 3, 3, 3, 3, 3, 0, 0],
  [3, 0, 0, 0, 0, 0, 0, 0, 0, 3, 3, 3, 3, 3, 3, 3, 3, 3, 3, 3, 3, 3, 3, 3, 3, 3, 3, 3, 3, 3, 3, 3, 3, 3, 3, 3, 3, 3, 3, 3, 3, 3, 0, 3, 3, 3, 3, 3, 3, 3, 0, 3, 0, 0, 0, 3, 0, 3, 0, 0, 3, 3, 3, 3, 3, 0, 3, 3, 3, 3, 3, 3, 3, 3, 3, 0, 0, 0, 0, 0, 3, 0, 0, 3, 3, 3, 3, 0, 0, 2, 3, 3, 3, 0]
]
def FINL : List (List Bool) := [
  [true, false, false, false, false, false, false, false, false, false, false, false, false, false, false, false],
  [true, true, true, true, true, false],
  [true, true, true, true, true, true, true, true, false, false],
  [true, false, false, false, false, false, false, false, false, false],
  [true, true, true, true, true, true, false, false],
  [true, true, true, true, true, false, false],
  [true, true, true, true, true, true, false],
  [true, true, true, true, true, false],
  [true, true],
  [true, true, true, true, true, true, true, false, false, false],
  [true, true, true, true, false, false, true, false, false],
  [true, false, false, false, false, false, false, false, false, true, true, true, true, true, true, true, true, true, true, true, true, true, true, true, true, true, true, true, true, true, true, true, true, true, true, true, true, true, true, true, true, true, false, true, true, true, true, true, true, true, false, true, false, false, false, true, false, true, false, false, true, true, true, true, true, false, true, true, true, true, true, true, true, true, true, false, false, false, false, false, true, false, false, true, true, true, true, false, false, false, true, true, true, false]
]
def FLL : List (List (Nat × (Nat × Nat))) := [
  [(9, (0, 0)), (15, (5, 5)), (21, (5, 1)), (25, (2, 1)), (38, (0, 1)), (42, (0, 3)), (46, (0, 4)), (49, (0, 15)), (52, (0, 5)), (55, (0, 6)), (58, (0, 2)), (61, (5, 0)), (69, (2, 8)), (72, (2, 2)), (79, (0, 7)), (93, (2, 3)), (101, (2, 5)), (104, (6, 1)), (109, (0, 11)), (111, (6, 2)), (114, (0, 12)), (116, (6, 3)), (119, (0, 13)), (121, (6, 4)), (124, (0, 14)), (126, (6, 5)), (128, (1, 1)), (132, (1, 2)), (135, (0, 8)), (137, (1, 3)), (140, (0, 9)), (142, (1, 4)), (145, (0, 10))],
  [(9, (1, 0)), (15, (1, 1)), (18, (1, 2)), (21, (1, 3)), (24, (1, 4)), (27, (1, 5))],
  [(9, (2, 6)), (15, (2, 7)), (24, (2, 0)), (27, (2, 1)), (30, (2, 2)), (33, (2, 3)), (36, (2, 4)), (39, (2, 5)), (42, (2, 8))],
  [(12, (3, 0)), (18, (3, 9)), (26, (8, 0)), (32, (3, 1)), (33, (5, 5)), (39, (3, 2)), (40, (5, 0)), (44, (3, 3)), (45, (5, 1)), (49, (3, 4)), (50, (8, 1)), (54, (3, 5)), (65, (3, 6)), (68, (3, 7)), (71, (3, 8)), (78, (7, 1)), (86, (7, 2)), (93, (7, 4)), (96, (7, 3)), (118, (6, 0)), (123, (6, 6)), (130, (1, 0)), (133, (1, 5)), (134, (2, 0)), (137, (2, 8)), (138, (2, 5)), (147, (5, 6)), (168, (4, 6)), (176, (6, 1)), (183, (6, 2)), (186, (6, 3)), (189, (6, 4)), (192, (6, 5)), (194, (1, 1)), (197, (1, 2)), (200, (1, 3)), (203, (1, 4)), (206, (2, 1)), (212, (2, 2)), (215, (2, 3)), (222, (2, 6)), (225, (2, 9)), (228, (2, 7)), (231, (4, 0)), (232, (4, 1)), (235, (4, 7)), (241, (4, 2)), (247, (4, 3))],
  [(9, (4, 0)), (15, (4, 1)), (18, (4, 2)), (21, (4, 3)), (24, (4, 4)), (27, (4, 5)), (30, (4, 6)), (34, (4, 7))],
  [(12, (5, 0)), (21, (5, 2)), (28, (5, 5)), (32, (5, 6)), (42, (5, 4)), (50, (5, 1)), (54, (5, 3)), (58, (6, 6)), (61, (1, 5)), (62, (2, 8)), (63, (2, 9)), (77, (2, 3)), (84, (6, 1)), (87, (2, 1)), (90, (6, 5)), (93, (2, 2)), (100, (1, 1)), (118, (0, 0)), (143, (1, 2))],
  [(9, (6, 0)), (15, (6, 1)), (18, (6, 2)), (21, (6, 3)), (24, (6, 4)), (27, (6, 5))],
  [(11, (7, 0)), (15, (7, 1)), (18, (7, 2)), (21, (7, 3)), (24, (7, 4)), (47, (7, 5))],
  [(14, (8, 0)), (23, (8, 1))],
  [(9, (9, 0)), (15, (9, 1)), (18, (9, 2)), (21, (9, 3)), (24, (9, 4)), (27, (9, 5)), (32, (9, 6)), (35, (9, 9)), (48, (9, 7)), (51, (9, 8)), (54, (8, 0)), (75, (5, 1)), (95, (5, 0)), (99, (1, 5)), (104, (1, 4)), (115, (2, 8)), (118, (2, 2)), (132, (8, 1)), (136, (2, 1)), (143, (2, 3)), (149, (5, 6)), (167, (1, 1)), (170, (5, 5)), (174, (6, 1)), (195, (1, 2)), (198, (1, 3)), (202, (2, 9)), (205, (2, 6)), (208, (2, 7))],
  [(9, (10, 0)), (13, (10, 1)), (19, (10, 2)), (28, (10, 3)), (35, (10, 4)), (39, (10, 5)), (47, (10, 6)), (51, (10, 7)), (75, (3, 7)), (78, (3, 8)), (81, (3, 9)), (84, (8, 0)), (87, (5, 5)), (91, (6, 6)), (96, (5, 0)), (100, (1, 5)), (103, (5, 1)), (107, (2, 8)), (110, (2, 9)), (113, (8, 1)), (117, (4, 6)), (120, (5, 6)), (123, (9, 7)), (126, (9, 8)), (137, (6, 0)), (148, (1, 0)), (149, (2, 0)), (154, (2, 1)), (157, (2, 2)), (160, (2, 3)), (163, (2, 5)), (172, (9, 0)), (175, (9, 1)), (181, (1, 1)), (184, (1, 2)), (187, (1, 3)), (190, (1, 4)), (270, (2, 6)), (273, (2, 7)), (285, (9, 9)), (292, (9, 2)), (295, (9, 3)), (298, (10, 8))],
  [(7, (11, 0)), (13, (11, 8)), (17, (11, 9)), (21, (11, 10)), (24, (11, 11)), (27, (11, 12)), (30, (11, 13)), (33, (11, 14)), (36, (11, 15)), (39, (11, 16)), (42, (11, 17)), (45, (11, 18)), (48, (11, 19)), (51, (11, 20)), (54, (11, 21)), (57, (11, 22)), (60, (11, 23)), (63, (11, 24)), (66, (11, 25)), (69, (11, 26)), (72, (11, 27)), (75, (11, 28)), (78, (11, 29)), (81, (11, 30)), (84, (11, 31)), (87, (11, 32)), (90, (11, 33)), (93, (11, 34)), (96, (11, 35)), (99, (11, 36)), (102, (11, 37)), (105, (11, 38)), (108, (11, 39)), (111, (11, 40)), (114, (11, 41)), (117, (11, 43)), (121, (11, 44)), (124, (11, 45)), (127, (11, 46)), (130, (11, 47)), (133, (11, 48)), (136, (11, 49)), (139, (11, 51)), (142, (11, 52)), (145, (11, 55)), (148, (11, 57)), (151, (11, 60)), (154, (11, 61)), (157, (11, 62)), (160, (11, 63)), (163, (11, 64)), (166, (11, 66)), (169, (11, 67)), (172, (11, 68)), (175, (11, 69)), (178, (11, 70)), (181, (11, 71)), (184, (11, 72)), (187, (11, 73)), (190, (11, 74)), (193, (11, 80)), (196, (11, 83)), (199, (11, 84)), (202, (11, 85)), (205, (11, 86)), (208, (11, 89)), (212, (11, 90)), (215, (11, 91)), (218, (11, 92)), (221, (11, 1)), (224, (11, 5)), (227, (11, 6)), (230, (11, 2)), (233, (11, 3)), (244, (11, 4)), (272, (11, 42)), (279, (11, 53)), (282, (11, 56)), (315, (11, 50)), (318, (11, 54)), (349, (11, 7)), (355, (11, 75)), (358, (11, 76)), (361, (11, 77)), (364, (11, 78)), (367, (11, 79)), (370, (11, 59)), (373, (11, 58)), (379, (11, 65)), (508, (11, 81)), (511, (11, 82)), (540, (11, 87)), (569, (11, 88)), (609, (11, 93))],
  [],
  [],
  []
]
def CALL : List (List (Nat × Nat)) := [
  [(3, 1), (30, 170), (34, 12), (65, 13), (75, 74), (82, 173), (86, 171), (90, 75), (96, 306), (147, 174), (151, 304)],
  [(3, 1), (31, 170), (35, 171)],
  [(3, 1), (18, 306), (46, 170), (50, 171)],
  [(3, 1), (11, 97), (22, 26), (55, 69), (58, 61), (61, 99), (74, 30), (82, 170), (89, 31), (99, 33), (103, 34), (107, 28), (111, 36), (114, 38), (126, 175), (141, 42), (144, 43), (150, 44), (153, 45), (156, 46), (159, 47), (162, 48), (165, 49), (169, 37), (172, 171), (179, 35), (209, 39), (218, 40), (238, 55), (244, 50), (250, 51), (253, 32), (256, 62), (259, 52), (262, 54), (265, 53), (268, 56), (271, 57), (274, 59), (277, 58)],
  [(3, 1), (37, 170), (41, 65), (45, 306), (51, 171), (55, 66), (59, 67), (63, 304), (66, 308), (73, 309), (76, 307)],
  [(3, 1), (11, 15), (20, 10), (27, 96), (36, 306), (47, 17), (66, 16), (70, 18), (73, 169), (80, 170), (96, 74), (103, 173), (106, 76), (109, 75), (112, 20), (115, 77), (121, 171), (125, 174), (129, 11), (133, 14), (136, 81), (140, 82), (146, 87), (149, 90), (152, 88), (156, 91), (159, 92), (163, 93)],
  [(3, 1)],
  [(3, 1), (29, 2), (35, 3), (39, 98), (43, 171), (51, 170), (55, 102), (59, 103), (62, 306), (67, 100), (71, 101), (74, 104), (77, 105), (80, 175), (83, 106)],
  [(3, 1), (11, 68), (22, 60)],
  [(3, 1), (39, 310), (45, 110), (60, 113), (64, 115), (68, 117), (72, 119), (81, 120), (85, 121), (107, 170), (111, 114), (121, 171), (125, 112), (129, 116), (139, 63), (146, 64), (152, 308), (158, 306), (161, 20), (164, 21), (179, 118), (183, 76), (186, 75), (189, 78), (192, 77), (211, 74)],
  [(1, 1), (18, 108), (25, 68), (34, 107), (44, 25), (55, 124), (58, 27), (62, 29), (66, 41), (69, 28), (72, 109), (129, 20), (133, 169), (140, 170), (144, 172), (150, 71), (166, 74), (169, 76), (178, 87), (193, 77), (196, 79), (199, 80), (202, 72), (205, 171), (209, 73), (213, 82), (216, 81), (220, 83), (224, 88), (227, 306), (232, 70), (236, 89), (239, 86), (242, 143), (245, 144), (249, 19), (252, 85), (255, 147), (258, 84), (261, 23), (264, 24), (267, 22), (276, 93), (279, 94), (282, 95), (288, 111), (301, 162), (304, 163), (307, 168), (310, 166), (313, 167), (316, 110), (319, 305)],
  [(1, 1), (236, 183), (240, 181), (247, 184), (251, 185), (254, 180), (258, 187), (261, 182), (264, 177), (268, 190), (285, 191), (289, 193), (293, 196), (297, 194), (301, 186), (305, 189), (309, 195), (312, 201), (321, 197), (325, 198), (328, 199), (331, 200), (334, 202), (337, 221), (340, 188), (343, 192), (346, 203), (352, 205), (376, 206), (382, 210), (385, 209), (388, 207), (391, 211), (394, 212), (397, 208), (400, 213), (403, 214), (406, 215), (409, 216), (412, 218), (415, 220), (418, 217), (421, 219), (424, 223), (427, 224), (434, 229), (437, 231), (440, 230), (443, 232), (446, 234), (449, 235), (454, 237), (457, 238), (460, 236), (463, 240), (466, 233), (469, 239), (472, 241), (475, 242), (478, 243), (481, 225), (484, 244), (487, 226), (491, 251), (494, 253), (499, 254), (502, 257), (505, 258), (514, 262), (519, 261), (527, 269), (530, 271), (533, 276), (543, 278), (547, 280), (551, 279), (563, 283), (566, 281), (580, 285), (583, 286), (586, 282), (593, 287), (596, 288), (599, 289), (602, 290), (606, 291), (612, 296), (615, 297), (618, 298), (622, 301), (625, 302)],
  [(9, 122), (12, 176), (13, 123), (17, 178), (18, 125), (22, 179), (23, 126), (27, 204), (28, 127), (32, 222), (33, 128), (36, 227), (37, 129), (41, 228), (42, 130), (46, 245), (47, 131), (50, 246), (51, 132), (54, 247), (55, 133), (59, 248), (60, 134), (63, 249), (64, 135), (67, 250), (68, 136), (71, 252), (72, 137), (75, 255), (76, 138), (79, 256), (80, 139), (83, 259), (84, 140), (87, 260), (88, 141), (92, 263), (93, 142), (96, 264), (97, 145), (100, 265), (101, 146), (104, 266), (105, 148), (108, 267), (109, 149), (112, 268), (113, 150), (116, 270), (117, 151), (120, 272), (121, 152), (124, 273), (125, 153), (128, 274), (129, 154), (132, 275), (133, 155), (136, 277), (137, 156), (140, 284), (141, 157), (144, 292), (145, 158), (148, 293), (149, 159), (152, 294), (153, 160), (156, 295), (157, 161), (160, 299), (161, 164), (164, 300), (165, 165), (169, 303)],
  [],
  []
]
def NCL : List (List (Nat × Nat)) := [
  [],
  [],
  [],
  [(9, 7)],
  [],
  [(9, 1), (18, 0), (25, 6), (45, 2)],
  [],
  [],
  [(9, 5), (20, 4)],
  [],
  [(16, 9), (23, 5), (32, 8), (42, 3)],
  [],
  [(7, 10), (10, 11)],
  [],
  []
]
def CSTL : List (List (Nat × Value)) := [
  [],
  [],
  [],
  [],
  [(69, Value.long (-1000000)), (71, Value.long (1000000))],
  [],
  [],
  [(27, Value.ref 1001)],
  [],
  [(89, Value.long (1103515245)), (91, Value.long (12345)), (93, Value.long (2147483647)), (201, Value.int (1000000000))],
  [(212, Value.int (-1000000000))],
  [(275, Value.long (27)), (277, Value.long (97)), (430, Value.long (2)), (432, Value.long (5)), (452, Value.long (100)), (490, Value.int (-1000000000)), (497, Value.long (60)), (517, Value.long (20)), (523, Value.long (3)), (525, Value.long (4)), (536, Value.long (1000000)), (538, Value.long (-1000000)), (555, Value.long (7)), (557, Value.long (10)), (559, Value.long (30)), (561, Value.long (32)), (572, Value.long (1103515245)), (574, Value.long (12345)), (576, Value.long (2147483648)), (578, Value.long (64)), (590, Value.long (1000000000)), (592, Value.int (1000000000))],
  [],
  [],
  []
]
def CNML : List (String) := [
  RX0, RX1, RX2, RX3, RX4, RX5, RX6, RX7, RX8, RX9, RX10, RX11,
  RL, RJ9, RJ7
]
def MCLL : List (Nat) := [
  0, 0, 0, 0, 0, 1, 1, 2, 2, 2, 2, 2, 2, 2, 2, 3, 3, 3, 3, 3, 3, 3, 3, 3, 3, 3, 3, 3, 3, 3,
  3, 3, 3, 3, 3, 3, 3, 3, 3, 3, 3, 3, 3, 3, 3, 3, 3, 3, 3, 3, 4, 4, 4, 4, 4, 4, 4, 4, 5, 5,
  5, 5, 5, 5, 5, 5, 5, 5, 5, 5, 5, 5, 5, 5, 5, 5, 5, 5, 5, 5, 5, 5, 5, 5, 5, 5, 6, 7, 7, 7,
  7, 7, 7, 7, 7, 7, 7, 8, 9, 9, 9, 9, 9, 9, 9, 9, 9, 9, 9, 9, 9, 9, 10, 10, 10, 10, 10, 10, 10, 10,
  10, 10, 10, 10, 10, 10, 10, 10, 10, 10, 10, 10, 10, 10, 10, 10, 10, 10, 10, 10, 10, 10, 10, 10, 10, 10, 10, 10, 10, 10,
  10, 10, 10, 10, 10, 10, 10, 10, 10, 10, 10, 10, 10, 10, 10, 10, 11, 11, 11, 11, 11, 11, 11, 11, 11, 11, 11, 11, 11, 11,
  11, 11, 11, 11, 11, 11, 11, 11, 11, 11, 11, 11, 11, 11, 11, 11, 11, 11, 11, 11, 11, 11, 11, 11, 11, 11, 11, 11, 11, 11,
  11, 11, 11, 11, 11, 11, 11, 11, 11, 11, 11, 11, 11, 11, 11, 11, 11, 11, 11, 11, 11, 11, 11, 11, 11, 11, 11, 11, 11, 11,
  11, 11, 11, 11, 11, 11, 11, 11, 11, 11, 11, 11, 11, 11, 11, 11, 11, 11, 11, 11, 11, 11, 11, 11, 11, 11, 11, 11, 11, 11,
  11, 11, 11, 11, 11, 11, 11, 11, 11, 11, 11, 11, 11, 11, 11, 11, 11, 11, 11, 11, 11, 11, 11, 11, 13, 13, 13, 13, 13, 13,
  14, 12
]
def MCDL : List (ByteArray) := [
  cX0_init, cX0_gather, cX0_gatherOwn, cX0_gatherHat, cX0_worthWith, cX1_init,
  cX1_copyOf, cX2_init, cX2_copyOf, cX2_becomeAlike, cX2_countIn, cX2_mostOfOthers,
  cX2_workAll, cX2_noteHours, cX2_workAsNoted, cX3_init, cX3_aimAt, cX3_begin,
  cX3_isGood, cX3_hasMore, cX3_ahead, cX3_fail, cX3_takes, cX3_need,
  cX3_readNumber, cX3_numberAfter, cX3_isNameNext, cX3_readNewName, cX3_isGiven, cX3_readKnown,
  cX3_readUnpaired, cX3_readStatement, cX3_isFull, cX3_starts, cX3_readSort, cX3_readHat,
  cX3_readPerson, cX3_readIn, cX3_readPair, cX3_readWorks, cX3_readTest, cX3_readBoth,
  cX3_readFact, cX3_readCompare, cX3_opens, cX3_readSum, cX3_readProduct, cX3_readPiece,
  cX3_readOfTwo, cX3_factOf, cX4_init, cX4_clear, cX4_add, cX4_ruleFor,
  cX4_hoursOf, cX4_valueOf, cX4_joined, cX4_within, cX5_init, cX5_clear,
  cX5_copyOf, cX5_hasPerson, cX5_canWork, cX5_isPlace, cX5_earned, cX5_needOf,
  cX5_slip, cX5_sumIn, cX5_needsIn, cX5_meanIn, cX5_spreadIn, cX5_worthIn,
  cX5_worthNow, cX5_allWorths, cX5_allHours, cX5_hoursIn, cX5_allWorkLeast, cX5_bestHours,
  cX5_changesInRound, cX5_settle, cX5_noteTrail, cX5_firstOfTrail, cX5_isOnTrail, cX5_wishOf,
  cX5_goesInRound, cX5_nextToLeave, cX6_init, cX7_init, cX7_ownNameOf, cX7_cut,
  cX7_isLetter, cX7_isDigit, cX7_spanAt, cX7_add, cX7_isStuck, cX7_nameAt,
  cX7_numberAt, cX8_init, cX9_init, cX9_startAnew, cX9_forgetSlips, cX9_pass,
  cX9_draw, cX9_drawFrom, cX9_drawHat, cX9_takeHours, cX9_gatherFacts, cX9_handOut,
  cX9_handed, cX9_lookAtAll, cX9_halvePairs, cX9_payAll, cX10_init, cX10_feed,
  cX10_lay, cX10_end, cX10_town, cX10_fault, cX10_has, cX10_letter,
  cX10_person, cX10_hat, cX10_put, cX10_move, cX10_keep, cX10_worth,
  cX10_all, cX10_rest, cX10_proof, cX10_part, cX10_look, cX10_size,
  cX10_many, cX10_canCrowd, cX10_crowdTrial, cX10_under, cX10_ends, cX10_settleTrialFrom,
  cX10_alike, cX10_pair, cX10_would, cX10_wish, cX10_choose, cX10_stable,
  cX10_gap, cX10_rings, cX10_seed, cX10_run, cX10_drew, cX10_said,
  cX10_less, cX10_image, cX10_paint, cX10_paintTwo, cX10_octet, cX10_on,
  cX10_isImage, cX10_twoOfTape, cX10_checkOf, cX10_isIn, cX10_at, cX10_set,
  cX10_letterOf, cX10_slipOf, cX10_spreadOf, cX10_indexOf, cX11_init, cX11_isIn,
  cX11_feed, cX11_end, cX11_fail, cX11_isLetter, cX11_isDigit, cX11_look,
  cX11_isHere, cX11_takes, cX11_asks, cX11_takesSign, cX11_asksSign, cX11_number,
  cX11_isOwnHere, cX11_name, cX11_begins, cX11_nameOf, cX11_newName, cX11_oneOf,
  cX11_isFull, cX11_sortTold, cX11_hatTold, cX11_personTold, cX11_inTold, cX11_unpaired,
  cX11_pairTold, cX11_townTold, cX11_town, cX11_stands, cX11_code, cX11_opens,
  cX11_isOn, cX11_drops, cX11_isMark, cX11_mark, cX11_dropsToMark, cX11_onePart,
  cX11_goesOn, cX11_sums, cX11_fact, cX11_hasSquare, cX11_dropsNots, cX11_test,
  cX11_goesOnTest, cX11_worksTold, cX11_fault, cX11_people, cX11_hatMany, cX11_isPerson,
  cX11_isHat, cX11_has, cX11_letter, cX11_sort, cX11_hatIs, cX11_earned,
  cX11_slip, cX11_keptOf, cX11_inHat, cX11_sumOf, cX11_needsOf, cX11_meanOf,
  cX11_spreadOf, cX11_mostOther, cX11_floorOf, cX11_comes, cX11_worthNow, cX11_worthWith,
  cX11_bestHours, cX11_person, cX11_hat, cX11_put, cX11_move, cX11_keep,
  cX11_worth, cX11_allWorths, cX11_all, cX11_isRound, cX11_rounds, cX11_rest,
  cX11_proof, cX11_putsAside, cX11_takesBack, cX11_part, cX11_look_, cX11_crowds,
  cX11_isSort, cX11_size, cX11_many, cX11_under, cX11_ends, cX11_alike,
  cX11_pair, cX11_worthIn, cX11_would, cX11_wishOf, cX11_wish, cX11_choose,
  cX11_stable, cX11_gap, cX11_moreAlone, cX11_rings, cX11_clip, cX11_floor,
  cX11_puts, cX11_joins, cX11_told, cX11_asked, cX11_seed, cX11_draw,
  cX11_drawsFrom, cX11_drawsAll, cX11_ruledHours, cX11_drawnBy, cX11_cut, cX11_week,
  cX11_run, cX11_drew, cX11_said, cX11_less, cX11_writes, cX11_writesTwo,
  cX11_checked, cX11_image, cX11_octet, cX11_twoAt, cX11_isTold, cX11_on,
  cJ9_floorDiv_7cf53, cJ9_abs_0f7a4, cJ9_max_7cf53, cJ9_max_f86c9, cJ9_min_7cf53, cJ9_min_f86c9,
  cJ7_fill_53178, code
]
def MYL : List (MethodName) := [
  yX0_init, yX0_gather, yX0_gatherOwn, yX0_gatherHat, yX0_worthWith, yX1_init,
  yX1_copyOf, yX2_init, yX2_copyOf, yX2_becomeAlike, yX2_countIn, yX2_mostOfOthers,
  yX2_workAll, yX2_noteHours, yX2_workAsNoted, yX3_init, yX3_aimAt, yX3_begin,
  yX3_isGood, yX3_hasMore, yX3_ahead, yX3_fail, yX3_takes, yX3_need,
  yX3_readNumber, yX3_numberAfter, yX3_isNameNext, yX3_readNewName, yX3_isGiven, yX3_readKnown,
  yX3_readUnpaired, yX3_readStatement, yX3_isFull, yX3_starts, yX3_readSort, yX3_readHat,
  yX3_readPerson, yX3_readIn, yX3_readPair, yX3_readWorks, yX3_readTest, yX3_readBoth,
  yX3_readFact, yX3_readCompare, yX3_opens, yX3_readSum, yX3_readProduct, yX3_readPiece,
  yX3_readOfTwo, yX3_factOf, yX4_init, yX4_clear, yX4_add, yX4_ruleFor,
  yX4_hoursOf, yX4_valueOf, yX4_joined, yX4_within, yX5_init, yX5_clear,
  yX5_copyOf, yX5_hasPerson, yX5_canWork, yX5_isPlace, yX5_earned, yX5_needOf,
  yX5_slip, yX5_sumIn, yX5_needsIn, yX5_meanIn, yX5_spreadIn, yX5_worthIn,
  yX5_worthNow, yX5_allWorths, yX5_allHours, yX5_hoursIn, yX5_allWorkLeast, yX5_bestHours,
  yX5_changesInRound, yX5_settle, yX5_noteTrail, yX5_firstOfTrail, yX5_isOnTrail, yX5_wishOf,
  yX5_goesInRound, yX5_nextToLeave, yX6_init, yX7_init, yX7_ownNameOf, yX7_cut,
  yX7_isLetter, yX7_isDigit, yX7_spanAt, yX7_add, yX7_isStuck, yX7_nameAt,
  yX7_numberAt, yX8_init, yX9_init, yX9_startAnew, yX9_forgetSlips, yX9_pass,
  yX9_draw, yX9_drawFrom, yX9_drawHat, yX9_takeHours, yX9_gatherFacts, yX9_handOut,
  yX9_handed, yX9_lookAtAll, yX9_halvePairs, yX9_payAll, yX10_init, yX10_feed,
  yX10_lay, yX10_end, yX10_town, yX10_fault, yX10_has, yX10_letter,
  yX10_person, yX10_hat, yX10_put, yX10_move, yX10_keep, yX10_worth,
  yX10_all, yX10_rest, yX10_proof, yX10_part, yX10_look, yX10_size,
  yX10_many, yX10_canCrowd, yX10_crowdTrial, yX10_under, yX10_ends, yX10_settleTrialFrom,
  yX10_alike, yX10_pair, yX10_would, yX10_wish, yX10_choose, yX10_stable,
  yX10_gap, yX10_rings, yX10_seed, yX10_run, yX10_drew, yX10_said,
  yX10_less, yX10_image, yX10_paint, yX10_paintTwo, yX10_octet, yX10_on,
  yX10_isImage, yX10_twoOfTape, yX10_checkOf, yX10_isIn, yX10_at, yX10_set,
  yX10_letterOf, yX10_slipOf, yX10_spreadOf, yX10_indexOf, yX11_init, yX11_isIn,
  yX11_feed, yX11_end, yX11_fail, yX11_isLetter, yX11_isDigit, yX11_look,
  yX11_isHere, yX11_takes, yX11_asks, yX11_takesSign, yX11_asksSign, yX11_number,
  yX11_isOwnHere, yX11_name, yX11_begins, yX11_nameOf, yX11_newName, yX11_oneOf,
  yX11_isFull, yX11_sortTold, yX11_hatTold, yX11_personTold, yX11_inTold, yX11_unpaired,
  yX11_pairTold, yX11_townTold, yX11_town, yX11_stands, yX11_code, yX11_opens,
  yX11_isOn, yX11_drops, yX11_isMark, yX11_mark, yX11_dropsToMark, yX11_onePart,
  yX11_goesOn, yX11_sums, yX11_fact, yX11_hasSquare, yX11_dropsNots, yX11_test,
  yX11_goesOnTest, yX11_worksTold, yX11_fault, yX11_people, yX11_hatMany, yX11_isPerson,
  yX11_isHat, yX11_has, yX11_letter, yX11_sort, yX11_hatIs, yX11_earned,
  yX11_slip, yX11_keptOf, yX11_inHat, yX11_sumOf, yX11_needsOf, yX11_meanOf,
  yX11_spreadOf, yX11_mostOther, yX11_floorOf, yX11_comes, yX11_worthNow, yX11_worthWith,
  yX11_bestHours, yX11_person, yX11_hat, yX11_put, yX11_move, yX11_keep,
  yX11_worth, yX11_allWorths, yX11_all, yX11_isRound, yX11_rounds, yX11_rest,
  yX11_proof, yX11_putsAside, yX11_takesBack, yX11_part, yX11_look_, yX11_crowds,
  yX11_isSort, yX11_size, yX11_many, yX11_under, yX11_ends, yX11_alike,
  yX11_pair, yX11_worthIn, yX11_would, yX11_wishOf, yX11_wish, yX11_choose,
  yX11_stable, yX11_gap, yX11_moreAlone, yX11_rings, yX11_clip, yX11_floor,
  yX11_puts, yX11_joins, yX11_told, yX11_asked, yX11_seed, yX11_draw,
  yX11_drawsFrom, yX11_drawsAll, yX11_ruledHours, yX11_drawnBy, yX11_cut, yX11_week,
  yX11_run, yX11_drew, yX11_said, yX11_less, yX11_writes, yX11_writesTwo,
  yX11_checked, yX11_image, yX11_octet, yX11_twoAt, yX11_isTold, yX11_on,
  yJ9_floorDiv_7cf53, yJ9_abs_0f7a4, yJ9_max_7cf53, yJ9_max_f86c9, yJ9_min_7cf53, yJ9_min_f86c9,
  yJ7_fill_53178, yL_law
]
def MMXL : List (Nat) := [
  1, 7, 3, 3, 9, 1, 3, 3, 3, 5, 4, 5, 3, 2, 2, 2, 2, 4, 1, 1, 1, 3, 2, 2, 4, 4, 1, 2, 2, 4,
  4, 2, 2, 1, 2, 3, 2, 2, 3, 2, 3, 3, 4, 1, 2, 3, 3, 4, 3, 1, 1, 1, 2, 4, 3, 7, 3, 2, 2, 1,
  2, 2, 2, 2, 2, 2, 3, 4, 4, 3, 4, 4, 2, 3, 3, 4, 3, 7, 4, 4, 3, 3, 3, 7, 4, 6, 1, 4, 5, 6,
  1, 1, 7, 8, 3, 5, 5, 1, 1, 1, 1, 3, 2, 4, 7, 6, 7, 3, 7, 4, 6, 5, 1, 6, 3, 2, 2, 2, 3, 5,
  4, 4, 5, 4, 5, 4, 1, 3, 6, 8, 4, 5, 7, 3, 4, 5, 2, 2, 6, 6, 4, 2, 3, 3, 4, 6, 2, 4, 2, 3,
  4, 3, 2, 2, 2, 5, 6, 2, 4, 2, 2, 3, 4, 2, 5, 4, 1, 6, 8, 2, 3, 1, 1, 1, 4, 2, 2, 2, 2, 5,
  2, 3, 1, 5, 5, 5, 4, 3, 4, 3, 3, 3, 3, 2, 2, 2, 2, 3, 2, 1, 2, 2, 1, 5, 2, 3, 2, 2, 1, 3,
  1, 3, 2, 1, 1, 2, 2, 4, 9, 3, 3, 2, 2, 2, 4, 4, 4, 2, 7, 4, 3, 6, 4, 5, 6, 3, 3, 4, 3, 4,
  3, 3, 1, 4, 3, 2, 4, 2, 2, 9, 8, 5, 2, 5, 6, 8, 5, 6, 5, 5, 3, 6, 2, 6, 2, 2, 4, 9, 2, 6,
  3, 6, 5, 4, 2, 2, 6, 3, 5, 4, 2, 5, 4, 2, 3, 3, 2, 2, 4, 2, 2, 2, 3, 3, 3, 1, 2, 4, 2, 4,
  4, 4
]
def MRTL : List (Nat) := [
  0, 0, 0, 0, 1, 0, 0, 0, 0, 0, 1, 1, 0, 0, 2, 0, 0, 0, 2, 2, 1, 0, 2, 0, 1, 1, 2, 1, 2, 1,
  1, 0, 2, 2, 0, 0, 0, 0, 0, 0, 0, 0, 0, 1, 2, 0, 0, 0, 0, 1, 0, 0, 0, 1, 1, 1, 1, 1, 0, 0,
  0, 2, 2, 2, 1, 1, 1, 1, 1, 1, 1, 1, 1, 1, 1, 1, 2, 1, 2, 0, 0, 1, 2, 1, 2, 1, 0, 0, 1, 0,
  2, 2, 1, 0, 2, 1, 1, 0, 0, 0, 0, 1, 1, 0, 0, 0, 0, 0, 1, 0, 0, 1, 0, 1, 0, 2, 1, 1, 1, 1,
  1, 1, 1, 2, 1, 1, 1, 1, 1, 1, 1, 1, 1, 2, 0, 1, 1, 0, 1, 1, 1, 1, 1, 1, 1, 1, 2, 1, 1, 2,
  1, 1, 0, 0, 1, 2, 2, 1, 1, 2, 1, 0, 1, 1, 1, 1, 0, 2, 1, 2, 0, 2, 2, 1, 2, 2, 0, 2, 0, 1,
  2, 3, 0, 1, 1, 1, 2, 0, 0, 0, 0, 1, 0, 0, 1, 0, 0, 0, 2, 0, 2, 1, 0, 0, 2, 0, 0, 2, 0, 0,
  2, 0, 1, 1, 1, 2, 2, 1, 1, 1, 1, 1, 1, 1, 1, 1, 1, 1, 1, 1, 1, 1, 1, 1, 1, 1, 1, 1, 2, 1,
  1, 1, 1, 2, 1, 1, 1, 0, 0, 1, 1, 0, 2, 1, 1, 1, 1, 1, 1, 1, 1, 1, 1, 1, 1, 1, 1, 1, 3, 3,
  0, 0, 3, 1, 2, 1, 0, 0, 1, 1, 1, 1, 1, 1, 2, 1, 0, 0, 1, 1, 1, 1, 2, 2, 1, 1, 1, 3, 1, 3,
  0, 2
]
def MRKL : List (Nat) := [
  0, 2, 1, 1, 2, 0, 1, 1, 1, 1, 1, 1, 1, 1, 1, 2, 0, 4, 0, 2, 1, 1, 2, 2, 2, 3, 2, 3, 1, 3,
  3, 78, 0, 0, 4, 4, 4, 4, 4, 77, 10, 9, 8, 3, 2, 7, 6, 5, 4, 0, 0, 0, 0, 4, 4, 3, 2, 1, 2, 0,
  2, 1, 0, 1, 1, 1, 2, 3, 2, 4, 4, 3, 4, 5, 1, 1, 1, 3, 4, 5, 1, 2, 1, 4, 5, 5, 0, 1, 0, 3,
  0, 0, 1, 2, 1, 1, 1, 3, 0, 2, 1, 6, 0, 2, 1, 5, 2, 5, 4, 1, 1, 3, 4, 1, 0, 0, 79, 0, 2, 1,
  4, 5, 2, 2, 1, 5, 6, 5, 5, 6, 6, 7, 7, 1, 6, 6, 7, 6, 6, 1, 4, 5, 6, 5, 5, 6, 0, 7, 2, 2,
  1, 3, 1, 2, 1, 3, 2, 1, 1, 0, 0, 0, 0, 0, 1, 0, 0, 0, 0, 0, 0, 0, 0, 0, 1, 2, 3, 1, 2, 1,
  2, 3, 0, 0, 4, 4, 1, 5, 5, 5, 5, 5, 6, 9, 10, 0, 0, 1, 0, 1, 0, 1, 2, 4, 3, 5, 6, 0, 2, 7,
  3, 8, 0, 0, 0, 1, 1, 1, 1, 0, 0, 1, 2, 3, 0, 3, 1, 4, 4, 0, 0, 5, 6, 7, 8, 9, 5, 2, 2, 2,
  8, 7, 8, 9, 10, 11, 9, 1, 1, 11, 11, 11, 1, 12, 12, 11, 11, 8, 1, 7, 8, 8, 9, 9, 9, 9, 9, 10, 0, 0,
  0, 1, 2, 1, 0, 0, 1, 2, 3, 4, 0, 5, 6, 2, 2, 1, 0, 1, 0, 2, 0, 0, 1, 2, 0, 0, 0, 0, 0, 0,
  0, 80
]
def MNPL : List (Nat) := [
  0, 3, 2, 2, 1, 0, 1, 1, 1, 3, 1, 2, 1, 0, 0, 1, 1, 3, 0, 0, 0, 2, 1, 1, 2, 3, 0, 0, 1, 2,
  1, 0, 1, 1, 0, 0, 0, 0, 0, 0, 1, 1, 1, 0, 1, 1, 1, 1, 2, 1, 0, 0, 1, 2, 2, 3, 3, 1, 1, 0,
  1, 1, 1, 1, 1, 1, 1, 1, 1, 1, 1, 3, 1, 0, 0, 1, 1, 2, 0, 0, 1, 1, 1, 1, 0, 1, 0, 0, 2, 2,
  1, 1, 3, 3, 1, 3, 3, 0, 0, 0, 0, 1, 1, 2, 2, 1, 2, 1, 2, 1, 1, 1, 0, 5, 1, 1, 0, 1, 1, 3,
  2, 2, 2, 2, 2, 2, 0, 1, 0, 2, 1, 4, 2, 2, 3, 3, 1, 1, 1, 2, 2, 1, 1, 0, 1, 2, 1, 1, 1, 2,
  0, 0, 1, 1, 1, 0, 1, 1, 2, 2, 2, 3, 2, 2, 3, 3, 0, 3, 5, 1, 2, 1, 1, 0, 1, 1, 1, 1, 1, 2,
  0, 0, 0, 2, 1, 1, 3, 1, 1, 1, 0, 1, 0, 0, 0, 0, 1, 2, 1, 0, 1, 0, 0, 0, 0, 0, 0, 0, 0, 0,
  0, 1, 1, 0, 0, 1, 1, 1, 3, 2, 2, 1, 1, 1, 1, 1, 1, 1, 1, 1, 2, 1, 1, 2, 1, 2, 2, 2, 2, 2,
  2, 0, 0, 0, 1, 1, 0, 0, 0, 2, 1, 3, 1, 4, 2, 3, 1, 1, 2, 2, 2, 1, 1, 1, 0, 1, 1, 2, 1, 2,
  1, 1, 2, 1, 1, 1, 1, 1, 1, 1, 1, 0, 1, 1, 2, 0, 1, 1, 2, 0, 1, 1, 1, 0, 2, 1, 2, 2, 2, 2,
  2, 1
]
def MSTL : List (Bool) := [
  false, false, false, false, false, false, false, false, false, false, false, false, false, false, false, false, false, false, false, false,
  false, false, false, false, false, false, false, false, false, false, false, false, false, true, false, false, false, false, false, false,
  false, false, false, false, false, false, false, false, false, true, false, false, false, false, false, false, true, true, false, false,
  false, false, false, false, false, false, false, false, false, false, false, false, false, false, false, false, false, false, false, false,
  false, false, false, false, false, false, false, false, true, false, true, true, true, false, false, true, true, false, false, false,
  false, false, false, false, false, false, false, false, false, false, false, false, false, false, false, false, false, false, false, false,
  false, false, false, false, false, false, false, false, false, false, false, false, false, false, false, false, false, false, false, false,
  false, false, false, false, false, false, false, false, false, false, false, false, false, false, false, false, false, false, true, true,
  true, true, true, true, true, true, false, true, false, false, false, true, true, false, false, false, false, false, false, false,
  false, false, false, false, false, false, false, false, false, false, false, false, false, false, false, false, false, false, false, false,
  false, false, false, false, false, false, false, false, false, false, false, false, false, false, false, false, false, false, false, false,
  false, false, false, false, false, false, false, false, false, false, true, false, false, false, false, false, false, false, false, false,
  false, false, false, false, false, false, false, false, false, false, false, false, false, false, false, false, false, false, false, false,
  false, false, false, false, false, false, false, false, true, true, false, false, false, false, false, false, false, false, false, false,
  true, false, false, false, false, false, false, false, true, false, false, false, false, false, true, true, true, true, true, true,
  true, true
]
def MINL : List (Bool) := [
  true, false, false, false, false, true, false, true, false, false, false, false, false, false, false, true, false, false, false, false,
  false, false, false, false, false, false, false, false, false, false, false, false, false, false, false, false, false, false, false, false,
  false, false, false, false, false, false, false, false, false, false, true, false, false, false, false, false, false, false, true, false,
  false, false, false, false, false, false, false, false, false, false, false, false, false, false, false, false, false, false, false, false,
  false, false, false, false, false, false, true, true, false, false, false, false, false, false, false, false, false, true, true, false,
  false, false, false, false, false, false, false, false, false, false, false, false, true, false, false, false, false, false, false, false,
  false, false, false, false, false, false, false, false, false, false, false, false, false, false, false, false, false, false, false, false,
  false, false, false, false, false, false, false, false, false, false, false, false, false, false, false, false, false, false, false, false,
  false, false, false, false, false, false, true, false, false, false, false, false, false, false, false, false, false, false, false, false,
  false, false, false, false, false, false, false, false, false, false, false, false, false, false, false, false, false, false, false, false,
  false, false, false, false, false, false, false, false, false, false, false, false, false, false, false, false, false, false, false, false,
  false, false, false, false, false, false, false, false, false, false, false, false, false, false, false, false, false, false, false, false,
  false, false, false, false, false, false, false, false, false, false, false, false, false, false, false, false, false, false, false, false,
  false, false, false, false, false, false, false, false, false, false, false, false, false, false, false, false, false, false, false, false,
  false, false, false, false, false, false, false, false, false, false, false, false, false, false, false, false, false, false, false, false,
  false, false
]
def MRCL : List (Bool) := [
  false, false, false, false, false, false, false, false, false, false, false, false, false, false, false, false, false, false, false, false,
  false, false, false, false, false, false, false, false, false, false, false, false, false, false, false, false, false, false, false, false,
  true, true, true, false, false, true, true, true, true, false, false, false, false, false, false, false, false, false, false, false,
  false, false, false, false, false, false, false, false, false, false, false, false, false, false, false, false, false, false, false, false,
  false, false, false, false, false, false, false, false, false, false, false, false, false, false, false, false, false, false, false, false,
  false, false, false, false, false, false, false, false, false, false, false, false, false, false, false, false, false, false, false, false,
  false, false, false, false, false, false, false, false, false, false, false, false, false, false, false, false, false, false, false, false,
  false, false, false, false, false, false, false, false, false, false, false, false, false, false, false, false, false, false, false, false,
  false, false, false, false, false, false, false, false, false, false, false, false, false, false, false, false, false, false, false, false,
  false, false, false, false, false, false, false, false, false, false, false, false, false, false, false, false, false, false, false, false,
  false, false, false, false, false, false, false, false, false, false, false, false, false, false, false, false, false, false, false, false,
  false, false, false, false, false, false, false, false, false, false, false, false, false, false, false, false, false, false, false, false,
  false, false, false, false, false, false, false, false, false, false, false, false, false, false, false, false, false, false, false, false,
  false, false, false, false, false, false, false, false, false, false, false, false, false, false, false, false, false, false, false, false,
  false, false, false, false, false, false, false, false, false, false, false, false, false, false, false, false, false, false, false, false,
  false, false
]
def NNN : Nat := 179
def shp (p : Nat) : Nat × Nat := SHL.getD p (9, 0)
def knd (c k : Nat) : Nat := (KNDL.getD c []).getD k 9
def nfl (c : Nat) : Nat := (KNDL.getD c []).length
def fnl (c k : Nat) : Bool := (FINL.getD c []).getD k true
def fld (o i : Nat) : Option (Nat × Nat) := (FLL.getD o []).lookup i
def cal (o i : Nat) : Nat := ((CALL.getD o []).lookup i).getD 0
def ncl (o i : Nat) : Option Nat := (NCL.getD o []).lookup i
def cst (o i : Nat) : Option Value := (CSTL.getD o []).lookup i
def cnm (o : Nat) : String := CNML.getD o ""
def mcl (M : Nat) : Nat := MCLL.getD M 99
def mcd (M : Nat) : ByteArray := MCDL.getD M ByteArray.empty
def myn (M : Nat) : MethodName := MYL.getD M ⟨"", "", ""⟩
def mmx (M : Nat) : Nat := MMXL.getD M 0
def mrt (M : Nat) : Nat := MRTL.getD M 9
def mrk (M : Nat) : Nat := MRKL.getD M 0
def mnp (M : Nat) : Nat := MNPL.getD M 0
def mst (M : Nat) : Bool := MSTL.getD M false
def min_ (M : Nat) : Bool := MINL.getD M false
def mrc (M : Nat) : Bool := MRCL.getD M false
