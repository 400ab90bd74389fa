/-! the constructor of the class itself -/
def cL_X11 : zL3 := [(0, 10, 0), (1, 22, 900), (2, 5, 0), (3, 22, 0), (4, 4, 0), (5, 21, 12), (6, 21, 4), (7, 21, 0), (8, 21, 0), (9, 21, 0), (10, 21, 900), (11, 7, 0), (12, 4, 0), (13, 21, 12), (14, 21, 4), (15, 21, 0), (16, 21, 0), (17, 21, 0), (18, 3, 0), (19, 21, 12), (20, 21, 5), (21, 32, 10), (22, 3, 0), (23, 21, 12), (24, 21, 5), (25, 3, 0), (26, 21, 12), (27, 21, 5), (28, 3, 0), (29, 21, 12), (30, 21, 5), (31, 3, 0), (32, 21, 12), (33, 21, 5), (34, 3, 0), (35, 21, 12), (36, 21, 5), (37, 3, 0), (38, 21, 12), (39, 21, 5), (40, 3, 0), (41, 21, 12), (42, 21, 5), (43, 3, 0), (44, 21, 12), (45, 21, 5), (46, 3, 0), (47, 21, 12), (48, 21, 5), (49, 3, 0), (50, 21, 12), (51, 21, 5), (52, 36, 3), (53, 23, 3), (54, 37, 4), (55, 6, 0), (56, 21, 8), (57, 21, 64), (58, 9, 0), (59, 21, 1024), (60, 21, 1024), (61, 21, 1024), (62, 21, 1024), (63, 21, 1024), (64, 21, 1024), (65, 21, 1024), (66, 21, 1024), (67, 21, 2048), (68, 2, 0), (69, 21, 6), (70, 23, 6), (71, 21, 6), (72, 2, 0), (73, 21, 6), (74, 23, 6), (75, 21, 6), (76, 9, 0), (77, 21, 1024), (78, 21, 1024), (79, 21, 1024), (80, 21, 1024), (81, 21, 1024), (82, 21, 1024), (83, 21, 1024), (84, 21, 1024), (85, 21, 2048), (86, 2, 0), (87, 21, 6), (88, 23, 6), (89, 21, 6), (90, 2, 0), (91, 21, 6), (92, 23, 6), (93, 21, 6), (94, 2, 0), (95, 21, 6), (96, 23, 6), (97, 21, 6), (98, 2, 0), (99, 21, 6), (100, 23, 6), (101, 21, 6), (102, 3, 0), (103, 21, 12), (104, 21, 5), (105, 21, 6), (106, 21, 4), (107, 21, 100), (108, 21, 720), (109, 7, 0), (110, 4, 0), (111, 21, 12), (112, 21, 4), (113, 21, 0), (114, 21, 0), (115, 21, 0), (116, 3, 0), (117, 21, 12), (118, 21, 5), (119, 32, 10), (120, 3, 0), (121, 21, 12), (122, 21, 5), (123, 3, 0), (124, 21, 12), (125, 21, 5), (126, 3, 0), (127, 21, 12), (128, 21, 5), (129, 3, 0), (130, 21, 12), (131, 21, 5), (132, 3, 0), (133, 21, 12), (134, 21, 5), (135, 3, 0), (136, 21, 12), (137, 21, 5), (138, 3, 0), (139, 21, 12), (140, 21, 5), (141, 3, 0), (142, 21, 12), (143, 21, 5), (144, 3, 0), (145, 21, 12), (146, 21, 5), (147, 3, 0), (148, 21, 12), (149, 21, 5), (150, 7, 0), (151, 4, 0), (152, 21, 12), (153, 21, 4), (154, 21, 0), (155, 21, 0), (156, 21, 0), (157, 3, 0), (158, 21, 12), (159, 21, 5), (160, 32, 10), (161, 3, 0), (162, 21, 12), (163, 21, 5), (164, 3, 0), (165, 21, 12), (166, 21, 5), (167, 3, 0), (168, 21, 12), (169, 21, 5), (170, 3, 0), (171, 21, 12), (172, 21, 5), (173, 3, 0), (174, 21, 12), (175, 21, 5), (176, 3, 0), (177, 21, 12), (178, 21, 5), (179, 3, 0), (180, 21, 12), (181, 21, 5), (182, 3, 0), (183, 21, 12), (184, 21, 5), (185, 3, 0), (186, 21, 12), (187, 21, 5), (188, 3, 0), (189, 21, 12), (190, 21, 5), (191, 7, 0), (192, 4, 0), (193, 21, 12), (194, 21, 4), (195, 21, 0), (196, 21, 0), (197, 21, 0), (198, 3, 0), (199, 21, 12), (200, 21, 5), (201, 32, 10), (202, 3, 0), (203, 21, 12), (204, 21, 5), (205, 3, 0), (206, 21, 12), (207, 21, 5), (208, 3, 0), (209, 21, 12), (210, 21, 5), (211, 3, 0), (212, 21, 12), (213, 21, 5), (214, 3, 0), (215, 21, 12), (216, 21, 5), (217, 3, 0), (218, 21, 12), (219, 21, 5), (220, 3, 0), (221, 21, 12), (222, 21, 5), (223, 3, 0), (224, 21, 12), (225, 21, 5), (226, 3, 0), (227, 21, 12), (228, 21, 5), (229, 3, 0), (230, 21, 12), (231, 21, 5), (232, 8, 0), (233, 25, 30), (234, 8, 0), (235, 25, 30), (236, 8, 0), (237, 25, 30), (238, 8, 0), (239, 25, 30)]
def cP_X11 : zL3 := [(0, 0, 1), (2, 0, 3), (4, 3, 5), (4, 4, 6), (4, 5, 7), (4, 6, 8), (4, 7, 9), (2, 7, 4), (2, 8, 10), (0, 4, 2), (12, 3, 13), (12, 4, 14), (12, 5, 15), (12, 6, 16), (12, 7, 17), (11, 0, 12), (18, 0, 19), (18, 1, 20), (11, 1, 18), (11, 2, 21), (22, 0, 23), (22, 1, 24), (21, 0, 22), (25, 0, 26), (25, 1, 27), (21, 1, 25), (28, 0, 29), (28, 1, 30), (21, 2, 28), (31, 0, 32), (31, 1, 33), (21, 3, 31), (34, 0, 35), (34, 1, 36), (21, 4, 34), (37, 0, 38), (37, 1, 39), (21, 5, 37), (40, 0, 41), (40, 1, 42), (21, 6, 40), (43, 0, 44), (43, 1, 45), (21, 7, 43), (46, 0, 47), (46, 1, 48), (21, 8, 46), (49, 0, 50), (49, 1, 51), (21, 9, 49), (0, 5, 11), (0, 6, 52), (0, 7, 53), (0, 8, 54), (55, 0, 56), (55, 1, 57), (0, 9, 55), (58, 0, 59), (58, 1, 60), (58, 2, 61), (58, 3, 62), (58, 4, 63), (58, 5, 64), (58, 6, 65), (58, 7, 66), (58, 8, 67), (68, 0, 69), (68, 1, 70), (68, 2, 71), (58, 9, 68), (72, 0, 73), (72, 1, 74), (72, 2, 75), (58, 10, 72), (0, 10, 58), (76, 0, 77), (76, 1, 78), (76, 2, 79), (76, 3, 80), (76, 4, 81), (76, 5, 82), (76, 6, 83), (76, 7, 84), (76, 8, 85), (86, 0, 87), (86, 1, 88), (86, 2, 89), (76, 9, 86), (90, 0, 91), (90, 1, 92), (90, 2, 93), (76, 10, 90), (0, 11, 76), (94, 0, 95), (94, 1, 96), (94, 2, 97), (0, 12, 94), (98, 0, 99), (98, 1, 100), (98, 2, 101), (0, 13, 98), (102, 0, 103), (102, 1, 104), (0, 14, 102), (0, 15, 105), (0, 16, 106), (0, 17, 107), (0, 18, 108), (110, 3, 111), (110, 4, 112), (110, 5, 113), (110, 6, 114), (110, 7, 115), (109, 0, 110), (116, 0, 117), (116, 1, 118), (109, 1, 116), (109, 2, 119), (120, 0, 121), (120, 1, 122), (119, 0, 120), (123, 0, 124), (123, 1, 125), (119, 1, 123), (126, 0, 127), (126, 1, 128), (119, 2, 126), (129, 0, 130), (129, 1, 131), (119, 3, 129), (132, 0, 133), (132, 1, 134), (119, 4, 132), (135, 0, 136), (135, 1, 137), (119, 5, 135), (138, 0, 139), (138, 1, 140), (119, 6, 138), (141, 0, 142), (141, 1, 143), (119, 7, 141), (144, 0, 145), (144, 1, 146), (119, 8, 144), (147, 0, 148), (147, 1, 149), (119, 9, 147), (52, 0, 109), (151, 3, 152), (151, 4, 153), (151, 5, 154), (151, 6, 155), (151, 7, 156), (150, 0, 151), (157, 0, 158), (157, 1, 159), (150, 1, 157), (150, 2, 160), (161, 0, 162), (161, 1, 163), (160, 0, 161), (164, 0, 165), (164, 1, 166), (160, 1, 164), (167, 0, 168), (167, 1, 169), (160, 2, 167), (170, 0, 171), (170, 1, 172), (160, 3, 170), (173, 0, 174), (173, 1, 175), (160, 4, 173), (176, 0, 177), (176, 1, 178), (160, 5, 176), (179, 0, 180), (179, 1, 181), (160, 6, 179), (182, 0, 183), (182, 1, 184), (160, 7, 182), (185, 0, 186), (185, 1, 187), (160, 8, 185), (188, 0, 189), (188, 1, 190), (160, 9, 188), (52, 1, 150), (192, 3, 193), (192, 4, 194), (192, 5, 195), (192, 6, 196), (192, 7, 197), (191, 0, 192), (198, 0, 199), (198, 1, 200), (191, 1, 198), (191, 2, 201), (202, 0, 203), (202, 1, 204), (201, 0, 202), (205, 0, 206), (205, 1, 207), (201, 1, 205), (208, 0, 209), (208, 1, 210), (201, 2, 208), (211, 0, 212), (211, 1, 213), (201, 3, 211), (214, 0, 215), (214, 1, 216), (201, 4, 214), (217, 0, 218), (217, 1, 219), (201, 5, 217), (220, 0, 221), (220, 1, 222), (201, 6, 220), (223, 0, 224), (223, 1, 225), (201, 7, 223), (226, 0, 227), (226, 1, 228), (201, 8, 226), (229, 0, 230), (229, 1, 231), (201, 9, 229), (52, 2, 191), (232, 0, 233), (54, 0, 232), (234, 0, 235), (54, 1, 234), (236, 0, 237), (54, 2, 236), (238, 0, 239), (54, 3, 238)]
def cV_X11 : zLV := [(0, 0, 0), (0, 1, 0), (0, 2, 0), (0, 3, -1), (0, 4, 0), (0, 5, 0), (0, 6, 0), (0, 7, 0), (0, 8, 0), (0, 9, 0), (0, 10, 0), (0, 11, 0), (0, 12, 0), (0, 13, 0), (0, 14, 0), (0, 15, 0), (0, 16, 0), (0, 17, 0), (0, 18, 0), (2, 0, 0), (2, 1, 0), (2, 2, 0), (2, 3, 0), (2, 4, 0), (2, 5, 0), (2, 6, 0), (2, 7, 0), (2, 8, 0), (2, 9, 0), (2, 10, 0), (2, 11, 0), (2, 12, -1), (4, 0, 0), (4, 1, 0), (4, 2, 0), (4, 3, 0), (4, 4, 0), (4, 5, 0), (4, 6, 0), (4, 7, 0), (11, 0, 0), (11, 1, 0), (11, 2, 0), (11, 3, 0), (12, 0, 0), (12, 1, 0), (12, 2, 0), (12, 3, 0), (12, 4, 0), (12, 5, 0), (12, 6, 0), (12, 7, 0), (18, 0, 0), (18, 1, 0), (18, 2, 0), (22, 0, 0), (22, 1, 0), (22, 2, 0), (25, 0, 0), (25, 1, 0), (25, 2, 0), (28, 0, 0), (28, 1, 0), (28, 2, 0), (31, 0, 0), (31, 1, 0), (31, 2, 0), (34, 0, 0), (34, 1, 0), (34, 2, 0), (37, 0, 0), (37, 1, 0), (37, 2, 0), (40, 0, 0), (40, 1, 0), (40, 2, 0), (43, 0, 0), (43, 1, 0), (43, 2, 0), (46, 0, 0), (46, 1, 0), (46, 2, 0), (49, 0, 0), (49, 1, 0), (49, 2, 0), (55, 0, 0), (55, 1, 0), (58, 0, 0), (58, 1, 0), (58, 2, 0), (58, 3, 0), (58, 4, 0), (58, 5, 0), (58, 6, 0), (58, 7, 0), (58, 8, 0), (58, 9, 0), (58, 10, 0), (58, 11, 0), (58, 12, 0), (68, 0, 0), (68, 1, 0), (68, 2, 0), (68, 3, 0), (68, 4, 0), (72, 0, 0), (72, 1, 0), (72, 2, 0), (72, 3, 0), (72, 4, 0), (76, 0, 0), (76, 1, 0), (76, 2, 0), (76, 3, 0), (76, 4, 0), (76, 5, 0), (76, 6, 0), (76, 7, 0), (76, 8, 0), (76, 9, 0), (76, 10, 0), (76, 11, 0), (76, 12, 0), (86, 0, 0), (86, 1, 0), (86, 2, 0), (86, 3, 0), (86, 4, 0), (90, 0, 0), (90, 1, 0), (90, 2, 0), (90, 3, 0), (90, 4, 0), (94, 0, 0), (94, 1, 0), (94, 2, 0), (94, 3, 0), (94, 4, 0), (98, 0, 0), (98, 1, 0), (98, 2, 0), (98, 3, 0), (98, 4, 0), (102, 0, 0), (102, 1, 0), (102, 2, 0), (109, 0, 0), (109, 1, 0), (109, 2, 0), (109, 3, 0), (110, 0, 0), (110, 1, 0), (110, 2, 0), (110, 3, 0), (110, 4, 0), (110, 5, 0), (110, 6, 0), (110, 7, 0), (116, 0, 0), (116, 1, 0), (116, 2, 0), (120, 0, 0), (120, 1, 0), (120, 2, 0), (123, 0, 0), (123, 1, 0), (123, 2, 0), (126, 0, 0), (126, 1, 0), (126, 2, 0), (129, 0, 0), (129, 1, 0), (129, 2, 0), (132, 0, 0), (132, 1, 0), (132, 2, 0), (135, 0, 0), (135, 1, 0), (135, 2, 0), (138, 0, 0), (138, 1, 0), (138, 2, 0), (141, 0, 0), (141, 1, 0), (141, 2, 0), (144, 0, 0), (144, 1, 0), (144, 2, 0), (147, 0, 0), (147, 1, 0), (147, 2, 0), (150, 0, 0), (150, 1, 0), (150, 2, 0), (150, 3, 0), (151, 0, 0), (151, 1, 0), (151, 2, 0), (151, 3, 0), (151, 4, 0), (151, 5, 0), (151, 6, 0), (151, 7, 0), (157, 0, 0), (157, 1, 0), (157, 2, 0), (161, 0, 0), (161, 1, 0), (161, 2, 0), (164, 0, 0), (164, 1, 0), (164, 2, 0), (167, 0, 0), (167, 1, 0), (167, 2, 0), (170, 0, 0), (170, 1, 0), (170, 2, 0), (173, 0, 0), (173, 1, 0), (173, 2, 0), (176, 0, 0), (176, 1, 0), (176, 2, 0), (179, 0, 0), (179, 1, 0), (179, 2, 0), (182, 0, 0), (182, 1, 0), (182, 2, 0), (185, 0, 0), (185, 1, 0), (185, 2, 0), (188, 0, 0), (188, 1, 0), (188, 2, 0), (191, 0, 0), (191, 1, 0), (191, 2, 0), (191, 3, 0), (192, 0, 0), (192, 1, 0), (192, 2, 0), (192, 3, 0), (192, 4, 0), (192, 5, 0), (192, 6, 0), (192, 7, 0), (198, 0, 0), (198, 1, 0), (198, 2, 0), (202, 0, 0), (202, 1, 0), (202, 2, 0), (205, 0, 0), (205, 1, 0), (205, 2, 0), (208, 0, 0), (208, 1, 0), (208, 2, 0), (211, 0, 0), (211, 1, 0), (211, 2, 0), (214, 0, 0), (214, 1, 0), (214, 2, 0), (217, 0, 0), (217, 1, 0), (217, 2, 0), (220, 0, 0), (220, 1, 0), (220, 2, 0), (223, 0, 0), (223, 1, 0), (223, 2, 0), (226, 0, 0), (226, 1, 0), (226, 2, 0), (229, 0, 0), (229, 1, 0), (229, 2, 0), (232, 0, 0), (232, 1, 0), (232, 2, 0), (232, 3, 1), (234, 0, 0), (234, 1, 0), (234, 2, 0), (234, 3, 1), (236, 0, 0), (236, 1, 0), (236, 2, 0), (236, 3, 1), (238, 0, 0), (238, 1, 0), (238, 2, 0), (238, 3, 1)]
def cZ_X11 : List Nat := [1, 3, 5, 6, 7, 8, 9, 10, 13, 14, 15, 16, 17, 19, 20, 21, 23, 24, 26, 27, 29, 30, 32, 33, 35, 36, 38, 39, 41, 42, 44, 45, 47, 48, 50, 51, 52, 53, 54, 56, 57, 59, 60, 61, 62, 63, 64, 65, 66, 67, 69, 70, 71, 73, 74, 75, 77, 78, 79, 80, 81, 82, 83, 84, 85, 87, 88, 89, 91, 92, 93, 95, 96, 97, 99, 100, 101, 103, 104, 105, 106, 107, 108, 111, 112, 113, 114, 115, 117, 118, 119, 121, 122, 124, 125, 127, 128, 130, 131, 133, 134, 136, 137, 139, 140, 142, 143, 145, 146, 148, 149, 152, 153, 154, 155, 156, 158, 159, 160, 162, 163, 165, 166, 168, 169, 171, 172, 174, 175, 177, 178, 180, 181, 183, 184, 186, 187, 189, 190, 193, 194, 195, 196, 197, 199, 200, 201, 203, 204, 206, 207, 209, 210, 212, 213, 215, 216, 218, 219, 221, 222, 224, 225, 227, 228, 230, 231, 233, 235, 237, 239]
def cL_X11_0 : zL3 := [(0, 10, 0)]
def cP_X11_0 : zL3 := []
def cV_X11_0 : zLV := (List.range 19).map (fun k => (0, k, 0))
def cZ_X11_0 : List Nat := []
def cL_X11_1 : zL3 := cL_X11_0 ++ [(1, 22, 900)]
def cZ_X11_1 : List Nat := cZ_X11_0 ++ [1]
def cP_X11_2 : zL3 := cP_X11_0 ++ [(0, 0, 1)]
def cV_X11_3 : zLV := cV_X11_0.map (fun e => if e.1 = 0 ∧ e.2.1 = 1 then (0, 1, 0) else e)
def cV_X11_4 : zLV := cV_X11_3.map (fun e => if e.1 = 0 ∧ e.2.1 = 2 then (0, 2, 0) else e)
def cV_X11_5 : zLV := cV_X11_4.map (fun e => if e.1 = 0 ∧ e.2.1 = 3 then (0, 3, -1) else e)
def cL_X11_7 : zL3 := cL_X11_1 ++ cL_X5.map (fun e => (2 + e.1, e.2))
def cP_X11_7 : zL3 := cP_X11_2 ++ cP_X5.map (fun e => (2 + e.1, e.2.1, 2 + e.2.2))
def cV_X11_7 : zLV := cV_X11_5 ++ cV_X5.map (fun e => (2 + e.1, e.2))
def cZ_X11_7 : List Nat := cZ_X11_1 ++ cZ_X5.map (fun z => 2 + z)
def cP_X11_8 : zL3 := cP_X11_7 ++ [(0, 4, 2)]
def cL_X11_10 : zL3 := cL_X11_7 ++ cL_X7.map (fun e => (11 + e.1, e.2))
def cP_X11_10 : zL3 := cP_X11_8 ++ cP_X7.map (fun e => (11 + e.1, e.2.1, 11 + e.2.2))
def cV_X11_10 : zLV := cV_X11_7 ++ cV_X7.map (fun e => (11 + e.1, e.2))
def cZ_X11_10 : List Nat := cZ_X11_7 ++ cZ_X7.map (fun z => 11 + z)
def cP_X11_11 : zL3 := cP_X11_10 ++ [(0, 5, 11)]
def cL_X11_12 : zL3 := cL_X11_10 ++ [(52, 36, 3)]
def cZ_X11_12 : List Nat := cZ_X11_10 ++ [52]
def cP_X11_13 : zL3 := cP_X11_11 ++ [(0, 6, 52)]
def cL_X11_14 : zL3 := cL_X11_12 ++ [(53, 23, 3)]
def cZ_X11_14 : List Nat := cZ_X11_12 ++ [53]
def cP_X11_15 : zL3 := cP_X11_13 ++ [(0, 7, 53)]
def cL_X11_16 : zL3 := cL_X11_14 ++ [(54, 37, 4)]
def cZ_X11_16 : List Nat := cZ_X11_14 ++ [54]
def cP_X11_17 : zL3 := cP_X11_15 ++ [(0, 8, 54)]
def cL_X11_19 : zL3 := cL_X11_16 ++ cL_X6.map (fun e => (55 + e.1, e.2))
def cP_X11_19 : zL3 := cP_X11_17 ++ cP_X6.map (fun e => (55 + e.1, e.2.1, 55 + e.2.2))
def cV_X11_19 : zLV := cV_X11_10 ++ cV_X6.map (fun e => (55 + e.1, e.2))
def cZ_X11_19 : List Nat := cZ_X11_16 ++ cZ_X6.map (fun z => 55 + z)
def cP_X11_20 : zL3 := cP_X11_19 ++ [(0, 9, 55)]
def cL_X11_22 : zL3 := cL_X11_19 ++ cL_X9.map (fun e => (58 + e.1, e.2))
def cP_X11_22 : zL3 := cP_X11_20 ++ cP_X9.map (fun e => (58 + e.1, e.2.1, 58 + e.2.2))
def cV_X11_22 : zLV := cV_X11_19 ++ cV_X9.map (fun e => (58 + e.1, e.2))
def cZ_X11_22 : List Nat := cZ_X11_19 ++ cZ_X9.map (fun z => 58 + z)
def cP_X11_23 : zL3 := cP_X11_22 ++ [(0, 10, 58)]
def cL_X11_25 : zL3 := cL_X11_22 ++ cL_X9.map (fun e => (76 + e.1, e.2))
def cP_X11_25 : zL3 := cP_X11_23 ++ cP_X9.map (fun e => (76 + e.1, e.2.1, 76 + e.2.2))
def cV_X11_25 : zLV := cV_X11_22 ++ cV_X9.map (fun e => (76 + e.1, e.2))
def cZ_X11_25 : List Nat := cZ_X11_22 ++ cZ_X9.map (fun z => 76 + z)
def cP_X11_26 : zL3 := cP_X11_25 ++ [(0, 11, 76)]
def cL_X11_28 : zL3 := cL_X11_25 ++ cL_X2.map (fun e => (94 + e.1, e.2))
def cP_X11_28 : zL3 := cP_X11_26 ++ cP_X2.map (fun e => (94 + e.1, e.2.1, 94 + e.2.2))
def cV_X11_28 : zLV := cV_X11_25 ++ cV_X2.map (fun e => (94 + e.1, e.2))
def cZ_X11_28 : List Nat := cZ_X11_25 ++ cZ_X2.map (fun z => 94 + z)
def cP_X11_29 : zL3 := cP_X11_28 ++ [(0, 12, 94)]
def cL_X11_31 : zL3 := cL_X11_28 ++ cL_X2.map (fun e => (98 + e.1, e.2))
def cP_X11_31 : zL3 := cP_X11_29 ++ cP_X2.map (fun e => (98 + e.1, e.2.1, 98 + e.2.2))
def cV_X11_31 : zLV := cV_X11_28 ++ cV_X2.map (fun e => (98 + e.1, e.2))
def cZ_X11_31 : List Nat := cZ_X11_28 ++ cZ_X2.map (fun z => 98 + z)
def cP_X11_32 : zL3 := cP_X11_31 ++ [(0, 13, 98)]
def cL_X11_34 : zL3 := cL_X11_31 ++ cL_X3.map (fun e => (102 + e.1, e.2))
def cP_X11_34 : zL3 := cP_X11_32 ++ cP_X3.map (fun e => (102 + e.1, e.2.1, 102 + e.2.2))
def cV_X11_34 : zLV := cV_X11_31 ++ cV_X3.map (fun e => (102 + e.1, e.2))
def cZ_X11_34 : List Nat := cZ_X11_31 ++ cZ_X3.map (fun z => 102 + z)
def cP_X11_35 : zL3 := cP_X11_34 ++ [(0, 14, 102)]
def cL_X11_36 : zL3 := cL_X11_34 ++ [(105, 21, 6)]
def cZ_X11_36 : List Nat := cZ_X11_34 ++ [105]
def cP_X11_37 : zL3 := cP_X11_35 ++ [(0, 15, 105)]
def cL_X11_38 : zL3 := cL_X11_36 ++ [(106, 21, 4)]
def cZ_X11_38 : List Nat := cZ_X11_36 ++ [106]
def cP_X11_39 : zL3 := cP_X11_37 ++ [(0, 16, 106)]
def cL_X11_40 : zL3 := cL_X11_38 ++ [(107, 21, 100)]
def cZ_X11_40 : List Nat := cZ_X11_38 ++ [107]
def cP_X11_41 : zL3 := cP_X11_39 ++ [(0, 17, 107)]
def cL_X11_42 : zL3 := cL_X11_40 ++ [(108, 21, 720)]
def cZ_X11_42 : List Nat := cZ_X11_40 ++ [108]
def cP_X11_43 : zL3 := cP_X11_41 ++ [(0, 18, 108)]
def cL_X11_45 : zL3 := cL_X11_42 ++ cL_X7.map (fun e => (109 + e.1, e.2))
def cP_X11_45 : zL3 := cP_X11_43 ++ cP_X7.map (fun e => (109 + e.1, e.2.1, 109 + e.2.2))
def cV_X11_45 : zLV := cV_X11_34 ++ cV_X7.map (fun e => (109 + e.1, e.2))
def cZ_X11_45 : List Nat := cZ_X11_42 ++ cZ_X7.map (fun z => 109 + z)
def cP_X11_46 : zL3 := cP_X11_45 ++ [(52, 0, 109)]
def cL_X11_48 : zL3 := cL_X11_45 ++ cL_X7.map (fun e => (150 + e.1, e.2))
def cP_X11_48 : zL3 := cP_X11_46 ++ cP_X7.map (fun e => (150 + e.1, e.2.1, 150 + e.2.2))
def cV_X11_48 : zLV := cV_X11_45 ++ cV_X7.map (fun e => (150 + e.1, e.2))
def cZ_X11_48 : List Nat := cZ_X11_45 ++ cZ_X7.map (fun z => 150 + z)
def cP_X11_49 : zL3 := cP_X11_48 ++ [(52, 1, 150)]
def cL_X11_51 : zL3 := cL_X11_48 ++ cL_X7.map (fun e => (191 + e.1, e.2))
def cP_X11_51 : zL3 := cP_X11_49 ++ cP_X7.map (fun e => (191 + e.1, e.2.1, 191 + e.2.2))
def cV_X11_51 : zLV := cV_X11_48 ++ cV_X7.map (fun e => (191 + e.1, e.2))
def cZ_X11_51 : List Nat := cZ_X11_48 ++ cZ_X7.map (fun z => 191 + z)
def cP_X11_52 : zL3 := cP_X11_51 ++ [(52, 2, 191)]
def cL_X11_54 : zL3 := cL_X11_51 ++ cL_X8.map (fun e => (232 + e.1, e.2))
def cP_X11_54 : zL3 := cP_X11_52 ++ cP_X8.map (fun e => (232 + e.1, e.2.1, 232 + e.2.2))
def cV_X11_54 : zLV := cV_X11_51 ++ cV_X8.map (fun e => (232 + e.1, e.2))
def cZ_X11_54 : List Nat := cZ_X11_51 ++ cZ_X8.map (fun z => 232 + z)
def cP_X11_55 : zL3 := cP_X11_54 ++ [(54, 0, 232)]
def cL_X11_57 : zL3 := cL_X11_54 ++ cL_X8.map (fun e => (234 + e.1, e.2))
def cP_X11_57 : zL3 := cP_X11_55 ++ cP_X8.map (fun e => (234 + e.1, e.2.1, 234 + e.2.2))
def cV_X11_57 : zLV := cV_X11_54 ++ cV_X8.map (fun e => (234 + e.1, e.2))
def cZ_X11_57 : List Nat := cZ_X11_54 ++ cZ_X8.map (fun z => 234 + z)
def cP_X11_58 : zL3 := cP_X11_57 ++ [(54, 1, 234)]
def cL_X11_60 : zL3 := cL_X11_57 ++ cL_X8.map (fun e => (236 + e.1, e.2))
def cP_X11_60 : zL3 := cP_X11_58 ++ cP_X8.map (fun e => (236 + e.1, e.2.1, 236 + e.2.2))
def cV_X11_60 : zLV := cV_X11_57 ++ cV_X8.map (fun e => (236 + e.1, e.2))
def cZ_X11_60 : List Nat := cZ_X11_57 ++ cZ_X8.map (fun z => 236 + z)
def cP_X11_61 : zL3 := cP_X11_60 ++ [(54, 2, 236)]
def cL_X11_63 : zL3 := cL_X11_60 ++ cL_X8.map (fun e => (238 + e.1, e.2))
def cP_X11_63 : zL3 := cP_X11_61 ++ cP_X8.map (fun e => (238 + e.1, e.2.1, 238 + e.2.2))
def cV_X11_63 : zLV := cV_X11_60 ++ cV_X8.map (fun e => (238 + e.1, e.2))
def cZ_X11_63 : List Nat := cZ_X11_60 ++ cZ_X8.map (fun z => 238 + z)
def cP_X11_64 : zL3 := cP_X11_63 ++ [(54, 3, 238)]
set_option maxHeartbeats 8000000 in
set_option maxRecDepth 100000 in
theorem s_X11_init {g : zGT} {w : zW} {f : Nat → Nat → Int32} {j : Nat → Nat → Int64} {a : Nat} {ku : Nat} {Q : Option Value → zW → Prop} {QX : String → zW → Prop} (G : zGok g) (hS_z : zS w = a + 1) (hk : zK w a = 10) (hn : zN w a = 0) (hf : ∀ i, f a i = 0) (hK_z : ∀ U, g.2.2.2 U → va_Z "NapkinDeeds$Word" "UNKNOWN" "LNapkinDeeds$Word;" (.ref ku) (zA g.2.2.1) U U.heap) (hQ : ∀ w2 f2_z j2, ctS w2 f2_z j2 w f j a 240 cL_X11 cP_X11 cV_X11 cZ_X11 → Q none (zM w2 f2_z j2)) : zC g 3 yX11_init cX11_init 2 none [.ref a] (zM w f j) (239, 24583) Q QX := by
  refine zC_of G (by decide +kernel) (Nat.le_of_ble_eq_true rfl) ?_
  have c0_z : ctS w f j w f j a 1 cL_X11_0 cP_X11_0 cV_X11_0 cZ_X11_0 := ctS_0 (m := 19) (j := j) hS_z hk hn hf
  refine r_aloadR0 dX11_init_0 ?_
  refine r_obj zo_RX11 zo_in zo_cd dX11_init_1 (by first | exact Nat.le_of_ble_eq_true rfl | decide) (by first | exact Nat.le_of_ble_eq_true rfl | decide) ?_
  refine r_aloadR0 dX11_init_4 ?_
  refine n_sipush dX11_init_5 (by decide) (fun r1 e1_z => ?_)
  refine m_newB (N := 900) (ctS_S c0_z) dX11_init_8 (by omega) (by decide) (by first | exact Nat.le_of_ble_eq_true rfl | decide) (by first | exact Nat.le_of_ble_eq_true rfl | decide) (fun w1 f1_z j1 n1 m1_z p1 => ?_)
  have c1_z : ctS w1 f1_z j1 w f j a 2 cL_X11_1 cP_X11_0 cV_X11_0 cZ_X11_1 := ctS_new c0_z n1 m1_z p1
  refine zR_b (b2 := (1, 900)) rfl ?_
  refine m_putPF (q := (a + 1)) zf_RX11_9 (by intro C T N h_z; cases h_z; exact ⟨rfl, rfl⟩) rfl rfl dX11_init_10 (c1_z.2.2.1 (0, 10, 0) (List.mem_of_getElem? (i := 0) (by decide +kernel))).2.1 ?_
  obtain ⟨w2, hw2⟩ : ∃ u9, u9 = zsP w1 (zu (zP w1) a 0 (some (a + 1))) := ⟨_, rfl⟩
  rw [← hw2]
  have c2_z : ctS w2 f1_z j1 w f j a 2 cL_X11_1 cP_X11_2 cV_X11_0 cZ_X11_1 := by rw [hw2]; exact ctS_putP (k := 0) (o := 0) (t := 1) c1_z (by decide) (by decide +kernel)
  refine r_aloadR0 dX11_init_13 ?_
  refine n_iconst dX11_init_14 (by decide) (fun r2 e2_z => ?_)
  refine m_putI zf_RX11_13 (by intro C T N h_z; cases h_z; rfl) rfl dX11_init_15 (c2_z.2.2.1 (0, 10, 0) (List.mem_of_getElem? (i := 0) (by decide +kernel))).2.1 ?_
  obtain ⟨f3_z, hf3⟩ : ∃ u9, u9 = zu f1_z a 1 r2 := ⟨_, rfl⟩
  rw [← hf3]
  have c3_z : ctS w2 f3_z j1 w f j a 2 cL_X11_1 cP_X11_2 cV_X11_3 cZ_X11_1 := by rw [hf3]; exact ctS_putI (k := 1) (o := 0) (x := r2) (v := 0) c2_z (by decide) (zi_eq.mpr (e2_z.trans (by decide))) (by decide +kernel)
  refine r_aloadR0 dX11_init_18 ?_
  refine n_iconst dX11_init_19 (by decide) (fun r3 e3_z => ?_)
  refine m_putI zf_RX11_17 (by intro C T N h_z; cases h_z; rfl) rfl dX11_init_20 (c3_z.2.2.1 (0, 10, 0) (List.mem_of_getElem? (i := 0) (by decide +kernel))).2.1 ?_
  obtain ⟨f4_z, hf4⟩ : ∃ u9, u9 = zu f3_z a 2 r3 := ⟨_, rfl⟩
  rw [← hf4]
  have c4_z : ctS w2 f4_z j1 w f j a 2 cL_X11_1 cP_X11_2 cV_X11_4 cZ_X11_1 := by rw [hf4]; exact ctS_putI (k := 2) (o := 0) (x := r3) (v := 0) c3_z (by decide) (zi_eq.mpr (e3_z.trans (by decide))) (by decide +kernel)
  refine r_aloadR0 dX11_init_23 ?_
  refine n_iconst dX11_init_24 (by decide) (fun r4 e4_z => ?_)
  refine m_putI zf_RX11_20 (by intro C T N h_z; cases h_z; rfl) rfl dX11_init_25 (c4_z.2.2.1 (0, 10, 0) (List.mem_of_getElem? (i := 0) (by decide +kernel))).2.1 ?_
  obtain ⟨f5_z, hf5⟩ : ∃ u9, u9 = zu f4_z a 3 r4 := ⟨_, rfl⟩
  rw [← hf5]
  have c5_z : ctS w2 f5_z j1 w f j a 2 cL_X11_1 cP_X11_2 cV_X11_5 cZ_X11_1 := by rw [hf5]; exact ctS_putI (k := 3) (o := 0) (x := r4) (v := -1) c4_z (by decide) (zi_eq.mpr (e4_z.trans (by decide))) (by decide +kernel)
  refine r_aloadR0 dX11_init_28 ?_
  refine m_new (ctS_S c5_z) zn_RX11_23 dX11_init_29 (by first | exact Nat.le_of_ble_eq_true rfl | decide) (by first | exact Nat.le_of_ble_eq_true rfl | decide) (fun w6 f6_z j6 n6 m6_z p6 => ?_)
  refine zR_b (b2 := (2, 913)) rfl ?_
  refine r_dup dX11_init_32 rfl ?_
  refine r_callI (n := 0) (As := []) (b2 := (8, 924)) (Or.inr ⟨"NapkinDeeds", List.mem_of_getElem? (i := 0) rfl⟩) zin_yX5_init zini_RX5 zcode_yX5_init rfl ⟨by decide, by decide, by decide +kernel⟩ (by decide) dX11_init_33 (s_X5_init (a := a + 2) (w := w6) (f := f6_z) (j := j6) G (by rw [n6.1]) n6.2.1 n6.2.2.1 m6_z.2 hK_z (fun w7 f7_z j7 s7 => ?_)) rfl rfl (by first | exact Nat.le_of_ble_eq_true rfl | decide) (by first | exact Nat.le_of_ble_eq_true rfl | decide) (by first | exact Nat.le_of_ble_eq_true rfl | decide) (by first | exact Nat.le_of_ble_eq_true rfl | decide) (by first | exact Nat.le_of_ble_eq_true rfl | decide) (fun r w9 h9 => h9)
  have c7_z : ctS w7 f7_z j7 w f j a 11 cL_X11_7 cP_X11_7 cV_X11_7 cZ_X11_7 := ctS_sub (c := 2) (c2_z := 9) (L := cL_X11_1) (PL := cP_X11_2) (VL := cV_X11_5) (ZL := cZ_X11_1) (L2 := cL_X5) (PL2 := cP_X5) (VL2 := cV_X5) (ZL2 := cZ_X5) c5_z n6 m6_z p6 s7
  refine zR_b (b2 := (10, 1837)) rfl ?_
  refine m_putPF (q := (a + 2)) zf_RX11_26 (by intro C T N h_z; cases h_z; exact ⟨rfl, rfl⟩) rfl rfl dX11_init_36 (c7_z.2.2.1 (0, 10, 0) (List.mem_of_getElem? (i := 0) (by decide +kernel))).2.1 ?_
  obtain ⟨w8, hw8⟩ : ∃ u9, u9 = zsP w7 (zu (zP w7) a 4 (some (a + 2))) := ⟨_, rfl⟩
  rw [← hw8]
  have c8_z : ctS w8 f7_z j7 w f j a 11 cL_X11_7 cP_X11_8 cV_X11_7 cZ_X11_7 := by rw [hw8]; exact ctS_putP (k := 4) (o := 0) (t := 2) c7_z (by decide) (by decide +kernel)
  refine r_aloadR0 dX11_init_39 ?_
  refine m_new (ctS_S c8_z) zn_RX11_30 dX11_init_40 (by first | exact Nat.le_of_ble_eq_true rfl | decide) (by first | exact Nat.le_of_ble_eq_true rfl | decide) (fun w9 f9_z j9 n9 m9_z p9 => ?_)
  refine zR_b (b2 := (11, 1841)) rfl ?_
  refine r_dup dX11_init_43 rfl ?_
  refine r_callI (n := 0) (As := []) (b2 := (40, 254)) (Or.inl zm_RX11_32) zin_yX7_init zini_RX7 zcode_yX7_init rfl ⟨by decide, by decide, by decide +kernel⟩ (by decide) dX11_init_44 (s_X7_init (a := a + 11) (w := w9) (f := f9_z) (j := j9) G (by rw [n9.1]) n9.2.1 n9.2.2.1 m9_z.2 (fun w10 f10 j10 s10 => ?_)) rfl rfl (by first | exact Nat.le_of_ble_eq_true rfl | decide) (by first | exact Nat.le_of_ble_eq_true rfl | decide) (by first | exact Nat.le_of_ble_eq_true rfl | decide) (by first | exact Nat.le_of_ble_eq_true rfl | decide) (by first | exact Nat.le_of_ble_eq_true rfl | decide) (fun r w9 h9 => h9)
  have c10 : ctS w10 f10 j10 w f j a 52 cL_X11_10 cP_X11_10 cV_X11_10 cZ_X11_10 := ctS_sub (c := 11) (c2_z := 41) (L := cL_X11_7) (PL := cP_X11_8) (VL := cV_X11_7) (ZL := cZ_X11_7) (L2 := cL_X7) (PL2 := cP_X7) (VL2 := cV_X7) (ZL2 := cZ_X7) c8_z n9 m9_z p9 s10
  refine zR_b (b2 := (51, 2095)) rfl ?_
  refine m_putPF (q := (a + 11)) zf_RX11_33 (by intro C T N h_z; cases h_z; exact ⟨rfl, rfl⟩) rfl rfl dX11_init_47 (c10.2.2.1 (0, 10, 0) (List.mem_of_getElem? (i := 0) (by decide +kernel))).2.1 ?_
  obtain ⟨w11, hw11⟩ : ∃ u9, u9 = zsP w10 (zu (zP w10) a 5 (some (a + 11))) := ⟨_, rfl⟩
  rw [← hw11]
  have c11 : ctS w11 f10 j10 w f j a 52 cL_X11_10 cP_X11_11 cV_X11_10 cZ_X11_10 := by rw [hw11]; exact ctS_putP (k := 5) (o := 0) (t := 11) c10 (by decide) (by decide +kernel)
  refine r_aloadR0 dX11_init_50 ?_
  refine n_iconst dX11_init_51 (by decide) (fun r5 e5_z => ?_)
  refine m_newQ (ci := 6) (N := 3) (ctS_S c11) (zt1 (List.mem_of_getElem? (i := 134) (by decide +kernel)) (by decide +kernel)) (by decide +kernel) dX11_init_52 (by omega) (by decide) (by first | exact Nat.le_of_ble_eq_true rfl | decide) (by first | exact Nat.le_of_ble_eq_true rfl | decide) (fun w12 f12 j12 n12 m12 p12 => ?_)
  have c12 : ctS w12 f12 j12 w f j a 53 cL_X11_12 cP_X11_11 cV_X11_10 cZ_X11_12 := ctS_new c11 n12 m12 p12
  refine zR_b (b2 := (52, 2098)) rfl ?_
  refine m_putPF (q := (a + 52)) zf_RX11_37 (by intro C T N h_z; cases h_z; exact ⟨rfl, rfl⟩) rfl rfl dX11_init_55 (c12.2.2.1 (0, 10, 0) (List.mem_of_getElem? (i := 0) (by decide +kernel))).2.1 ?_
  obtain ⟨w13, hw13⟩ : ∃ u9, u9 = zsP w12 (zu (zP w12) a 6 (some (a + 52))) := ⟨_, rfl⟩
  rw [← hw13]
  have c13 : ctS w13 f12 j12 w f j a 53 cL_X11_12 cP_X11_13 cV_X11_10 cZ_X11_12 := by rw [hw13]; exact ctS_putP (k := 6) (o := 0) (t := 52) c12 (by decide) (by decide +kernel)
  refine r_aloadR0 dX11_init_58 ?_
  refine n_iconst dX11_init_59 (by decide) (fun r6 e6_z => ?_)
  refine m_newZ (N := 3) (ctS_S c13) dX11_init_60 (by omega) (by decide) (by first | exact Nat.le_of_ble_eq_true rfl | decide) (by first | exact Nat.le_of_ble_eq_true rfl | decide) (fun w14 f14 j14 n14 m14 p14 => ?_)
  have c14 : ctS w14 f14 j14 w f j a 54 cL_X11_14 cP_X11_13 cV_X11_10 cZ_X11_14 := ctS_new c13 n14 m14 p14
  refine zR_b (b2 := (53, 2101)) rfl ?_
  refine m_putPF (q := (a + 53)) zf_RX11_41 (by intro C T N h_z; cases h_z; exact ⟨rfl, rfl⟩) rfl rfl dX11_init_62 (c14.2.2.1 (0, 10, 0) (List.mem_of_getElem? (i := 0) (by decide +kernel))).2.1 ?_
  obtain ⟨w15, hw15⟩ : ∃ u9, u9 = zsP w14 (zu (zP w14) a 7 (some (a + 53))) := ⟨_, rfl⟩
  rw [← hw15]
  have c15 : ctS w15 f14 j14 w f j a 54 cL_X11_14 cP_X11_15 cV_X11_10 cZ_X11_14 := by rw [hw15]; exact ctS_putP (k := 7) (o := 0) (t := 53) c14 (by decide) (by decide +kernel)
  refine r_aloadR0 dX11_init_65 ?_
  refine n_iconst dX11_init_66 (by decide) (fun r7 e7_z => ?_)
  refine m_newQ (ci := 7) (N := 4) (ctS_S c15) (zt1 (List.mem_of_getElem? (i := 178) (by decide +kernel)) (by decide +kernel)) (by decide +kernel) dX11_init_67 (by omega) (by decide) (by first | exact Nat.le_of_ble_eq_true rfl | decide) (by first | exact Nat.le_of_ble_eq_true rfl | decide) (fun w16 f16 j16 n16 m16 p16 => ?_)
  have c16 : ctS w16 f16 j16 w f j a 55 cL_X11_16 cP_X11_15 cV_X11_10 cZ_X11_16 := ctS_new c15 n16 m16 p16
  refine zR_b (b2 := (54, 2105)) rfl ?_
  refine m_putPF (q := (a + 54)) zf_RX11_47 (by intro C T N h_z; cases h_z; exact ⟨rfl, rfl⟩) rfl rfl dX11_init_70 (c16.2.2.1 (0, 10, 0) (List.mem_of_getElem? (i := 0) (by decide +kernel))).2.1 ?_
  obtain ⟨w17, hw17⟩ : ∃ u9, u9 = zsP w16 (zu (zP w16) a 8 (some (a + 54))) := ⟨_, rfl⟩
  rw [← hw17]
  have c17 : ctS w17 f16 j16 w f j a 55 cL_X11_16 cP_X11_17 cV_X11_10 cZ_X11_16 := by rw [hw17]; exact ctS_putP (k := 8) (o := 0) (t := 54) c16 (by decide) (by decide +kernel)
  refine r_aloadR0 dX11_init_73 ?_
  refine m_new (ctS_S c17) zn_RX11_51 dX11_init_74 (by first | exact Nat.le_of_ble_eq_true rfl | decide) (by first | exact Nat.le_of_ble_eq_true rfl | decide) (fun w18 f18 j18 n18 m18 p18 => ?_)
  refine zR_b (b2 := (55, 2107)) rfl ?_
  refine r_dup dX11_init_77 rfl ?_
  refine r_callI (n := 0) (As := []) (b2 := (2, 72)) (Or.inr ⟨"NapkinDeeds", List.mem_of_getElem? (i := 4) rfl⟩) zin_yX6_init zini_RX6 zcode_yX6_init rfl ⟨by decide, by decide, by decide +kernel⟩ (by decide) dX11_init_78 (s_X6_init (a := a + 55) (w := w18) (f := f18) (j := j18) G (by rw [n18.1]) n18.2.1 n18.2.2.1 m18.2 (fun w19 f19 j19 s19 => ?_)) rfl rfl (by first | exact Nat.le_of_ble_eq_true rfl | decide) (by first | exact Nat.le_of_ble_eq_true rfl | decide) (by first | exact Nat.le_of_ble_eq_true rfl | decide) (by first | exact Nat.le_of_ble_eq_true rfl | decide) (by first | exact Nat.le_of_ble_eq_true rfl | decide) (fun r w9 h9 => h9)
  have c19 : ctS w19 f19 j19 w f j a 58 cL_X11_19 cP_X11_19 cV_X11_19 cZ_X11_19 := ctS_sub (c := 55) (c2_z := 3) (L := cL_X11_16) (PL := cP_X11_17) (VL := cV_X11_10) (ZL := cZ_X11_16) (L2 := cL_X6) (PL2 := cP_X6) (VL2 := cV_X6) (ZL2 := cZ_X6) c17 n18 m18 p18 s19
  refine zR_b (b2 := (57, 2179)) rfl ?_
  refine m_putPF (q := (a + 55)) zf_RX11_54 (by intro C T N h_z; cases h_z; exact ⟨rfl, rfl⟩) rfl rfl dX11_init_81 (c19.2.2.1 (0, 10, 0) (List.mem_of_getElem? (i := 0) (by decide +kernel))).2.1 ?_
  obtain ⟨w20, hw20⟩ : ∃ u9, u9 = zsP w19 (zu (zP w19) a 9 (some (a + 55))) := ⟨_, rfl⟩
  rw [← hw20]
  have c20 : ctS w20 f19 j19 w f j a 58 cL_X11_19 cP_X11_20 cV_X11_19 cZ_X11_19 := by rw [hw20]; exact ctS_putP (k := 9) (o := 0) (t := 55) c19 (by decide) (by decide +kernel)
  refine r_aloadR0 dX11_init_84 ?_
  refine m_new (ctS_S c20) zn_RX11_58 dX11_init_85 (by first | exact Nat.le_of_ble_eq_true rfl | decide) (by first | exact Nat.le_of_ble_eq_true rfl | decide) (fun w21 f21 j21 n21 m21 p21 => ?_)
  refine zR_b (b2 := (58, 2192)) rfl ?_
  refine r_dup dX11_init_88 rfl ?_
  refine r_callI (n := 0) (As := []) (b2 := (17, 10286)) (Or.inr ⟨"NapkinDeeds", List.mem_of_getElem? (i := 5) rfl⟩) zin_yX9_init zini_RX9 zcode_yX9_init rfl ⟨by decide, by decide, by decide +kernel⟩ (by decide) dX11_init_89 (s_X9_init (a := a + 58) (w := w21) (f := f21) (j := j21) G (by rw [n21.1]) n21.2.1 n21.2.2.1 m21.2 (fun w22 f22 j22 s22 => ?_)) rfl rfl (by first | exact Nat.le_of_ble_eq_true rfl | decide) (by first | exact Nat.le_of_ble_eq_true rfl | decide) (by first | exact Nat.le_of_ble_eq_true rfl | decide) (by first | exact Nat.le_of_ble_eq_true rfl | decide) (by first | exact Nat.le_of_ble_eq_true rfl | decide) (fun r w9 h9 => h9)
  have c22 : ctS w22 f22 j22 w f j a 76 cL_X11_22 cP_X11_22 cV_X11_22 cZ_X11_22 := ctS_sub (c := 58) (c2_z := 18) (L := cL_X11_19) (PL := cP_X11_20) (VL := cV_X11_19) (ZL := cZ_X11_19) (L2 := cL_X9) (PL2 := cP_X9) (VL2 := cV_X9) (ZL2 := cZ_X9) c20 n21 m21 p21 s22
  refine zR_b (b2 := (75, 12478)) rfl ?_
  refine m_putPF (q := (a + 58)) zf_RX11_61 (by intro C T N h_z; cases h_z; exact ⟨rfl, rfl⟩) rfl rfl dX11_init_92 (c22.2.2.1 (0, 10, 0) (List.mem_of_getElem? (i := 0) (by decide +kernel))).2.1 ?_
  obtain ⟨w23, hw23⟩ : ∃ u9, u9 = zsP w22 (zu (zP w22) a 10 (some (a + 58))) := ⟨_, rfl⟩
  rw [← hw23]
  have c23 : ctS w23 f22 j22 w f j a 76 cL_X11_22 cP_X11_23 cV_X11_22 cZ_X11_22 := by rw [hw23]; exact ctS_putP (k := 10) (o := 0) (t := 58) c22 (by decide) (by decide +kernel)
  refine r_aloadR0 dX11_init_95 ?_
  refine m_new (ctS_S c23) zn_RX11_58 dX11_init_96 (by first | exact Nat.le_of_ble_eq_true rfl | decide) (by first | exact Nat.le_of_ble_eq_true rfl | decide) (fun w24 f24 j24 n24 m24 p24 => ?_)
  refine zR_b (b2 := (76, 12491)) rfl ?_
  refine r_dup dX11_init_99 rfl ?_
  refine r_callI (n := 0) (As := []) (b2 := (17, 10286)) (Or.inr ⟨"NapkinDeeds", List.mem_of_getElem? (i := 5) rfl⟩) zin_yX9_init zini_RX9 zcode_yX9_init rfl ⟨by decide, by decide, by decide +kernel⟩ (by decide) dX11_init_100 (s_X9_init (a := a + 76) (w := w24) (f := f24) (j := j24) G (by rw [n24.1]) n24.2.1 n24.2.2.1 m24.2 (fun w25 f25 j25 s25 => ?_)) rfl rfl (by first | exact Nat.le_of_ble_eq_true rfl | decide) (by first | exact Nat.le_of_ble_eq_true rfl | decide) (by first | exact Nat.le_of_ble_eq_true rfl | decide) (by first | exact Nat.le_of_ble_eq_true rfl | decide) (by first | exact Nat.le_of_ble_eq_true rfl | decide) (fun r w9 h9 => h9)
  have c25 : ctS w25 f25 j25 w f j a 94 cL_X11_25 cP_X11_25 cV_X11_25 cZ_X11_25 := ctS_sub (c := 76) (c2_z := 18) (L := cL_X11_22) (PL := cP_X11_23) (VL := cV_X11_22) (ZL := cZ_X11_22) (L2 := cL_X9) (PL2 := cP_X9) (VL2 := cV_X9) (ZL2 := cZ_X9) c23 n24 m24 p24 s25
  refine zR_b (b2 := (93, 22777)) rfl ?_
  refine m_putPF (q := (a + 76)) zf_RX11_65 (by intro C T N h_z; cases h_z; exact ⟨rfl, rfl⟩) rfl rfl dX11_init_103 (c25.2.2.1 (0, 10, 0) (List.mem_of_getElem? (i := 0) (by decide +kernel))).2.1 ?_
  obtain ⟨w26, hw26⟩ : ∃ u9, u9 = zsP w25 (zu (zP w25) a 11 (some (a + 76))) := ⟨_, rfl⟩
  rw [← hw26]
  have c26 : ctS w26 f25 j25 w f j a 94 cL_X11_25 cP_X11_26 cV_X11_25 cZ_X11_25 := by rw [hw26]; exact ctS_putP (k := 11) (o := 0) (t := 76) c25 (by decide) (by decide +kernel)
  refine r_aloadR0 dX11_init_106 ?_
  refine m_new (ctS_S c26) zn_RX11_68 dX11_init_107 (by first | exact Nat.le_of_ble_eq_true rfl | decide) (by first | exact Nat.le_of_ble_eq_true rfl | decide) (fun w27 f27 j27 n27 m27 p27 => ?_)
  refine zR_b (b2 := (94, 22782)) rfl ?_
  refine r_dup dX11_init_110 rfl ?_
  refine r_callI (n := 0) (As := []) (b2 := (3, 18)) (Or.inr ⟨"NapkinDeeds", List.mem_of_getElem? (i := 7) rfl⟩) zin_yX2_init zini_RX2 zcode_yX2_init rfl ⟨by decide, by decide, by decide +kernel⟩ (by decide) dX11_init_111 (s_X2_init (a := a + 94) (w := w27) (f := f27) (j := j27) G (by rw [n27.1]) n27.2.1 n27.2.2.1 m27.2 (fun w28 f28 j28 s28 => ?_)) rfl rfl (by first | exact Nat.le_of_ble_eq_true rfl | decide) (by first | exact Nat.le_of_ble_eq_true rfl | decide) (by first | exact Nat.le_of_ble_eq_true rfl | decide) (by first | exact Nat.le_of_ble_eq_true rfl | decide) (by first | exact Nat.le_of_ble_eq_true rfl | decide) (fun r w9 h9 => h9)
  have c28 : ctS w28 f28 j28 w f j a 98 cL_X11_28 cP_X11_28 cV_X11_28 cZ_X11_28 := ctS_sub (c := 94) (c2_z := 4) (L := cL_X11_25) (PL := cP_X11_26) (VL := cV_X11_25) (ZL := cZ_X11_25) (L2 := cL_X2) (PL2 := cP_X2) (VL2 := cV_X2) (ZL2 := cZ_X2) c26 n27 m27 p27 s28
  refine zR_b (b2 := (97, 22800)) rfl ?_
  refine m_putPF (q := (a + 94)) zf_RX11_71 (by intro C T N h_z; cases h_z; exact ⟨rfl, rfl⟩) rfl rfl dX11_init_114 (c28.2.2.1 (0, 10, 0) (List.mem_of_getElem? (i := 0) (by decide +kernel))).2.1 ?_
  obtain ⟨w29, hw29⟩ : ∃ u9, u9 = zsP w28 (zu (zP w28) a 12 (some (a + 94))) := ⟨_, rfl⟩
  rw [← hw29]
  have c29 : ctS w29 f28 j28 w f j a 98 cL_X11_28 cP_X11_29 cV_X11_28 cZ_X11_28 := by rw [hw29]; exact ctS_putP (k := 12) (o := 0) (t := 94) c28 (by decide) (by decide +kernel)
  refine r_aloadR0 dX11_init_117 ?_
  refine m_new (ctS_S c29) zn_RX11_68 dX11_init_118 (by first | exact Nat.le_of_ble_eq_true rfl | decide) (by first | exact Nat.le_of_ble_eq_true rfl | decide) (fun w30 f30 j30 n30 m30 p30 => ?_)
  refine zR_b (b2 := (98, 22805)) rfl ?_
  refine r_dup dX11_init_121 rfl ?_
  refine r_callI (n := 0) (As := []) (b2 := (3, 18)) (Or.inr ⟨"NapkinDeeds", List.mem_of_getElem? (i := 7) rfl⟩) zin_yX2_init zini_RX2 zcode_yX2_init rfl ⟨by decide, by decide, by decide +kernel⟩ (by decide) dX11_init_122 (s_X2_init (a := a + 98) (w := w30) (f := f30) (j := j30) G (by rw [n30.1]) n30.2.1 n30.2.2.1 m30.2 (fun w31 f31 j31 s31 => ?_)) rfl rfl (by first | exact Nat.le_of_ble_eq_true rfl | decide) (by first | exact Nat.le_of_ble_eq_true rfl | decide) (by first | exact Nat.le_of_ble_eq_true rfl | decide) (by first | exact Nat.le_of_ble_eq_true rfl | decide) (by first | exact Nat.le_of_ble_eq_true rfl | decide) (fun r w9 h9 => h9)
  have c31 : ctS w31 f31 j31 w f j a 102 cL_X11_31 cP_X11_31 cV_X11_31 cZ_X11_31 := ctS_sub (c := 98) (c2_z := 4) (L := cL_X11_28) (PL := cP_X11_29) (VL := cV_X11_28) (ZL := cZ_X11_28) (L2 := cL_X2) (PL2 := cP_X2) (VL2 := cV_X2) (ZL2 := cZ_X2) c29 n30 m30 p30 s31
  refine zR_b (b2 := (101, 22823)) rfl ?_
  refine m_putPF (q := (a + 98)) zf_RX11_75 (by intro C T N h_z; cases h_z; exact ⟨rfl, rfl⟩) rfl rfl dX11_init_125 (c31.2.2.1 (0, 10, 0) (List.mem_of_getElem? (i := 0) (by decide +kernel))).2.1 ?_
  obtain ⟨w32, hw32⟩ : ∃ u9, u9 = zsP w31 (zu (zP w31) a 13 (some (a + 98))) := ⟨_, rfl⟩
  rw [← hw32]
  have c32 : ctS w32 f31 j31 w f j a 102 cL_X11_31 cP_X11_32 cV_X11_31 cZ_X11_31 := by rw [hw32]; exact ctS_putP (k := 13) (o := 0) (t := 98) c31 (by decide) (by decide +kernel)
  refine r_aloadR0 dX11_init_128 ?_
  refine m_new (ctS_S c32) zn_RX11_78 dX11_init_129 (by first | exact Nat.le_of_ble_eq_true rfl | decide) (by first | exact Nat.le_of_ble_eq_true rfl | decide) (fun w33 f33 j33 n33 m33 p33 => ?_)
  refine zR_b (b2 := (102, 22826)) rfl ?_
  refine r_dup dX11_init_132 rfl ?_
  refine r_callI (n := 0) (As := []) (b2 := (2, 17)) (Or.inr ⟨"NapkinDeeds", List.mem_of_getElem? (i := 8) rfl⟩) zin_yX3_init zini_RX3 zcode_yX3_init rfl ⟨by decide, by decide, by decide +kernel⟩ (by decide) dX11_init_133 (s_X3_init (a := a + 102) (w := w33) (f := f33) (j := j33) G (by rw [n33.1]) n33.2.1 n33.2.2.1 m33.2 (fun w34 f34 j34 s34 => ?_)) rfl rfl (by first | exact Nat.le_of_ble_eq_true rfl | decide) (by first | exact Nat.le_of_ble_eq_true rfl | decide) (by first | exact Nat.le_of_ble_eq_true rfl | decide) (by first | exact Nat.le_of_ble_eq_true rfl | decide) (by first | exact Nat.le_of_ble_eq_true rfl | decide) (fun r w9 h9 => h9)
  have c34 : ctS w34 f34 j34 w f j a 105 cL_X11_34 cP_X11_34 cV_X11_34 cZ_X11_34 := ctS_sub (c := 102) (c2_z := 3) (L := cL_X11_31) (PL := cP_X11_32) (VL := cV_X11_31) (ZL := cZ_X11_31) (L2 := cL_X3) (PL2 := cP_X3) (VL2 := cV_X3) (ZL2 := cZ_X3) c32 n33 m33 p33 s34
  refine zR_b (b2 := (104, 22843)) rfl ?_
  refine m_putPF (q := (a + 102)) zf_RX11_81 (by intro C T N h_z; cases h_z; exact ⟨rfl, rfl⟩) rfl rfl dX11_init_136 (c34.2.2.1 (0, 10, 0) (List.mem_of_getElem? (i := 0) (by decide +kernel))).2.1 ?_
  obtain ⟨w35, hw35⟩ : ∃ u9, u9 = zsP w34 (zu (zP w34) a 14 (some (a + 102))) := ⟨_, rfl⟩
  rw [← hw35]
  have c35 : ctS w35 f34 j34 w f j a 105 cL_X11_34 cP_X11_35 cV_X11_34 cZ_X11_34 := by rw [hw35]; exact ctS_putP (k := 14) (o := 0) (t := 102) c34 (by decide) (by decide +kernel)
  refine r_aloadR0 dX11_init_139 ?_
  refine n_bipush dX11_init_140 (by decide) (fun r8 e8 => ?_)
  refine m_newI (N := 6) (ctS_S c35) dX11_init_142 (by omega) (by decide) (by first | exact Nat.le_of_ble_eq_true rfl | decide) (by first | exact Nat.le_of_ble_eq_true rfl | decide) (fun w36 f36 j36 n36 m36 p36 => ?_)
  have c36 : ctS w36 f36 j36 w f j a 106 cL_X11_36 cP_X11_35 cV_X11_34 cZ_X11_36 := ctS_new c35 n36 m36 p36
  refine zR_b (b2 := (105, 22849)) rfl ?_
  refine m_putPF (q := (a + 105)) zf_RX11_85 (by intro C T N h_z; cases h_z; exact ⟨rfl, rfl⟩) rfl rfl dX11_init_144 (c36.2.2.1 (0, 10, 0) (List.mem_of_getElem? (i := 0) (by decide +kernel))).2.1 ?_
  obtain ⟨w37, hw37⟩ : ∃ u9, u9 = zsP w36 (zu (zP w36) a 15 (some (a + 105))) := ⟨_, rfl⟩
  rw [← hw37]
  have c37 : ctS w37 f36 j36 w f j a 106 cL_X11_36 cP_X11_37 cV_X11_34 cZ_X11_36 := by rw [hw37]; exact ctS_putP (k := 15) (o := 0) (t := 105) c36 (by decide) (by decide +kernel)
  refine r_aloadR0 dX11_init_147 ?_
  refine n_iconst dX11_init_148 (by decide) (fun r9 e9_z => ?_)
  refine m_newI (N := 4) (ctS_S c37) dX11_init_149 (by omega) (by decide) (by first | exact Nat.le_of_ble_eq_true rfl | decide) (by first | exact Nat.le_of_ble_eq_true rfl | decide) (fun w38 f38 j38 n38 m38 p38 => ?_)
  have c38 : ctS w38 f38 j38 w f j a 107 cL_X11_38 cP_X11_37 cV_X11_34 cZ_X11_38 := ctS_new c37 n38 m38 p38
  refine zR_b (b2 := (106, 22853)) rfl ?_
  refine m_putPF (q := (a + 106)) zf_RX11_89 (by intro C T N h_z; cases h_z; exact ⟨rfl, rfl⟩) rfl rfl dX11_init_151 (c38.2.2.1 (0, 10, 0) (List.mem_of_getElem? (i := 0) (by decide +kernel))).2.1 ?_
  obtain ⟨w39, hw39⟩ : ∃ u9, u9 = zsP w38 (zu (zP w38) a 16 (some (a + 106))) := ⟨_, rfl⟩
  rw [← hw39]
  have c39 : ctS w39 f38 j38 w f j a 107 cL_X11_38 cP_X11_39 cV_X11_34 cZ_X11_38 := by rw [hw39]; exact ctS_putP (k := 16) (o := 0) (t := 106) c38 (by decide) (by decide +kernel)
  refine r_aloadR0 dX11_init_154 ?_
  refine n_bipush dX11_init_155 (by decide) (fun r10 e10_z => ?_)
  refine m_newI (N := 100) (ctS_S c39) dX11_init_157 (by omega) (by decide) (by first | exact Nat.le_of_ble_eq_true rfl | decide) (by first | exact Nat.le_of_ble_eq_true rfl | decide) (fun w40 f40 j40 n40 m40 p40 => ?_)
  have c40 : ctS w40 f40 j40 w f j a 108 cL_X11_40 cP_X11_39 cV_X11_34 cZ_X11_40 := ctS_new c39 n40 m40 p40
  refine zR_b (b2 := (107, 22953)) rfl ?_
  refine m_putPF (q := (a + 107)) zf_RX11_92 (by intro C T N h_z; cases h_z; exact ⟨rfl, rfl⟩) rfl rfl dX11_init_159 (c40.2.2.1 (0, 10, 0) (List.mem_of_getElem? (i := 0) (by decide +kernel))).2.1 ?_
  obtain ⟨w41, hw41⟩ : ∃ u9, u9 = zsP w40 (zu (zP w40) a 17 (some (a + 107))) := ⟨_, rfl⟩
  rw [← hw41]
  have c41 : ctS w41 f40 j40 w f j a 108 cL_X11_40 cP_X11_41 cV_X11_34 cZ_X11_40 := by rw [hw41]; exact ctS_putP (k := 17) (o := 0) (t := 107) c40 (by decide) (by decide +kernel)
  refine r_aloadR0 dX11_init_162 ?_
  refine n_sipush dX11_init_163 (by decide) (fun r11 e11_z => ?_)
  refine m_newI (N := 720) (ctS_S c41) dX11_init_166 (by omega) (by decide) (by first | exact Nat.le_of_ble_eq_true rfl | decide) (by first | exact Nat.le_of_ble_eq_true rfl | decide) (fun w42 f42 j42 n42 m42 p42 => ?_)
  have c42 : ctS w42 f42 j42 w f j a 109 cL_X11_42 cP_X11_41 cV_X11_34 cZ_X11_42 := ctS_new c41 n42 m42 p42
  refine zR_b (b2 := (108, 23673)) rfl ?_
  refine m_putPF (q := (a + 108)) zf_RX11_95 (by intro C T N h_z; cases h_z; exact ⟨rfl, rfl⟩) rfl rfl dX11_init_168 (c42.2.2.1 (0, 10, 0) (List.mem_of_getElem? (i := 0) (by decide +kernel))).2.1 ?_
  obtain ⟨w43, hw43⟩ : ∃ u9, u9 = zsP w42 (zu (zP w42) a 18 (some (a + 108))) := ⟨_, rfl⟩
  rw [← hw43]
  have c43 : ctS w43 f42 j42 w f j a 109 cL_X11_42 cP_X11_43 cV_X11_34 cZ_X11_42 := by rw [hw43]; exact ctS_putP (k := 18) (o := 0) (t := 108) c42 (by decide) (by decide +kernel)
  refine n_iconst dX11_init_171 (by decide) (fun r12 e12_z => ?_)
  refine r_istore1 dX11_init_172 rfl ?_
  refine r_iload1 dX11_init_173 ?_
  refine r_aloadR0 dX11_init_174 ?_
  refine m_getR (q := (a + 52)) zf_RX11_37 rfl dX11_init_175 (c43.2.2.1 (0, 10, 0) (List.mem_of_getElem? (i := 0) (by decide +kernel))).2.1 (c43.2.2.2.1 (0, 6, 52) (List.mem_of_getElem? (i := 51) (by decide +kernel))).2 ?_
  refine m_alen (n := 3) dX11_init_178 (zge (c43.2.2.1 (52, 36, 3) (List.mem_of_getElem? (i := 52) (by decide +kernel))).2.1 (by decide)) (c43.2.2.1 (52, 36, 3) (List.mem_of_getElem? (i := 52) (by decide +kernel))).2.2 (by decide) (fun r13 e13_z => ?_)
  refine t_icge (t := 201) dX11_init_179 (by decide) (fun h179 => False.elim (by omega)) (fun h179 => ?_)
  refine r_aloadR0 dX11_init_182 ?_
  refine m_getR (q := (a + 52)) zf_RX11_37 rfl dX11_init_183 (c43.2.2.1 (0, 10, 0) (List.mem_of_getElem? (i := 0) (by decide +kernel))).2.1 (c43.2.2.2.1 (0, 6, 52) (List.mem_of_getElem? (i := 51) (by decide +kernel))).2 ?_
  refine r_iload1 dX11_init_186 ?_
  refine m_new (ctS_S c43) zn_RX11_30 dX11_init_187 (by first | exact Nat.le_of_ble_eq_true rfl | decide) (by first | exact Nat.le_of_ble_eq_true rfl | decide) (fun w44 f44 j44 n44 m44 p44 => ?_)
  refine zR_b (b2 := (109, 23677)) rfl ?_
  refine r_dup dX11_init_190 rfl ?_
  refine r_callI (n := 0) (As := []) (b2 := (40, 254)) (Or.inl zm_RX11_32) zin_yX7_init zini_RX7 zcode_yX7_init rfl ⟨by decide, by decide, by decide +kernel⟩ (by decide) dX11_init_191 (s_X7_init (a := a + 109) (w := w44) (f := f44) (j := j44) G (by rw [n44.1]) n44.2.1 n44.2.2.1 m44.2 (fun w45 f45 j45 s45 => ?_)) rfl rfl (by first | exact Nat.le_of_ble_eq_true rfl | decide) (by first | exact Nat.le_of_ble_eq_true rfl | decide) (by first | exact Nat.le_of_ble_eq_true rfl | decide) (by first | exact Nat.le_of_ble_eq_true rfl | decide) (by first | exact Nat.le_of_ble_eq_true rfl | decide) (fun r w9 h9 => h9)
  have c45 : ctS w45 f45 j45 w f j a 150 cL_X11_45 cP_X11_45 cV_X11_45 cZ_X11_45 := ctS_sub (c := 109) (c2_z := 41) (L := cL_X11_42) (PL := cP_X11_43) (VL := cV_X11_34) (ZL := cZ_X11_42) (L2 := cL_X7) (PL2 := cP_X7) (VL2 := cV_X7) (ZL2 := cZ_X7) c43 n44 m44 p44 s45
  refine zR_b (b2 := (149, 23931)) rfl ?_
  refine m_aast (ci := 6) (k := 0) dX11_init_194 (by decide) (c45.2.2.1 (52, 36, 3) (List.mem_of_getElem? (i := 52) (by decide +kernel))).2.1 (c45.2.2.1 (52, 36, 3) (List.mem_of_getElem? (i := 52) (by decide +kernel))).2.2 (by omega) (by decide) (c45.2.2.1 (109, 7, 0) (List.mem_of_getElem? (i := 109) (by decide +kernel))).2.1 ?_
  obtain ⟨w46, hw46⟩ : ∃ u9, u9 = zsP w45 (zu (zP w45) (a + 52) 0 (some (a + 109))) := ⟨_, rfl⟩
  rw [← hw46]
  have c46 : ctS w46 f45 j45 w f j a 150 cL_X11_45 cP_X11_46 cV_X11_45 cZ_X11_45 := by rw [hw46]; exact ctS_putP (k := 0) (o := 52) (t := 109) c45 (by decide) (by decide +kernel)
  refine n_iinc1 dX11_init_195 (by decide) rfl (by omega) (fun r14 e14_z => ?_)
  refine r_goto (t := 173) dX11_init_198 (by decide) ?_
  refine r_iload1 dX11_init_173 ?_
  refine r_aloadR0 dX11_init_174 ?_
  refine m_getR (q := (a + 52)) zf_RX11_37 rfl dX11_init_175 (c46.2.2.1 (0, 10, 0) (List.mem_of_getElem? (i := 0) (by decide +kernel))).2.1 (c46.2.2.2.1 (0, 6, 52) (List.mem_of_getElem? (i := 51) (by decide +kernel))).2 ?_
  refine m_alen (n := 3) dX11_init_178 (zge (c46.2.2.1 (52, 36, 3) (List.mem_of_getElem? (i := 52) (by decide +kernel))).2.1 (by decide)) (c46.2.2.1 (52, 36, 3) (List.mem_of_getElem? (i := 52) (by decide +kernel))).2.2 (by decide) (fun r15 e15_z => ?_)
  refine t_icge (t := 201) dX11_init_179 (by decide) (fun h179 => False.elim (by omega)) (fun h179 => ?_)
  refine r_aloadR0 dX11_init_182 ?_
  refine m_getR (q := (a + 52)) zf_RX11_37 rfl dX11_init_183 (c46.2.2.1 (0, 10, 0) (List.mem_of_getElem? (i := 0) (by decide +kernel))).2.1 (c46.2.2.2.1 (0, 6, 52) (List.mem_of_getElem? (i := 51) (by decide +kernel))).2 ?_
  refine r_iload1 dX11_init_186 ?_
  refine m_new (ctS_S c46) zn_RX11_30 dX11_init_187 (by first | exact Nat.le_of_ble_eq_true rfl | decide) (by first | exact Nat.le_of_ble_eq_true rfl | decide) (fun w47 f47 j47 n47 m47 p47 => ?_)
  refine zR_b (b2 := (150, 23935)) rfl ?_
  refine r_dup dX11_init_190 rfl ?_
  refine r_callI (n := 0) (As := []) (b2 := (40, 254)) (Or.inl zm_RX11_32) zin_yX7_init zini_RX7 zcode_yX7_init rfl ⟨by decide, by decide, by decide +kernel⟩ (by decide) dX11_init_191 (s_X7_init (a := a + 150) (w := w47) (f := f47) (j := j47) G (by rw [n47.1]) n47.2.1 n47.2.2.1 m47.2 (fun w48 f48 j48 s48 => ?_)) rfl rfl (by first | exact Nat.le_of_ble_eq_true rfl | decide) (by first | exact Nat.le_of_ble_eq_true rfl | decide) (by first | exact Nat.le_of_ble_eq_true rfl | decide) (by first | exact Nat.le_of_ble_eq_true rfl | decide) (by first | exact Nat.le_of_ble_eq_true rfl | decide) (fun r w9 h9 => h9)
  have c48 : ctS w48 f48 j48 w f j a 191 cL_X11_48 cP_X11_48 cV_X11_48 cZ_X11_48 := ctS_sub (c := 150) (c2_z := 41) (L := cL_X11_45) (PL := cP_X11_46) (VL := cV_X11_45) (ZL := cZ_X11_45) (L2 := cL_X7) (PL2 := cP_X7) (VL2 := cV_X7) (ZL2 := cZ_X7) c46 n47 m47 p47 s48
  refine zR_b (b2 := (190, 24189)) rfl ?_
  refine m_aast (ci := 6) (k := 1) dX11_init_194 (by decide) (c48.2.2.1 (52, 36, 3) (List.mem_of_getElem? (i := 52) (by decide +kernel))).2.1 (c48.2.2.1 (52, 36, 3) (List.mem_of_getElem? (i := 52) (by decide +kernel))).2.2 (by omega) (by decide) (c48.2.2.1 (150, 7, 0) (List.mem_of_getElem? (i := 150) (by decide +kernel))).2.1 ?_
  obtain ⟨w49, hw49⟩ : ∃ u9, u9 = zsP w48 (zu (zP w48) (a + 52) 1 (some (a + 150))) := ⟨_, rfl⟩
  rw [← hw49]
  have c49 : ctS w49 f48 j48 w f j a 191 cL_X11_48 cP_X11_49 cV_X11_48 cZ_X11_48 := by rw [hw49]; exact ctS_putP (k := 1) (o := 52) (t := 150) c48 (by decide) (by decide +kernel)
  refine n_iinc1 dX11_init_195 (by decide) rfl (by omega) (fun r16 e16_z => ?_)
  refine r_goto (t := 173) dX11_init_198 (by decide) ?_
  refine r_iload1 dX11_init_173 ?_
  refine r_aloadR0 dX11_init_174 ?_
  refine m_getR (q := (a + 52)) zf_RX11_37 rfl dX11_init_175 (c49.2.2.1 (0, 10, 0) (List.mem_of_getElem? (i := 0) (by decide +kernel))).2.1 (c49.2.2.2.1 (0, 6, 52) (List.mem_of_getElem? (i := 51) (by decide +kernel))).2 ?_
  refine m_alen (n := 3) dX11_init_178 (zge (c49.2.2.1 (52, 36, 3) (List.mem_of_getElem? (i := 52) (by decide +kernel))).2.1 (by decide)) (c49.2.2.1 (52, 36, 3) (List.mem_of_getElem? (i := 52) (by decide +kernel))).2.2 (by decide) (fun r17 e17_z => ?_)
  refine t_icge (t := 201) dX11_init_179 (by decide) (fun h179 => False.elim (by omega)) (fun h179 => ?_)
  refine r_aloadR0 dX11_init_182 ?_
  refine m_getR (q := (a + 52)) zf_RX11_37 rfl dX11_init_183 (c49.2.2.1 (0, 10, 0) (List.mem_of_getElem? (i := 0) (by decide +kernel))).2.1 (c49.2.2.2.1 (0, 6, 52) (List.mem_of_getElem? (i := 51) (by decide +kernel))).2 ?_
  refine r_iload1 dX11_init_186 ?_
  refine m_new (ctS_S c49) zn_RX11_30 dX11_init_187 (by first | exact Nat.le_of_ble_eq_true rfl | decide) (by first | exact Nat.le_of_ble_eq_true rfl | decide) (fun w50 f50 j50 n50 m50 p50 => ?_)
  refine zR_b (b2 := (191, 24193)) rfl ?_
  refine r_dup dX11_init_190 rfl ?_
  refine r_callI (n := 0) (As := []) (b2 := (40, 254)) (Or.inl zm_RX11_32) zin_yX7_init zini_RX7 zcode_yX7_init rfl ⟨by decide, by decide, by decide +kernel⟩ (by decide) dX11_init_191 (s_X7_init (a := a + 191) (w := w50) (f := f50) (j := j50) G (by rw [n50.1]) n50.2.1 n50.2.2.1 m50.2 (fun w51 f51 j51 s51 => ?_)) rfl rfl (by first | exact Nat.le_of_ble_eq_true rfl | decide) (by first | exact Nat.le_of_ble_eq_true rfl | decide) (by first | exact Nat.le_of_ble_eq_true rfl | decide) (by first | exact Nat.le_of_ble_eq_true rfl | decide) (by first | exact Nat.le_of_ble_eq_true rfl | decide) (fun r w9 h9 => h9)
  have c51 : ctS w51 f51 j51 w f j a 232 cL_X11_51 cP_X11_51 cV_X11_51 cZ_X11_51 := ctS_sub (c := 191) (c2_z := 41) (L := cL_X11_48) (PL := cP_X11_49) (VL := cV_X11_48) (ZL := cZ_X11_48) (L2 := cL_X7) (PL2 := cP_X7) (VL2 := cV_X7) (ZL2 := cZ_X7) c49 n50 m50 p50 s51
  refine zR_b (b2 := (231, 24447)) rfl ?_
  refine m_aast (ci := 6) (k := 2) dX11_init_194 (by decide) (c51.2.2.1 (52, 36, 3) (List.mem_of_getElem? (i := 52) (by decide +kernel))).2.1 (c51.2.2.1 (52, 36, 3) (List.mem_of_getElem? (i := 52) (by decide +kernel))).2.2 (by omega) (by decide) (c51.2.2.1 (191, 7, 0) (List.mem_of_getElem? (i := 191) (by decide +kernel))).2.1 ?_
  obtain ⟨w52, hw52⟩ : ∃ u9, u9 = zsP w51 (zu (zP w51) (a + 52) 2 (some (a + 191))) := ⟨_, rfl⟩
  rw [← hw52]
  have c52 : ctS w52 f51 j51 w f j a 232 cL_X11_51 cP_X11_52 cV_X11_51 cZ_X11_51 := by rw [hw52]; exact ctS_putP (k := 2) (o := 52) (t := 191) c51 (by decide) (by decide +kernel)
  refine n_iinc1 dX11_init_195 (by decide) rfl (by omega) (fun r18 e18_z => ?_)
  refine r_goto (t := 173) dX11_init_198 (by decide) ?_
  refine r_iload1 dX11_init_173 ?_
  refine r_aloadR0 dX11_init_174 ?_
  refine m_getR (q := (a + 52)) zf_RX11_37 rfl dX11_init_175 (c52.2.2.1 (0, 10, 0) (List.mem_of_getElem? (i := 0) (by decide +kernel))).2.1 (c52.2.2.2.1 (0, 6, 52) (List.mem_of_getElem? (i := 51) (by decide +kernel))).2 ?_
  refine m_alen (n := 3) dX11_init_178 (zge (c52.2.2.1 (52, 36, 3) (List.mem_of_getElem? (i := 52) (by decide +kernel))).2.1 (by decide)) (c52.2.2.1 (52, 36, 3) (List.mem_of_getElem? (i := 52) (by decide +kernel))).2.2 (by decide) (fun r19 e19_z => ?_)
  refine t_icge (t := 201) dX11_init_179 (by decide) (fun h179 => ?_) (fun h179 => False.elim (by omega))
  refine n_iconst dX11_init_201 (by decide) (fun r20 e20 => ?_)
  refine r_istore1 dX11_init_202 rfl ?_
  refine r_iload1 dX11_init_203 ?_
  refine r_aloadR0 dX11_init_204 ?_
  refine m_getR (q := (a + 54)) zf_RX11_47 rfl dX11_init_205 (c52.2.2.1 (0, 10, 0) (List.mem_of_getElem? (i := 0) (by decide +kernel))).2.1 (c52.2.2.2.1 (0, 8, 54) (List.mem_of_getElem? (i := 53) (by decide +kernel))).2 ?_
  refine m_alen (n := 4) dX11_init_208 (zge (c52.2.2.1 (54, 37, 4) (List.mem_of_getElem? (i := 54) (by decide +kernel))).2.1 (by decide)) (c52.2.2.1 (54, 37, 4) (List.mem_of_getElem? (i := 54) (by decide +kernel))).2.2 (by decide) (fun r21 e21_z => ?_)
  refine t_icge (t := 231) dX11_init_209 (by decide) (fun h209 => False.elim (by omega)) (fun h209 => ?_)
  refine r_aloadR0 dX11_init_212 ?_
  refine m_getR (q := (a + 54)) zf_RX11_47 rfl dX11_init_213 (c52.2.2.1 (0, 10, 0) (List.mem_of_getElem? (i := 0) (by decide +kernel))).2.1 (c52.2.2.2.1 (0, 8, 54) (List.mem_of_getElem? (i := 53) (by decide +kernel))).2 ?_
  refine r_iload1 dX11_init_216 ?_
  refine m_new (ctS_S c52) zn_RX11_45 dX11_init_217 (by first | exact Nat.le_of_ble_eq_true rfl | decide) (by first | exact Nat.le_of_ble_eq_true rfl | decide) (fun w53 f53 j53 n53 m53 p53 => ?_)
  refine zR_b (b2 := (232, 24451)) rfl ?_
  refine r_dup dX11_init_220 rfl ?_
  refine r_callI (n := 0) (As := []) (b2 := (1, 30)) (Or.inr ⟨"NapkinDeeds", List.mem_of_getElem? (i := 9) rfl⟩) zin_yX8_init zini_RX8 zcode_yX8_init rfl ⟨by decide, by decide, by decide +kernel⟩ (by decide) dX11_init_221 (s_X8_init (a := a + 232) (w := w53) (f := f53) (j := j53) G (by rw [n53.1]) n53.2.1 n53.2.2.1 m53.2 (fun w54 f54 j54 s54 => ?_)) rfl rfl (by first | exact Nat.le_of_ble_eq_true rfl | decide) (by first | exact Nat.le_of_ble_eq_true rfl | decide) (by first | exact Nat.le_of_ble_eq_true rfl | decide) (by first | exact Nat.le_of_ble_eq_true rfl | decide) (by first | exact Nat.le_of_ble_eq_true rfl | decide) (fun r w9 h9 => h9)
  have c54 : ctS w54 f54 j54 w f j a 234 cL_X11_54 cP_X11_54 cV_X11_54 cZ_X11_54 := ctS_sub (c := 232) (c2_z := 2) (L := cL_X11_51) (PL := cP_X11_52) (VL := cV_X11_51) (ZL := cZ_X11_51) (L2 := cL_X8) (PL2 := cP_X8) (VL2 := cV_X8) (ZL2 := cZ_X8) c52 n53 m53 p53 s54
  refine zR_b (b2 := (233, 24481)) rfl ?_
  refine m_aast (ci := 7) (k := 0) dX11_init_224 (by decide) (c54.2.2.1 (54, 37, 4) (List.mem_of_getElem? (i := 54) (by decide +kernel))).2.1 (c54.2.2.1 (54, 37, 4) (List.mem_of_getElem? (i := 54) (by decide +kernel))).2.2 (by omega) (by decide) (c54.2.2.1 (232, 8, 0) (List.mem_of_getElem? (i := 232) (by decide +kernel))).2.1 ?_
  obtain ⟨w55, hw55⟩ : ∃ u9, u9 = zsP w54 (zu (zP w54) (a + 54) 0 (some (a + 232))) := ⟨_, rfl⟩
  rw [← hw55]
  have c55 : ctS w55 f54 j54 w f j a 234 cL_X11_54 cP_X11_55 cV_X11_54 cZ_X11_54 := by rw [hw55]; exact ctS_putP (k := 0) (o := 54) (t := 232) c54 (by decide) (by decide +kernel)
  refine n_iinc1 dX11_init_225 (by decide) rfl (by omega) (fun r22 e22_z => ?_)
  refine r_goto (t := 203) dX11_init_228 (by decide) ?_
  refine r_iload1 dX11_init_203 ?_
  refine r_aloadR0 dX11_init_204 ?_
  refine m_getR (q := (a + 54)) zf_RX11_47 rfl dX11_init_205 (c55.2.2.1 (0, 10, 0) (List.mem_of_getElem? (i := 0) (by decide +kernel))).2.1 (c55.2.2.2.1 (0, 8, 54) (List.mem_of_getElem? (i := 53) (by decide +kernel))).2 ?_
  refine m_alen (n := 4) dX11_init_208 (zge (c55.2.2.1 (54, 37, 4) (List.mem_of_getElem? (i := 54) (by decide +kernel))).2.1 (by decide)) (c55.2.2.1 (54, 37, 4) (List.mem_of_getElem? (i := 54) (by decide +kernel))).2.2 (by decide) (fun r23 e23_z => ?_)
  refine t_icge (t := 231) dX11_init_209 (by decide) (fun h209 => False.elim (by omega)) (fun h209 => ?_)
  refine r_aloadR0 dX11_init_212 ?_
  refine m_getR (q := (a + 54)) zf_RX11_47 rfl dX11_init_213 (c55.2.2.1 (0, 10, 0) (List.mem_of_getElem? (i := 0) (by decide +kernel))).2.1 (c55.2.2.2.1 (0, 8, 54) (List.mem_of_getElem? (i := 53) (by decide +kernel))).2 ?_
  refine r_iload1 dX11_init_216 ?_
  refine m_new (ctS_S c55) zn_RX11_45 dX11_init_217 (by first | exact Nat.le_of_ble_eq_true rfl | decide) (by first | exact Nat.le_of_ble_eq_true rfl | decide) (fun w56 f56 j56 n56 m56 p56 => ?_)
  refine zR_b (b2 := (234, 24485)) rfl ?_
  refine r_dup dX11_init_220 rfl ?_
  refine r_callI (n := 0) (As := []) (b2 := (1, 30)) (Or.inr ⟨"NapkinDeeds", List.mem_of_getElem? (i := 9) rfl⟩) zin_yX8_init zini_RX8 zcode_yX8_init rfl ⟨by decide, by decide, by decide +kernel⟩ (by decide) dX11_init_221 (s_X8_init (a := a + 234) (w := w56) (f := f56) (j := j56) G (by rw [n56.1]) n56.2.1 n56.2.2.1 m56.2 (fun w57 f57 j57 s57 => ?_)) rfl rfl (by first | exact Nat.le_of_ble_eq_true rfl | decide) (by first | exact Nat.le_of_ble_eq_true rfl | decide) (by first | exact Nat.le_of_ble_eq_true rfl | decide) (by first | exact Nat.le_of_ble_eq_true rfl | decide) (by first | exact Nat.le_of_ble_eq_true rfl | decide) (fun r w9 h9 => h9)
  have c57 : ctS w57 f57 j57 w f j a 236 cL_X11_57 cP_X11_57 cV_X11_57 cZ_X11_57 := ctS_sub (c := 234) (c2_z := 2) (L := cL_X11_54) (PL := cP_X11_55) (VL := cV_X11_54) (ZL := cZ_X11_54) (L2 := cL_X8) (PL2 := cP_X8) (VL2 := cV_X8) (ZL2 := cZ_X8) c55 n56 m56 p56 s57
  refine zR_b (b2 := (235, 24515)) rfl ?_
  refine m_aast (ci := 7) (k := 1) dX11_init_224 (by decide) (c57.2.2.1 (54, 37, 4) (List.mem_of_getElem? (i := 54) (by decide +kernel))).2.1 (c57.2.2.1 (54, 37, 4) (List.mem_of_getElem? (i := 54) (by decide +kernel))).2.2 (by omega) (by decide) (c57.2.2.1 (234, 8, 0) (List.mem_of_getElem? (i := 234) (by decide +kernel))).2.1 ?_
  obtain ⟨w58, hw58⟩ : ∃ u9, u9 = zsP w57 (zu (zP w57) (a + 54) 1 (some (a + 234))) := ⟨_, rfl⟩
  rw [← hw58]
  have c58 : ctS w58 f57 j57 w f j a 236 cL_X11_57 cP_X11_58 cV_X11_57 cZ_X11_57 := by rw [hw58]; exact ctS_putP (k := 1) (o := 54) (t := 234) c57 (by decide) (by decide +kernel)
  refine n_iinc1 dX11_init_225 (by decide) rfl (by omega) (fun r24 e24_z => ?_)
  refine r_goto (t := 203) dX11_init_228 (by decide) ?_
  refine r_iload1 dX11_init_203 ?_
  refine r_aloadR0 dX11_init_204 ?_
  refine m_getR (q := (a + 54)) zf_RX11_47 rfl dX11_init_205 (c58.2.2.1 (0, 10, 0) (List.mem_of_getElem? (i := 0) (by decide +kernel))).2.1 (c58.2.2.2.1 (0, 8, 54) (List.mem_of_getElem? (i := 53) (by decide +kernel))).2 ?_
  refine m_alen (n := 4) dX11_init_208 (zge (c58.2.2.1 (54, 37, 4) (List.mem_of_getElem? (i := 54) (by decide +kernel))).2.1 (by decide)) (c58.2.2.1 (54, 37, 4) (List.mem_of_getElem? (i := 54) (by decide +kernel))).2.2 (by decide) (fun r25 e25_z => ?_)
  refine t_icge (t := 231) dX11_init_209 (by decide) (fun h209 => False.elim (by omega)) (fun h209 => ?_)
  refine r_aloadR0 dX11_init_212 ?_
  refine m_getR (q := (a + 54)) zf_RX11_47 rfl dX11_init_213 (c58.2.2.1 (0, 10, 0) (List.mem_of_getElem? (i := 0) (by decide +kernel))).2.1 (c58.2.2.2.1 (0, 8, 54) (List.mem_of_getElem? (i := 53) (by decide +kernel))).2 ?_
  refine r_iload1 dX11_init_216 ?_
  refine m_new (ctS_S c58) zn_RX11_45 dX11_init_217 (by first | exact Nat.le_of_ble_eq_true rfl | decide) (by first | exact Nat.le_of_ble_eq_true rfl | decide) (fun w59 f59 j59 n59 m59 p59 => ?_)
  refine zR_b (b2 := (236, 24519)) rfl ?_
  refine r_dup dX11_init_220 rfl ?_
  refine r_callI (n := 0) (As := []) (b2 := (1, 30)) (Or.inr ⟨"NapkinDeeds", List.mem_of_getElem? (i := 9) rfl⟩) zin_yX8_init zini_RX8 zcode_yX8_init rfl ⟨by decide, by decide, by decide +kernel⟩ (by decide) dX11_init_221 (s_X8_init (a := a + 236) (w := w59) (f := f59) (j := j59) G (by rw [n59.1]) n59.2.1 n59.2.2.1 m59.2 (fun w60 f60 j60 s60 => ?_)) rfl rfl (by first | exact Nat.le_of_ble_eq_true rfl | decide) (by first | exact Nat.le_of_ble_eq_true rfl | decide) (by first | exact Nat.le_of_ble_eq_true rfl | decide) (by first | exact Nat.le_of_ble_eq_true rfl | decide) (by first | exact Nat.le_of_ble_eq_true rfl | decide) (fun r w9 h9 => h9)
  have c60 : ctS w60 f60 j60 w f j a 238 cL_X11_60 cP_X11_60 cV_X11_60 cZ_X11_60 := ctS_sub (c := 236) (c2_z := 2) (L := cL_X11_57) (PL := cP_X11_58) (VL := cV_X11_57) (ZL := cZ_X11_57) (L2 := cL_X8) (PL2 := cP_X8) (VL2 := cV_X8) (ZL2 := cZ_X8) c58 n59 m59 p59 s60
  refine zR_b (b2 := (237, 24549)) rfl ?_
  refine m_aast (ci := 7) (k := 2) dX11_init_224 (by decide) (c60.2.2.1 (54, 37, 4) (List.mem_of_getElem? (i := 54) (by decide +kernel))).2.1 (c60.2.2.1 (54, 37, 4) (List.mem_of_getElem? (i := 54) (by decide +kernel))).2.2 (by omega) (by decide) (c60.2.2.1 (236, 8, 0) (List.mem_of_getElem? (i := 236) (by decide +kernel))).2.1 ?_
  obtain ⟨w61, hw61⟩ : ∃ u9, u9 = zsP w60 (zu (zP w60) (a + 54) 2 (some (a + 236))) := ⟨_, rfl⟩
  rw [← hw61]
  have c61 : ctS w61 f60 j60 w f j a 238 cL_X11_60 cP_X11_61 cV_X11_60 cZ_X11_60 := by rw [hw61]; exact ctS_putP (k := 2) (o := 54) (t := 236) c60 (by decide) (by decide +kernel)
  refine n_iinc1 dX11_init_225 (by decide) rfl (by omega) (fun r26 e26_z => ?_)
  refine r_goto (t := 203) dX11_init_228 (by decide) ?_
  refine r_iload1 dX11_init_203 ?_
  refine r_aloadR0 dX11_init_204 ?_
  refine m_getR (q := (a + 54)) zf_RX11_47 rfl dX11_init_205 (c61.2.2.1 (0, 10, 0) (List.mem_of_getElem? (i := 0) (by decide +kernel))).2.1 (c61.2.2.2.1 (0, 8, 54) (List.mem_of_getElem? (i := 53) (by decide +kernel))).2 ?_
  refine m_alen (n := 4) dX11_init_208 (zge (c61.2.2.1 (54, 37, 4) (List.mem_of_getElem? (i := 54) (by decide +kernel))).2.1 (by decide)) (c61.2.2.1 (54, 37, 4) (List.mem_of_getElem? (i := 54) (by decide +kernel))).2.2 (by decide) (fun r27 e27_z => ?_)
  refine t_icge (t := 231) dX11_init_209 (by decide) (fun h209 => False.elim (by omega)) (fun h209 => ?_)
  refine r_aloadR0 dX11_init_212 ?_
  refine m_getR (q := (a + 54)) zf_RX11_47 rfl dX11_init_213 (c61.2.2.1 (0, 10, 0) (List.mem_of_getElem? (i := 0) (by decide +kernel))).2.1 (c61.2.2.2.1 (0, 8, 54) (List.mem_of_getElem? (i := 53) (by decide +kernel))).2 ?_
  refine r_iload1 dX11_init_216 ?_
  refine m_new (ctS_S c61) zn_RX11_45 dX11_init_217 (by first | exact Nat.le_of_ble_eq_true rfl | decide) (by first | exact Nat.le_of_ble_eq_true rfl | decide) (fun w62 f62 j62 n62 m62 p62 => ?_)
  refine zR_b (b2 := (238, 24553)) rfl ?_
  refine r_dup dX11_init_220 rfl ?_
  refine r_callI (n := 0) (As := []) (b2 := (1, 30)) (Or.inr ⟨"NapkinDeeds", List.mem_of_getElem? (i := 9) rfl⟩) zin_yX8_init zini_RX8 zcode_yX8_init rfl ⟨by decide, by decide, by decide +kernel⟩ (by decide) dX11_init_221 (s_X8_init (a := a + 238) (w := w62) (f := f62) (j := j62) G (by rw [n62.1]) n62.2.1 n62.2.2.1 m62.2 (fun w63 f63 j63 s63 => ?_)) rfl rfl (by first | exact Nat.le_of_ble_eq_true rfl | decide) (by first | exact Nat.le_of_ble_eq_true rfl | decide) (by first | exact Nat.le_of_ble_eq_true rfl | decide) (by first | exact Nat.le_of_ble_eq_true rfl | decide) (by first | exact Nat.le_of_ble_eq_true rfl | decide) (fun r w9 h9 => h9)
  have c63 : ctS w63 f63 j63 w f j a 240 cL_X11_63 cP_X11_63 cV_X11_63 cZ_X11_63 := ctS_sub (c := 238) (c2_z := 2) (L := cL_X11_60) (PL := cP_X11_61) (VL := cV_X11_60) (ZL := cZ_X11_60) (L2 := cL_X8) (PL2 := cP_X8) (VL2 := cV_X8) (ZL2 := cZ_X8) c61 n62 m62 p62 s63
  refine zR_b (b2 := (239, 24583)) rfl ?_
  refine m_aast (ci := 7) (k := 3) dX11_init_224 (by decide) (c63.2.2.1 (54, 37, 4) (List.mem_of_getElem? (i := 54) (by decide +kernel))).2.1 (c63.2.2.1 (54, 37, 4) (List.mem_of_getElem? (i := 54) (by decide +kernel))).2.2 (by omega) (by decide) (c63.2.2.1 (238, 8, 0) (List.mem_of_getElem? (i := 238) (by decide +kernel))).2.1 ?_
  obtain ⟨w64, hw64⟩ : ∃ u9, u9 = zsP w63 (zu (zP w63) (a + 54) 3 (some (a + 238))) := ⟨_, rfl⟩
  rw [← hw64]
  have c64 : ctS w64 f63 j63 w f j a 240 cL_X11_63 cP_X11_64 cV_X11_63 cZ_X11_63 := by rw [hw64]; exact ctS_putP (k := 3) (o := 54) (t := 238) c63 (by decide) (by decide +kernel)
  refine n_iinc1 dX11_init_225 (by decide) rfl (by omega) (fun r28 e28_z => ?_)
  refine r_goto (t := 203) dX11_init_228 (by decide) ?_
  refine r_iload1 dX11_init_203 ?_
  refine r_aloadR0 dX11_init_204 ?_
  refine m_getR (q := (a + 54)) zf_RX11_47 rfl dX11_init_205 (c64.2.2.1 (0, 10, 0) (List.mem_of_getElem? (i := 0) (by decide +kernel))).2.1 (c64.2.2.2.1 (0, 8, 54) (List.mem_of_getElem? (i := 53) (by decide +kernel))).2 ?_
  refine m_alen (n := 4) dX11_init_208 (zge (c64.2.2.1 (54, 37, 4) (List.mem_of_getElem? (i := 54) (by decide +kernel))).2.1 (by decide)) (c64.2.2.1 (54, 37, 4) (List.mem_of_getElem? (i := 54) (by decide +kernel))).2.2 (by decide) (fun r29 e29 => ?_)
  refine t_icge (t := 231) dX11_init_209 (by decide) (fun h209 => ?_) (fun h209 => False.elim (by omega))
  refine r_vret dX11_init_231 rfl (by first | exact Nat.le_of_ble_eq_true rfl | decide) (by first | exact Nat.le_of_ble_eq_true rfl | decide) ?_
  exact hQ _ _ _ (ctS_cv c64 (by decide +kernel) (by decide +kernel) (by decide +kernel) (by decide +kernel))
