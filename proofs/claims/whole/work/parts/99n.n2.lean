/-! the constructor of the class itself -/
def cL_X11 : zL3 := [(0, 10, 0), (1, 22, 900), (2, 5, 0), (3, 22, 0), (4, 4, 0), (5, 21, 12), (6, 21, 4), (7, 21, 0), (8, 21, 0), (9, 21, 0), (10, 21, 900), (11, 7, 0), (12, 4, 0), (13, 21, 12), (14, 21, 4), (15, 21, 0), (16, 21, 0), (17, 21, 0), (18, 3, 0), (19, 21, 12), (20, 21, 5), (21, 32, 10), (22, 3, 0), (23, 21, 12), (24, 21, 5), (25, 3, 0), (26, 21, 12), (27, 21, 5), (28, 3, 0), (29, 21, 12), (30, 21, 5), (31, 3, 0), (32, 21, 12), (33, 21, 5), (34, 3, 0), (35, 21, 12), (36, 21, 5), (37, 3, 0), (38, 21, 12), (39, 21, 5), (40, 3, 0), (41, 21, 12), (42, 21, 5), (43, 3, 0), (44, 21, 12), (45, 21, 5), (46, 3, 0), (47, 21, 12), (48, 21, 5), (49, 3, 0), (50, 21, 12), (51, 21, 5), (52, 36, 3), (53, 37, 4), (54, 6, 0), (55, 21, 8), (56, 21, 64), (57, 9, 0), (58, 21, 1024), (59, 21, 1024), (60, 21, 1024), (61, 21, 1024), (62, 21, 1024), (63, 21, 1024), (64, 21, 1024), (65, 21, 1024), (66, 21, 2048), (67, 2, 0), (68, 21, 6), (69, 23, 6), (70, 21, 6), (71, 2, 0), (72, 21, 6), (73, 23, 6), (74, 21, 6), (75, 9, 0), (76, 21, 1024), (77, 21, 1024), (78, 21, 1024), (79, 21, 1024), (80, 21, 1024), (81, 21, 1024), (82, 21, 1024), (83, 21, 1024), (84, 21, 2048), (85, 2, 0), (86, 21, 6), (87, 23, 6), (88, 21, 6), (89, 2, 0), (90, 21, 6), (91, 23, 6), (92, 21, 6), (93, 2, 0), (94, 21, 6), (95, 23, 6), (96, 21, 6), (97, 2, 0), (98, 21, 6), (99, 23, 6), (100, 21, 6), (101, 3, 0), (102, 21, 12), (103, 21, 5), (104, 21, 6), (105, 21, 4), (106, 21, 100), (107, 21, 720), (108, 7, 0), (109, 4, 0), (110, 21, 12), (111, 21, 4), (112, 21, 0), (113, 21, 0), (114, 21, 0), (115, 3, 0), (116, 21, 12), (117, 21, 5), (118, 32, 10), (119, 3, 0), (120, 21, 12), (121, 21, 5), (122, 3, 0), (123, 21, 12), (124, 21, 5), (125, 3, 0), (126, 21, 12), (127, 21, 5), (128, 3, 0), (129, 21, 12), (130, 21, 5), (131, 3, 0), (132, 21, 12), (133, 21, 5), (134, 3, 0), (135, 21, 12), (136, 21, 5), (137, 3, 0), (138, 21, 12), (139, 21, 5), (140, 3, 0), (141, 21, 12), (142, 21, 5), (143, 3, 0), (144, 21, 12), (145, 21, 5), (146, 3, 0), (147, 21, 12), (148, 21, 5), (149, 7, 0), (150, 4, 0), (151, 21, 12), (152, 21, 4), (153, 21, 0), (154, 21, 0), (155, 21, 0), (156, 3, 0), (157, 21, 12), (158, 21, 5), (159, 32, 10), (160, 3, 0), (161, 21, 12), (162, 21, 5), (163, 3, 0), (164, 21, 12), (165, 21, 5), (166, 3, 0), (167, 21, 12), (168, 21, 5), (169, 3, 0), (170, 21, 12), (171, 21, 5), (172, 3, 0), (173, 21, 12), (174, 21, 5), (175, 3, 0), (176, 21, 12), (177, 21, 5), (178, 3, 0), (179, 21, 12), (180, 21, 5), (181, 3, 0), (182, 21, 12), (183, 21, 5), (184, 3, 0), (185, 21, 12), (186, 21, 5), (187, 3, 0), (188, 21, 12), (189, 21, 5), (190, 7, 0), (191, 4, 0), (192, 21, 12), (193, 21, 4), (194, 21, 0), (195, 21, 0), (196, 21, 0), (197, 3, 0), (198, 21, 12), (199, 21, 5), (200, 32, 10), (201, 3, 0), (202, 21, 12), (203, 21, 5), (204, 3, 0), (205, 21, 12), (206, 21, 5), (207, 3, 0), (208, 21, 12), (209, 21, 5), (210, 3, 0), (211, 21, 12), (212, 21, 5), (213, 3, 0), (214, 21, 12), (215, 21, 5), (216, 3, 0), (217, 21, 12), (218, 21, 5), (219, 3, 0), (220, 21, 12), (221, 21, 5), (222, 3, 0), (223, 21, 12), (224, 21, 5), (225, 3, 0), (226, 21, 12), (227, 21, 5), (228, 3, 0), (229, 21, 12), (230, 21, 5), (231, 8, 0), (232, 25, 30), (233, 8, 0), (234, 25, 30), (235, 8, 0), (236, 25, 30), (237, 8, 0), (238, 25, 30)]
def cP_X11 : zL3 := [(0, 0, 1), (2, 0, 3), (4, 3, 5), (4, 4, 6), (4, 5, 7), (4, 6, 8), (4, 7, 9), (2, 7, 4), (2, 8, 10), (0, 4, 2), (12, 3, 13), (12, 4, 14), (12, 5, 15), (12, 6, 16), (12, 7, 17), (11, 0, 12), (18, 0, 19), (18, 1, 20), (11, 1, 18), (11, 2, 21), (22, 0, 23), (22, 1, 24), (21, 0, 22), (25, 0, 26), (25, 1, 27), (21, 1, 25), (28, 0, 29), (28, 1, 30), (21, 2, 28), (31, 0, 32), (31, 1, 33), (21, 3, 31), (34, 0, 35), (34, 1, 36), (21, 4, 34), (37, 0, 38), (37, 1, 39), (21, 5, 37), (40, 0, 41), (40, 1, 42), (21, 6, 40), (43, 0, 44), (43, 1, 45), (21, 7, 43), (46, 0, 47), (46, 1, 48), (21, 8, 46), (49, 0, 50), (49, 1, 51), (21, 9, 49), (0, 5, 11), (0, 6, 52), (0, 7, 53), (54, 0, 55), (54, 1, 56), (0, 8, 54), (57, 0, 58), (57, 1, 59), (57, 2, 60), (57, 3, 61), (57, 4, 62), (57, 5, 63), (57, 6, 64), (57, 7, 65), (57, 8, 66), (67, 0, 68), (67, 1, 69), (67, 2, 70), (57, 9, 67), (71, 0, 72), (71, 1, 73), (71, 2, 74), (57, 10, 71), (0, 9, 57), (75, 0, 76), (75, 1, 77), (75, 2, 78), (75, 3, 79), (75, 4, 80), (75, 5, 81), (75, 6, 82), (75, 7, 83), (75, 8, 84), (85, 0, 86), (85, 1, 87), (85, 2, 88), (75, 9, 85), (89, 0, 90), (89, 1, 91), (89, 2, 92), (75, 10, 89), (0, 10, 75), (93, 0, 94), (93, 1, 95), (93, 2, 96), (0, 11, 93), (97, 0, 98), (97, 1, 99), (97, 2, 100), (0, 12, 97), (101, 0, 102), (101, 1, 103), (0, 13, 101), (0, 14, 104), (0, 15, 105), (0, 16, 106), (0, 17, 107), (109, 3, 110), (109, 4, 111), (109, 5, 112), (109, 6, 113), (109, 7, 114), (108, 0, 109), (115, 0, 116), (115, 1, 117), (108, 1, 115), (108, 2, 118), (119, 0, 120), (119, 1, 121), (118, 0, 119), (122, 0, 123), (122, 1, 124), (118, 1, 122), (125, 0, 126), (125, 1, 127), (118, 2, 125), (128, 0, 129), (128, 1, 130), (118, 3, 128), (131, 0, 132), (131, 1, 133), (118, 4, 131), (134, 0, 135), (134, 1, 136), (118, 5, 134), (137, 0, 138), (137, 1, 139), (118, 6, 137), (140, 0, 141), (140, 1, 142), (118, 7, 140), (143, 0, 144), (143, 1, 145), (118, 8, 143), (146, 0, 147), (146, 1, 148), (118, 9, 146), (52, 0, 108), (150, 3, 151), (150, 4, 152), (150, 5, 153), (150, 6, 154), (150, 7, 155), (149, 0, 150), (156, 0, 157), (156, 1, 158), (149, 1, 156), (149, 2, 159), (160, 0, 161), (160, 1, 162), (159, 0, 160), (163, 0, 164), (163, 1, 165), (159, 1, 163), (166, 0, 167), (166, 1, 168), (159, 2, 166), (169, 0, 170), (169, 1, 171), (159, 3, 169), (172, 0, 173), (172, 1, 174), (159, 4, 172), (175, 0, 176), (175, 1, 177), (159, 5, 175), (178, 0, 179), (178, 1, 180), (159, 6, 178), (181, 0, 182), (181, 1, 183), (159, 7, 181), (184, 0, 185), (184, 1, 186), (159, 8, 184), (187, 0, 188), (187, 1, 189), (159, 9, 187), (52, 1, 149), (191, 3, 192), (191, 4, 193), (191, 5, 194), (191, 6, 195), (191, 7, 196), (190, 0, 191), (197, 0, 198), (197, 1, 199), (190, 1, 197), (190, 2, 200), (201, 0, 202), (201, 1, 203), (200, 0, 201), (204, 0, 205), (204, 1, 206), (200, 1, 204), (207, 0, 208), (207, 1, 209), (200, 2, 207), (210, 0, 211), (210, 1, 212), (200, 3, 210), (213, 0, 214), (213, 1, 215), (200, 4, 213), (216, 0, 217), (216, 1, 218), (200, 5, 216), (219, 0, 220), (219, 1, 221), (200, 6, 219), (222, 0, 223), (222, 1, 224), (200, 7, 222), (225, 0, 226), (225, 1, 227), (200, 8, 225), (228, 0, 229), (228, 1, 230), (200, 9, 228), (52, 2, 190), (231, 0, 232), (53, 0, 231), (233, 0, 234), (53, 1, 233), (235, 0, 236), (53, 2, 235), (237, 0, 238), (53, 3, 237)]
def cV_X11 : zLV := [(0, 0, 0), (0, 1, 0), (0, 2, 0), (0, 3, -1), (0, 4, 0), (0, 5, 0), (0, 6, 0), (0, 7, 0), (0, 8, 0), (0, 9, 0), (0, 10, 0), (0, 11, 0), (0, 12, 0), (0, 13, 0), (0, 14, 0), (0, 15, 0), (0, 16, 0), (0, 17, 0), (2, 0, 0), (2, 1, 0), (2, 2, 0), (2, 3, 0), (2, 4, 0), (2, 5, 0), (2, 6, 0), (2, 7, 0), (2, 8, 0), (2, 9, 0), (2, 10, 0), (2, 11, 0), (2, 12, -1), (4, 0, 0), (4, 1, 0), (4, 2, 0), (4, 3, 0), (4, 4, 0), (4, 5, 0), (4, 6, 0), (4, 7, 0), (11, 0, 0), (11, 1, 0), (11, 2, 0), (11, 3, 0), (11, 4, 0), (12, 0, 0), (12, 1, 0), (12, 2, 0), (12, 3, 0), (12, 4, 0), (12, 5, 0), (12, 6, 0), (12, 7, 0), (18, 0, 0), (18, 1, 0), (18, 2, 0), (22, 0, 0), (22, 1, 0), (22, 2, 0), (25, 0, 0), (25, 1, 0), (25, 2, 0), (28, 0, 0), (28, 1, 0), (28, 2, 0), (31, 0, 0), (31, 1, 0), (31, 2, 0), (34, 0, 0), (34, 1, 0), (34, 2, 0), (37, 0, 0), (37, 1, 0), (37, 2, 0), (40, 0, 0), (40, 1, 0), (40, 2, 0), (43, 0, 0), (43, 1, 0), (43, 2, 0), (46, 0, 0), (46, 1, 0), (46, 2, 0), (49, 0, 0), (49, 1, 0), (49, 2, 0), (54, 0, 0), (54, 1, 0), (57, 0, 0), (57, 1, 0), (57, 2, 0), (57, 3, 0), (57, 4, 0), (57, 5, 0), (57, 6, 0), (57, 7, 0), (57, 8, 0), (57, 9, 0), (57, 10, 0), (57, 11, 0), (57, 12, 0), (67, 0, 0), (67, 1, 0), (67, 2, 0), (67, 3, 0), (67, 4, 0), (71, 0, 0), (71, 1, 0), (71, 2, 0), (71, 3, 0), (71, 4, 0), (75, 0, 0), (75, 1, 0), (75, 2, 0), (75, 3, 0), (75, 4, 0), (75, 5, 0), (75, 6, 0), (75, 7, 0), (75, 8, 0), (75, 9, 0), (75, 10, 0), (75, 11, 0), (75, 12, 0), (85, 0, 0), (85, 1, 0), (85, 2, 0), (85, 3, 0), (85, 4, 0), (89, 0, 0), (89, 1, 0), (89, 2, 0), (89, 3, 0), (89, 4, 0), (93, 0, 0), (93, 1, 0), (93, 2, 0), (93, 3, 0), (93, 4, 0), (97, 0, 0), (97, 1, 0), (97, 2, 0), (97, 3, 0), (97, 4, 0), (101, 0, 0), (101, 1, 0), (101, 2, 0), (108, 0, 0), (108, 1, 0), (108, 2, 0), (108, 3, 0), (108, 4, 0), (109, 0, 0), (109, 1, 0), (109, 2, 0), (109, 3, 0), (109, 4, 0), (109, 5, 0), (109, 6, 0), (109, 7, 0), (115, 0, 0), (115, 1, 0), (115, 2, 0), (119, 0, 0), (119, 1, 0), (119, 2, 0), (122, 0, 0), (122, 1, 0), (122, 2, 0), (125, 0, 0), (125, 1, 0), (125, 2, 0), (128, 0, 0), (128, 1, 0), (128, 2, 0), (131, 0, 0), (131, 1, 0), (131, 2, 0), (134, 0, 0), (134, 1, 0), (134, 2, 0), (137, 0, 0), (137, 1, 0), (137, 2, 0), (140, 0, 0), (140, 1, 0), (140, 2, 0), (143, 0, 0), (143, 1, 0), (143, 2, 0), (146, 0, 0), (146, 1, 0), (146, 2, 0), (149, 0, 0), (149, 1, 0), (149, 2, 0), (149, 3, 0), (149, 4, 0), (150, 0, 0), (150, 1, 0), (150, 2, 0), (150, 3, 0), (150, 4, 0), (150, 5, 0), (150, 6, 0), (150, 7, 0), (156, 0, 0), (156, 1, 0), (156, 2, 0), (160, 0, 0), (160, 1, 0), (160, 2, 0), (163, 0, 0), (163, 1, 0), (163, 2, 0), (166, 0, 0), (166, 1, 0), (166, 2, 0), (169, 0, 0), (169, 1, 0), (169, 2, 0), (172, 0, 0), (172, 1, 0), (172, 2, 0), (175, 0, 0), (175, 1, 0), (175, 2, 0), (178, 0, 0), (178, 1, 0), (178, 2, 0), (181, 0, 0), (181, 1, 0), (181, 2, 0), (184, 0, 0), (184, 1, 0), (184, 2, 0), (187, 0, 0), (187, 1, 0), (187, 2, 0), (190, 0, 0), (190, 1, 0), (190, 2, 0), (190, 3, 0), (190, 4, 0), (191, 0, 0), (191, 1, 0), (191, 2, 0), (191, 3, 0), (191, 4, 0), (191, 5, 0), (191, 6, 0), (191, 7, 0), (197, 0, 0), (197, 1, 0), (197, 2, 0), (201, 0, 0), (201, 1, 0), (201, 2, 0), (204, 0, 0), (204, 1, 0), (204, 2, 0), (207, 0, 0), (207, 1, 0), (207, 2, 0), (210, 0, 0), (210, 1, 0), (210, 2, 0), (213, 0, 0), (213, 1, 0), (213, 2, 0), (216, 0, 0), (216, 1, 0), (216, 2, 0), (219, 0, 0), (219, 1, 0), (219, 2, 0), (222, 0, 0), (222, 1, 0), (222, 2, 0), (225, 0, 0), (225, 1, 0), (225, 2, 0), (228, 0, 0), (228, 1, 0), (228, 2, 0), (231, 0, 0), (231, 1, 0), (231, 2, 0), (231, 3, 1), (233, 0, 0), (233, 1, 0), (233, 2, 0), (233, 3, 1), (235, 0, 0), (235, 1, 0), (235, 2, 0), (235, 3, 1), (237, 0, 0), (237, 1, 0), (237, 2, 0), (237, 3, 1)]
def cZ_X11 : List Nat := [1, 3, 5, 6, 7, 8, 9, 10, 13, 14, 15, 16, 17, 19, 20, 21, 23, 24, 26, 27, 29, 30, 32, 33, 35, 36, 38, 39, 41, 42, 44, 45, 47, 48, 50, 51, 52, 53, 55, 56, 58, 59, 60, 61, 62, 63, 64, 65, 66, 68, 69, 70, 72, 73, 74, 76, 77, 78, 79, 80, 81, 82, 83, 84, 86, 87, 88, 90, 91, 92, 94, 95, 96, 98, 99, 100, 102, 103, 104, 105, 106, 107, 110, 111, 112, 113, 114, 116, 117, 118, 120, 121, 123, 124, 126, 127, 129, 130, 132, 133, 135, 136, 138, 139, 141, 142, 144, 145, 147, 148, 151, 152, 153, 154, 155, 157, 158, 159, 161, 162, 164, 165, 167, 168, 170, 171, 173, 174, 176, 177, 179, 180, 182, 183, 185, 186, 188, 189, 192, 193, 194, 195, 196, 198, 199, 200, 202, 203, 205, 206, 208, 209, 211, 212, 214, 215, 217, 218, 220, 221, 223, 224, 226, 227, 229, 230, 232, 234, 236, 238]
def cL_X11_0 : zL3 := [(0, 10, 0)]
def cP_X11_0 : zL3 := []
def cV_X11_0 : zLV := (List.range 18).map (fun k => (0, k, 0))
def cZ_X11_0 : List Nat := []
def cL_X11_1 : zL3 := cL_X11_0 ++ [(1, 22, 900)]
def cZ_X11_1 : List Nat := cZ_X11_0 ++ [1]
def cP_X11_2 : zL3 := cP_X11_0 ++ [(0, 0, 1)]
def cV_X11_3 : zLV := cV_X11_0.map (fun e => if e.1 = 0 ∧ e.2.1 = 1 then (0, 1, 0) else e)
def cV_X11_4 : zLV := cV_X11_3.map (fun e => if e.1 = 0 ∧ e.2.1 = 2 then (0, 2, 0) else e)
def cV_X11_5 : zLV := cV_X11_4.map (fun e => if e.1 = 0 ∧ e.2.1 = 3 then (0, 3, -1) else e)
def cL_X11_7 : zL3 := cL_X11_1 ++ cL_X5.map (fun e => (2 + e.1, e.2))
def cP_X11_7 : zL3 := cP_X11_2 ++ cP_X5.map (fun e => (2 + e.1, e.2.1, 2 + e.2.2))
def cV_X11_7 : zLV := cV_X11_5 ++ cV_X5.map (fun e => (2 + e.1, e.2))
def cZ_X11_7 : List Nat := cZ_X11_1 ++ cZ_X5.map (fun z => 2 + z)
def cP_X11_8 : zL3 := cP_X11_7 ++ [(0, 4, 2)]
def cL_X11_10 : zL3 := cL_X11_7 ++ cL_X7.map (fun e => (11 + e.1, e.2))
def cP_X11_10 : zL3 := cP_X11_8 ++ cP_X7.map (fun e => (11 + e.1, e.2.1, 11 + e.2.2))
def cV_X11_10 : zLV := cV_X11_7 ++ cV_X7.map (fun e => (11 + e.1, e.2))
def cZ_X11_10 : List Nat := cZ_X11_7 ++ cZ_X7.map (fun z => 11 + z)
def cP_X11_11 : zL3 := cP_X11_10 ++ [(0, 5, 11)]
def cL_X11_12 : zL3 := cL_X11_10 ++ [(52, 36, 3)]
def cZ_X11_12 : List Nat := cZ_X11_10 ++ [52]
def cP_X11_13 : zL3 := cP_X11_11 ++ [(0, 6, 52)]
def cL_X11_14 : zL3 := cL_X11_12 ++ [(53, 37, 4)]
def cZ_X11_14 : List Nat := cZ_X11_12 ++ [53]
def cP_X11_15 : zL3 := cP_X11_13 ++ [(0, 7, 53)]
def cL_X11_17 : zL3 := cL_X11_14 ++ cL_X6.map (fun e => (54 + e.1, e.2))
def cP_X11_17 : zL3 := cP_X11_15 ++ cP_X6.map (fun e => (54 + e.1, e.2.1, 54 + e.2.2))
def cV_X11_17 : zLV := cV_X11_10 ++ cV_X6.map (fun e => (54 + e.1, e.2))
def cZ_X11_17 : List Nat := cZ_X11_14 ++ cZ_X6.map (fun z => 54 + z)
def cP_X11_18 : zL3 := cP_X11_17 ++ [(0, 8, 54)]
def cL_X11_20 : zL3 := cL_X11_17 ++ cL_X9.map (fun e => (57 + e.1, e.2))
def cP_X11_20 : zL3 := cP_X11_18 ++ cP_X9.map (fun e => (57 + e.1, e.2.1, 57 + e.2.2))
def cV_X11_20 : zLV := cV_X11_17 ++ cV_X9.map (fun e => (57 + e.1, e.2))
def cZ_X11_20 : List Nat := cZ_X11_17 ++ cZ_X9.map (fun z => 57 + z)
def cP_X11_21 : zL3 := cP_X11_20 ++ [(0, 9, 57)]
def cL_X11_23 : zL3 := cL_X11_20 ++ cL_X9.map (fun e => (75 + e.1, e.2))
def cP_X11_23 : zL3 := cP_X11_21 ++ cP_X9.map (fun e => (75 + e.1, e.2.1, 75 + e.2.2))
def cV_X11_23 : zLV := cV_X11_20 ++ cV_X9.map (fun e => (75 + e.1, e.2))
def cZ_X11_23 : List Nat := cZ_X11_20 ++ cZ_X9.map (fun z => 75 + z)
def cP_X11_24 : zL3 := cP_X11_23 ++ [(0, 10, 75)]
def cL_X11_26 : zL3 := cL_X11_23 ++ cL_X2.map (fun e => (93 + e.1, e.2))
def cP_X11_26 : zL3 := cP_X11_24 ++ cP_X2.map (fun e => (93 + e.1, e.2.1, 93 + e.2.2))
def cV_X11_26 : zLV := cV_X11_23 ++ cV_X2.map (fun e => (93 + e.1, e.2))
def cZ_X11_26 : List Nat := cZ_X11_23 ++ cZ_X2.map (fun z => 93 + z)
def cP_X11_27 : zL3 := cP_X11_26 ++ [(0, 11, 93)]
def cL_X11_29 : zL3 := cL_X11_26 ++ cL_X2.map (fun e => (97 + e.1, e.2))
def cP_X11_29 : zL3 := cP_X11_27 ++ cP_X2.map (fun e => (97 + e.1, e.2.1, 97 + e.2.2))
def cV_X11_29 : zLV := cV_X11_26 ++ cV_X2.map (fun e => (97 + e.1, e.2))
def cZ_X11_29 : List Nat := cZ_X11_26 ++ cZ_X2.map (fun z => 97 + z)
def cP_X11_30 : zL3 := cP_X11_29 ++ [(0, 12, 97)]
def cL_X11_32 : zL3 := cL_X11_29 ++ cL_X3.map (fun e => (101 + e.1, e.2))
def cP_X11_32 : zL3 := cP_X11_30 ++ cP_X3.map (fun e => (101 + e.1, e.2.1, 101 + e.2.2))
def cV_X11_32 : zLV := cV_X11_29 ++ cV_X3.map (fun e => (101 + e.1, e.2))
def cZ_X11_32 : List Nat := cZ_X11_29 ++ cZ_X3.map (fun z => 101 + z)
def cP_X11_33 : zL3 := cP_X11_32 ++ [(0, 13, 101)]
def cL_X11_34 : zL3 := cL_X11_32 ++ [(104, 21, 6)]
def cZ_X11_34 : List Nat := cZ_X11_32 ++ [104]
def cP_X11_35 : zL3 := cP_X11_33 ++ [(0, 14, 104)]
def cL_X11_36 : zL3 := cL_X11_34 ++ [(105, 21, 4)]
def cZ_X11_36 : List Nat := cZ_X11_34 ++ [105]
def cP_X11_37 : zL3 := cP_X11_35 ++ [(0, 15, 105)]
def cL_X11_38 : zL3 := cL_X11_36 ++ [(106, 21, 100)]
def cZ_X11_38 : List Nat := cZ_X11_36 ++ [106]
def cP_X11_39 : zL3 := cP_X11_37 ++ [(0, 16, 106)]
def cL_X11_40 : zL3 := cL_X11_38 ++ [(107, 21, 720)]
def cZ_X11_40 : List Nat := cZ_X11_38 ++ [107]
def cP_X11_41 : zL3 := cP_X11_39 ++ [(0, 17, 107)]
def cL_X11_43 : zL3 := cL_X11_40 ++ cL_X7.map (fun e => (108 + e.1, e.2))
def cP_X11_43 : zL3 := cP_X11_41 ++ cP_X7.map (fun e => (108 + e.1, e.2.1, 108 + e.2.2))
def cV_X11_43 : zLV := cV_X11_32 ++ cV_X7.map (fun e => (108 + e.1, e.2))
def cZ_X11_43 : List Nat := cZ_X11_40 ++ cZ_X7.map (fun z => 108 + z)
def cP_X11_44 : zL3 := cP_X11_43 ++ [(52, 0, 108)]
def cL_X11_46 : zL3 := cL_X11_43 ++ cL_X7.map (fun e => (149 + e.1, e.2))
def cP_X11_46 : zL3 := cP_X11_44 ++ cP_X7.map (fun e => (149 + e.1, e.2.1, 149 + e.2.2))
def cV_X11_46 : zLV := cV_X11_43 ++ cV_X7.map (fun e => (149 + e.1, e.2))
def cZ_X11_46 : List Nat := cZ_X11_43 ++ cZ_X7.map (fun z => 149 + z)
def cP_X11_47 : zL3 := cP_X11_46 ++ [(52, 1, 149)]
def cL_X11_49 : zL3 := cL_X11_46 ++ cL_X7.map (fun e => (190 + e.1, e.2))
def cP_X11_49 : zL3 := cP_X11_47 ++ cP_X7.map (fun e => (190 + e.1, e.2.1, 190 + e.2.2))
def cV_X11_49 : zLV := cV_X11_46 ++ cV_X7.map (fun e => (190 + e.1, e.2))
def cZ_X11_49 : List Nat := cZ_X11_46 ++ cZ_X7.map (fun z => 190 + z)
def cP_X11_50 : zL3 := cP_X11_49 ++ [(52, 2, 190)]
def cL_X11_52 : zL3 := cL_X11_49 ++ cL_X8.map (fun e => (231 + e.1, e.2))
def cP_X11_52 : zL3 := cP_X11_50 ++ cP_X8.map (fun e => (231 + e.1, e.2.1, 231 + e.2.2))
def cV_X11_52 : zLV := cV_X11_49 ++ cV_X8.map (fun e => (231 + e.1, e.2))
def cZ_X11_52 : List Nat := cZ_X11_49 ++ cZ_X8.map (fun z => 231 + z)
def cP_X11_53 : zL3 := cP_X11_52 ++ [(53, 0, 231)]
def cL_X11_55 : zL3 := cL_X11_52 ++ cL_X8.map (fun e => (233 + e.1, e.2))
def cP_X11_55 : zL3 := cP_X11_53 ++ cP_X8.map (fun e => (233 + e.1, e.2.1, 233 + e.2.2))
def cV_X11_55 : zLV := cV_X11_52 ++ cV_X8.map (fun e => (233 + e.1, e.2))
def cZ_X11_55 : List Nat := cZ_X11_52 ++ cZ_X8.map (fun z => 233 + z)
def cP_X11_56 : zL3 := cP_X11_55 ++ [(53, 1, 233)]
def cL_X11_58 : zL3 := cL_X11_55 ++ cL_X8.map (fun e => (235 + e.1, e.2))
def cP_X11_58 : zL3 := cP_X11_56 ++ cP_X8.map (fun e => (235 + e.1, e.2.1, 235 + e.2.2))
def cV_X11_58 : zLV := cV_X11_55 ++ cV_X8.map (fun e => (235 + e.1, e.2))
def cZ_X11_58 : List Nat := cZ_X11_55 ++ cZ_X8.map (fun z => 235 + z)
def cP_X11_59 : zL3 := cP_X11_58 ++ [(53, 2, 235)]
def cL_X11_61 : zL3 := cL_X11_58 ++ cL_X8.map (fun e => (237 + e.1, e.2))
def cP_X11_61 : zL3 := cP_X11_59 ++ cP_X8.map (fun e => (237 + e.1, e.2.1, 237 + e.2.2))
def cV_X11_61 : zLV := cV_X11_58 ++ cV_X8.map (fun e => (237 + e.1, e.2))
def cZ_X11_61 : List Nat := cZ_X11_58 ++ cZ_X8.map (fun z => 237 + z)
def cP_X11_62 : zL3 := cP_X11_61 ++ [(53, 3, 237)]
set_option maxHeartbeats 8000000 in
set_option maxRecDepth 100000 in
theorem s_X11_init {g : zGT} {w : zW} {f : Nat → Nat → Int32} {j : Nat → Nat → Int64} {a : Nat} {ku : Nat} {Q : Option Value → zW → Prop} {QX : String → zW → Prop} (G : zGok g) (hS_z : zS w = a + 1) (hk : zK w a = 10) (hn : zN w a = 0) (hf : ∀ i, f a i = 0) (hK_z : ∀ U, g.2.2.2 U → va_Z "NapkinDeeds$Word" "UNKNOWN" "LNapkinDeeds$Word;" (.ref ku) (zA g.2.2.1) U U.heap) (hQ : ∀ w2 f2_z j2, ctS w2 f2_z j2 w f j a 239 cL_X11 cP_X11 cV_X11 cZ_X11 → Q none (zM w2 f2_z j2)) : zC g 3 yX11_init cX11_init 2 none [.ref a] (zM w f j) (238, 24584) Q QX := by
  refine zC_of G (by decide +kernel) (Nat.le_of_ble_eq_true rfl) ?_
  have c0_z : ctS w f j w f j a 1 cL_X11_0 cP_X11_0 cV_X11_0 cZ_X11_0 := ctS_0 (m := 18) (j := j) hS_z hk hn hf
  refine r_aloadR0 dX11_init_0 ?_
  refine r_obj zo_RX11 zo_in zo_cd dX11_init_1 (by first | exact Nat.le_of_ble_eq_true rfl | decide) (by first | exact Nat.le_of_ble_eq_true rfl | decide) ?_
  refine r_aloadR0 dX11_init_4 ?_
  refine n_sipush dX11_init_5 (by decide) (fun r1 e1_z => ?_)
  refine m_newB (N := 900) (ctS_S c0_z) dX11_init_8 (by omega) (by decide) (by first | exact Nat.le_of_ble_eq_true rfl | decide) (by first | exact Nat.le_of_ble_eq_true rfl | decide) (fun w1 f1_z j1 n1 m1_z p1 => ?_)
  have c1_z : ctS w1 f1_z j1 w f j a 2 cL_X11_1 cP_X11_0 cV_X11_0 cZ_X11_1 := ctS_new c0_z n1 m1_z p1
  refine zR_b (b2 := (1, 900)) rfl ?_
  refine m_putPF (q := (a + 1)) zf_RX11_9 (by intro C T N h_z; cases h_z; exact ⟨rfl, rfl⟩) rfl rfl dX11_init_10 (c1_z.2.2.1 (0, 10, 0) (List.mem_of_getElem? (i := 0) (by decide +kernel))).2.1 ?_
  obtain ⟨w2, hw2⟩ : ∃ u9, u9 = zsP w1 (zu (zP w1) a 0 (some (a + 1))) := ⟨_, rfl⟩
  rw [← hw2]
  have c2_z : ctS w2 f1_z j1 w f j a 2 cL_X11_1 cP_X11_2 cV_X11_0 cZ_X11_1 := by rw [hw2]; exact ctS_putP (k := 0) (o := 0) (t := 1) c1_z (by decide) (by decide +kernel)
  refine r_aloadR0 dX11_init_13 ?_
  refine n_iconst dX11_init_14 (by decide) (fun r2 e2_z => ?_)
  refine m_putI zf_RX11_13 (by intro C T N h_z; cases h_z; rfl) rfl dX11_init_15 (c2_z.2.2.1 (0, 10, 0) (List.mem_of_getElem? (i := 0) (by decide +kernel))).2.1 ?_
  obtain ⟨f3_z, hf3⟩ : ∃ u9, u9 = zu f1_z a 1 r2 := ⟨_, rfl⟩
  rw [← hf3]
  have c3_z : ctS w2 f3_z j1 w f j a 2 cL_X11_1 cP_X11_2 cV_X11_3 cZ_X11_1 := by rw [hf3]; exact ctS_putI (k := 1) (o := 0) (x := r2) (v := 0) c2_z (by decide) (zi_eq.mpr (e2_z.trans (by decide))) (by decide +kernel)
  refine r_aloadR0 dX11_init_18 ?_
  refine n_iconst dX11_init_19 (by decide) (fun r3 e3_z => ?_)
  refine m_putI zf_RX11_17 (by intro C T N h_z; cases h_z; rfl) rfl dX11_init_20 (c3_z.2.2.1 (0, 10, 0) (List.mem_of_getElem? (i := 0) (by decide +kernel))).2.1 ?_
  obtain ⟨f4_z, hf4⟩ : ∃ u9, u9 = zu f3_z a 2 r3 := ⟨_, rfl⟩
  rw [← hf4]
  have c4_z : ctS w2 f4_z j1 w f j a 2 cL_X11_1 cP_X11_2 cV_X11_4 cZ_X11_1 := by rw [hf4]; exact ctS_putI (k := 2) (o := 0) (x := r3) (v := 0) c3_z (by decide) (zi_eq.mpr (e3_z.trans (by decide))) (by decide +kernel)
  refine r_aloadR0 dX11_init_23 ?_
  refine n_iconst dX11_init_24 (by decide) (fun r4 e4_z => ?_)
  refine m_putI zf_RX11_20 (by intro C T N h_z; cases h_z; rfl) rfl dX11_init_25 (c4_z.2.2.1 (0, 10, 0) (List.mem_of_getElem? (i := 0) (by decide +kernel))).2.1 ?_
  obtain ⟨f5_z, hf5⟩ : ∃ u9, u9 = zu f4_z a 3 r4 := ⟨_, rfl⟩
  rw [← hf5]
  have c5_z : ctS w2 f5_z j1 w f j a 2 cL_X11_1 cP_X11_2 cV_X11_5 cZ_X11_1 := by rw [hf5]; exact ctS_putI (k := 3) (o := 0) (x := r4) (v := -1) c4_z (by decide) (zi_eq.mpr (e4_z.trans (by decide))) (by decide +kernel)
  refine r_aloadR0 dX11_init_28 ?_
  refine m_new (ctS_S c5_z) zn_RX11_23 dX11_init_29 (by first | exact Nat.le_of_ble_eq_true rfl | decide) (by first | exact Nat.le_of_ble_eq_true rfl | decide) (fun w6 f6_z j6 n6 m6_z p6 => ?_)
  refine zR_b (b2 := (2, 913)) rfl ?_
  refine r_dup dX11_init_32 rfl ?_
  refine r_callI (n := 0) (As := []) (b2 := (8, 924)) (Or.inr ⟨"NapkinDeeds", List.mem_of_getElem? (i := 0) rfl⟩) zin_yX5_init zini_RX5 zcode_yX5_init rfl ⟨by decide, by decide, by decide +kernel⟩ (by decide) dX11_init_33 (s_X5_init (a := a + 2) (w := w6) (f := f6_z) (j := j6) G (by rw [n6.1]) n6.2.1 n6.2.2.1 m6_z.2 hK_z (fun w7 f7_z j7 s7 => ?_)) rfl rfl (by first | exact Nat.le_of_ble_eq_true rfl | decide) (by first | exact Nat.le_of_ble_eq_true rfl | decide) (by first | exact Nat.le_of_ble_eq_true rfl | decide) (by first | exact Nat.le_of_ble_eq_true rfl | decide) (by first | exact Nat.le_of_ble_eq_true rfl | decide) (fun r w9 h9 => h9)
  have c7_z : ctS w7 f7_z j7 w f j a 11 cL_X11_7 cP_X11_7 cV_X11_7 cZ_X11_7 := ctS_sub (c := 2) (c2_z := 9) (L := cL_X11_1) (PL := cP_X11_2) (VL := cV_X11_5) (ZL := cZ_X11_1) (L2 := cL_X5) (PL2 := cP_X5) (VL2 := cV_X5) (ZL2 := cZ_X5) c5_z n6 m6_z p6 s7
  refine zR_b (b2 := (10, 1837)) rfl ?_
  refine m_putPF (q := (a + 2)) zf_RX11_26 (by intro C T N h_z; cases h_z; exact ⟨rfl, rfl⟩) rfl rfl dX11_init_36 (c7_z.2.2.1 (0, 10, 0) (List.mem_of_getElem? (i := 0) (by decide +kernel))).2.1 ?_
  obtain ⟨w8, hw8⟩ : ∃ u9, u9 = zsP w7 (zu (zP w7) a 4 (some (a + 2))) := ⟨_, rfl⟩
  rw [← hw8]
  have c8_z : ctS w8 f7_z j7 w f j a 11 cL_X11_7 cP_X11_8 cV_X11_7 cZ_X11_7 := by rw [hw8]; exact ctS_putP (k := 4) (o := 0) (t := 2) c7_z (by decide) (by decide +kernel)
  refine r_aloadR0 dX11_init_39 ?_
  refine m_new (ctS_S c8_z) zn_RX11_30 dX11_init_40 (by first | exact Nat.le_of_ble_eq_true rfl | decide) (by first | exact Nat.le_of_ble_eq_true rfl | decide) (fun w9 f9_z j9 n9 m9_z p9 => ?_)
  refine zR_b (b2 := (11, 1842)) rfl ?_
  refine r_dup dX11_init_43 rfl ?_
  refine r_callI (n := 0) (As := []) (b2 := (40, 254)) (Or.inl zm_RX11_32) zin_yX7_init zini_RX7 zcode_yX7_init rfl ⟨by decide, by decide, by decide +kernel⟩ (by decide) dX11_init_44 (s_X7_init (a := a + 11) (w := w9) (f := f9_z) (j := j9) G (by rw [n9.1]) n9.2.1 n9.2.2.1 m9_z.2 (fun w10 f10 j10 s10 => ?_)) rfl rfl (by first | exact Nat.le_of_ble_eq_true rfl | decide) (by first | exact Nat.le_of_ble_eq_true rfl | decide) (by first | exact Nat.le_of_ble_eq_true rfl | decide) (by first | exact Nat.le_of_ble_eq_true rfl | decide) (by first | exact Nat.le_of_ble_eq_true rfl | decide) (fun r w9 h9 => h9)
  have c10 : ctS w10 f10 j10 w f j a 52 cL_X11_10 cP_X11_10 cV_X11_10 cZ_X11_10 := ctS_sub (c := 11) (c2_z := 41) (L := cL_X11_7) (PL := cP_X11_8) (VL := cV_X11_7) (ZL := cZ_X11_7) (L2 := cL_X7) (PL2 := cP_X7) (VL2 := cV_X7) (ZL2 := cZ_X7) c8_z n9 m9_z p9 s10
  refine zR_b (b2 := (51, 2096)) rfl ?_
  refine m_putPF (q := (a + 11)) zf_RX11_33 (by intro C T N h_z; cases h_z; exact ⟨rfl, rfl⟩) rfl rfl dX11_init_47 (c10.2.2.1 (0, 10, 0) (List.mem_of_getElem? (i := 0) (by decide +kernel))).2.1 ?_
  obtain ⟨w11, hw11⟩ : ∃ u9, u9 = zsP w10 (zu (zP w10) a 5 (some (a + 11))) := ⟨_, rfl⟩
  rw [← hw11]
  have c11 : ctS w11 f10 j10 w f j a 52 cL_X11_10 cP_X11_11 cV_X11_10 cZ_X11_10 := by rw [hw11]; exact ctS_putP (k := 5) (o := 0) (t := 11) c10 (by decide) (by decide +kernel)
  refine r_aloadR0 dX11_init_50 ?_
  refine n_iconst dX11_init_51 (by decide) (fun r5 e5_z => ?_)
  refine m_newQ (ci := 6) (N := 3) (ctS_S c11) (zt1 (List.mem_of_getElem? (i := 134) (by decide +kernel)) (by decide +kernel)) (by decide +kernel) dX11_init_52 (by omega) (by decide) (by first | exact Nat.le_of_ble_eq_true rfl | decide) (by first | exact Nat.le_of_ble_eq_true rfl | decide) (fun w12 f12 j12 n12 m12 p12 => ?_)
  have c12 : ctS w12 f12 j12 w f j a 53 cL_X11_12 cP_X11_11 cV_X11_10 cZ_X11_12 := ctS_new c11 n12 m12 p12
  refine zR_b (b2 := (52, 2099)) rfl ?_
  refine m_putPF (q := (a + 52)) zf_RX11_37 (by intro C T N h_z; cases h_z; exact ⟨rfl, rfl⟩) rfl rfl dX11_init_55 (c12.2.2.1 (0, 10, 0) (List.mem_of_getElem? (i := 0) (by decide +kernel))).2.1 ?_
  obtain ⟨w13, hw13⟩ : ∃ u9, u9 = zsP w12 (zu (zP w12) a 6 (some (a + 52))) := ⟨_, rfl⟩
  rw [← hw13]
  have c13 : ctS w13 f12 j12 w f j a 53 cL_X11_12 cP_X11_13 cV_X11_10 cZ_X11_12 := by rw [hw13]; exact ctS_putP (k := 6) (o := 0) (t := 52) c12 (by decide) (by decide +kernel)
  refine r_aloadR0 dX11_init_58 ?_
  refine n_iconst dX11_init_59 (by decide) (fun r6 e6_z => ?_)
  refine m_newQ (ci := 7) (N := 4) (ctS_S c13) (zt1 (List.mem_of_getElem? (i := 182) (by decide +kernel)) (by decide +kernel)) (by decide +kernel) dX11_init_60 (by omega) (by decide) (by first | exact Nat.le_of_ble_eq_true rfl | decide) (by first | exact Nat.le_of_ble_eq_true rfl | decide) (fun w14 f14 j14 n14 m14 p14 => ?_)
  have c14 : ctS w14 f14 j14 w f j a 54 cL_X11_14 cP_X11_13 cV_X11_10 cZ_X11_14 := ctS_new c13 n14 m14 p14
  refine zR_b (b2 := (53, 2103)) rfl ?_
  refine m_putPF (q := (a + 53)) zf_RX11_43 (by intro C T N h_z; cases h_z; exact ⟨rfl, rfl⟩) rfl rfl dX11_init_63 (c14.2.2.1 (0, 10, 0) (List.mem_of_getElem? (i := 0) (by decide +kernel))).2.1 ?_
  obtain ⟨w15, hw15⟩ : ∃ u9, u9 = zsP w14 (zu (zP w14) a 7 (some (a + 53))) := ⟨_, rfl⟩
  rw [← hw15]
  have c15 : ctS w15 f14 j14 w f j a 54 cL_X11_14 cP_X11_15 cV_X11_10 cZ_X11_14 := by rw [hw15]; exact ctS_putP (k := 7) (o := 0) (t := 53) c14 (by decide) (by decide +kernel)
  refine r_aloadR0 dX11_init_66 ?_
  refine m_new (ctS_S c15) zn_RX11_47 dX11_init_67 (by first | exact Nat.le_of_ble_eq_true rfl | decide) (by first | exact Nat.le_of_ble_eq_true rfl | decide) (fun w16 f16 j16 n16 m16 p16 => ?_)
  refine zR_b (b2 := (54, 2105)) rfl ?_
  refine r_dup dX11_init_70 rfl ?_
  refine r_callI (n := 0) (As := []) (b2 := (2, 72)) (Or.inr ⟨"NapkinDeeds", List.mem_of_getElem? (i := 4) rfl⟩) zin_yX6_init zini_RX6 zcode_yX6_init rfl ⟨by decide, by decide, by decide +kernel⟩ (by decide) dX11_init_71 (s_X6_init (a := a + 54) (w := w16) (f := f16) (j := j16) G (by rw [n16.1]) n16.2.1 n16.2.2.1 m16.2 (fun w17 f17 j17 s17 => ?_)) rfl rfl (by first | exact Nat.le_of_ble_eq_true rfl | decide) (by first | exact Nat.le_of_ble_eq_true rfl | decide) (by first | exact Nat.le_of_ble_eq_true rfl | decide) (by first | exact Nat.le_of_ble_eq_true rfl | decide) (by first | exact Nat.le_of_ble_eq_true rfl | decide) (fun r w9 h9 => h9)
  have c17 : ctS w17 f17 j17 w f j a 57 cL_X11_17 cP_X11_17 cV_X11_17 cZ_X11_17 := ctS_sub (c := 54) (c2_z := 3) (L := cL_X11_14) (PL := cP_X11_15) (VL := cV_X11_10) (ZL := cZ_X11_14) (L2 := cL_X6) (PL2 := cP_X6) (VL2 := cV_X6) (ZL2 := cZ_X6) c15 n16 m16 p16 s17
  refine zR_b (b2 := (56, 2177)) rfl ?_
  refine m_putPF (q := (a + 54)) zf_RX11_50 (by intro C T N h_z; cases h_z; exact ⟨rfl, rfl⟩) rfl rfl dX11_init_74 (c17.2.2.1 (0, 10, 0) (List.mem_of_getElem? (i := 0) (by decide +kernel))).2.1 ?_
  obtain ⟨w18, hw18⟩ : ∃ u9, u9 = zsP w17 (zu (zP w17) a 8 (some (a + 54))) := ⟨_, rfl⟩
  rw [← hw18]
  have c18 : ctS w18 f17 j17 w f j a 57 cL_X11_17 cP_X11_18 cV_X11_17 cZ_X11_17 := by rw [hw18]; exact ctS_putP (k := 8) (o := 0) (t := 54) c17 (by decide) (by decide +kernel)
  refine r_aloadR0 dX11_init_77 ?_
  refine m_new (ctS_S c18) zn_RX11_54 dX11_init_78 (by first | exact Nat.le_of_ble_eq_true rfl | decide) (by first | exact Nat.le_of_ble_eq_true rfl | decide) (fun w19 f19 j19 n19 m19 p19 => ?_)
  refine zR_b (b2 := (57, 2190)) rfl ?_
  refine r_dup dX11_init_81 rfl ?_
  refine r_callI (n := 0) (As := []) (b2 := (17, 10286)) (Or.inr ⟨"NapkinDeeds", List.mem_of_getElem? (i := 5) rfl⟩) zin_yX9_init zini_RX9 zcode_yX9_init rfl ⟨by decide, by decide, by decide +kernel⟩ (by decide) dX11_init_82 (s_X9_init (a := a + 57) (w := w19) (f := f19) (j := j19) G (by rw [n19.1]) n19.2.1 n19.2.2.1 m19.2 (fun w20 f20 j20 s20 => ?_)) rfl rfl (by first | exact Nat.le_of_ble_eq_true rfl | decide) (by first | exact Nat.le_of_ble_eq_true rfl | decide) (by first | exact Nat.le_of_ble_eq_true rfl | decide) (by first | exact Nat.le_of_ble_eq_true rfl | decide) (by first | exact Nat.le_of_ble_eq_true rfl | decide) (fun r w9 h9 => h9)
  have c20 : ctS w20 f20 j20 w f j a 75 cL_X11_20 cP_X11_20 cV_X11_20 cZ_X11_20 := ctS_sub (c := 57) (c2_z := 18) (L := cL_X11_17) (PL := cP_X11_18) (VL := cV_X11_17) (ZL := cZ_X11_17) (L2 := cL_X9) (PL2 := cP_X9) (VL2 := cV_X9) (ZL2 := cZ_X9) c18 n19 m19 p19 s20
  refine zR_b (b2 := (74, 12476)) rfl ?_
  refine m_putPF (q := (a + 57)) zf_RX11_57 (by intro C T N h_z; cases h_z; exact ⟨rfl, rfl⟩) rfl rfl dX11_init_85 (c20.2.2.1 (0, 10, 0) (List.mem_of_getElem? (i := 0) (by decide +kernel))).2.1 ?_
  obtain ⟨w21, hw21⟩ : ∃ u9, u9 = zsP w20 (zu (zP w20) a 9 (some (a + 57))) := ⟨_, rfl⟩
  rw [← hw21]
  have c21 : ctS w21 f20 j20 w f j a 75 cL_X11_20 cP_X11_21 cV_X11_20 cZ_X11_20 := by rw [hw21]; exact ctS_putP (k := 9) (o := 0) (t := 57) c20 (by decide) (by decide +kernel)
  refine r_aloadR0 dX11_init_88 ?_
  refine m_new (ctS_S c21) zn_RX11_54 dX11_init_89 (by first | exact Nat.le_of_ble_eq_true rfl | decide) (by first | exact Nat.le_of_ble_eq_true rfl | decide) (fun w22 f22 j22 n22 m22 p22 => ?_)
  refine zR_b (b2 := (75, 12489)) rfl ?_
  refine r_dup dX11_init_92 rfl ?_
  refine r_callI (n := 0) (As := []) (b2 := (17, 10286)) (Or.inr ⟨"NapkinDeeds", List.mem_of_getElem? (i := 5) rfl⟩) zin_yX9_init zini_RX9 zcode_yX9_init rfl ⟨by decide, by decide, by decide +kernel⟩ (by decide) dX11_init_93 (s_X9_init (a := a + 75) (w := w22) (f := f22) (j := j22) G (by rw [n22.1]) n22.2.1 n22.2.2.1 m22.2 (fun w23 f23 j23 s23 => ?_)) rfl rfl (by first | exact Nat.le_of_ble_eq_true rfl | decide) (by first | exact Nat.le_of_ble_eq_true rfl | decide) (by first | exact Nat.le_of_ble_eq_true rfl | decide) (by first | exact Nat.le_of_ble_eq_true rfl | decide) (by first | exact Nat.le_of_ble_eq_true rfl | decide) (fun r w9 h9 => h9)
  have c23 : ctS w23 f23 j23 w f j a 93 cL_X11_23 cP_X11_23 cV_X11_23 cZ_X11_23 := ctS_sub (c := 75) (c2_z := 18) (L := cL_X11_20) (PL := cP_X11_21) (VL := cV_X11_20) (ZL := cZ_X11_20) (L2 := cL_X9) (PL2 := cP_X9) (VL2 := cV_X9) (ZL2 := cZ_X9) c21 n22 m22 p22 s23
  refine zR_b (b2 := (92, 22775)) rfl ?_
  refine m_putPF (q := (a + 75)) zf_RX11_61 (by intro C T N h_z; cases h_z; exact ⟨rfl, rfl⟩) rfl rfl dX11_init_96 (c23.2.2.1 (0, 10, 0) (List.mem_of_getElem? (i := 0) (by decide +kernel))).2.1 ?_
  obtain ⟨w24, hw24⟩ : ∃ u9, u9 = zsP w23 (zu (zP w23) a 10 (some (a + 75))) := ⟨_, rfl⟩
  rw [← hw24]
  have c24 : ctS w24 f23 j23 w f j a 93 cL_X11_23 cP_X11_24 cV_X11_23 cZ_X11_23 := by rw [hw24]; exact ctS_putP (k := 10) (o := 0) (t := 75) c23 (by decide) (by decide +kernel)
  refine r_aloadR0 dX11_init_99 ?_
  refine m_new (ctS_S c24) zn_RX11_64 dX11_init_100 (by first | exact Nat.le_of_ble_eq_true rfl | decide) (by first | exact Nat.le_of_ble_eq_true rfl | decide) (fun w25 f25 j25 n25 m25 p25 => ?_)
  refine zR_b (b2 := (93, 22780)) rfl ?_
  refine r_dup dX11_init_103 rfl ?_
  refine r_callI (n := 0) (As := []) (b2 := (3, 18)) (Or.inr ⟨"NapkinDeeds", List.mem_of_getElem? (i := 7) rfl⟩) zin_yX2_init zini_RX2 zcode_yX2_init rfl ⟨by decide, by decide, by decide +kernel⟩ (by decide) dX11_init_104 (s_X2_init (a := a + 93) (w := w25) (f := f25) (j := j25) G (by rw [n25.1]) n25.2.1 n25.2.2.1 m25.2 (fun w26 f26 j26 s26 => ?_)) rfl rfl (by first | exact Nat.le_of_ble_eq_true rfl | decide) (by first | exact Nat.le_of_ble_eq_true rfl | decide) (by first | exact Nat.le_of_ble_eq_true rfl | decide) (by first | exact Nat.le_of_ble_eq_true rfl | decide) (by first | exact Nat.le_of_ble_eq_true rfl | decide) (fun r w9 h9 => h9)
  have c26 : ctS w26 f26 j26 w f j a 97 cL_X11_26 cP_X11_26 cV_X11_26 cZ_X11_26 := ctS_sub (c := 93) (c2_z := 4) (L := cL_X11_23) (PL := cP_X11_24) (VL := cV_X11_23) (ZL := cZ_X11_23) (L2 := cL_X2) (PL2 := cP_X2) (VL2 := cV_X2) (ZL2 := cZ_X2) c24 n25 m25 p25 s26
  refine zR_b (b2 := (96, 22798)) rfl ?_
  refine m_putPF (q := (a + 93)) zf_RX11_67 (by intro C T N h_z; cases h_z; exact ⟨rfl, rfl⟩) rfl rfl dX11_init_107 (c26.2.2.1 (0, 10, 0) (List.mem_of_getElem? (i := 0) (by decide +kernel))).2.1 ?_
  obtain ⟨w27, hw27⟩ : ∃ u9, u9 = zsP w26 (zu (zP w26) a 11 (some (a + 93))) := ⟨_, rfl⟩
  rw [← hw27]
  have c27 : ctS w27 f26 j26 w f j a 97 cL_X11_26 cP_X11_27 cV_X11_26 cZ_X11_26 := by rw [hw27]; exact ctS_putP (k := 11) (o := 0) (t := 93) c26 (by decide) (by decide +kernel)
  refine r_aloadR0 dX11_init_110 ?_
  refine m_new (ctS_S c27) zn_RX11_64 dX11_init_111 (by first | exact Nat.le_of_ble_eq_true rfl | decide) (by first | exact Nat.le_of_ble_eq_true rfl | decide) (fun w28 f28 j28 n28 m28 p28 => ?_)
  refine zR_b (b2 := (97, 22803)) rfl ?_
  refine r_dup dX11_init_114 rfl ?_
  refine r_callI (n := 0) (As := []) (b2 := (3, 18)) (Or.inr ⟨"NapkinDeeds", List.mem_of_getElem? (i := 7) rfl⟩) zin_yX2_init zini_RX2 zcode_yX2_init rfl ⟨by decide, by decide, by decide +kernel⟩ (by decide) dX11_init_115 (s_X2_init (a := a + 97) (w := w28) (f := f28) (j := j28) G (by rw [n28.1]) n28.2.1 n28.2.2.1 m28.2 (fun w29 f29 j29 s29 => ?_)) rfl rfl (by first | exact Nat.le_of_ble_eq_true rfl | decide) (by first | exact Nat.le_of_ble_eq_true rfl | decide) (by first | exact Nat.le_of_ble_eq_true rfl | decide) (by first | exact Nat.le_of_ble_eq_true rfl | decide) (by first | exact Nat.le_of_ble_eq_true rfl | decide) (fun r w9 h9 => h9)
  have c29 : ctS w29 f29 j29 w f j a 101 cL_X11_29 cP_X11_29 cV_X11_29 cZ_X11_29 := ctS_sub (c := 97) (c2_z := 4) (L := cL_X11_26) (PL := cP_X11_27) (VL := cV_X11_26) (ZL := cZ_X11_26) (L2 := cL_X2) (PL2 := cP_X2) (VL2 := cV_X2) (ZL2 := cZ_X2) c27 n28 m28 p28 s29
  refine zR_b (b2 := (100, 22821)) rfl ?_
  refine m_putPF (q := (a + 97)) zf_RX11_71 (by intro C T N h_z; cases h_z; exact ⟨rfl, rfl⟩) rfl rfl dX11_init_118 (c29.2.2.1 (0, 10, 0) (List.mem_of_getElem? (i := 0) (by decide +kernel))).2.1 ?_
  obtain ⟨w30, hw30⟩ : ∃ u9, u9 = zsP w29 (zu (zP w29) a 12 (some (a + 97))) := ⟨_, rfl⟩
  rw [← hw30]
  have c30 : ctS w30 f29 j29 w f j a 101 cL_X11_29 cP_X11_30 cV_X11_29 cZ_X11_29 := by rw [hw30]; exact ctS_putP (k := 12) (o := 0) (t := 97) c29 (by decide) (by decide +kernel)
  refine r_aloadR0 dX11_init_121 ?_
  refine m_new (ctS_S c30) zn_RX11_74 dX11_init_122 (by first | exact Nat.le_of_ble_eq_true rfl | decide) (by first | exact Nat.le_of_ble_eq_true rfl | decide) (fun w31 f31 j31 n31 m31 p31 => ?_)
  refine zR_b (b2 := (101, 22824)) rfl ?_
  refine r_dup dX11_init_125 rfl ?_
  refine r_callI (n := 0) (As := []) (b2 := (2, 17)) (Or.inr ⟨"NapkinDeeds", List.mem_of_getElem? (i := 8) rfl⟩) zin_yX3_init zini_RX3 zcode_yX3_init rfl ⟨by decide, by decide, by decide +kernel⟩ (by decide) dX11_init_126 (s_X3_init (a := a + 101) (w := w31) (f := f31) (j := j31) G (by rw [n31.1]) n31.2.1 n31.2.2.1 m31.2 (fun w32 f32 j32 s32 => ?_)) rfl rfl (by first | exact Nat.le_of_ble_eq_true rfl | decide) (by first | exact Nat.le_of_ble_eq_true rfl | decide) (by first | exact Nat.le_of_ble_eq_true rfl | decide) (by first | exact Nat.le_of_ble_eq_true rfl | decide) (by first | exact Nat.le_of_ble_eq_true rfl | decide) (fun r w9 h9 => h9)
  have c32 : ctS w32 f32 j32 w f j a 104 cL_X11_32 cP_X11_32 cV_X11_32 cZ_X11_32 := ctS_sub (c := 101) (c2_z := 3) (L := cL_X11_29) (PL := cP_X11_30) (VL := cV_X11_29) (ZL := cZ_X11_29) (L2 := cL_X3) (PL2 := cP_X3) (VL2 := cV_X3) (ZL2 := cZ_X3) c30 n31 m31 p31 s32
  refine zR_b (b2 := (103, 22841)) rfl ?_
  refine m_putPF (q := (a + 101)) zf_RX11_77 (by intro C T N h_z; cases h_z; exact ⟨rfl, rfl⟩) rfl rfl dX11_init_129 (c32.2.2.1 (0, 10, 0) (List.mem_of_getElem? (i := 0) (by decide +kernel))).2.1 ?_
  obtain ⟨w33, hw33⟩ : ∃ u9, u9 = zsP w32 (zu (zP w32) a 13 (some (a + 101))) := ⟨_, rfl⟩
  rw [← hw33]
  have c33 : ctS w33 f32 j32 w f j a 104 cL_X11_32 cP_X11_33 cV_X11_32 cZ_X11_32 := by rw [hw33]; exact ctS_putP (k := 13) (o := 0) (t := 101) c32 (by decide) (by decide +kernel)
  refine r_aloadR0 dX11_init_132 ?_
  refine n_bipush dX11_init_133 (by decide) (fun r7 e7_z => ?_)
  refine m_newI (N := 6) (ctS_S c33) dX11_init_135 (by omega) (by decide) (by first | exact Nat.le_of_ble_eq_true rfl | decide) (by first | exact Nat.le_of_ble_eq_true rfl | decide) (fun w34 f34 j34 n34 m34 p34 => ?_)
  have c34 : ctS w34 f34 j34 w f j a 105 cL_X11_34 cP_X11_33 cV_X11_32 cZ_X11_34 := ctS_new c33 n34 m34 p34
  refine zR_b (b2 := (104, 22847)) rfl ?_
  refine m_putPF (q := (a + 104)) zf_RX11_81 (by intro C T N h_z; cases h_z; exact ⟨rfl, rfl⟩) rfl rfl dX11_init_137 (c34.2.2.1 (0, 10, 0) (List.mem_of_getElem? (i := 0) (by decide +kernel))).2.1 ?_
  obtain ⟨w35, hw35⟩ : ∃ u9, u9 = zsP w34 (zu (zP w34) a 14 (some (a + 104))) := ⟨_, rfl⟩
  rw [← hw35]
  have c35 : ctS w35 f34 j34 w f j a 105 cL_X11_34 cP_X11_35 cV_X11_32 cZ_X11_34 := by rw [hw35]; exact ctS_putP (k := 14) (o := 0) (t := 104) c34 (by decide) (by decide +kernel)
  refine r_aloadR0 dX11_init_140 ?_
  refine n_iconst dX11_init_141 (by decide) (fun r8 e8 => ?_)
  refine m_newI (N := 4) (ctS_S c35) dX11_init_142 (by omega) (by decide) (by first | exact Nat.le_of_ble_eq_true rfl | decide) (by first | exact Nat.le_of_ble_eq_true rfl | decide) (fun w36 f36 j36 n36 m36 p36 => ?_)
  have c36 : ctS w36 f36 j36 w f j a 106 cL_X11_36 cP_X11_35 cV_X11_32 cZ_X11_36 := ctS_new c35 n36 m36 p36
  refine zR_b (b2 := (105, 22851)) rfl ?_
  refine m_putPF (q := (a + 105)) zf_RX11_85 (by intro C T N h_z; cases h_z; exact ⟨rfl, rfl⟩) rfl rfl dX11_init_144 (c36.2.2.1 (0, 10, 0) (List.mem_of_getElem? (i := 0) (by decide +kernel))).2.1 ?_
  obtain ⟨w37, hw37⟩ : ∃ u9, u9 = zsP w36 (zu (zP w36) a 15 (some (a + 105))) := ⟨_, rfl⟩
  rw [← hw37]
  have c37 : ctS w37 f36 j36 w f j a 106 cL_X11_36 cP_X11_37 cV_X11_32 cZ_X11_36 := by rw [hw37]; exact ctS_putP (k := 15) (o := 0) (t := 105) c36 (by decide) (by decide +kernel)
  refine r_aloadR0 dX11_init_147 ?_
  refine n_bipush dX11_init_148 (by decide) (fun r9 e9_z => ?_)
  refine m_newI (N := 100) (ctS_S c37) dX11_init_150 (by omega) (by decide) (by first | exact Nat.le_of_ble_eq_true rfl | decide) (by first | exact Nat.le_of_ble_eq_true rfl | decide) (fun w38 f38 j38 n38 m38 p38 => ?_)
  have c38 : ctS w38 f38 j38 w f j a 107 cL_X11_38 cP_X11_37 cV_X11_32 cZ_X11_38 := ctS_new c37 n38 m38 p38
  refine zR_b (b2 := (106, 22951)) rfl ?_
  refine m_putPF (q := (a + 106)) zf_RX11_88 (by intro C T N h_z; cases h_z; exact ⟨rfl, rfl⟩) rfl rfl dX11_init_152 (c38.2.2.1 (0, 10, 0) (List.mem_of_getElem? (i := 0) (by decide +kernel))).2.1 ?_
  obtain ⟨w39, hw39⟩ : ∃ u9, u9 = zsP w38 (zu (zP w38) a 16 (some (a + 106))) := ⟨_, rfl⟩
  rw [← hw39]
  have c39 : ctS w39 f38 j38 w f j a 107 cL_X11_38 cP_X11_39 cV_X11_32 cZ_X11_38 := by rw [hw39]; exact ctS_putP (k := 16) (o := 0) (t := 106) c38 (by decide) (by decide +kernel)
  refine r_aloadR0 dX11_init_155 ?_
  refine n_sipush dX11_init_156 (by decide) (fun r10 e10_z => ?_)
  refine m_newI (N := 720) (ctS_S c39) dX11_init_159 (by omega) (by decide) (by first | exact Nat.le_of_ble_eq_true rfl | decide) (by first | exact Nat.le_of_ble_eq_true rfl | decide) (fun w40 f40 j40 n40 m40 p40 => ?_)
  have c40 : ctS w40 f40 j40 w f j a 108 cL_X11_40 cP_X11_39 cV_X11_32 cZ_X11_40 := ctS_new c39 n40 m40 p40
  refine zR_b (b2 := (107, 23671)) rfl ?_
  refine m_putPF (q := (a + 107)) zf_RX11_91 (by intro C T N h_z; cases h_z; exact ⟨rfl, rfl⟩) rfl rfl dX11_init_161 (c40.2.2.1 (0, 10, 0) (List.mem_of_getElem? (i := 0) (by decide +kernel))).2.1 ?_
  obtain ⟨w41, hw41⟩ : ∃ u9, u9 = zsP w40 (zu (zP w40) a 17 (some (a + 107))) := ⟨_, rfl⟩
  rw [← hw41]
  have c41 : ctS w41 f40 j40 w f j a 108 cL_X11_40 cP_X11_41 cV_X11_32 cZ_X11_40 := by rw [hw41]; exact ctS_putP (k := 17) (o := 0) (t := 107) c40 (by decide) (by decide +kernel)
  refine n_iconst dX11_init_164 (by decide) (fun r11 e11_z => ?_)
  refine r_istore1 dX11_init_165 rfl ?_
  refine r_iload1 dX11_init_166 ?_
  refine r_aloadR0 dX11_init_167 ?_
  refine m_getR (q := (a + 52)) zf_RX11_37 rfl dX11_init_168 (c41.2.2.1 (0, 10, 0) (List.mem_of_getElem? (i := 0) (by decide +kernel))).2.1 (c41.2.2.2.1 (0, 6, 52) (List.mem_of_getElem? (i := 51) (by decide +kernel))).2 ?_
  refine m_alen (n := 3) dX11_init_171 (zge (c41.2.2.1 (52, 36, 3) (List.mem_of_getElem? (i := 52) (by decide +kernel))).2.1 (by decide)) (c41.2.2.1 (52, 36, 3) (List.mem_of_getElem? (i := 52) (by decide +kernel))).2.2 (by decide) (fun r12 e12_z => ?_)
  refine t_icge (t := 194) dX11_init_172 (by decide) (fun h172 => False.elim (by omega)) (fun h172 => ?_)
  refine r_aloadR0 dX11_init_175 ?_
  refine m_getR (q := (a + 52)) zf_RX11_37 rfl dX11_init_176 (c41.2.2.1 (0, 10, 0) (List.mem_of_getElem? (i := 0) (by decide +kernel))).2.1 (c41.2.2.2.1 (0, 6, 52) (List.mem_of_getElem? (i := 51) (by decide +kernel))).2 ?_
  refine r_iload1 dX11_init_179 ?_
  refine m_new (ctS_S c41) zn_RX11_30 dX11_init_180 (by first | exact Nat.le_of_ble_eq_true rfl | decide) (by first | exact Nat.le_of_ble_eq_true rfl | decide) (fun w42 f42 j42 n42 m42 p42 => ?_)
  refine zR_b (b2 := (108, 23676)) rfl ?_
  refine r_dup dX11_init_183 rfl ?_
  refine r_callI (n := 0) (As := []) (b2 := (40, 254)) (Or.inl zm_RX11_32) zin_yX7_init zini_RX7 zcode_yX7_init rfl ⟨by decide, by decide, by decide +kernel⟩ (by decide) dX11_init_184 (s_X7_init (a := a + 108) (w := w42) (f := f42) (j := j42) G (by rw [n42.1]) n42.2.1 n42.2.2.1 m42.2 (fun w43 f43 j43 s43 => ?_)) rfl rfl (by first | exact Nat.le_of_ble_eq_true rfl | decide) (by first | exact Nat.le_of_ble_eq_true rfl | decide) (by first | exact Nat.le_of_ble_eq_true rfl | decide) (by first | exact Nat.le_of_ble_eq_true rfl | decide) (by first | exact Nat.le_of_ble_eq_true rfl | decide) (fun r w9 h9 => h9)
  have c43 : ctS w43 f43 j43 w f j a 149 cL_X11_43 cP_X11_43 cV_X11_43 cZ_X11_43 := ctS_sub (c := 108) (c2_z := 41) (L := cL_X11_40) (PL := cP_X11_41) (VL := cV_X11_32) (ZL := cZ_X11_40) (L2 := cL_X7) (PL2 := cP_X7) (VL2 := cV_X7) (ZL2 := cZ_X7) c41 n42 m42 p42 s43
  refine zR_b (b2 := (148, 23930)) rfl ?_
  refine m_aast (ci := 6) (k := 0) dX11_init_187 (by decide) (c43.2.2.1 (52, 36, 3) (List.mem_of_getElem? (i := 52) (by decide +kernel))).2.1 (c43.2.2.1 (52, 36, 3) (List.mem_of_getElem? (i := 52) (by decide +kernel))).2.2 (by omega) (by decide) (c43.2.2.1 (108, 7, 0) (List.mem_of_getElem? (i := 108) (by decide +kernel))).2.1 ?_
  obtain ⟨w44, hw44⟩ : ∃ u9, u9 = zsP w43 (zu (zP w43) (a + 52) 0 (some (a + 108))) := ⟨_, rfl⟩
  rw [← hw44]
  have c44 : ctS w44 f43 j43 w f j a 149 cL_X11_43 cP_X11_44 cV_X11_43 cZ_X11_43 := by rw [hw44]; exact ctS_putP (k := 0) (o := 52) (t := 108) c43 (by decide) (by decide +kernel)
  refine n_iinc1 dX11_init_188 (by decide) rfl (by omega) (fun r13 e13_z => ?_)
  refine r_goto (t := 166) dX11_init_191 (by decide) ?_
  refine r_iload1 dX11_init_166 ?_
  refine r_aloadR0 dX11_init_167 ?_
  refine m_getR (q := (a + 52)) zf_RX11_37 rfl dX11_init_168 (c44.2.2.1 (0, 10, 0) (List.mem_of_getElem? (i := 0) (by decide +kernel))).2.1 (c44.2.2.2.1 (0, 6, 52) (List.mem_of_getElem? (i := 51) (by decide +kernel))).2 ?_
  refine m_alen (n := 3) dX11_init_171 (zge (c44.2.2.1 (52, 36, 3) (List.mem_of_getElem? (i := 52) (by decide +kernel))).2.1 (by decide)) (c44.2.2.1 (52, 36, 3) (List.mem_of_getElem? (i := 52) (by decide +kernel))).2.2 (by decide) (fun r14 e14_z => ?_)
  refine t_icge (t := 194) dX11_init_172 (by decide) (fun h172 => False.elim (by omega)) (fun h172 => ?_)
  refine r_aloadR0 dX11_init_175 ?_
  refine m_getR (q := (a + 52)) zf_RX11_37 rfl dX11_init_176 (c44.2.2.1 (0, 10, 0) (List.mem_of_getElem? (i := 0) (by decide +kernel))).2.1 (c44.2.2.2.1 (0, 6, 52) (List.mem_of_getElem? (i := 51) (by decide +kernel))).2 ?_
  refine r_iload1 dX11_init_179 ?_
  refine m_new (ctS_S c44) zn_RX11_30 dX11_init_180 (by first | exact Nat.le_of_ble_eq_true rfl | decide) (by first | exact Nat.le_of_ble_eq_true rfl | decide) (fun w45 f45 j45 n45 m45 p45 => ?_)
  refine zR_b (b2 := (149, 23935)) rfl ?_
  refine r_dup dX11_init_183 rfl ?_
  refine r_callI (n := 0) (As := []) (b2 := (40, 254)) (Or.inl zm_RX11_32) zin_yX7_init zini_RX7 zcode_yX7_init rfl ⟨by decide, by decide, by decide +kernel⟩ (by decide) dX11_init_184 (s_X7_init (a := a + 149) (w := w45) (f := f45) (j := j45) G (by rw [n45.1]) n45.2.1 n45.2.2.1 m45.2 (fun w46 f46 j46 s46 => ?_)) rfl rfl (by first | exact Nat.le_of_ble_eq_true rfl | decide) (by first | exact Nat.le_of_ble_eq_true rfl | decide) (by first | exact Nat.le_of_ble_eq_true rfl | decide) (by first | exact Nat.le_of_ble_eq_true rfl | decide) (by first | exact Nat.le_of_ble_eq_true rfl | decide) (fun r w9 h9 => h9)
  have c46 : ctS w46 f46 j46 w f j a 190 cL_X11_46 cP_X11_46 cV_X11_46 cZ_X11_46 := ctS_sub (c := 149) (c2_z := 41) (L := cL_X11_43) (PL := cP_X11_44) (VL := cV_X11_43) (ZL := cZ_X11_43) (L2 := cL_X7) (PL2 := cP_X7) (VL2 := cV_X7) (ZL2 := cZ_X7) c44 n45 m45 p45 s46
  refine zR_b (b2 := (189, 24189)) rfl ?_
  refine m_aast (ci := 6) (k := 1) dX11_init_187 (by decide) (c46.2.2.1 (52, 36, 3) (List.mem_of_getElem? (i := 52) (by decide +kernel))).2.1 (c46.2.2.1 (52, 36, 3) (List.mem_of_getElem? (i := 52) (by decide +kernel))).2.2 (by omega) (by decide) (c46.2.2.1 (149, 7, 0) (List.mem_of_getElem? (i := 149) (by decide +kernel))).2.1 ?_
  obtain ⟨w47, hw47⟩ : ∃ u9, u9 = zsP w46 (zu (zP w46) (a + 52) 1 (some (a + 149))) := ⟨_, rfl⟩
  rw [← hw47]
  have c47 : ctS w47 f46 j46 w f j a 190 cL_X11_46 cP_X11_47 cV_X11_46 cZ_X11_46 := by rw [hw47]; exact ctS_putP (k := 1) (o := 52) (t := 149) c46 (by decide) (by decide +kernel)
  refine n_iinc1 dX11_init_188 (by decide) rfl (by omega) (fun r15 e15_z => ?_)
  refine r_goto (t := 166) dX11_init_191 (by decide) ?_
  refine r_iload1 dX11_init_166 ?_
  refine r_aloadR0 dX11_init_167 ?_
  refine m_getR (q := (a + 52)) zf_RX11_37 rfl dX11_init_168 (c47.2.2.1 (0, 10, 0) (List.mem_of_getElem? (i := 0) (by decide +kernel))).2.1 (c47.2.2.2.1 (0, 6, 52) (List.mem_of_getElem? (i := 51) (by decide +kernel))).2 ?_
  refine m_alen (n := 3) dX11_init_171 (zge (c47.2.2.1 (52, 36, 3) (List.mem_of_getElem? (i := 52) (by decide +kernel))).2.1 (by decide)) (c47.2.2.1 (52, 36, 3) (List.mem_of_getElem? (i := 52) (by decide +kernel))).2.2 (by decide) (fun r16 e16_z => ?_)
  refine t_icge (t := 194) dX11_init_172 (by decide) (fun h172 => False.elim (by omega)) (fun h172 => ?_)
  refine r_aloadR0 dX11_init_175 ?_
  refine m_getR (q := (a + 52)) zf_RX11_37 rfl dX11_init_176 (c47.2.2.1 (0, 10, 0) (List.mem_of_getElem? (i := 0) (by decide +kernel))).2.1 (c47.2.2.2.1 (0, 6, 52) (List.mem_of_getElem? (i := 51) (by decide +kernel))).2 ?_
  refine r_iload1 dX11_init_179 ?_
  refine m_new (ctS_S c47) zn_RX11_30 dX11_init_180 (by first | exact Nat.le_of_ble_eq_true rfl | decide) (by first | exact Nat.le_of_ble_eq_true rfl | decide) (fun w48 f48 j48 n48 m48 p48 => ?_)
  refine zR_b (b2 := (190, 24194)) rfl ?_
  refine r_dup dX11_init_183 rfl ?_
  refine r_callI (n := 0) (As := []) (b2 := (40, 254)) (Or.inl zm_RX11_32) zin_yX7_init zini_RX7 zcode_yX7_init rfl ⟨by decide, by decide, by decide +kernel⟩ (by decide) dX11_init_184 (s_X7_init (a := a + 190) (w := w48) (f := f48) (j := j48) G (by rw [n48.1]) n48.2.1 n48.2.2.1 m48.2 (fun w49 f49 j49 s49 => ?_)) rfl rfl (by first | exact Nat.le_of_ble_eq_true rfl | decide) (by first | exact Nat.le_of_ble_eq_true rfl | decide) (by first | exact Nat.le_of_ble_eq_true rfl | decide) (by first | exact Nat.le_of_ble_eq_true rfl | decide) (by first | exact Nat.le_of_ble_eq_true rfl | decide) (fun r w9 h9 => h9)
  have c49 : ctS w49 f49 j49 w f j a 231 cL_X11_49 cP_X11_49 cV_X11_49 cZ_X11_49 := ctS_sub (c := 190) (c2_z := 41) (L := cL_X11_46) (PL := cP_X11_47) (VL := cV_X11_46) (ZL := cZ_X11_46) (L2 := cL_X7) (PL2 := cP_X7) (VL2 := cV_X7) (ZL2 := cZ_X7) c47 n48 m48 p48 s49
  refine zR_b (b2 := (230, 24448)) rfl ?_
  refine m_aast (ci := 6) (k := 2) dX11_init_187 (by decide) (c49.2.2.1 (52, 36, 3) (List.mem_of_getElem? (i := 52) (by decide +kernel))).2.1 (c49.2.2.1 (52, 36, 3) (List.mem_of_getElem? (i := 52) (by decide +kernel))).2.2 (by omega) (by decide) (c49.2.2.1 (190, 7, 0) (List.mem_of_getElem? (i := 190) (by decide +kernel))).2.1 ?_
  obtain ⟨w50, hw50⟩ : ∃ u9, u9 = zsP w49 (zu (zP w49) (a + 52) 2 (some (a + 190))) := ⟨_, rfl⟩
  rw [← hw50]
  have c50 : ctS w50 f49 j49 w f j a 231 cL_X11_49 cP_X11_50 cV_X11_49 cZ_X11_49 := by rw [hw50]; exact ctS_putP (k := 2) (o := 52) (t := 190) c49 (by decide) (by decide +kernel)
  refine n_iinc1 dX11_init_188 (by decide) rfl (by omega) (fun r17 e17_z => ?_)
  refine r_goto (t := 166) dX11_init_191 (by decide) ?_
  refine r_iload1 dX11_init_166 ?_
  refine r_aloadR0 dX11_init_167 ?_
  refine m_getR (q := (a + 52)) zf_RX11_37 rfl dX11_init_168 (c50.2.2.1 (0, 10, 0) (List.mem_of_getElem? (i := 0) (by decide +kernel))).2.1 (c50.2.2.2.1 (0, 6, 52) (List.mem_of_getElem? (i := 51) (by decide +kernel))).2 ?_
  refine m_alen (n := 3) dX11_init_171 (zge (c50.2.2.1 (52, 36, 3) (List.mem_of_getElem? (i := 52) (by decide +kernel))).2.1 (by decide)) (c50.2.2.1 (52, 36, 3) (List.mem_of_getElem? (i := 52) (by decide +kernel))).2.2 (by decide) (fun r18 e18_z => ?_)
  refine t_icge (t := 194) dX11_init_172 (by decide) (fun h172 => ?_) (fun h172 => False.elim (by omega))
  refine n_iconst dX11_init_194 (by decide) (fun r19 e19_z => ?_)
  refine r_istore1 dX11_init_195 rfl ?_
  refine r_iload1 dX11_init_196 ?_
  refine r_aloadR0 dX11_init_197 ?_
  refine m_getR (q := (a + 53)) zf_RX11_43 rfl dX11_init_198 (c50.2.2.1 (0, 10, 0) (List.mem_of_getElem? (i := 0) (by decide +kernel))).2.1 (c50.2.2.2.1 (0, 7, 53) (List.mem_of_getElem? (i := 52) (by decide +kernel))).2 ?_
  refine m_alen (n := 4) dX11_init_201 (zge (c50.2.2.1 (53, 37, 4) (List.mem_of_getElem? (i := 53) (by decide +kernel))).2.1 (by decide)) (c50.2.2.1 (53, 37, 4) (List.mem_of_getElem? (i := 53) (by decide +kernel))).2.2 (by decide) (fun r20 e20 => ?_)
  refine t_icge (t := 224) dX11_init_202 (by decide) (fun h202 => False.elim (by omega)) (fun h202 => ?_)
  refine r_aloadR0 dX11_init_205 ?_
  refine m_getR (q := (a + 53)) zf_RX11_43 rfl dX11_init_206 (c50.2.2.1 (0, 10, 0) (List.mem_of_getElem? (i := 0) (by decide +kernel))).2.1 (c50.2.2.2.1 (0, 7, 53) (List.mem_of_getElem? (i := 52) (by decide +kernel))).2 ?_
  refine r_iload1 dX11_init_209 ?_
  refine m_new (ctS_S c50) zn_RX11_41 dX11_init_210 (by first | exact Nat.le_of_ble_eq_true rfl | decide) (by first | exact Nat.le_of_ble_eq_true rfl | decide) (fun w51 f51 j51 n51 m51 p51 => ?_)
  refine zR_b (b2 := (231, 24452)) rfl ?_
  refine r_dup dX11_init_213 rfl ?_
  refine r_callI (n := 0) (As := []) (b2 := (1, 30)) (Or.inr ⟨"NapkinDeeds", List.mem_of_getElem? (i := 9) rfl⟩) zin_yX8_init zini_RX8 zcode_yX8_init rfl ⟨by decide, by decide, by decide +kernel⟩ (by decide) dX11_init_214 (s_X8_init (a := a + 231) (w := w51) (f := f51) (j := j51) G (by rw [n51.1]) n51.2.1 n51.2.2.1 m51.2 (fun w52 f52 j52 s52 => ?_)) rfl rfl (by first | exact Nat.le_of_ble_eq_true rfl | decide) (by first | exact Nat.le_of_ble_eq_true rfl | decide) (by first | exact Nat.le_of_ble_eq_true rfl | decide) (by first | exact Nat.le_of_ble_eq_true rfl | decide) (by first | exact Nat.le_of_ble_eq_true rfl | decide) (fun r w9 h9 => h9)
  have c52 : ctS w52 f52 j52 w f j a 233 cL_X11_52 cP_X11_52 cV_X11_52 cZ_X11_52 := ctS_sub (c := 231) (c2_z := 2) (L := cL_X11_49) (PL := cP_X11_50) (VL := cV_X11_49) (ZL := cZ_X11_49) (L2 := cL_X8) (PL2 := cP_X8) (VL2 := cV_X8) (ZL2 := cZ_X8) c50 n51 m51 p51 s52
  refine zR_b (b2 := (232, 24482)) rfl ?_
  refine m_aast (ci := 7) (k := 0) dX11_init_217 (by decide) (c52.2.2.1 (53, 37, 4) (List.mem_of_getElem? (i := 53) (by decide +kernel))).2.1 (c52.2.2.1 (53, 37, 4) (List.mem_of_getElem? (i := 53) (by decide +kernel))).2.2 (by omega) (by decide) (c52.2.2.1 (231, 8, 0) (List.mem_of_getElem? (i := 231) (by decide +kernel))).2.1 ?_
  obtain ⟨w53, hw53⟩ : ∃ u9, u9 = zsP w52 (zu (zP w52) (a + 53) 0 (some (a + 231))) := ⟨_, rfl⟩
  rw [← hw53]
  have c53 : ctS w53 f52 j52 w f j a 233 cL_X11_52 cP_X11_53 cV_X11_52 cZ_X11_52 := by rw [hw53]; exact ctS_putP (k := 0) (o := 53) (t := 231) c52 (by decide) (by decide +kernel)
  refine n_iinc1 dX11_init_218 (by decide) rfl (by omega) (fun r21 e21_z => ?_)
  refine r_goto (t := 196) dX11_init_221 (by decide) ?_
  refine r_iload1 dX11_init_196 ?_
  refine r_aloadR0 dX11_init_197 ?_
  refine m_getR (q := (a + 53)) zf_RX11_43 rfl dX11_init_198 (c53.2.2.1 (0, 10, 0) (List.mem_of_getElem? (i := 0) (by decide +kernel))).2.1 (c53.2.2.2.1 (0, 7, 53) (List.mem_of_getElem? (i := 52) (by decide +kernel))).2 ?_
  refine m_alen (n := 4) dX11_init_201 (zge (c53.2.2.1 (53, 37, 4) (List.mem_of_getElem? (i := 53) (by decide +kernel))).2.1 (by decide)) (c53.2.2.1 (53, 37, 4) (List.mem_of_getElem? (i := 53) (by decide +kernel))).2.2 (by decide) (fun r22 e22_z => ?_)
  refine t_icge (t := 224) dX11_init_202 (by decide) (fun h202 => False.elim (by omega)) (fun h202 => ?_)
  refine r_aloadR0 dX11_init_205 ?_
  refine m_getR (q := (a + 53)) zf_RX11_43 rfl dX11_init_206 (c53.2.2.1 (0, 10, 0) (List.mem_of_getElem? (i := 0) (by decide +kernel))).2.1 (c53.2.2.2.1 (0, 7, 53) (List.mem_of_getElem? (i := 52) (by decide +kernel))).2 ?_
  refine r_iload1 dX11_init_209 ?_
  refine m_new (ctS_S c53) zn_RX11_41 dX11_init_210 (by first | exact Nat.le_of_ble_eq_true rfl | decide) (by first | exact Nat.le_of_ble_eq_true rfl | decide) (fun w54 f54 j54 n54 m54 p54 => ?_)
  refine zR_b (b2 := (233, 24486)) rfl ?_
  refine r_dup dX11_init_213 rfl ?_
  refine r_callI (n := 0) (As := []) (b2 := (1, 30)) (Or.inr ⟨"NapkinDeeds", List.mem_of_getElem? (i := 9) rfl⟩) zin_yX8_init zini_RX8 zcode_yX8_init rfl ⟨by decide, by decide, by decide +kernel⟩ (by decide) dX11_init_214 (s_X8_init (a := a + 233) (w := w54) (f := f54) (j := j54) G (by rw [n54.1]) n54.2.1 n54.2.2.1 m54.2 (fun w55 f55 j55 s55 => ?_)) rfl rfl (by first | exact Nat.le_of_ble_eq_true rfl | decide) (by first | exact Nat.le_of_ble_eq_true rfl | decide) (by first | exact Nat.le_of_ble_eq_true rfl | decide) (by first | exact Nat.le_of_ble_eq_true rfl | decide) (by first | exact Nat.le_of_ble_eq_true rfl | decide) (fun r w9 h9 => h9)
  have c55 : ctS w55 f55 j55 w f j a 235 cL_X11_55 cP_X11_55 cV_X11_55 cZ_X11_55 := ctS_sub (c := 233) (c2_z := 2) (L := cL_X11_52) (PL := cP_X11_53) (VL := cV_X11_52) (ZL := cZ_X11_52) (L2 := cL_X8) (PL2 := cP_X8) (VL2 := cV_X8) (ZL2 := cZ_X8) c53 n54 m54 p54 s55
  refine zR_b (b2 := (234, 24516)) rfl ?_
  refine m_aast (ci := 7) (k := 1) dX11_init_217 (by decide) (c55.2.2.1 (53, 37, 4) (List.mem_of_getElem? (i := 53) (by decide +kernel))).2.1 (c55.2.2.1 (53, 37, 4) (List.mem_of_getElem? (i := 53) (by decide +kernel))).2.2 (by omega) (by decide) (c55.2.2.1 (233, 8, 0) (List.mem_of_getElem? (i := 233) (by decide +kernel))).2.1 ?_
  obtain ⟨w56, hw56⟩ : ∃ u9, u9 = zsP w55 (zu (zP w55) (a + 53) 1 (some (a + 233))) := ⟨_, rfl⟩
  rw [← hw56]
  have c56 : ctS w56 f55 j55 w f j a 235 cL_X11_55 cP_X11_56 cV_X11_55 cZ_X11_55 := by rw [hw56]; exact ctS_putP (k := 1) (o := 53) (t := 233) c55 (by decide) (by decide +kernel)
  refine n_iinc1 dX11_init_218 (by decide) rfl (by omega) (fun r23 e23_z => ?_)
  refine r_goto (t := 196) dX11_init_221 (by decide) ?_
  refine r_iload1 dX11_init_196 ?_
  refine r_aloadR0 dX11_init_197 ?_
  refine m_getR (q := (a + 53)) zf_RX11_43 rfl dX11_init_198 (c56.2.2.1 (0, 10, 0) (List.mem_of_getElem? (i := 0) (by decide +kernel))).2.1 (c56.2.2.2.1 (0, 7, 53) (List.mem_of_getElem? (i := 52) (by decide +kernel))).2 ?_
  refine m_alen (n := 4) dX11_init_201 (zge (c56.2.2.1 (53, 37, 4) (List.mem_of_getElem? (i := 53) (by decide +kernel))).2.1 (by decide)) (c56.2.2.1 (53, 37, 4) (List.mem_of_getElem? (i := 53) (by decide +kernel))).2.2 (by decide) (fun r24 e24_z => ?_)
  refine t_icge (t := 224) dX11_init_202 (by decide) (fun h202 => False.elim (by omega)) (fun h202 => ?_)
  refine r_aloadR0 dX11_init_205 ?_
  refine m_getR (q := (a + 53)) zf_RX11_43 rfl dX11_init_206 (c56.2.2.1 (0, 10, 0) (List.mem_of_getElem? (i := 0) (by decide +kernel))).2.1 (c56.2.2.2.1 (0, 7, 53) (List.mem_of_getElem? (i := 52) (by decide +kernel))).2 ?_
  refine r_iload1 dX11_init_209 ?_
  refine m_new (ctS_S c56) zn_RX11_41 dX11_init_210 (by first | exact Nat.le_of_ble_eq_true rfl | decide) (by first | exact Nat.le_of_ble_eq_true rfl | decide) (fun w57 f57 j57 n57 m57 p57 => ?_)
  refine zR_b (b2 := (235, 24520)) rfl ?_
  refine r_dup dX11_init_213 rfl ?_
  refine r_callI (n := 0) (As := []) (b2 := (1, 30)) (Or.inr ⟨"NapkinDeeds", List.mem_of_getElem? (i := 9) rfl⟩) zin_yX8_init zini_RX8 zcode_yX8_init rfl ⟨by decide, by decide, by decide +kernel⟩ (by decide) dX11_init_214 (s_X8_init (a := a + 235) (w := w57) (f := f57) (j := j57) G (by rw [n57.1]) n57.2.1 n57.2.2.1 m57.2 (fun w58 f58 j58 s58 => ?_)) rfl rfl (by first | exact Nat.le_of_ble_eq_true rfl | decide) (by first | exact Nat.le_of_ble_eq_true rfl | decide) (by first | exact Nat.le_of_ble_eq_true rfl | decide) (by first | exact Nat.le_of_ble_eq_true rfl | decide) (by first | exact Nat.le_of_ble_eq_true rfl | decide) (fun r w9 h9 => h9)
  have c58 : ctS w58 f58 j58 w f j a 237 cL_X11_58 cP_X11_58 cV_X11_58 cZ_X11_58 := ctS_sub (c := 235) (c2_z := 2) (L := cL_X11_55) (PL := cP_X11_56) (VL := cV_X11_55) (ZL := cZ_X11_55) (L2 := cL_X8) (PL2 := cP_X8) (VL2 := cV_X8) (ZL2 := cZ_X8) c56 n57 m57 p57 s58
  refine zR_b (b2 := (236, 24550)) rfl ?_
  refine m_aast (ci := 7) (k := 2) dX11_init_217 (by decide) (c58.2.2.1 (53, 37, 4) (List.mem_of_getElem? (i := 53) (by decide +kernel))).2.1 (c58.2.2.1 (53, 37, 4) (List.mem_of_getElem? (i := 53) (by decide +kernel))).2.2 (by omega) (by decide) (c58.2.2.1 (235, 8, 0) (List.mem_of_getElem? (i := 235) (by decide +kernel))).2.1 ?_
  obtain ⟨w59, hw59⟩ : ∃ u9, u9 = zsP w58 (zu (zP w58) (a + 53) 2 (some (a + 235))) := ⟨_, rfl⟩
  rw [← hw59]
  have c59 : ctS w59 f58 j58 w f j a 237 cL_X11_58 cP_X11_59 cV_X11_58 cZ_X11_58 := by rw [hw59]; exact ctS_putP (k := 2) (o := 53) (t := 235) c58 (by decide) (by decide +kernel)
  refine n_iinc1 dX11_init_218 (by decide) rfl (by omega) (fun r25 e25_z => ?_)
  refine r_goto (t := 196) dX11_init_221 (by decide) ?_
  refine r_iload1 dX11_init_196 ?_
  refine r_aloadR0 dX11_init_197 ?_
  refine m_getR (q := (a + 53)) zf_RX11_43 rfl dX11_init_198 (c59.2.2.1 (0, 10, 0) (List.mem_of_getElem? (i := 0) (by decide +kernel))).2.1 (c59.2.2.2.1 (0, 7, 53) (List.mem_of_getElem? (i := 52) (by decide +kernel))).2 ?_
  refine m_alen (n := 4) dX11_init_201 (zge (c59.2.2.1 (53, 37, 4) (List.mem_of_getElem? (i := 53) (by decide +kernel))).2.1 (by decide)) (c59.2.2.1 (53, 37, 4) (List.mem_of_getElem? (i := 53) (by decide +kernel))).2.2 (by decide) (fun r26 e26_z => ?_)
  refine t_icge (t := 224) dX11_init_202 (by decide) (fun h202 => False.elim (by omega)) (fun h202 => ?_)
  refine r_aloadR0 dX11_init_205 ?_
  refine m_getR (q := (a + 53)) zf_RX11_43 rfl dX11_init_206 (c59.2.2.1 (0, 10, 0) (List.mem_of_getElem? (i := 0) (by decide +kernel))).2.1 (c59.2.2.2.1 (0, 7, 53) (List.mem_of_getElem? (i := 52) (by decide +kernel))).2 ?_
  refine r_iload1 dX11_init_209 ?_
  refine m_new (ctS_S c59) zn_RX11_41 dX11_init_210 (by first | exact Nat.le_of_ble_eq_true rfl | decide) (by first | exact Nat.le_of_ble_eq_true rfl | decide) (fun w60 f60 j60 n60 m60 p60 => ?_)
  refine zR_b (b2 := (237, 24554)) rfl ?_
  refine r_dup dX11_init_213 rfl ?_
  refine r_callI (n := 0) (As := []) (b2 := (1, 30)) (Or.inr ⟨"NapkinDeeds", List.mem_of_getElem? (i := 9) rfl⟩) zin_yX8_init zini_RX8 zcode_yX8_init rfl ⟨by decide, by decide, by decide +kernel⟩ (by decide) dX11_init_214 (s_X8_init (a := a + 237) (w := w60) (f := f60) (j := j60) G (by rw [n60.1]) n60.2.1 n60.2.2.1 m60.2 (fun w61 f61 j61 s61 => ?_)) rfl rfl (by first | exact Nat.le_of_ble_eq_true rfl | decide) (by first | exact Nat.le_of_ble_eq_true rfl | decide) (by first | exact Nat.le_of_ble_eq_true rfl | decide) (by first | exact Nat.le_of_ble_eq_true rfl | decide) (by first | exact Nat.le_of_ble_eq_true rfl | decide) (fun r w9 h9 => h9)
  have c61 : ctS w61 f61 j61 w f j a 239 cL_X11_61 cP_X11_61 cV_X11_61 cZ_X11_61 := ctS_sub (c := 237) (c2_z := 2) (L := cL_X11_58) (PL := cP_X11_59) (VL := cV_X11_58) (ZL := cZ_X11_58) (L2 := cL_X8) (PL2 := cP_X8) (VL2 := cV_X8) (ZL2 := cZ_X8) c59 n60 m60 p60 s61
  refine zR_b (b2 := (238, 24584)) rfl ?_
  refine m_aast (ci := 7) (k := 3) dX11_init_217 (by decide) (c61.2.2.1 (53, 37, 4) (List.mem_of_getElem? (i := 53) (by decide +kernel))).2.1 (c61.2.2.1 (53, 37, 4) (List.mem_of_getElem? (i := 53) (by decide +kernel))).2.2 (by omega) (by decide) (c61.2.2.1 (237, 8, 0) (List.mem_of_getElem? (i := 237) (by decide +kernel))).2.1 ?_
  obtain ⟨w62, hw62⟩ : ∃ u9, u9 = zsP w61 (zu (zP w61) (a + 53) 3 (some (a + 237))) := ⟨_, rfl⟩
  rw [← hw62]
  have c62 : ctS w62 f61 j61 w f j a 239 cL_X11_61 cP_X11_62 cV_X11_61 cZ_X11_61 := by rw [hw62]; exact ctS_putP (k := 3) (o := 53) (t := 237) c61 (by decide) (by decide +kernel)
  refine n_iinc1 dX11_init_218 (by decide) rfl (by omega) (fun r27 e27_z => ?_)
  refine r_goto (t := 196) dX11_init_221 (by decide) ?_
  refine r_iload1 dX11_init_196 ?_
  refine r_aloadR0 dX11_init_197 ?_
  refine m_getR (q := (a + 53)) zf_RX11_43 rfl dX11_init_198 (c62.2.2.1 (0, 10, 0) (List.mem_of_getElem? (i := 0) (by decide +kernel))).2.1 (c62.2.2.2.1 (0, 7, 53) (List.mem_of_getElem? (i := 52) (by decide +kernel))).2 ?_
  refine m_alen (n := 4) dX11_init_201 (zge (c62.2.2.1 (53, 37, 4) (List.mem_of_getElem? (i := 53) (by decide +kernel))).2.1 (by decide)) (c62.2.2.1 (53, 37, 4) (List.mem_of_getElem? (i := 53) (by decide +kernel))).2.2 (by decide) (fun r28 e28_z => ?_)
  refine t_icge (t := 224) dX11_init_202 (by decide) (fun h202 => ?_) (fun h202 => False.elim (by omega))
  refine r_vret dX11_init_224 rfl (by first | exact Nat.le_of_ble_eq_true rfl | decide) (by first | exact Nat.le_of_ble_eq_true rfl | decide) ?_
  exact hQ _ _ _ (ctS_cv c62 (by decide +kernel) (by decide +kernel) (by decide +kernel) (by decide +kernel))
