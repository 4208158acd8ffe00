def FT : List (List Nat) := [[2, 0, 2, 0, 0, 0], [0, 0, 0, 0, 0, 0, 0, 0, 0, 0], [2, 2, 2, 0, 0], [2], [2, 2, 2, 2, 2, 2, 2, 2, 0, 0, 0, 0, 0, 0], [2, 2], [2, 2, 2, 0, 0, 0, 0, 0, 0], [2, 2, 2], [2, 0], [2, 2, 2, 2, 2, 2, 2, 2, 2, 2, 0, 0], [0, 0, 2, 2, 2, 2, 2, 1, 2, 2, 0, 0, 0, 0, 0, 0, 0, 0, 0, 2, 2, 2, 2, 2, 2, 2, 2, 2, 2, 2, 2, 2, 0], [3, 4]]
def k_X0_init : Nat := 0
def T_X0_init : TB := [(0, .aload 0, 1), (1, .invokeinterface 1 0, 4), (4, .aload 0, 5), (5, .sipush 16, 7), (7, .newarray .int, 9), (9, .putfield 0, 12), (12, .return_, 13)]
def k_X0_answer : Nat := 1
def T_X0_answer : TB := [(0, .aload 0, 1), (1, .sipush 0, 2), (2, .putfield 1, 5), (5, .aload 0, 6), (6, .aload 1, 7), (7, .getfield 263, 10), (10, .iload 2, 11), (11, .aaload, 12), (12, .putfield 2, 15), (15, .aload 0, 16), (16, .iload 2, 17), 
  (17, .putfield 3, 20), (20, .aload 1, 21), (21, .aload 0, 22), (22, .getfield 2, 25), (25, .invokestatic 62, 28), (28, .istore 4, 30), (30, .aload 0, 31), (31, .getstatic 2, 34), (34, .iload 4, 36), (36, .invokestatic 3, 39), 
  (39, .putfield 4, 42), (42, .aload 0, 43), (43, .getstatic 3, 46), (46, .iload 4, 48), (48, .invokestatic 3, 51), (51, .putfield 5, 54), (54, .aload 0, 55), (55, .iload 3, 56), (56, .sipush 1, 57), (57, .if_icmp .ne 67, 60), 
  (60, .aload 0, 61), (61, .getfield 5, 64), (64, .goto 71, 67), (67, .aload 0, 68), (68, .getfield 4, 71), (71, .sipush 0, 72), (72, .invokestatic 4, 75), (75, .ireturn, 76)]
def k_X0_traced : Nat := 2
def T_X0_traced : TB := [(0, .iload 1, 1), (1, .ifCond .lt 21, 4), (4, .iload 1, 5), (5, .aload 0, 6), (6, .getfield 1, 9), (9, .if_icmp .ge 21, 12), (12, .aload 0, 13), (13, .getfield 0, 16), (16, .iload 1, 17), (17, .iaload, 18), (18, .goto 23, 21), 
  (21, .sipush (-1000000), 23), (23, .ireturn, 24)]
def k_X0_nearestBody : Nat := 3
def T_X0_nearestBody : TB := [(0, .iload 1, 1), (1, .istore 2, 2), (2, .sipush 0, 3), (3, .istore 3, 4), (4, .iload 3, 5), (5, .sipush 7, 7), (7, .if_icmp .ge 36, 10), (10, .aload 0, 11), (11, .iload 2, 12), (12, .iaload, 13), (13, .ifCond .ne 36, 16), 
  (16, .getstatic 0, 19), (19, .iload 2, 20), (20, .iaload, 21), (21, .ifCond .lt 36, 24), (24, .getstatic 0, 27), (27, .iload 2, 28), (28, .iaload, 29), (29, .istore 2, 30), (30, .iinc 3 1, 33), (33, .goto 4, 36), 
  (36, .aload 0, 37), (37, .iload 2, 38), (38, .iaload, 39), (39, .ireturn, 40)]
def k_X0_given : Nat := 4
def T_X0_given : TB := [(0, .iload 2, 1), (1, .sipush 16, 3), (3, .if_icmp .le 8, 6), (6, .sipush 0, 7), (7, .ireturn, 8), (8, .aload 0, 9), (9, .getfield 1, 12), (12, .sipush 16, 14), (14, .if_icmp .ge 37, 17), (17, .aload 0, 18), (18, .getfield 0, 21), 
  (21, .aload 0, 22), (22, .getfield 1, 25), (25, .iload 1, 26), (26, .iastore, 27), (27, .aload 0, 28), (28, .dup, 29), (29, .getfield 1, 32), (32, .sipush 1, 33), (33, .iadd, 34), (34, .putfield 1, 37), (37, .iload 2, 38), 
  (38, .sipush 1, 39), (39, .iadd, 40), (40, .istore 3, 41), (41, .iload 1, 42), 
  (42, .lookupswitch 271 #[(10, 116), (11, 124), (12, 142), (13, 158), (14, 176), (15, 192), (16, 271), (17, 271), (18, 271), (19, 271), (20, 201), (21, 206), (22, 225), (23, 237), (24, 255)], 116), (116, .aload 0, 117), 
  (117, .getfield 2, 120), (120, .getfield 67, 123), (123, .ireturn, 124), (124, .aload 0, 125), (125, .sipush 10, 127), (127, .iload 3, 128), (128, .invokestatic 4, 131), (131, .aload 0, 132), (132, .aload 0, 133), 
  (133, .getfield 5, 136), (136, .iload 3, 137), (137, .invokestatic 4, 140), (140, .iadd, 141), (141, .ireturn, 142), (142, .aload 0, 143), (143, .sipush 11, 145), (145, .iload 3, 146), (146, .invokestatic 4, 149), 
  (149, .aload 0, 150), (150, .getfield 2, 153), (153, .getfield 66, 156), (156, .isub, 157), (157, .ireturn, 158), (158, .aload 0, 159), (159, .sipush 10, 161), (161, .iload 3, 162), (162, .invokestatic 4, 165), 
  (165, .sipush 1, 166), (166, .aload 0, 167), (167, .getfield 2, 170), (170, .getfield 68, 173), (173, .iadd, 174), (174, .imul, 175), (175, .ireturn, 176), (176, .aload 0, 177), (177, .sipush 13, 179), (179, .iload 3, 180), 
  (180, .invokestatic 4, 183), (183, .aload 0, 184), (184, .getfield 2, 187), (187, .getfield 70, 190), (190, .iadd, 191), (191, .ireturn, 192), (192, .aload 0, 193), (193, .sipush 10, 195), (195, .iload 3, 196), 
  (196, .invokestatic 4, 199), (199, .ineg, 200), (200, .ireturn, 201), (201, .aload 0, 202), (202, .getfield 3, 205), (205, .ireturn, 206), (206, .aload 0, 207), (207, .sipush 20, 209), (209, .iload 3, 210), 
  (210, .invokestatic 4, 213), (213, .sipush 100, 215), (215, .aload 0, 216), (216, .getfield 2, 219), (219, .getfield 65, 222), (222, .imul, 223), (223, .iadd, 224), (224, .ireturn, 225), (225, .aload 0, 226), 
  (226, .sipush 20, 228), (228, .iload 3, 229), (229, .invokestatic 4, 232), (232, .sipush 1000, 235), (235, .iadd, 236), (236, .ireturn, 237), (237, .aload 0, 238), (238, .sipush 22, 240), (240, .iload 3, 241), 
  (241, .invokestatic 4, 244), (244, .aload 0, 245), (245, .aload 0, 246), (246, .getfield 4, 249), (249, .iload 3, 250), (250, .invokestatic 4, 253), (253, .iadd, 254), (254, .ireturn, 255), (255, .aload 0, 256), 
  (256, .sipush 20, 258), (258, .iload 3, 259), (259, .invokestatic 4, 262), (262, .aload 0, 263), (263, .getfield 2, 266), (266, .getfield 66, 269), (269, .isub, 270), (270, .ireturn, 271), (271, .sipush 0, 272), 
  (272, .ireturn, 273)]
def k_X1_init : Nat := 5
def T_X1_init : TB := [(0, .aload 0, 1), (1, .invokeinterface 1 0, 4), (4, .return_, 5)]
def k_X1_begin : Nat := 6
def T_X1_begin : TB := [(0, .aload 0, 1), (1, .iload 1, 2), (2, .putfield 64, 5), (5, .aload 0, 6), (6, .iload 2, 7), (7, .putfield 65, 10), (10, .aload 0, 11), (11, .iload 3, 12), (12, .putfield 66, 15), (15, .aload 0, 16), (16, .iload 3, 17), 
  (17, .putfield 67, 20), (20, .aload 0, 21), (21, .sipush 0, 22), (22, .putfield 68, 25), (25, .aload 0, 26), (26, .sipush (-1000000), 28), (28, .putfield 69, 31), (31, .aload 0, 32), (32, .sipush (-1000000), 34), 
  (34, .putfield 70, 37), (37, .aload 0, 38), (38, .iload 4, 40), (40, .putfield 71, 43), (43, .aload 0, 44), (44, .sipush 0, 45), (45, .putfield 72, 48), (48, .aload 0, 49), (49, .sipush 0, 50), (50, .putfield 73, 53), 
  (53, .return_, 54)]
def k_X1_becomeLike : Nat := 7
def T_X1_becomeLike : TB := [(0, .aload 0, 1), (1, .aload 1, 2), (2, .getfield 64, 5), (5, .putfield 64, 8), (8, .aload 0, 9), (9, .aload 1, 10), (10, .getfield 65, 13), (13, .putfield 65, 16), (16, .aload 0, 17), (17, .aload 1, 18), (18, .getfield 66, 21), 
  (21, .putfield 66, 24), (24, .aload 0, 25), (25, .aload 1, 26), (26, .getfield 67, 29), (29, .putfield 67, 32), (32, .aload 0, 33), (33, .aload 1, 34), (34, .getfield 68, 37), (37, .putfield 68, 40), (40, .aload 0, 41), 
  (41, .aload 1, 42), (42, .getfield 69, 45), (45, .putfield 69, 48), (48, .aload 0, 49), (49, .aload 1, 50), (50, .getfield 70, 53), (53, .putfield 70, 56), (56, .aload 0, 57), (57, .aload 1, 58), (58, .getfield 71, 61), 
  (61, .putfield 71, 64), (64, .aload 0, 65), (65, .aload 1, 66), (66, .getfield 72, 69), (69, .putfield 72, 72), (72, .aload 0, 73), (73, .aload 1, 74), (74, .getfield 73, 77), (77, .putfield 73, 80), (80, .return_, 81)]
def k_X1_isPaid : Nat := 8
def T_X1_isPaid : TB := [(0, .aload 0, 1), (1, .getfield 67, 4), (4, .ifCond .ne 11, 7), (7, .sipush 1, 8), (8, .goto 12, 11), (11, .sipush 0, 12), (12, .ireturn, 13)]
def k_X1_isBred : Nat := 9
def T_X1_isBred : TB := [(0, .aload 0, 1), (1, .getfield 71, 4), (4, .sipush (-1000000), 6), (6, .if_icmp .eq 13, 9), (9, .sipush 1, 10), (10, .goto 14, 13), (13, .sipush 0, 14), (14, .ireturn, 15)]
def k_X1_hasLetterOn : Nat := 10
def T_X1_hasLetterOn : TB := [(0, .aload 0, 1), (1, .getfield 69, 4), (4, .sipush (-1000000), 6), (6, .if_icmp .eq 28, 9), (9, .iload 1, 10), (10, .aload 0, 11), (11, .getfield 69, 14), (14, .if_icmp .gt 28, 17), (17, .aload 0, 18), (18, .getfield 70, 21), 
  (21, .ifCond .le 28, 24), (24, .sipush 1, 25), (25, .goto 29, 28), (28, .sipush 0, 29), (29, .ireturn, 30)]
def k_X1_oathOf : Nat := 11
def T_X1_oathOf : TB := [(0, .aload 0, 1), (1, .getfield 72, 4), (4, .iload 1, 5), (5, .ishr, 6), (6, .sipush 1, 7), (7, .iand, 8), (8, .ifCond .ne 14, 11), (11, .sipush (-1000000), 13), (13, .ireturn, 14), (14, .aload 0, 15), (15, .getfield 73, 18), 
  (18, .iload 1, 19), (19, .ishr, 20), (20, .sipush 1, 21), (21, .iand, 22), (22, .ireturn, 23)]
def k_X1_setOath : Nat := 12
def T_X1_setOath : TB := [(0, .aload 0, 1), (1, .dup, 2), (2, .getfield 72, 5), (5, .sipush 1, 6), (6, .iload 1, 7), (7, .ishl, 8), (8, .ior, 9), (9, .putfield 72, 12), (12, .aload 0, 13), (13, .aload 0, 14), (14, .getfield 73, 17), (17, .sipush 1, 18), 
  (18, .iload 1, 19), (19, .ishl, 20), (20, .sipush (-1), 21), (21, .ixor, 22), (22, .iand, 23), (23, .iload 2, 24), (24, .iload 1, 25), (25, .ishl, 26), (26, .ior, 27), (27, .putfield 73, 30), (30, .return_, 31)]
def k_X2_init : Nat := 13
def T_X2_init : TB := [(0, .aload 0, 1), (1, .invokeinterface 1 0, 4), (4, .aload 0, 5), (5, .sipush 36, 7), (7, .newarray .int, 9), (9, .putfield 128, 12), (12, .aload 0, 13), (13, .sipush 6, 15), (15, .newarray .int, 17), (17, .putfield 129, 20), 
  (20, .aload 0, 21), (21, .sipush 6, 23), (23, .newarray .int, 25), (25, .putfield 130, 28), (28, .return_, 29)]
def k_X2_gather : Nat := 14
def T_X2_gather : TB := [(0, .aload 0, 1), (1, .aload 1, 2), (2, .getfield 264, 5), (5, .putfield 131, 8), (8, .aload 0, 9), (9, .sipush 1, 10), (10, .putfield 132, 13), (13, .sipush 0, 14), (14, .istore 2, 15), (15, .iload 2, 16), (16, .aload 0, 17), 
  (17, .getfield 131, 20), (20, .if_icmp .ge 51, 23), (23, .aload 0, 24), (24, .dup, 25), (25, .getfield 132, 28), (28, .sipush 3, 29), (29, .imul, 30), (30, .putfield 132, 33), (33, .aload 0, 34), (34, .getfield 129, 37), 
  (37, .iload 2, 38), (38, .aload 1, 39), (39, .getfield 256, 42), (42, .iload 2, 43), (43, .iaload, 44), (44, .iastore, 45), (45, .iinc 2 1, 48), (48, .goto 15, 51), (51, .aload 0, 52), (52, .getfield 128, 55), (55, .sipush 0, 56), 
  (56, .invokestatic 265, 59), (59, .sipush 0, 60), (60, .istore 2, 61), (61, .iload 2, 62), (62, .aload 1, 63), (63, .getfield 267, 66), (66, .if_icmp .ge 131, 69), (69, .aload 1, 70), (70, .getfield 263, 73), (73, .iload 2, 74), 
  (74, .aaload, 75), (75, .astore 3, 76), (76, .aload 1, 77), (77, .getfield 261, 80), (80, .aload 3, 81), (81, .getfield 64, 84), (84, .iaload, 85), (85, .istore 4, 87), (87, .aload 1, 88), (88, .getfield 261, 91), 
  (91, .aload 3, 92), (92, .getfield 65, 95), (95, .iaload, 96), (96, .istore 5, 98), (98, .iload 4, 100), (100, .iload 5, 102), (102, .if_icmp .eq 125, 105), (105, .aload 0, 106), (106, .getfield 128, 109), (109, .iload 4, 111), 
  (111, .sipush 6, 113), (113, .imul, 114), (114, .iload 5, 116), (116, .iadd, 117), (117, .dup2, 118), (118, .iaload, 119), (119, .aload 3, 120), (120, .getfield 67, 123), (123, .iadd, 124), (124, .iastore, 125), 
  (125, .iinc 2 1, 128), (128, .goto 61, 131), (131, .return_, 132)]
def k_X2_dueTo : Nat := 15
def T_X2_dueTo : TB := [(0, .aload 0, 1), (1, .getfield 128, 4), (4, .iload 1, 5), (5, .sipush 6, 7), (7, .imul, 8), (8, .iload 2, 9), (9, .iadd, 10), (10, .iaload, 11), (11, .ireturn, 12)]
def k_X2_owedBy : Nat := 16
def T_X2_owedBy : TB := [(0, .sipush 0, 1), (1, .istore 2, 2), (2, .sipush 0, 3), (3, .istore 3, 4), (4, .iload 3, 5), (5, .aload 0, 6), (6, .getfield 131, 9), (9, .if_icmp .ge 27, 12), (12, .iload 2, 13), (13, .aload 0, 14), (14, .iload 3, 15), 
  (15, .iload 1, 16), (16, .invokestatic 15, 19), (19, .iadd, 20), (20, .istore 2, 21), (21, .iinc 3 1, 24), (24, .goto 4, 27), (27, .iload 2, 28), (28, .ireturn, 29)]
def k_X2_choose : Nat := 17
def T_X2_choose : TB := [(0, .iload 1, 1), (1, .istore 2, 2), (2, .sipush 0, 3), (3, .istore 3, 4), (4, .iload 3, 5), (5, .aload 0, 6), (6, .getfield 131, 9), (9, .if_icmp .ge 31, 12), (12, .aload 0, 13), (13, .getfield 130, 16), (16, .iload 3, 17), 
  (17, .iload 2, 18), (18, .sipush 3, 19), (19, .irem, 20), (20, .iastore, 21), (21, .iload 2, 22), (22, .sipush 3, 23), (23, .idiv, 24), (24, .istore 2, 25), (25, .iinc 3 1, 28), (28, .goto 4, 31), (31, .return_, 32)]
def k_X2_worthOf : Nat := 18
def T_X2_worthOf : TB := [(0, .aload 0, 1), (1, .iload 1, 2), (2, .invokestatic 19, 5), (5, .aload 0, 6), (6, .iload 1, 7), (7, .aload 0, 8), (8, .getfield 130, 11), (11, .iload 1, 12), (12, .iaload, 13), (13, .invokestatic 20, 16), (16, .isub, 17), 
  (17, .ireturn, 18)]
def k_X2_gain : Nat := 19
def T_X2_gain : TB := [(0, .sipush 0, 1), (1, .istore 2, 2), (2, .sipush 0, 3), (3, .istore 3, 4), (4, .iload 3, 5), (5, .aload 0, 6), (6, .getfield 131, 9), (9, .if_icmp .ge 37, 12), (12, .aload 0, 13), (13, .getfield 130, 16), (16, .iload 3, 17), 
  (17, .iaload, 18), (18, .sipush 2, 19), (19, .if_icmp .eq 31, 22), (22, .iload 2, 23), (23, .aload 0, 24), (24, .iload 1, 25), (25, .iload 3, 26), (26, .invokestatic 15, 29), (29, .iadd, 30), (30, .istore 2, 31), 
  (31, .iinc 3 1, 34), (34, .goto 4, 37), (37, .iload 2, 38), (38, .ireturn, 39)]
def k_X2_loss : Nat := 20
def T_X2_loss : TB := [(0, .iload 2, 1), (1, .lookupswitch 45 #[(0, 28), (1, 34)], 28), (28, .aload 0, 29), (29, .iload 1, 30), (30, .invokestatic 16, 33), (33, .ireturn, 34), (34, .aload 0, 35), (35, .iload 1, 36), (36, .invokestatic 16, 39), 
  (39, .sipush 2, 40), (40, .idiv, 41), (41, .sipush 10, 43), (43, .iadd, 44), (44, .ireturn, 45), (45, .aload 0, 46), (46, .iload 1, 47), (47, .invokestatic 21, 50), (50, .ireturn, 51)]
def k_X2_tradeLost : Nat := 21
def T_X2_tradeLost : TB := [(0, .sipush 0, 1), (1, .istore 2, 2), (2, .sipush 0, 3), (3, .istore 3, 4), (4, .iload 3, 5), (5, .aload 0, 6), (6, .getfield 131, 9), (9, .if_icmp .ge 57, 12), (12, .aload 0, 13), (13, .iload 3, 14), (14, .iload 1, 15), 
  (15, .invokestatic 15, 18), (18, .ifCond .le 51, 21), (21, .iload 2, 22), (22, .aload 0, 23), (23, .getfield 130, 26), (26, .iload 3, 27), (27, .iaload, 28), (28, .sipush 2, 29), (29, .if_icmp .ne 43, 32), (32, .aload 0, 33), 
  (33, .getfield 129, 36), (36, .iload 3, 37), (37, .iaload, 38), (38, .sipush 2, 39), (39, .idiv, 40), (40, .goto 49, 43), (43, .aload 0, 44), (44, .getfield 129, 47), (47, .iload 3, 48), (48, .iaload, 49), (49, .iadd, 50), 
  (50, .istore 2, 51), (51, .iinc 3 1, 54), (54, .goto 4, 57), (57, .iload 2, 58), (58, .ireturn, 59)]
def k_X2_rowsAtRest : Nat := 22
def T_X2_rowsAtRest : TB := [(0, .sipush 0, 1), (1, .istore 1, 2), (2, .sipush 0, 3), (3, .istore 2, 4), (4, .iload 2, 5), (5, .aload 0, 6), (6, .getfield 132, 9), (9, .if_icmp .ge 29, 12), (12, .aload 0, 13), (13, .iload 2, 14), (14, .invokestatic 24, 17), 
  (17, .ifCond .eq 23, 20), (20, .iinc 1 1, 23), (23, .iinc 2 1, 26), (26, .goto 4, 29), (29, .iload 1, 30), (30, .ireturn, 31)]
def k_X2_rowAtRest : Nat := 23
def T_X2_rowAtRest : TB := [(0, .sipush 0, 1), (1, .istore 2, 2), (2, .sipush 0, 3), (3, .istore 3, 4), (4, .iload 3, 5), (5, .aload 0, 6), (6, .getfield 132, 9), (9, .if_icmp .ge 36, 12), (12, .aload 0, 13), (13, .iload 3, 14), (14, .invokestatic 24, 17), 
  (17, .ifCond .eq 30, 20), (20, .iload 2, 21), (21, .iload 1, 22), (22, .if_icmp .ne 27, 25), (25, .iload 3, 26), (26, .ireturn, 27), (27, .iinc 2 1, 30), (30, .iinc 3 1, 33), (33, .goto 4, 36), (36, .sipush (-1000000), 38), 
  (38, .ireturn, 39)]
def k_X2_isAtRest : Nat := 24
def T_X2_isAtRest : TB := [(0, .aload 0, 1), (1, .iload 1, 2), (2, .invokestatic 17, 5), (5, .sipush 0, 6), (6, .istore 2, 7), (7, .iload 2, 8), (8, .aload 0, 9), (9, .getfield 131, 12), (12, .if_icmp .ge 61, 15), (15, .aload 0, 16), (16, .iload 2, 17), 
  (17, .aload 0, 18), (18, .getfield 130, 21), (21, .iload 2, 22), (22, .iaload, 23), (23, .invokestatic 20, 26), (26, .istore 3, 27), (27, .sipush 0, 28), (28, .istore 4, 30), (30, .iload 4, 32), (32, .sipush 3, 33), 
  (33, .if_icmp .ge 55, 36), (36, .aload 0, 37), (37, .iload 2, 38), (38, .iload 4, 40), (40, .invokestatic 20, 43), (43, .iload 3, 44), (44, .if_icmp .ge 49, 47), (47, .sipush 0, 48), (48, .ireturn, 49), (49, .iinc 4 1, 52), 
  (52, .goto 30, 55), (55, .iinc 2 1, 58), (58, .goto 7, 61), (61, .sipush 1, 62), (62, .ireturn, 63)]
def k_X2_isKept : Nat := 25
def T_X2_isKept : TB := [(0, .aload 0, 1), (1, .iload 1, 2), (2, .iload 2, 3), (3, .invokestatic 15, 6), (6, .sipush 100, 8), (8, .iload 3, 9), (9, .isub, 10), (10, .imul, 11), (11, .aload 0, 12), (12, .getfield 129, 15), (15, .iload 2, 16), 
  (16, .iaload, 17), (17, .iload 3, 18), (18, .imul, 19), (19, .if_icmp .gt 26, 22), (22, .sipush 1, 23), (23, .goto 27, 26), (26, .sipush 0, 27), (27, .ireturn, 28)]
def k_X3_init : Nat := 26
def T_X3_init : TB := [(0, .aload 0, 1), (1, .invokeinterface 1 0, 4), (4, .aload 0, 5), (5, .new 4, 8), (8, .dup, 9), (9, .invokestatic 32, 12), (12, .putfield 192, 15), (15, .return_, 16)]
def k_X3_foretell : Nat := 27
def T_X3_foretell : TB := [(0, .aload 0, 1), (1, .getfield 192, 4), (4, .aload 1, 5), (5, .invokestatic 34, 8), (8, .aload 0, 9), (9, .iload 2, 10), (10, .invokestatic 30, 13), (13, .iload 3, 14), (14, .lookupswitch 61 #[(0, 40), (1, 48)], 40), 
  (40, .aload 0, 41), (41, .getfield 192, 44), (44, .getfield 267, 47), (47, .ireturn, 48), (48, .aload 0, 49), (49, .getfield 192, 52), (52, .getfield 269, 55), (55, .aload 1, 56), (56, .getfield 269, 59), (59, .isub, 60), 
  (60, .ireturn, 61), (61, .aload 0, 62), (62, .getfield 192, 65), (65, .invokestatic 55, 68), (68, .ireturn, 69)]
def k_X3_bestLaw : Nat := 28
def T_X3_bestLaw : TB := [(0, .sipush 0, 1), (1, .istore 3, 2), (2, .sipush 0, 3), (3, .istore 4, 5), (5, .sipush 0, 6), (6, .istore 5, 8), (8, .sipush 0, 9), (9, .istore 6, 11), (11, .iload 6, 13), (13, .sipush 64, 15), (15, .if_icmp .ge 115, 18), 
  (18, .aload 0, 19), (19, .getfield 192, 22), (22, .aload 1, 23), (23, .invokestatic 34, 26), (26, .aload 0, 27), (27, .iload 6, 29), (29, .invokestatic 29, 32), (32, .aload 0, 33), (33, .iload 2, 34), (34, .invokestatic 30, 37), 
  (37, .aload 0, 38), (38, .getfield 192, 41), (41, .invokestatic 55, 44), (44, .istore 7, 46), (46, .aload 0, 47), (47, .getfield 192, 50), (50, .getfield 269, 53), (53, .aload 1, 54), (54, .getfield 269, 57), (57, .isub, 58), 
  (58, .istore 8, 60), (60, .iload 7, 62), (62, .iload 4, 64), (64, .if_icmp .lt 81, 67), (67, .iload 7, 69), (69, .iload 4, 71), (71, .if_icmp .ne 85, 74), (74, .iload 8, 76), (76, .iload 5, 78), (78, .if_icmp .ge 85, 81), 
  (81, .sipush 1, 82), (82, .goto 86, 85), (85, .sipush 0, 86), (86, .istore 9, 88), (88, .iload 6, 90), (90, .ifCond .eq 98, 93), (93, .iload 9, 95), (95, .ifCond .eq 109, 98), (98, .iload 6, 100), (100, .istore 3, 101), 
  (101, .iload 7, 103), (103, .istore 4, 105), (105, .iload 8, 107), (107, .istore 5, 109), (109, .iinc 6 1, 112), (112, .goto 11, 115), (115, .iload 3, 116), (116, .ireturn, 117)]
def k_X3_giveLaw : Nat := 29
def T_X3_giveLaw : TB := [(0, .sipush 25, 2), (2, .sipush 1, 3), (3, .iload 1, 4), (4, .sipush 2, 5), (5, .ishr, 6), (6, .sipush 3, 7), (7, .iand, 8), (8, .iadd, 9), (9, .imul, 10), (10, .istore 2, 11), (11, .sipush 0, 12), (12, .istore 3, 13), 
  (13, .iload 3, 14), (14, .aload 0, 15), (15, .getfield 192, 18), (18, .getfield 264, 21), (21, .if_icmp .ge 52, 24), (24, .aload 0, 25), (25, .getfield 192, 28), (28, .iload 3, 29), (29, .iload 1, 30), (30, .sipush 3, 31), 
  (31, .iand, 32), (32, .iload 2, 33), (33, .iload 1, 34), (34, .sipush 4, 35), (35, .ishr, 36), (36, .sipush 1, 37), (37, .iand, 38), (38, .iload 1, 39), (39, .sipush 5, 40), (40, .ishr, 41), (41, .sipush 1, 42), (42, .iand, 43), 
  (43, .invokestatic 44, 46), (46, .iinc 3 1, 49), (49, .goto 13, 52), (52, .return_, 53)]
def k_X3_growBy : Nat := 30
def T_X3_growBy : TB := [(0, .sipush 0, 1), (1, .istore 2, 2), (2, .iload 2, 3), (3, .iload 1, 4), (4, .if_icmp .ge 55, 7), (7, .aload 0, 8), (8, .getfield 192, 11), (11, .getfield 267, 14), (14, .istore 3, 15), (15, .sipush 0, 16), (16, .istore 4, 18), 
  (18, .iload 4, 20), (20, .iload 3, 21), (21, .if_icmp .ge 36, 24), (24, .aload 0, 25), (25, .iload 4, 27), (27, .invokestatic 31, 30), (30, .iinc 4 1, 33), (33, .goto 18, 36), (36, .aload 0, 37), (37, .getfield 192, 40), 
  (40, .dup, 41), (41, .getfield 268, 44), (44, .sipush 1, 45), (45, .iadd, 46), (46, .putfield 268, 49), (49, .iinc 2 1, 52), (52, .goto 2, 55), (55, .return_, 56)]
def k_X3_seizeFor : Nat := 31
def T_X3_seizeFor : TB := [(0, .aload 0, 1), (1, .getfield 192, 4), (4, .getfield 263, 7), (7, .iload 1, 8), (8, .aaload, 9), (9, .astore 2, 10), (10, .aload 2, 11), (11, .invokestatic 8, 14), (14, .ifCond .eq 18, 17), (17, .return_, 18), 
  (18, .sipush 0, 19), (19, .istore 3, 20), (20, .iload 3, 21), (21, .aload 0, 22), (22, .getfield 192, 25), (25, .getfield 265, 28), (28, .if_icmp .ge 83, 31), (31, .aload 0, 32), (32, .getfield 192, 35), (35, .getfield 262, 38), 
  (38, .iload 3, 39), (39, .iaload, 40), (40, .istore 4, 42), (42, .aload 0, 43), (43, .getfield 192, 46), (46, .aload 2, 47), (47, .iload 3, 48), (48, .iload 4, 50), (50, .invokestatic 57, 53), (53, .ifCond .ne 77, 56), 
  (56, .aload 0, 57), (57, .getfield 192, 60), (60, .iload 1, 61), (61, .iload 3, 62), (62, .aload 0, 63), (63, .getfield 192, 66), (66, .aload 2, 67), (67, .iload 4, 69), (69, .invokestatic 59, 72), (72, .invokestatic 60, 75), 
  (75, .pop, 76), (76, .return_, 77), (77, .iinc 3 1, 80), (80, .goto 20, 83), (83, .return_, 84)]
def k_X4_init : Nat := 32
def T_X4_init : TB := [(0, .aload 0, 1), (1, .invokeinterface 1 0, 4), (4, .aload 0, 5), (5, .sipush 6, 7), (7, .newarray .int, 9), (9, .putfield 256, 12), (12, .aload 0, 13), (13, .sipush 24, 15), (15, .newarray .int, 17), (17, .putfield 257, 20), 
  (20, .aload 0, 21), (21, .sipush 6, 23), (23, .newarray .int, 25), (25, .putfield 258, 28), (28, .aload 0, 29), (29, .sipush 6, 31), (31, .newarray .int, 33), (33, .putfield 259, 36), (36, .aload 0, 37), (37, .sipush 12, 39), 
  (39, .newarray .int, 41), (41, .putfield 260, 44), (44, .aload 0, 45), (45, .sipush 12, 47), (47, .newarray .int, 49), (49, .putfield 261, 52), (52, .aload 0, 53), (53, .sipush 12, 55), (55, .newarray .int, 57), 
  (57, .putfield 262, 60), (60, .aload 0, 61), (61, .sipush 24, 63), (63, .anewarray 1, 66), (66, .putfield 263, 69), (69, .sipush 0, 70), (70, .istore 1, 71), (71, .iload 1, 72), (72, .sipush 24, 74), (74, .if_icmp .ge 96, 77), 
  (77, .aload 0, 78), (78, .getfield 263, 81), (81, .iload 1, 82), (82, .new 1, 85), (85, .dup, 86), (86, .invokestatic 5, 89), (89, .aastore, 90), (90, .iinc 1 1, 93), (93, .goto 71, 96), (96, .return_, 97)]
def k_X4_clear : Nat := 33
def T_X4_clear : TB := [(0, .aload 0, 1), (1, .getfield 258, 4), (4, .sipush 0, 5), (5, .invokestatic 265, 8), (8, .aload 0, 9), (9, .getfield 259, 12), (12, .sipush 0, 13), (13, .invokestatic 265, 16), (16, .aload 0, 17), (17, .sipush 0, 18), 
  (18, .putfield 264, 21), (21, .aload 0, 22), (22, .sipush 0, 23), (23, .putfield 265, 26), (26, .aload 0, 27), (27, .sipush 0, 28), (28, .putfield 266, 31), (31, .aload 0, 32), (32, .sipush 0, 33), (33, .putfield 267, 36), 
  (36, .aload 0, 37), (37, .sipush 0, 38), (38, .putfield 268, 41), (41, .aload 0, 42), (42, .sipush 0, 43), (43, .putfield 269, 46), (46, .return_, 47)]
def k_X4_becomeLike : Nat := 34
def T_X4_becomeLike : TB := [(0, .aload 1, 1), (1, .getfield 256, 4), (4, .sipush 0, 5), (5, .aload 0, 6), (6, .getfield 256, 9), (9, .sipush 0, 10), (10, .sipush 6, 12), (12, .invokeinterface 0 0, 15), (15, .aload 1, 16), (16, .getfield 257, 19), 
  (19, .sipush 0, 20), (20, .aload 0, 21), (21, .getfield 257, 24), (24, .sipush 0, 25), (25, .sipush 24, 27), (27, .invokeinterface 0 0, 30), (30, .aload 1, 31), (31, .getfield 258, 34), (34, .sipush 0, 35), (35, .aload 0, 36), 
  (36, .getfield 258, 39), (39, .sipush 0, 40), (40, .sipush 6, 42), (42, .invokeinterface 0 0, 45), (45, .aload 1, 46), (46, .getfield 259, 49), (49, .sipush 0, 50), (50, .aload 0, 51), (51, .getfield 259, 54), (54, .sipush 0, 55), 
  (55, .sipush 6, 57), (57, .invokeinterface 0 0, 60), (60, .aload 1, 61), (61, .getfield 260, 64), (64, .sipush 0, 65), (65, .aload 0, 66), (66, .getfield 260, 69), (69, .sipush 0, 70), (70, .sipush 12, 72), 
  (72, .invokeinterface 0 0, 75), (75, .aload 1, 76), (76, .getfield 261, 79), (79, .sipush 0, 80), (80, .aload 0, 81), (81, .getfield 261, 84), (84, .sipush 0, 85), (85, .sipush 12, 87), (87, .invokeinterface 0 0, 90), 
  (90, .aload 1, 91), (91, .getfield 262, 94), (94, .sipush 0, 95), (95, .aload 0, 96), (96, .getfield 262, 99), (99, .sipush 0, 100), (100, .sipush 12, 102), (102, .invokeinterface 0 0, 105), (105, .sipush 0, 106), 
  (106, .istore 2, 107), (107, .iload 2, 108), (108, .aload 1, 109), (109, .getfield 267, 112), (112, .if_icmp .ge 136, 115), (115, .aload 0, 116), (116, .getfield 263, 119), (119, .iload 2, 120), (120, .aaload, 121), 
  (121, .aload 1, 122), (122, .getfield 263, 125), (125, .iload 2, 126), (126, .aaload, 127), (127, .invokestatic 7, 130), (130, .iinc 2 1, 133), (133, .goto 107, 136), (136, .aload 0, 137), (137, .aload 1, 138), 
  (138, .getfield 264, 141), (141, .putfield 264, 144), (144, .aload 0, 145), (145, .aload 1, 146), (146, .getfield 265, 149), (149, .putfield 265, 152), (152, .aload 0, 153), (153, .aload 1, 154), (154, .getfield 266, 157), 
  (157, .putfield 266, 160), (160, .aload 0, 161), (161, .aload 1, 162), (162, .getfield 267, 165), (165, .putfield 267, 168), (168, .aload 0, 169), (169, .aload 1, 170), (170, .getfield 268, 173), (173, .putfield 268, 176), 
  (176, .aload 0, 177), (177, .aload 1, 178), (178, .getfield 269, 181), (181, .putfield 269, 184), (184, .return_, 185)]
def k_X4_isNone : Nat := 35
def T_X4_isNone : TB := [(0, .aload 0, 1), (1, .getfield 264, 4), (4, .ifCond .ne 11, 7), (7, .sipush 1, 8), (8, .goto 12, 11), (11, .sipush 0, 12), (12, .ireturn, 13)]
def k_X4_isTown : Nat := 36
def T_X4_isTown : TB := [(0, .iload 1, 1), (1, .ifCond .lt 16, 4), (4, .iload 1, 5), (5, .aload 0, 6), (6, .getfield 264, 9), (9, .if_icmp .ge 16, 12), (12, .sipush 1, 13), (13, .goto 17, 16), (16, .sipush 0, 17), (17, .ireturn, 18)]
def k_X4_areTwoTowns : Nat := 37
def T_X4_areTwoTowns : TB := [(0, .aload 0, 1), (1, .iload 1, 2), (2, .invokestatic 36, 5), (5, .ifCond .eq 25, 8), (8, .aload 0, 9), (9, .iload 2, 10), (10, .invokestatic 36, 13), (13, .ifCond .eq 25, 16), (16, .iload 1, 17), (17, .iload 2, 18), 
  (18, .if_icmp .eq 25, 21), (21, .sipush 1, 22), (22, .goto 26, 25), (25, .sipush 0, 26), (26, .ireturn, 27)]
def k_X4_isMan : Nat := 38
def T_X4_isMan : TB := [(0, .iload 1, 1), (1, .ifCond .lt 16, 4), (4, .iload 1, 5), (5, .aload 0, 6), (6, .getfield 265, 9), (9, .if_icmp .ge 16, 12), (12, .sipush 1, 13), (13, .goto 17, 16), (16, .sipush 0, 17), (17, .ireturn, 18)]
def k_X4_isClaim : Nat := 39
def T_X4_isClaim : TB := [(0, .iload 1, 1), (1, .ifCond .lt 16, 4), (4, .iload 1, 5), (5, .aload 0, 6), (6, .getfield 267, 9), (9, .if_icmp .ge 16, 12), (12, .sipush 1, 13), (13, .goto 17, 16), (16, .sipush 0, 17), (17, .ireturn, 18)]
def k_X4_addTown : Nat := 40
def T_X4_addTown : TB := [(0, .aload 0, 1), (1, .getfield 256, 4), (4, .aload 0, 5), (5, .getfield 264, 8), (8, .iload 1, 9), (9, .iastore, 10), (10, .aload 0, 11), (11, .aload 0, 12), (12, .getfield 264, 15), (15, .sipush 1, 16), (16, .sipush 100, 18), 
  (18, .sipush 1, 19), (19, .sipush 0, 20), (20, .invokestatic 44, 23), (23, .aload 0, 24), (24, .dup, 25), (25, .getfield 264, 28), (28, .sipush 1, 29), (29, .iadd, 30), (30, .putfield 264, 33), (33, .return_, 34)]
def k_X4_addMan : Nat := 41
def T_X4_addMan : TB := [(0, .aload 0, 1), (1, .getfield 261, 4), (4, .aload 0, 5), (5, .getfield 265, 8), (8, .iload 1, 9), (9, .iastore, 10), (10, .aload 0, 11), (11, .getfield 262, 14), (14, .aload 0, 15), (15, .getfield 265, 18), (18, .iload 1, 19), 
  (19, .iastore, 20), (20, .aload 0, 21), (21, .dup, 22), (22, .getfield 265, 25), (25, .sipush 1, 26), (26, .iadd, 27), (27, .putfield 265, 30), (30, .return_, 31)]
def k_X4_addRoad : Nat := 42
def T_X4_addRoad : TB := [(0, .aload 0, 1), (1, .getfield 258, 4), (4, .iload 1, 5), (5, .dup2, 6), (6, .iaload, 7), (7, .sipush 1, 8), (8, .iload 2, 9), (9, .ishl, 10), (10, .ior, 11), (11, .iastore, 12), (12, .aload 0, 13), (13, .getfield 258, 16), 
  (16, .iload 2, 17), (17, .dup2, 18), (18, .iaload, 19), (19, .sipush 1, 20), (20, .iload 1, 21), (21, .ishl, 22), (22, .ior, 23), (23, .iastore, 24), (24, .return_, 25)]
def k_X4_hasRoad : Nat := 43
def T_X4_hasRoad : TB := [(0, .aload 0, 1), (1, .getfield 258, 4), (4, .iload 1, 5), (5, .iaload, 6), (6, .iload 2, 7), (7, .ishr, 8), (8, .sipush 1, 9), (9, .iand, 10), (10, .sipush 1, 11), (11, .if_icmp .ne 18, 14), (14, .sipush 1, 15), 
  (15, .goto 19, 18), (18, .sipush 0, 19), (19, .ireturn, 20)]
def k_X4_setLaw : Nat := 44
def T_X4_setLaw : TB := [(0, .iload 1, 1), (1, .sipush 4, 2), (2, .imul, 3), (3, .istore 6, 5), (5, .aload 0, 6), (6, .getfield 257, 9), (9, .iload 6, 11), (11, .sipush 0, 12), (12, .iadd, 13), (13, .iload 2, 14), (14, .iastore, 15), (15, .aload 0, 16), 
  (16, .getfield 257, 19), (19, .iload 6, 21), (21, .sipush 1, 22), (22, .iadd, 23), (23, .iload 3, 24), (24, .iastore, 25), (25, .aload 0, 26), (26, .getfield 257, 29), (29, .iload 6, 31), (31, .sipush 2, 32), (32, .iadd, 33), 
  (33, .iload 4, 35), (35, .iastore, 36), (36, .aload 0, 37), (37, .getfield 257, 40), (40, .iload 6, 42), (42, .sipush 3, 43), (43, .iadd, 44), (44, .iload 5, 46), (46, .iastore, 47), (47, .return_, 48)]
def k_X4_lawOf : Nat := 45
def T_X4_lawOf : TB := [(0, .aload 0, 1), (1, .getfield 257, 4), (4, .iload 1, 5), (5, .sipush 4, 6), (6, .imul, 7), (7, .iload 2, 8), (8, .iadd, 9), (9, .iaload, 10), (10, .ireturn, 11)]
def k_X4_addFair : Nat := 46
def T_X4_addFair : TB := [(0, .aload 0, 1), (1, .getfield 266, 4), (4, .sipush 3, 5), (5, .imul, 6), (6, .istore 4, 8), (8, .aload 0, 9), (9, .getfield 260, 12), (12, .iload 4, 14), (14, .iload 1, 15), (15, .iastore, 16), (16, .aload 0, 17), 
  (17, .getfield 260, 20), (20, .iload 4, 22), (22, .sipush 1, 23), (23, .iadd, 24), (24, .iload 2, 25), (25, .iastore, 26), (26, .aload 0, 27), (27, .getfield 260, 30), (30, .iload 4, 32), (32, .sipush 2, 33), (33, .iadd, 34), 
  (34, .iload 3, 35), (35, .iastore, 36), (36, .aload 0, 37), (37, .dup, 38), (38, .getfield 266, 41), (41, .sipush 1, 42), (42, .iadd, 43), (43, .putfield 266, 46), (46, .return_, 47)]
def k_X4_hasFair : Nat := 47
def T_X4_hasFair : TB := [(0, .sipush 0, 1), (1, .istore 2, 2), (2, .iload 2, 3), (3, .aload 0, 4), (4, .getfield 266, 7), (7, .if_icmp .ge 62, 10), (10, .iload 2, 11), (11, .sipush 3, 12), (12, .imul, 13), (13, .istore 3, 14), (14, .aload 0, 15), 
  (15, .getfield 260, 18), (18, .iload 3, 19), (19, .iaload, 20), (20, .iload 1, 21), (21, .if_icmp .ne 56, 24), (24, .aload 0, 25), (25, .getfield 260, 28), (28, .iload 3, 29), (29, .sipush 1, 30), (30, .iadd, 31), 
  (31, .iaload, 32), (32, .aload 0, 33), (33, .getfield 268, 36), (36, .if_icmp .gt 56, 39), (39, .aload 0, 40), (40, .getfield 268, 43), (43, .aload 0, 44), (44, .getfield 260, 47), (47, .iload 3, 48), (48, .sipush 2, 49), 
  (49, .iadd, 50), (50, .iaload, 51), (51, .if_icmp .gt 56, 54), (54, .sipush 1, 55), (55, .ireturn, 56), (56, .iinc 2 1, 59), (59, .goto 2, 62), (62, .sipush 0, 63), (63, .ireturn, 64)]
def k_X4_setPact : Nat := 48
def T_X4_setPact : TB := [(0, .aload 0, 1), (1, .getfield 259, 4), (4, .iload 1, 5), (5, .iload 3, 6), (6, .ifCond .eq 22, 9), (9, .aload 0, 10), (10, .getfield 259, 13), (13, .iload 1, 14), (14, .iaload, 15), (15, .sipush 1, 16), (16, .iload 2, 17), 
  (17, .ishl, 18), (18, .ior, 19), (19, .goto 34, 22), (22, .aload 0, 23), (23, .getfield 259, 26), (26, .iload 1, 27), (27, .iaload, 28), (28, .sipush 1, 29), (29, .iload 2, 30), (30, .ishl, 31), (31, .sipush (-1), 32), 
  (32, .ixor, 33), (33, .iand, 34), (34, .iastore, 35), (35, .aload 0, 36), (36, .getfield 259, 39), (39, .iload 2, 40), (40, .iload 3, 41), (41, .ifCond .eq 57, 44), (44, .aload 0, 45), (45, .getfield 259, 48), (48, .iload 2, 49), 
  (49, .iaload, 50), (50, .sipush 1, 51), (51, .iload 1, 52), (52, .ishl, 53), (53, .ior, 54), (54, .goto 69, 57), (57, .aload 0, 58), (58, .getfield 259, 61), (61, .iload 2, 62), (62, .iaload, 63), (63, .sipush 1, 64), 
  (64, .iload 1, 65), (65, .ishl, 66), (66, .sipush (-1), 67), (67, .ixor, 68), (68, .iand, 69), (69, .iastore, 70), (70, .return_, 71)]
def k_X4_hasPact : Nat := 49
def T_X4_hasPact : TB := [(0, .aload 0, 1), (1, .getfield 259, 4), (4, .iload 1, 5), (5, .iaload, 6), (6, .iload 2, 7), (7, .ishr, 8), (8, .sipush 1, 9), (9, .iand, 10), (10, .sipush 1, 11), (11, .if_icmp .ne 18, 14), (14, .sipush 1, 15), 
  (15, .goto 19, 18), (18, .sipush 0, 19), (19, .ireturn, 20)]
def k_X4_pairsIn : Nat := 50
def T_X4_pairsIn : TB := [(0, .sipush 0, 1), (1, .istore 2, 2), (2, .sipush 0, 3), (3, .istore 3, 4), (4, .iload 3, 5), (5, .aload 0, 6), (6, .getfield 264, 9), (9, .if_icmp .ge 27, 12), (12, .iload 2, 13), (13, .aload 1, 14), (14, .iload 3, 15), 
  (15, .iaload, 16), (16, .invokestatic 258, 19), (19, .iadd, 20), (20, .istore 2, 21), (21, .iinc 3 1, 24), (24, .goto 4, 27), (27, .iload 2, 28), (28, .sipush 2, 29), (29, .idiv, 30), (30, .ireturn, 31)]
def k_X4_canOwe : Nat := 51
def T_X4_canOwe : TB := [(0, .aload 0, 1), (1, .iload 1, 2), (2, .invokestatic 38, 5), (5, .ifCond .eq 32, 8), (8, .aload 0, 9), (9, .iload 2, 10), (10, .invokestatic 38, 13), (13, .ifCond .eq 32, 16), (16, .iload 1, 17), (17, .iload 2, 18), 
  (18, .if_icmp .eq 32, 21), (21, .iload 3, 22), (22, .invokestatic 152, 25), (25, .ifCond .eq 32, 28), (28, .sipush 1, 29), (29, .goto 33, 32), (32, .sipush 0, 33), (33, .ireturn, 34)]
def k_X4_hasRoom : Nat := 52
def T_X4_hasRoom : TB := [(0, .aload 0, 1), (1, .getfield 267, 4), (4, .iload 1, 5), (5, .iadd, 6), (6, .sipush 24, 8), (8, .if_icmp .gt 15, 11), (11, .sipush 1, 12), (12, .goto 16, 15), (15, .sipush 0, 16), (16, .ireturn, 17)]
def k_X4_addClaim : Nat := 53
def T_X4_addClaim : TB := [(0, .aload 0, 1), (1, .getfield 263, 4), (4, .aload 0, 5), (5, .getfield 267, 8), (8, .aaload, 9), (9, .iload 1, 10), (10, .iload 2, 11), (11, .iload 3, 12), (12, .iload 4, 14), (14, .invokestatic 6, 17), (17, .aload 0, 18), 
  (18, .dup, 19), (19, .getfield 267, 22), (22, .sipush 1, 23), (23, .iadd, 24), (24, .putfield 267, 27), (27, .aload 0, 28), (28, .getfield 267, 31), (31, .sipush 1, 32), (32, .isub, 33), (33, .ireturn, 34)]
def k_X4_paidClaims : Nat := 54
def T_X4_paidClaims : TB := [(0, .sipush 0, 1), (1, .istore 1, 2), (2, .sipush 0, 3), (3, .istore 2, 4), (4, .iload 2, 5), (5, .aload 0, 6), (6, .getfield 267, 9), (9, .if_icmp .ge 33, 12), (12, .aload 0, 13), (13, .getfield 263, 16), (16, .iload 2, 17), 
  (17, .aaload, 18), (18, .invokestatic 8, 21), (21, .ifCond .eq 27, 24), (24, .iinc 1 1, 27), (27, .iinc 2 1, 30), (30, .goto 4, 33), (33, .iload 1, 34), (34, .ireturn, 35)]
def k_X4_leftInAll : Nat := 55
def T_X4_leftInAll : TB := [(0, .sipush 0, 1), (1, .istore 1, 2), (2, .sipush 0, 3), (3, .istore 2, 4), (4, .iload 2, 5), (5, .aload 0, 6), (6, .getfield 267, 9), (9, .if_icmp .ge 30, 12), (12, .iload 1, 13), (13, .aload 0, 14), (14, .getfield 263, 17), 
  (17, .iload 2, 18), (18, .aaload, 19), (19, .getfield 67, 22), (22, .iadd, 23), (23, .istore 1, 24), (24, .iinc 2 1, 27), (27, .goto 4, 30), (30, .iload 1, 31), (31, .ireturn, 32)]
def k_X4_balanceOf : Nat := 56
def T_X4_balanceOf : TB := [(0, .sipush 0, 1), (1, .istore 2, 2), (2, .sipush 0, 3), (3, .istore 3, 4), (4, .iload 3, 5), (5, .aload 0, 6), (6, .getfield 267, 9), (9, .if_icmp .ge 68, 12), (12, .aload 0, 13), (13, .getfield 263, 16), (16, .iload 3, 17), 
  (17, .aaload, 18), (18, .getfield 64, 21), (21, .iload 1, 22), (22, .if_icmp .ne 37, 25), (25, .iload 2, 26), (26, .aload 0, 27), (27, .getfield 263, 30), (30, .iload 3, 31), (31, .aaload, 32), (32, .getfield 67, 35), 
  (35, .iadd, 36), (36, .istore 2, 37), (37, .aload 0, 38), (38, .getfield 263, 41), (41, .iload 3, 42), (42, .aaload, 43), (43, .getfield 65, 46), (46, .iload 1, 47), (47, .if_icmp .ne 62, 50), (50, .iload 2, 51), 
  (51, .aload 0, 52), (52, .getfield 263, 55), (55, .iload 3, 56), (56, .aaload, 57), (57, .getfield 67, 60), (60, .isub, 61), (61, .istore 2, 62), (62, .iinc 3 1, 65), (65, .goto 4, 68), (68, .iload 2, 69), (69, .ireturn, 70)]
def k_X4_wordLacked : Nat := 57
def T_X4_wordLacked : TB := [(0, .aload 0, 1), (1, .aload 1, 2), (2, .iload 2, 3), (3, .aload 0, 4), (4, .getfield 261, 7), (7, .iload 2, 8), (8, .iaload, 9), (9, .iload 3, 10), (10, .invokestatic 58, 13), (13, .ireturn, 14)]
def k_X4_wordLacked_ : Nat := 58
def T_X4_wordLacked_ : TB := [(0, .aload 1, 1), (1, .invokestatic 8, 4), (4, .ifCond .eq 9, 7), (7, .sipush 1, 8), (8, .ireturn, 9), (9, .aload 0, 10), (10, .getfield 262, 13), (13, .aload 1, 14), (14, .getfield 64, 17), (17, .iaload, 18), (18, .iload 4, 20), 
  (20, .if_icmp .eq 25, 23), (23, .sipush 2, 24), (24, .ireturn, 25), (25, .aload 0, 26), (26, .getfield 261, 29), (29, .aload 1, 30), (30, .getfield 64, 33), (33, .iaload, 34), (34, .istore 5, 36), (36, .iload 2, 37), 
  (37, .aload 1, 38), (38, .getfield 64, 41), (41, .if_icmp .eq 50, 44), (44, .iload 3, 45), (45, .iload 5, 47), (47, .if_icmp .ne 52, 50), (50, .sipush 3, 51), (51, .ireturn, 52), (52, .aload 0, 53), (53, .iload 3, 54), 
  (54, .iload 5, 56), (56, .invokestatic 49, 59), (59, .ifCond .eq 64, 62), (62, .sipush 4, 63), (63, .ireturn, 64), (64, .aload 0, 65), (65, .iload 4, 67), (67, .invokestatic 47, 70), (70, .ifCond .eq 75, 73), (73, .sipush 5, 74), 
  (74, .ireturn, 75), (75, .iload 2, 76), (76, .aload 1, 77), (77, .getfield 65, 80), (80, .if_icmp .ne 87, 83), (83, .sipush 1, 84), (84, .goto 88, 87), (87, .sipush 0, 88), (88, .istore 6, 90), (90, .iload 6, 92), 
  (92, .ifCond .ne 111, 95), (95, .iload 3, 96), (96, .aload 0, 97), (97, .getfield 261, 100), (100, .aload 1, 101), (101, .getfield 65, 104), (104, .iaload, 105), (105, .if_icmp .eq 111, 108), (108, .sipush 6, 110), 
  (110, .ireturn, 111), (111, .iload 6, 113), (113, .ifCond .ne 133, 116), (116, .aload 1, 117), (117, .getfield 68, 120), (120, .aload 0, 121), (121, .iload 4, 123), (123, .sipush 0, 124), (124, .invokestatic 45, 127), 
  (127, .if_icmp .ge 133, 130), (130, .sipush 7, 132), (132, .ireturn, 133), (133, .aload 0, 134), (134, .iload 4, 136), (136, .sipush 3, 137), (137, .invokestatic 45, 140), (140, .sipush 1, 141), (141, .if_icmp .ne 158, 144), 
  (144, .aload 1, 145), (145, .aload 0, 146), (146, .getfield 268, 149), (149, .invokestatic 10, 152), (152, .ifCond .ne 158, 155), (155, .sipush 8, 157), (157, .ireturn, 158), (158, .sipush 0, 159), (159, .ireturn, 160)]
def k_X4_mostOf : Nat := 59
def T_X4_mostOf : TB := [(0, .sipush 1, 1), (1, .aload 1, 2), (2, .getfield 67, 5), (5, .aload 0, 6), (6, .iload 2, 7), (7, .sipush 1, 8), (8, .invokestatic 45, 11), (11, .imul, 12), (12, .sipush 100, 14), (14, .idiv, 15), (15, .invokeinterface 2 0, 18), 
  (18, .istore 3, 19), (19, .aload 0, 20), (20, .iload 2, 21), (21, .sipush 3, 22), (22, .invokestatic 45, 25), (25, .sipush 1, 26), (26, .if_icmp .ne 40, 29), (29, .iload 3, 30), (30, .aload 1, 31), (31, .getfield 70, 34), 
  (34, .invokeinterface 3 0, 37), (37, .goto 41, 40), (40, .iload 3, 41), (41, .ireturn, 42)]
def k_X4_takeGoods : Nat := 60
def T_X4_takeGoods : TB := [(0, .aload 0, 1), (1, .getfield 263, 4), (4, .iload 1, 5), (5, .aaload, 6), (6, .astore 4, 8), (8, .aload 0, 9), (9, .getfield 262, 12), (12, .iload 2, 13), (13, .iaload, 14), (14, .istore 5, 16), (16, .aload 4, 18), 
  (18, .dup, 19), (19, .getfield 67, 22), (22, .iload 3, 23), (23, .isub, 24), (24, .putfield 67, 27), (27, .aload 0, 28), (28, .iload 5, 30), (30, .sipush 3, 31), (31, .invokestatic 45, 34), (34, .sipush 1, 35), 
  (35, .if_icmp .ne 49, 38), (38, .aload 4, 40), (40, .dup, 41), (41, .getfield 70, 44), (44, .iload 3, 45), (45, .isub, 46), (46, .putfield 70, 49), (49, .aload 0, 50), (50, .dup, 51), (51, .getfield 269, 54), (54, .iload 3, 55), 
  (55, .iadd, 56), (56, .putfield 269, 59), (59, .aload 0, 60), (60, .iload 5, 62), (62, .sipush 2, 63), (63, .invokestatic 45, 66), (66, .ifCond .eq 86, 69), (69, .iload 2, 70), (70, .aload 4, 72), (72, .getfield 65, 75), 
  (75, .if_icmp .eq 86, 78), (78, .aload 0, 79), (79, .sipush 1, 80), (80, .invokestatic 52, 83), (83, .ifCond .ne 89, 86), (86, .sipush (-1000000), 88), (88, .ireturn, 89), (89, .aload 0, 90), (90, .iload 2, 91), (91, .aload 4, 93), 
  (93, .getfield 65, 96), (96, .iload 3, 97), (97, .iload 1, 98), (98, .invokestatic 53, 101), (101, .ireturn, 102)]
def k_X4_saying : Nat := 61
def T_X4_saying : TB := [(0, .aload 0, 1), (1, .getfield 261, 4), (4, .aload 1, 5), (5, .getfield 64, 8), (8, .iaload, 9), (9, .istore 2, 10), (10, .aload 0, 11), (11, .getfield 261, 14), (14, .aload 1, 15), (15, .getfield 65, 18), (18, .iaload, 19), 
  (19, .istore 3, 20), (20, .aload 1, 21), (21, .iload 2, 22), (22, .invokestatic 11, 25), (25, .istore 4, 27), (27, .aload 1, 28), (28, .iload 3, 29), (29, .invokestatic 11, 32), (32, .istore 5, 34), (34, .iload 4, 36), 
  (36, .sipush (-1000000), 38), (38, .if_icmp .ne 50, 41), (41, .iload 5, 43), (43, .sipush (-1000000), 45), (45, .if_icmp .ne 50, 48), (48, .sipush 0, 49), (49, .ireturn, 50), (50, .iload 4, 52), (52, .sipush (-1000000), 54), 
  (54, .if_icmp .eq 71, 57), (57, .iload 5, 59), (59, .sipush (-1000000), 61), (61, .if_icmp .eq 71, 64), (64, .iload 4, 66), (66, .iload 5, 68), (68, .if_icmp .ne 88, 71), (71, .iload 4, 73), (73, .iload 5, 75), 
  (75, .invokeinterface 2 0, 78), (78, .sipush 1, 79), (79, .if_icmp .ne 86, 82), (82, .sipush 1, 83), (83, .goto 87, 86), (86, .sipush 2, 87), (87, .ireturn, 88), (88, .sipush 0, 89), (89, .istore 6, 91), (91, .iload 6, 93), 
  (93, .aload 0, 94), (94, .getfield 264, 97), (97, .if_icmp .ge 145, 100), (100, .aload 1, 101), (101, .iload 6, 103), (103, .invokestatic 11, 106), (106, .istore 7, 108), (108, .iload 6, 110), (110, .iload 2, 111), 
  (111, .if_icmp .eq 139, 114), (114, .iload 6, 116), (116, .iload 3, 117), (117, .if_icmp .eq 139, 120), (120, .iload 7, 122), (122, .sipush (-1000000), 124), (124, .if_icmp .eq 139, 127), (127, .iload 7, 129), 
  (129, .sipush 1, 130), (130, .if_icmp .ne 137, 133), (133, .sipush 4, 134), (134, .goto 138, 137), (137, .sipush 5, 138), (138, .ireturn, 139), (139, .iinc 6 1, 142), (142, .goto 91, 145), (145, .sipush 3, 146), 
  (146, .ireturn, 147)]
def k_X4_kindTold : Nat := 62
def T_X4_kindTold : TB := [(0, .aload 0, 1), (1, .getfield 261, 4), (4, .aload 1, 5), (5, .getfield 64, 8), (8, .iaload, 9), (9, .istore 2, 10), (10, .aload 1, 11), (11, .invokestatic 8, 14), (14, .ifCond .eq 20, 17), (17, .sipush 6, 19), (19, .ireturn, 20), 
  (20, .aload 0, 21), (21, .iload 2, 22), (22, .aload 0, 23), (23, .getfield 261, 26), (26, .aload 1, 27), (27, .getfield 65, 30), (30, .iaload, 31), (31, .invokestatic 49, 34), (34, .ifCond .eq 39, 37), (37, .sipush 5, 38), 
  (38, .ireturn, 39), (39, .aload 1, 40), (40, .invokestatic 9, 43), (43, .ifCond .eq 48, 46), (46, .sipush 4, 47), (47, .ireturn, 48), (48, .aload 1, 49), (49, .getfield 68, 52), (52, .aload 0, 53), (53, .iload 2, 54), 
  (54, .sipush 0, 55), (55, .invokestatic 45, 58), (58, .if_icmp .ge 63, 61), (61, .sipush 1, 62), (62, .ireturn, 63), (63, .aload 1, 64), (64, .aload 0, 65), (65, .getfield 268, 68), (68, .invokestatic 10, 71), 
  (71, .ifCond .eq 78, 74), (74, .sipush 3, 75), (75, .goto 79, 78), (78, .sipush 2, 79), (79, .ireturn, 80)]
def k_X5_init : Nat := 63
def T_X5_init : TB := [(0, .aload 0, 1), (1, .invokeinterface 1 0, 4), (4, .aload 0, 5), (5, .sipush 12, 7), (7, .newarray .int, 9), (9, .putfield 320, 12), (12, .aload 0, 13), (13, .sipush 4096, 16), (16, .newarray .byte, 18), (18, .putfield 321, 21), 
  (21, .return_, 22)]
def k_X5_coinOf : Nat := 64
def T_X5_coinOf : TB := [(0, .sipush 0, 1), (1, .istore 1, 2), (2, .sipush 0, 3), (3, .istore 2, 4), (4, .iload 2, 5), (5, .aload 0, 6), (6, .getfield 265, 9), (9, .if_icmp .ge 30, 12), (12, .iload 1, 13), (13, .sipush 0, 14), (14, .aload 0, 15), 
  (15, .iload 2, 16), (16, .invokestatic 56, 19), (19, .invokeinterface 2 0, 22), (22, .iadd, 23), (23, .istore 1, 24), (24, .iinc 2 1, 27), (27, .goto 4, 30), (30, .iload 1, 31), (31, .ireturn, 32)]
def k_X5_menOut : Nat := 65
def T_X5_menOut : TB := [(0, .sipush 0, 1), (1, .istore 1, 2), (2, .sipush 0, 3), (3, .istore 2, 4), (4, .iload 2, 5), (5, .aload 0, 6), (6, .getfield 267, 9), (9, .if_icmp .ge 48, 12), (12, .aload 0, 13), (13, .getfield 263, 16), (16, .iload 2, 17), 
  (17, .aaload, 18), (18, .astore 3, 19), (19, .aload 3, 20), (20, .invokestatic 8, 23), (23, .ifCond .ne 42, 26), (26, .iload 1, 27), (27, .sipush 1, 28), (28, .aload 3, 29), (29, .getfield 64, 32), (32, .ishl, 33), 
  (33, .sipush 1, 34), (34, .aload 3, 35), (35, .getfield 65, 38), (38, .ishl, 39), (39, .ior, 40), (40, .ior, 41), (41, .istore 1, 42), (42, .iinc 2 1, 45), (45, .goto 4, 48), (48, .sipush 0, 49), (49, .istore 2, 50), 
  (50, .iload 2, 51), (51, .aload 0, 52), (52, .getfield 265, 55), (55, .if_icmp .ge 80, 58), (58, .aload 0, 59), (59, .iload 2, 60), (60, .invokestatic 56, 63), (63, .ifCond .eq 74, 66), (66, .iload 1, 67), (67, .sipush 1, 68), 
  (68, .iload 2, 69), (69, .ishl, 70), (70, .sipush (-1), 71), (71, .ixor, 72), (72, .iand, 73), (73, .istore 1, 74), (74, .iinc 2 1, 77), (77, .goto 50, 80), (80, .iload 1, 81), (81, .ireturn, 82)]
def k_X5_fewestPayments : Nat := 66
def T_X5_fewestPayments : TB := [(0, .sipush 0, 1), (1, .istore 2, 2), (2, .sipush 0, 3), (3, .istore 3, 4), (4, .iload 3, 5), (5, .aload 1, 6), (6, .getfield 265, 9), (9, .if_icmp .ge 41, 12), (12, .aload 1, 13), (13, .iload 3, 14), (14, .invokestatic 56, 17), 
  (17, .istore 4, 19), (19, .iload 4, 21), (21, .ifCond .eq 35, 24), (24, .aload 0, 25), (25, .getfield 320, 28), (28, .iload 2, 29), (29, .iload 4, 31), (31, .iastore, 32), (32, .iinc 2 1, 35), (35, .iinc 3 1, 38), 
  (38, .goto 4, 41), (41, .iload 2, 42), (42, .aload 0, 43), (43, .iload 2, 44), (44, .invokestatic 67, 47), (47, .isub, 48), (48, .ireturn, 49)]
def k_X5_mostGroups : Nat := 67
def T_X5_mostGroups : TB := [(0, .sipush 1, 1), (1, .iload 1, 2), (2, .ishl, 3), (3, .sipush 1, 4), (4, .isub, 5), (5, .istore 2, 6), (6, .aload 0, 7), (7, .getfield 321, 10), (10, .sipush 0, 11), (11, .sipush 0, 12), (12, .bastore, 13), (13, .sipush 1, 14), 
  (14, .istore 3, 15), (15, .iload 3, 16), (16, .iload 2, 17), (17, .if_icmp .gt 110, 20), (20, .sipush 0, 21), (21, .istore 4, 23), (23, .sipush 0, 24), (24, .istore 5, 26), (26, .sipush 0, 27), (27, .istore 6, 29), 
  (29, .iload 6, 31), (31, .iload 1, 32), (32, .if_icmp .ge 83, 35), (35, .iload 3, 36), (36, .iload 6, 38), (38, .ishr, 39), (39, .sipush 1, 40), (40, .iand, 41), (41, .sipush 1, 42), (42, .if_icmp .ne 77, 45), (45, .iload 4, 47), 
  (47, .aload 0, 48), (48, .getfield 320, 51), (51, .iload 6, 53), (53, .iaload, 54), (54, .iadd, 55), (55, .istore 4, 57), (57, .iload 5, 59), (59, .aload 0, 60), (60, .getfield 321, 63), (63, .iload 3, 64), (64, .sipush 1, 65), 
  (65, .iload 6, 67), (67, .ishl, 68), (68, .sipush (-1), 69), (69, .ixor, 70), (70, .iand, 71), (71, .baload, 72), (72, .invokeinterface 2 0, 75), (75, .istore 5, 77), (77, .iinc 6 1, 80), (80, .goto 29, 83), (83, .aload 0, 84), 
  (84, .getfield 321, 87), (87, .iload 3, 88), (88, .iload 4, 90), (90, .ifCond .ne 100, 93), (93, .iload 5, 95), (95, .sipush 1, 96), (96, .iadd, 97), (97, .goto 102, 100), (100, .iload 5, 102), (102, .i2b, 103), 
  (103, .bastore, 104), (104, .iinc 3 1, 107), (107, .goto 15, 110), (110, .aload 0, 111), (111, .getfield 321, 114), (114, .iload 2, 115), (115, .baload, 116), (116, .ireturn, 117)]
def k_X6_init : Nat := 68
def T_X6_init : TB := [(0, .aload 0, 1), (1, .invokeinterface 1 0, 4), (4, .aload 0, 5), (5, .sipush 500, 8), (8, .newarray .int, 10), (10, .putfield 384, 13), (13, .aload 0, 14), (14, .sipush 6, 16), (16, .newarray .int, 18), (18, .putfield 385, 21), 
  (21, .return_, 22)]
def k_X6_hasRoom : Nat := 69
def T_X6_hasRoom : TB := [(0, .aload 0, 1), (1, .getfield 390, 4), (4, .iload 1, 5), (5, .iadd, 6), (6, .sipush 500, 9), (9, .if_icmp .gt 16, 12), (12, .sipush 1, 13), (13, .goto 17, 16), (16, .sipush 0, 17), (17, .ireturn, 18)]
def k_X6_take : Nat := 70
def T_X6_take : TB := [(0, .iload 3, 1), (1, .sipush 1, 2), (2, .isub, 3), (3, .istore 4, 5), (5, .iload 4, 7), (7, .ifCond .lt 47, 10), (10, .aload 0, 11), (11, .getfield 384, 14), (14, .aload 0, 15), (15, .getfield 390, 18), (18, .lload 1, 19), 
  (19, .sipush 8, 21), (21, .iload 4, 23), (23, .imul, 24), (24, .lshr, 25), (25, .ldc2_w 255, 28), (28, .land, 29), (29, .l2i, 30), (30, .iastore, 31), (31, .aload 0, 32), (32, .dup, 33), (33, .getfield 390, 36), 
  (36, .sipush 1, 37), (37, .iadd, 38), (38, .putfield 390, 41), (41, .iinc 4 (-1), 44), (44, .goto 5, 47), (47, .aload 0, 48), (48, .getfield 390, 51), (51, .ireturn, 52)]
def k_X6_empty : Nat := 71
def T_X6_empty : TB := [(0, .aload 0, 1), (1, .sipush 0, 2), (2, .putfield 390, 5), (5, .return_, 6)]
def k_X6_readLand : Nat := 72
def T_X6_readLand : TB := [(0, .aload 0, 1), (1, .aload 1, 2), (2, .putfield 386, 5), (5, .aload 0, 6), (6, .getfield 386, 9), (9, .invokestatic 33, 12), (12, .aload 0, 13), (13, .getfield 385, 16), (16, .sipush 0, 17), (17, .invokestatic 265, 20), 
  (20, .aload 0, 21), (21, .sipush 0, 22), (22, .putfield 392, 25), (25, .aload 0, 26), (26, .sipush 0, 27), (27, .putfield 388, 30), (30, .aload 0, 31), (31, .invokestatic 84, 34), (34, .sipush 0, 35), (35, .istore 2, 36), 
  (36, .sipush 0, 37), (37, .istore 3, 38), (38, .iload 3, 39), (39, .sipush 500, 42), (42, .if_icmp .ge 149, 45), (45, .aload 0, 46), (46, .getfield 387, 49), (49, .sipush 3, 50), (50, .if_icmp .eq 149, 53), (53, .aload 0, 54), 
  (54, .invokestatic 74, 57), (57, .istore 4, 59), (59, .iload 4, 61), (61, .iload 2, 62), (62, .if_icmp .lt 79, 65), (65, .aload 0, 66), (66, .getfield 385, 69), (69, .sipush 0, 70), (70, .iaload, 71), (71, .ifCond .ne 85, 74), 
  (74, .iload 4, 76), (76, .ifCond .eq 85, 79), (79, .aload 0, 80), (80, .sipush 1, 81), (81, .invokestatic 73, 84), (84, .ireturn, 85), (85, .aload 0, 86), (86, .getfield 385, 89), (89, .iload 4, 91), (91, .iaload, 92), 
  (92, .getstatic 1, 95), (95, .iload 4, 97), (97, .iaload, 98), (98, .if_icmp .ne 107, 101), (101, .aload 0, 102), (102, .sipush 3, 103), (103, .invokestatic 73, 106), (106, .ireturn, 107), (107, .aload 0, 108), 
  (108, .getfield 385, 111), (111, .iload 4, 113), (113, .dup2, 114), (114, .iaload, 115), (115, .sipush 1, 116), (116, .iadd, 117), (117, .iastore, 118), (118, .iload 4, 120), (120, .istore 2, 121), (121, .aload 0, 122), 
  (122, .invokestatic 84, 125), (125, .aload 0, 126), (126, .iload 4, 128), (128, .invokestatic 76, 131), (131, .ifCond .eq 141, 134), (134, .aload 0, 135), (135, .invokestatic 83, 138), (138, .ifCond .ne 143, 141), 
  (141, .sipush 0, 142), (142, .ireturn, 143), (143, .iinc 3 1, 146), (146, .goto 38, 149), (149, .aload 0, 150), (150, .getfield 385, 153), (153, .sipush 0, 154), (154, .iaload, 155), (155, .ifCond .gt 166, 158), 
  (158, .aload 0, 159), (159, .sipush 1, 160), (160, .invokestatic 73, 163), (163, .ifCond .eq 170, 166), (166, .sipush 1, 167), (167, .goto 171, 170), (170, .sipush 0, 171), (171, .ireturn, 172)]
def k_X6_fails : Nat := 73
def T_X6_fails : TB := [(0, .aload 0, 1), (1, .iload 1, 2), (2, .putfield 392, 5), (5, .sipush 0, 6), (6, .ireturn, 7)]
def k_X6_wordTold : Nat := 74
def T_X6_wordTold : TB := [(0, .aload 0, 1), (1, .getfield 387, 4), (4, .ifCond .eq 9, 7), (7, .sipush (-1), 8), (8, .ireturn, 9), (9, .aload 0, 10), (10, .ldc 0, 12), (12, .invokestatic 75, 15), (15, .ifCond .eq 20, 18), (18, .sipush 0, 19), 
  (19, .ireturn, 20), (20, .aload 0, 21), (21, .ldc 1, 23), (23, .invokestatic 75, 26), (26, .ifCond .eq 31, 29), (29, .sipush 1, 30), (30, .ireturn, 31), (31, .aload 0, 32), (32, .ldc 2, 34), (34, .invokestatic 75, 37), 
  (37, .ifCond .eq 42, 40), (40, .sipush 2, 41), (41, .ireturn, 42), (42, .aload 0, 43), (43, .ldc 3, 45), (45, .invokestatic 75, 48), (48, .ifCond .eq 53, 51), (51, .sipush 3, 52), (52, .ireturn, 53), (53, .aload 0, 54), 
  (54, .ldc 4, 56), (56, .invokestatic 75, 59), (59, .ifCond .eq 64, 62), (62, .sipush 4, 63), (63, .ireturn, 64), (64, .aload 0, 65), (65, .ldc 5, 67), (67, .invokestatic 75, 70), (70, .ifCond .eq 77, 73), (73, .sipush 5, 74), 
  (74, .goto 78, 77), (77, .sipush (-1), 78), (78, .ireturn, 79)]
def k_X6_isName : Nat := 75
def T_X6_isName : TB := [(0, .aload 0, 1), (1, .getfield 388, 4), (4, .aload 0, 5), (5, .getfield 391, 8), (8, .isub, 9), (9, .aload 1, 10), (10, .invokestatic 259, 13), (13, .if_icmp .eq 18, 16), (16, .sipush 0, 17), (17, .ireturn, 18), 
  (18, .sipush 0, 19), (19, .istore 2, 20), (20, .iload 2, 21), (21, .aload 1, 22), (22, .invokestatic 259, 25), (25, .if_icmp .ge 55, 28), (28, .aload 0, 29), (29, .getfield 384, 32), (32, .aload 0, 33), (33, .getfield 391, 36), 
  (36, .iload 2, 37), (37, .iadd, 38), (38, .iaload, 39), (39, .aload 1, 40), (40, .iload 2, 41), (41, .invokestatic 260, 44), (44, .if_icmp .eq 49, 47), (47, .sipush 0, 48), (48, .ireturn, 49), (49, .iinc 2 1, 52), 
  (52, .goto 20, 55), (55, .sipush 1, 56), (56, .ireturn, 57)]
def k_X6_readRow : Nat := 76
def T_X6_readRow : TB := [(0, .iload 1, 1), (1, .lookupswitch 56 #[(0, 36), (1, 41), (2, 56), (3, 46), (4, 51)], 36), (36, .aload 0, 37), (37, .invokestatic 77, 40), (40, .ireturn, 41), (41, .aload 0, 42), (42, .invokestatic 78, 45), (45, .ireturn, 46), 
  (46, .aload 0, 47), (47, .invokestatic 80, 50), (50, .ireturn, 51), (51, .aload 0, 52), (52, .invokestatic 81, 55), (55, .ireturn, 56), (56, .aload 0, 57), (57, .iload 1, 58), (58, .sipush 2, 59), (59, .if_icmp .ne 66, 62), 
  (62, .sipush 1, 63), (63, .goto 67, 66), (66, .sipush 0, 67), (67, .invokestatic 79, 70), (70, .ireturn, 71)]
def k_X6_readTown : Nat := 77
def T_X6_readTown : TB := [(0, .aload 0, 1), (1, .sipush 0, 2), (2, .sipush 99, 4), (4, .invokestatic 82, 7), (7, .istore 1, 8), (8, .iload 1, 9), (9, .sipush (-1), 10), (10, .if_icmp .ne 15, 13), (13, .sipush 0, 14), (14, .ireturn, 15), (15, .aload 0, 16), 
  (16, .getfield 386, 19), (19, .iload 1, 20), (20, .invokestatic 40, 23), (23, .sipush 1, 24), (24, .ireturn, 25)]
def k_X6_readMan : Nat := 78
def T_X6_readMan : TB := [(0, .aload 0, 1), (1, .sipush 0, 2), (2, .aload 0, 3), (3, .getfield 386, 6), (6, .getfield 264, 9), (9, .sipush 1, 10), (10, .isub, 11), (11, .invokestatic 82, 14), (14, .istore 1, 15), (15, .iload 1, 16), (16, .sipush (-1), 17), 
  (17, .if_icmp .ne 22, 20), (20, .sipush 0, 21), (21, .ireturn, 22), (22, .aload 0, 23), (23, .getfield 386, 26), (26, .iload 1, 27), (27, .invokestatic 41, 30), (30, .sipush 1, 31), (31, .ireturn, 32)]
def k_X6_readPair : Nat := 79
def T_X6_readPair : TB := [(0, .aload 0, 1), (1, .sipush 0, 2), (2, .aload 0, 3), (3, .getfield 386, 6), (6, .getfield 264, 9), (9, .sipush 1, 10), (10, .isub, 11), (11, .invokestatic 82, 14), (14, .istore 2, 15), (15, .iload 2, 16), (16, .sipush (-1), 17), 
  (17, .if_icmp .ne 22, 20), (20, .sipush 0, 21), (21, .ireturn, 22), (22, .aload 0, 23), (23, .getfield 387, 26), (26, .sipush 1, 27), (27, .if_icmp .ne 44, 30), (30, .aload 0, 31), (31, .getfield 389, 34), (34, .iload 2, 35), 
  (35, .if_icmp .ne 44, 38), (38, .aload 0, 39), (39, .sipush 2, 40), (40, .invokestatic 73, 43), (43, .ireturn, 44), (44, .aload 0, 45), (45, .sipush 0, 46), (46, .aload 0, 47), (47, .getfield 386, 50), (50, .getfield 264, 53), 
  (53, .sipush 1, 54), (54, .isub, 55), (55, .invokestatic 82, 58), (58, .istore 3, 59), (59, .iload 3, 60), (60, .sipush (-1), 61), (61, .if_icmp .ne 66, 64), (64, .sipush 0, 65), (65, .ireturn, 66), (66, .iload 1, 67), 
  (67, .ifCond .eq 82, 70), (70, .aload 0, 71), (71, .getfield 386, 74), (74, .iload 2, 75), (75, .iload 3, 76), (76, .invokestatic 42, 79), (79, .goto 92, 82), (82, .aload 0, 83), (83, .getfield 386, 86), (86, .iload 2, 87), 
  (87, .iload 3, 88), (88, .sipush 1, 89), (89, .invokestatic 48, 92), (92, .sipush 1, 93), (93, .ireturn, 94)]
def k_X6_readLaw : Nat := 80
def T_X6_readLaw : TB := [(0, .aload 0, 1), (1, .sipush 0, 2), (2, .aload 0, 3), (3, .getfield 386, 6), (6, .getfield 264, 9), (9, .sipush 1, 10), (10, .isub, 11), (11, .invokestatic 82, 14), (14, .istore 1, 15), (15, .aload 0, 16), (16, .sipush 0, 17), 
  (17, .sipush 3, 18), (18, .invokestatic 82, 21), (21, .istore 2, 22), (22, .aload 0, 23), (23, .sipush 1, 24), (24, .sipush 100, 26), (26, .invokestatic 82, 29), (29, .istore 3, 30), (30, .aload 0, 31), (31, .sipush 0, 32), 
  (32, .sipush 1, 33), (33, .invokestatic 82, 36), (36, .istore 4, 38), (38, .aload 0, 39), (39, .sipush 0, 40), (40, .sipush 1, 41), (41, .invokestatic 82, 44), (44, .istore 5, 46), (46, .aload 0, 47), (47, .getfield 392, 50), 
  (50, .ifCond .eq 55, 53), (53, .sipush 0, 54), (54, .ireturn, 55), (55, .aload 0, 56), (56, .getfield 386, 59), (59, .iload 1, 60), (60, .iload 2, 61), (61, .iload 3, 62), (62, .iload 4, 64), (64, .iload 5, 66), 
  (66, .invokestatic 44, 69), (69, .sipush 1, 70), (70, .ireturn, 71)]
def k_X6_readFair : Nat := 81
def T_X6_readFair : TB := [(0, .aload 0, 1), (1, .sipush 0, 2), (2, .aload 0, 3), (3, .getfield 386, 6), (6, .getfield 264, 9), (9, .sipush 1, 10), (10, .isub, 11), (11, .invokestatic 82, 14), (14, .istore 1, 15), (15, .aload 0, 16), (16, .sipush 0, 17), 
  (17, .sipush 999, 20), (20, .invokestatic 82, 23), (23, .istore 2, 24), (24, .aload 0, 25), (25, .iload 2, 26), (26, .sipush 999, 29), (29, .invokestatic 82, 32), (32, .istore 3, 33), (33, .aload 0, 34), (34, .getfield 392, 37), 
  (37, .ifCond .eq 42, 40), (40, .sipush 0, 41), (41, .ireturn, 42), (42, .aload 0, 43), (43, .getfield 386, 46), (46, .iload 1, 47), (47, .iload 2, 48), (48, .iload 3, 49), (49, .invokestatic 46, 52), (52, .sipush 1, 53), 
  (53, .ireturn, 54)]
def k_X6_readNumber : Nat := 82
def T_X6_readNumber : TB := [(0, .aload 0, 1), (1, .getfield 392, 4), (4, .ifCond .eq 9, 7), (7, .sipush (-1), 8), (8, .ireturn, 9), (9, .aload 0, 10), (10, .getfield 387, 13), (13, .sipush 1, 14), (14, .if_icmp .eq 24, 17), (17, .aload 0, 18), 
  (18, .sipush 1, 19), (19, .putfield 392, 22), (22, .sipush (-1), 23), (23, .ireturn, 24), (24, .aload 0, 25), (25, .getfield 389, 28), (28, .iload 1, 29), (29, .if_icmp .lt 40, 32), (32, .aload 0, 33), (33, .getfield 389, 36), 
  (36, .iload 2, 37), (37, .if_icmp .le 47, 40), (40, .aload 0, 41), (41, .sipush 2, 42), (42, .putfield 392, 45), (45, .sipush (-1), 46), (46, .ireturn, 47), (47, .aload 0, 48), (48, .getfield 389, 51), (51, .istore 3, 52), 
  (52, .aload 0, 53), (53, .invokestatic 84, 56), (56, .iload 3, 57), (57, .ireturn, 58)]
def k_X6_readSemicolon : Nat := 83
def T_X6_readSemicolon : TB := [(0, .aload 0, 1), (1, .getfield 387, 4), (4, .sipush 2, 5), (5, .if_icmp .eq 14, 8), (8, .aload 0, 9), (9, .sipush 1, 10), (10, .invokestatic 73, 13), (13, .ireturn, 14), (14, .aload 0, 15), (15, .invokestatic 84, 18), 
  (18, .sipush 1, 19), (19, .ireturn, 20)]
def k_X6_nextToken : Nat := 84
def T_X6_nextToken : TB := [(0, .aload 0, 1), (1, .aload 0, 2), (2, .getfield 388, 5), (5, .putfield 391, 8), (8, .aload 0, 9), (9, .getfield 391, 12), (12, .aload 0, 13), (13, .getfield 390, 16), (16, .if_icmp .ge 44, 19), (19, .aload 0, 20), 
  (20, .aload 0, 21), (21, .getfield 391, 24), (24, .invokestatic 85, 27), (27, .sipush 5, 28), (28, .if_icmp .ne 44, 31), (31, .aload 0, 32), (32, .dup, 33), (33, .getfield 391, 36), (36, .sipush 1, 37), (37, .iadd, 38), 
  (38, .putfield 391, 41), (41, .goto 8, 44), (44, .aload 0, 45), (45, .aload 0, 46), (46, .getfield 391, 49), (49, .putfield 388, 52), (52, .aload 0, 53), (53, .aload 0, 54), (54, .aload 0, 55), (55, .getfield 391, 58), 
  (58, .invokestatic 85, 61), (61, .putfield 387, 64), (64, .aload 0, 65), (65, .sipush 0, 66), (66, .putfield 389, 69), (69, .aload 0, 70), (70, .getfield 387, 73), (73, .ifCond .eq 84, 76), (76, .aload 0, 77), 
  (77, .getfield 387, 80), (80, .sipush 1, 81), (81, .if_icmp .ne 88, 84), (84, .sipush 1, 85), (85, .goto 89, 88), (88, .sipush 0, 89), (89, .istore 1, 90), (90, .iload 1, 91), (91, .ifCond .eq 101, 94), (94, .aload 0, 95), 
  (95, .getfield 390, 98), (98, .goto 114, 101), (101, .aload 0, 102), (102, .getfield 390, 105), (105, .aload 0, 106), (106, .getfield 391, 109), (109, .sipush 1, 110), (110, .iadd, 111), (111, .invokeinterface 3 0, 114), 
  (114, .istore 2, 115), (115, .aload 0, 116), (116, .getfield 388, 119), (119, .iload 2, 120), (120, .if_icmp .ge 188, 123), (123, .aload 0, 124), (124, .aload 0, 125), (125, .getfield 388, 128), (128, .invokestatic 85, 131), 
  (131, .aload 0, 132), (132, .getfield 387, 135), (135, .if_icmp .ne 188, 138), (138, .aload 0, 139), (139, .getfield 388, 142), (142, .aload 0, 143), (143, .getfield 391, 146), (146, .isub, 147), (147, .sipush 3, 148), 
  (148, .if_icmp .ge 175, 151), (151, .aload 0, 152), (152, .aload 0, 153), (153, .getfield 389, 156), (156, .sipush 10, 158), (158, .imul, 159), (159, .aload 0, 160), (160, .getfield 384, 163), (163, .aload 0, 164), 
  (164, .getfield 388, 167), (167, .iaload, 168), (168, .iadd, 169), (169, .sipush 48, 171), (171, .isub, 172), (172, .putfield 389, 175), (175, .aload 0, 176), (176, .dup, 177), (177, .getfield 388, 180), (180, .sipush 1, 181), 
  (181, .iadd, 182), (182, .putfield 388, 185), (185, .goto 115, 188), (188, .aload 0, 189), (189, .getfield 387, 192), (192, .sipush 1, 193), (193, .if_icmp .ne 214, 196), (196, .aload 0, 197), (197, .getfield 388, 200), 
  (200, .aload 0, 201), (201, .getfield 391, 204), (204, .isub, 205), (205, .sipush 3, 206), (206, .if_icmp .le 214, 209), (209, .aload 0, 210), (210, .sipush 4, 211), (211, .putfield 387, 214), (214, .return_, 215)]
def k_X6_sortAt : Nat := 85
def T_X6_sortAt : TB := [(0, .iload 1, 1), (1, .aload 0, 2), (2, .getfield 390, 5), (5, .if_icmp .lt 10, 8), (8, .sipush 3, 9), (9, .ireturn, 10), (10, .aload 0, 11), (11, .getfield 384, 14), (14, .iload 1, 15), (15, .iaload, 16), (16, .istore 2, 17), 
  (17, .iload 2, 18), (18, .sipush 32, 20), (20, .if_icmp .eq 29, 23), (23, .iload 2, 24), (24, .sipush 10, 26), (26, .if_icmp .ne 31, 29), (29, .sipush 5, 30), (30, .ireturn, 31), (31, .iload 2, 32), (32, .sipush 97, 34), 
  (34, .if_icmp .lt 45, 37), (37, .iload 2, 38), (38, .sipush 122, 40), (40, .if_icmp .gt 45, 43), (43, .sipush 0, 44), (44, .ireturn, 45), (45, .iload 2, 46), (46, .sipush 48, 48), (48, .if_icmp .lt 59, 51), (51, .iload 2, 52), 
  (52, .sipush 57, 54), (54, .if_icmp .gt 59, 57), (57, .sipush 1, 58), (58, .ireturn, 59), (59, .iload 2, 60), (60, .sipush 59, 62), (62, .if_icmp .ne 69, 65), (65, .sipush 2, 66), (66, .goto 70, 69), (69, .sipush 4, 70), 
  (70, .ireturn, 71)]
def k_X7_init : Nat := 86
def T_X7_init : TB := [(0, .aload 0, 1), (1, .invokeinterface 1 0, 4), (4, .aload 0, 5), (5, .sipush 320, 8), (8, .newarray .int, 10), (10, .putfield 448, 13), (13, .aload 0, 14), (14, .sipush 8, 16), (16, .newarray .int, 18), (18, .putfield 449, 21), 
  (21, .aload 0, 22), (22, .sipush 8, 24), (24, .newarray .int, 26), (26, .putfield 450, 29), (29, .aload 0, 30), (30, .getfield 450, 33), (33, .sipush (-1), 34), (34, .invokestatic 265, 37), (37, .return_, 38)]
def k_X7_isNumber : Nat := 87
def T_X7_isNumber : TB := [(0, .iload 0, 1), (1, .ifCond .lt 14, 4), (4, .iload 0, 5), (5, .sipush 8, 7), (7, .if_icmp .ge 14, 10), (10, .sipush 1, 11), (11, .goto 15, 14), (14, .sipush 0, 15), (15, .ireturn, 16)]
def k_X7_isLane : Nat := 88
def T_X7_isLane : TB := [(0, .iload 0, 1), (1, .ifCond .lt 13, 4), (4, .iload 0, 5), (5, .sipush 2, 6), (6, .if_icmp .gt 13, 9), (9, .sipush 1, 10), (10, .goto 14, 13), (13, .sipush 0, 14), (14, .ireturn, 15)]
def k_X7_isMissing : Nat := 89
def T_X7_isMissing : TB := [(0, .aload 0, 1), (1, .getfield 450, 4), (4, .iload 1, 5), (5, .iaload, 6), (6, .sipush (-1), 7), (7, .if_icmp .ne 14, 10), (10, .sipush 1, 11), (11, .goto 15, 14), (14, .sipush 0, 15), (15, .ireturn, 16)]
def k_X7_laneOf : Nat := 90
def T_X7_laneOf : TB := [(0, .aload 0, 1), (1, .getfield 449, 4), (4, .iload 1, 5), (5, .iaload, 6), (6, .ireturn, 7)]
def k_X7_hasRange : Nat := 91
def T_X7_hasRange : TB := [(0, .iload 2, 1), (1, .ifCond .lt 34, 4), (4, .iload 3, 5), (5, .ifCond .lt 34, 8), (8, .iload 3, 9), (9, .aload 0, 10), (10, .getfield 450, 13), (13, .iload 1, 14), (14, .iaload, 15), (15, .if_icmp .gt 34, 18), (18, .iload 2, 19), 
  (19, .aload 0, 20), (20, .getfield 450, 23), (23, .iload 1, 24), (24, .iaload, 25), (25, .iload 3, 26), (26, .isub, 27), (27, .if_icmp .gt 34, 30), (30, .sipush 1, 31), (31, .goto 35, 34), (34, .sipush 0, 35), (35, .ireturn, 36)]
def k_X7_item : Nat := 92
def T_X7_item : TB := [(0, .aload 0, 1), (1, .getfield 448, 4), (4, .iload 1, 5), (5, .sipush 40, 7), (7, .imul, 8), (8, .iload 2, 9), (9, .iadd, 10), (10, .iaload, 11), (11, .ireturn, 12)]
def k_X7_renew : Nat := 93
def T_X7_renew : TB := [(0, .iload 1, 1), (1, .sipush 40, 3), (3, .imul, 4), (4, .istore 4, 6), (6, .aload 0, 7), (7, .getfield 448, 10), (10, .iload 4, 12), (12, .iload 4, 14), (14, .sipush 40, 16), (16, .iadd, 17), (17, .sipush 0, 18), 
  (18, .invokestatic 266, 21), (21, .aload 0, 22), (22, .getfield 449, 25), (25, .iload 1, 26), (26, .iload 2, 27), (27, .iastore, 28), (28, .aload 0, 29), (29, .getfield 450, 32), (32, .iload 1, 33), (33, .iload 3, 34), 
  (34, .iastore, 35), (35, .return_, 36)]
def k_X7_put : Nat := 94
def T_X7_put : TB := [(0, .iload 3, 1), (1, .istore 4, 3), (3, .aload 0, 4), (4, .getfield 449, 7), (7, .iload 1, 8), (8, .iaload, 9), (9, .ifCond .ne 19, 12), (12, .iload 3, 13), (13, .i2b, 14), (14, .istore 4, 16), (16, .goto 33, 19), 
  (19, .aload 0, 20), (20, .getfield 449, 23), (23, .iload 1, 24), (24, .iaload, 25), (25, .sipush 1, 26), (26, .if_icmp .ne 33, 29), (29, .iload 3, 30), (30, .i2s, 31), (31, .istore 4, 33), (33, .aload 0, 34), 
  (34, .getfield 448, 37), (37, .iload 1, 38), (38, .sipush 40, 40), (40, .imul, 41), (41, .iload 2, 42), (42, .iadd, 43), (43, .iload 4, 45), (45, .iastore, 46), (46, .iload 4, 48), (48, .ireturn, 49)]
def k_X7_move : Nat := 95
def T_X7_move : TB := [(0, .aload 0, 1), (1, .getfield 448, 4), (4, .iload 1, 5), (5, .sipush 40, 7), (7, .imul, 8), (8, .iload 2, 9), (9, .iadd, 10), (10, .aload 0, 11), (11, .getfield 448, 14), (14, .iload 3, 15), (15, .sipush 40, 17), (17, .imul, 18), 
  (18, .iload 4, 20), (20, .iadd, 21), (21, .iload 5, 23), (23, .invokeinterface 0 0, 26), (26, .return_, 27)]
def k_X7_remove : Nat := 96
def T_X7_remove : TB := [(0, .aload 0, 1), (1, .getfield 450, 4), (4, .iload 1, 5), (5, .iaload, 6), (6, .istore 2, 7), (7, .aload 0, 8), (8, .getfield 450, 11), (11, .iload 1, 12), (12, .sipush (-1), 13), (13, .iastore, 14), (14, .iload 2, 15), 
  (15, .ireturn, 16)]
def k_X7_present : Nat := 97
def T_X7_present : TB := [(0, .sipush 0, 1), (1, .istore 1, 2), (2, .sipush 0, 3), (3, .istore 2, 4), (4, .iload 2, 5), (5, .sipush 8, 7), (7, .if_icmp .ge 27, 10), (10, .aload 0, 11), (11, .iload 2, 12), (12, .invokestatic 89, 15), 
  (15, .ifCond .ne 21, 18), (18, .iinc 1 1, 21), (21, .iinc 2 1, 24), (24, .goto 4, 27), (27, .iload 1, 28), (28, .ireturn, 29)]
def k_X8_init : Nat := 98
def T_X8_init : TB := [(0, .aload 0, 1), (1, .invokeinterface 1 0, 4), (4, .aload 0, 5), (5, .sipush 6, 7), (7, .newarray .int, 9), (9, .putfield 512, 12), (12, .return_, 13)]
def k_X8_fewestRoads : Nat := 99
def T_X8_fewestRoads : TB := [(0, .aload 0, 1), (1, .aload 1, 2), (2, .iload 2, 3), (3, .invokestatic 104, 6), (6, .sipush 1, 7), (7, .aload 1, 8), (8, .getfield 262, 11), (11, .iload 2, 12), (12, .iaload, 13), (13, .ishl, 14), (14, .istore 4, 16), 
  (16, .sipush 0, 17), (17, .istore 5, 19), (19, .iload 5, 21), (21, .sipush 6, 23), (23, .if_icmp .ge 57, 26), (26, .iload 4, 28), (28, .iload 3, 29), (29, .ishr, 30), (30, .sipush 1, 31), (31, .iand, 32), (32, .sipush 1, 33), 
  (33, .if_icmp .ne 39, 36), (36, .iload 5, 38), (38, .ireturn, 39), (39, .iload 4, 41), (41, .aload 0, 42), (42, .aload 1, 43), (43, .iload 4, 45), (45, .invokestatic 100, 48), (48, .ior, 49), (49, .istore 4, 51), 
  (51, .iinc 5 1, 54), (54, .goto 19, 57), (57, .sipush (-1000000), 59), (59, .ireturn, 60)]
def k_X8_openNeighbours : Nat := 100
def T_X8_openNeighbours : TB := [(0, .sipush 0, 1), (1, .istore 3, 2), (2, .sipush 0, 3), (3, .istore 4, 5), (5, .iload 4, 7), (7, .aload 1, 8), (8, .getfield 264, 11), (11, .if_icmp .ge 49, 14), (14, .aload 0, 15), (15, .getfield 512, 18), (18, .iload 4, 20), 
  (20, .iaload, 21), (21, .ifCond .ne 43, 24), (24, .aload 1, 25), (25, .getfield 258, 28), (28, .iload 4, 30), (30, .iaload, 31), (31, .iload 2, 32), (32, .iand, 33), (33, .ifCond .eq 43, 36), (36, .iload 3, 37), 
  (37, .sipush 1, 38), (38, .iload 4, 40), (40, .ishl, 41), (41, .ior, 42), (42, .istore 3, 43), (43, .iinc 4 1, 46), (46, .goto 5, 49), (49, .iload 3, 50), (50, .ireturn, 51)]
def k_X8_fewestBars : Nat := 101
def T_X8_fewestBars : TB := [(0, .aload 0, 1), (1, .aload 1, 2), (2, .iload 2, 3), (3, .invokestatic 104, 6), (6, .aload 0, 7), (7, .sipush (-1000000), 9), (9, .putfield 513, 12), (12, .aload 1, 13), (13, .getfield 262, 16), (16, .iload 2, 17), 
  (17, .iaload, 18), (18, .istore 4, 20), (20, .aload 0, 21), (21, .aload 1, 22), (22, .iload 4, 24), (24, .iload 3, 25), (25, .sipush 1, 26), (26, .iload 4, 28), (28, .ishl, 29), (29, .sipush 0, 30), (30, .invokestatic 102, 33), 
  (33, .aload 0, 34), (34, .getfield 513, 37), (37, .ireturn, 38)]
def k_X8_walk : Nat := 102
def T_X8_walk : TB := [(0, .iload 2, 1), (1, .iload 3, 2), (2, .if_icmp .ne 12, 5), (5, .aload 0, 6), (6, .iload 5, 8), (8, .invokestatic 103, 11), (11, .return_, 12), (12, .sipush 0, 13), (13, .istore 6, 15), (15, .iload 6, 17), (17, .aload 1, 18), 
  (18, .getfield 264, 21), (21, .if_icmp .ge 87, 24), (24, .iload 4, 26), (26, .iload 6, 28), (28, .ishr, 29), (29, .sipush 1, 30), (30, .iand, 31), (31, .ifCond .ne 38, 34), (34, .sipush 1, 35), (35, .goto 39, 38), 
  (38, .sipush 0, 39), (39, .istore 7, 41), (41, .iload 7, 43), (43, .ifCond .eq 81, 46), (46, .aload 1, 47), (47, .iload 2, 48), (48, .iload 6, 50), (50, .invokestatic 43, 53), (53, .ifCond .eq 81, 56), (56, .aload 0, 57), 
  (57, .aload 1, 58), (58, .iload 6, 60), (60, .iload 3, 61), (61, .iload 4, 63), (63, .sipush 1, 64), (64, .iload 6, 66), (66, .ishl, 67), (67, .ior, 68), (68, .iload 5, 70), (70, .aload 0, 71), (71, .getfield 512, 74), 
  (74, .iload 6, 76), (76, .iaload, 77), (77, .ior, 78), (78, .invokestatic 102, 81), (81, .iinc 6 1, 84), (84, .goto 15, 87), (87, .return_, 88)]
def k_X8_choose : Nat := 103
def T_X8_choose : TB := [(0, .aload 0, 1), (1, .getfield 513, 4), (4, .sipush (-1000000), 6), (6, .if_icmp .ne 13, 9), (9, .sipush (-1), 10), (10, .goto 27, 13), (13, .iload 1, 14), (14, .invokestatic 258, 17), (17, .aload 0, 18), (18, .getfield 513, 21), 
  (21, .invokestatic 258, 24), (24, .invokestatic 257, 27), (27, .istore 2, 28), (28, .iload 2, 29), (29, .ifCond .lt 44, 32), (32, .iload 2, 33), (33, .ifCond .ne 49, 36), (36, .iload 1, 37), (37, .aload 0, 38), 
  (38, .getfield 513, 41), (41, .if_icmp .ge 49, 44), (44, .aload 0, 45), (45, .iload 1, 46), (46, .putfield 513, 49), (49, .return_, 50)]
def k_X8_findBars : Nat := 104
def T_X8_findBars : TB := [(0, .sipush 0, 1), (1, .istore 3, 2), (2, .iload 3, 3), (3, .aload 1, 4), (4, .getfield 264, 7), (7, .if_icmp .ge 70, 10), (10, .aload 0, 11), (11, .getfield 512, 14), (14, .iload 3, 15), (15, .sipush 0, 16), (16, .iastore, 17), 
  (17, .sipush 0, 18), (18, .istore 4, 20), (20, .iload 4, 22), (22, .aload 1, 23), (23, .getfield 267, 26), (26, .if_icmp .ge 64, 29), (29, .aload 1, 30), (30, .aload 1, 31), (31, .getfield 263, 34), (34, .iload 4, 36), 
  (36, .aaload, 37), (37, .iload 2, 38), (38, .iload 3, 39), (39, .invokestatic 57, 42), (42, .ifCond .ne 58, 45), (45, .aload 0, 46), (46, .getfield 512, 49), (49, .iload 3, 50), (50, .dup2, 51), (51, .iaload, 52), 
  (52, .sipush 1, 53), (53, .iload 4, 55), (55, .ishl, 56), (56, .ior, 57), (57, .iastore, 58), (58, .iinc 4 1, 61), (61, .goto 20, 64), (64, .iinc 3 1, 67), (67, .goto 2, 70), (70, .return_, 71)]
def k_X8_isShutAt : Nat := 105
def T_X8_isShutAt : TB := [(0, .sipush 0, 1), (1, .istore 3, 2), (2, .iload 3, 3), (3, .aload 0, 4), (4, .getfield 267, 7), (7, .if_icmp .ge 34, 10), (10, .aload 0, 11), (11, .aload 0, 12), (12, .getfield 263, 15), (15, .iload 3, 16), (16, .aaload, 17), 
  (17, .sipush (-1), 18), (18, .iload 1, 19), (19, .iload 2, 20), (20, .invokestatic 58, 23), (23, .ifCond .ne 28, 26), (26, .sipush 1, 27), (27, .ireturn, 28), (28, .iinc 3 1, 31), (31, .goto 2, 34), (34, .sipush 0, 35), 
  (35, .ireturn, 36)]
def k_X8_deadPairs : Nat := 106
def T_X8_deadPairs : TB := [(0, .sipush 0, 1), (1, .istore 1, 2), (2, .sipush 0, 3), (3, .istore 2, 4), (4, .iload 2, 5), (5, .aload 0, 6), (6, .getfield 264, 9), (9, .if_icmp .ge 57, 12), (12, .iload 2, 13), (13, .sipush 1, 14), (14, .iadd, 15), 
  (15, .istore 3, 16), (16, .iload 3, 17), (17, .aload 0, 18), (18, .getfield 264, 21), (21, .if_icmp .ge 51, 24), (24, .aload 0, 25), (25, .iload 2, 26), (26, .iload 3, 27), (27, .invokestatic 105, 30), (30, .ifCond .ne 42, 33), 
  (33, .aload 0, 34), (34, .iload 3, 35), (35, .iload 2, 36), (36, .invokestatic 105, 39), (39, .ifCond .eq 45, 42), (42, .iinc 1 1, 45), (45, .iinc 3 1, 48), (48, .goto 16, 51), (51, .iinc 2 1, 54), (54, .goto 4, 57), 
  (57, .iload 1, 58), (58, .ireturn, 59)]
def k_X9_init : Nat := 107
def T_X9_init : TB := [(0, .aload 0, 1), (1, .invokeinterface 1 0, 4), (4, .aload 0, 5), (5, .new 7, 8), (8, .dup, 9), (9, .invokestatic 86, 12), (12, .putfield 576, 15), (15, .aload 0, 16), (16, .new 6, 19), (19, .dup, 20), (20, .invokestatic 68, 23), 
  (23, .putfield 577, 26), (26, .aload 0, 27), (27, .new 3, 30), (30, .dup, 31), (31, .invokestatic 26, 34), (34, .putfield 578, 37), (37, .aload 0, 38), (38, .new 5, 41), (41, .dup, 42), (42, .invokestatic 63, 45), 
  (45, .putfield 579, 48), (48, .aload 0, 49), (49, .new 8, 52), (52, .dup, 53), (53, .invokestatic 98, 56), (56, .putfield 580, 59), (59, .aload 0, 60), (60, .new 2, 63), (63, .dup, 64), (64, .invokestatic 13, 67), 
  (67, .putfield 581, 70), (70, .aload 0, 71), (71, .new 0, 74), (74, .dup, 75), (75, .invokestatic 0, 78), (78, .putfield 582, 81), (81, .aload 0, 82), (82, .sipush 2, 83), (83, .anewarray 4, 86), (86, .putfield 583, 89), 
  (89, .sipush 0, 90), (90, .istore 1, 91), (91, .iload 1, 92), (92, .sipush 2, 93), (93, .if_icmp .ge 115, 96), (96, .aload 0, 97), (97, .getfield 583, 100), (100, .iload 1, 101), (101, .new 4, 104), (104, .dup, 105), 
  (105, .invokestatic 32, 108), (108, .aastore, 109), (109, .iinc 1 1, 112), (112, .goto 91, 115), (115, .aload 0, 116), (116, .new 4, 119), (119, .dup, 120), (120, .invokestatic 32, 123), (123, .putfield 584, 126), 
  (126, .aload 0, 127), (127, .new 4, 130), (130, .dup, 131), (131, .invokestatic 32, 134), (134, .putfield 585, 137), (137, .aload 0, 138), (138, .sipush 0, 139), (139, .putfield 586, 142), (142, .aload 0, 143), 
  (143, .sipush 0, 144), (144, .putfield 587, 147), (147, .return_, 148)]
def k_X9_sheet : Nat := 108
def T_X9_sheet : TB := [(0, .iload 1, 1), (1, .invokestatic 87, 4), (4, .ifCond .eq 20, 7), (7, .iload 2, 8), (8, .invokestatic 88, 11), (11, .ifCond .eq 20, 14), (14, .iload 3, 15), (15, .sipush 40, 17), (17, .if_icmp .le 23, 20), 
  (20, .sipush (-1000001), 22), (22, .ireturn, 23), (23, .iload 3, 24), (24, .ifCond .ge 33, 27), (27, .aload 0, 28), (28, .sipush 4, 29), (29, .invokestatic 149, 32), (32, .ireturn, 33), (33, .aload 0, 34), (34, .getfield 576, 37), 
  (37, .iload 1, 38), (38, .iload 2, 39), (39, .iload 3, 40), (40, .invokestatic 93, 43), (43, .aload 0, 44), (44, .iload 3, 45), (45, .invokestatic 150, 48), (48, .ireturn, 49)]
def k_X9_set : Nat := 109
def T_X9_set : TB := [(0, .iload 1, 1), (1, .invokestatic 87, 4), (4, .ifCond .ne 10, 7), (7, .sipush (-1000001), 9), (9, .ireturn, 10), (10, .aload 0, 11), (11, .getfield 576, 14), (14, .iload 1, 15), (15, .invokestatic 89, 18), 
  (18, .ifCond .eq 27, 21), (21, .aload 0, 22), (22, .sipush 1, 23), (23, .invokestatic 149, 26), (26, .ireturn, 27), (27, .aload 0, 28), (28, .getfield 576, 31), (31, .iload 1, 32), (32, .iload 2, 33), (33, .sipush 1, 34), 
  (34, .invokestatic 91, 37), (37, .ifCond .ne 46, 40), (40, .aload 0, 41), (41, .sipush 2, 42), (42, .invokestatic 149, 45), (45, .ireturn, 46), (46, .aload 0, 47), (47, .aload 0, 48), (48, .getfield 576, 51), (51, .iload 1, 52), 
  (52, .iload 2, 53), (53, .iload 3, 54), (54, .invokestatic 94, 57), (57, .invokestatic 150, 60), (60, .ireturn, 61)]
def k_X9_copy : Nat := 110
def T_X9_copy : TB := [(0, .iload 1, 1), (1, .invokestatic 87, 4), (4, .ifCond .eq 14, 7), (7, .iload 3, 8), (8, .invokestatic 87, 11), (11, .ifCond .ne 17, 14), (14, .sipush (-1000001), 16), (16, .ireturn, 17), (17, .aload 0, 18), 
  (18, .getfield 576, 21), (21, .iload 1, 22), (22, .invokestatic 89, 25), (25, .ifCond .ne 39, 28), (28, .aload 0, 29), (29, .getfield 576, 32), (32, .iload 3, 33), (33, .invokestatic 89, 36), (36, .ifCond .eq 45, 39), 
  (39, .aload 0, 40), (40, .sipush 1, 41), (41, .invokestatic 149, 44), (44, .ireturn, 45), (45, .aload 0, 46), (46, .getfield 576, 49), (49, .iload 1, 50), (50, .invokestatic 90, 53), (53, .aload 0, 54), (54, .getfield 576, 57), 
  (57, .iload 3, 58), (58, .invokestatic 90, 61), (61, .if_icmp .eq 70, 64), (64, .aload 0, 65), (65, .sipush 5, 66), (66, .invokestatic 149, 69), (69, .ireturn, 70), (70, .aload 0, 71), (71, .getfield 576, 74), (74, .iload 1, 75), 
  (75, .iload 2, 76), (76, .iload 5, 78), (78, .invokestatic 91, 81), (81, .ifCond .eq 99, 84), (84, .aload 0, 85), (85, .getfield 576, 88), (88, .iload 3, 89), (89, .iload 4, 91), (91, .iload 5, 93), (93, .invokestatic 91, 96), 
  (96, .ifCond .ne 105, 99), (99, .aload 0, 100), (100, .sipush 2, 101), (101, .invokestatic 149, 104), (104, .ireturn, 105), (105, .aload 0, 106), (106, .getfield 576, 109), (109, .iload 1, 110), (110, .iload 2, 111), 
  (111, .iload 3, 112), (112, .iload 4, 114), (114, .iload 5, 116), (116, .invokestatic 95, 119), (119, .aload 0, 120), (120, .iload 5, 122), (122, .invokestatic 150, 125), (125, .ireturn, 126)]
def k_X9_drop : Nat := 111
def T_X9_drop : TB := [(0, .iload 1, 1), (1, .invokestatic 87, 4), (4, .ifCond .ne 10, 7), (7, .sipush (-1000001), 9), (9, .ireturn, 10), (10, .aload 0, 11), (11, .getfield 576, 14), (14, .iload 1, 15), (15, .invokestatic 89, 18), 
  (18, .ifCond .eq 27, 21), (21, .aload 0, 22), (22, .sipush 1, 23), (23, .invokestatic 149, 26), (26, .ireturn, 27), (27, .aload 0, 28), (28, .aload 0, 29), (29, .getfield 576, 32), (32, .iload 1, 33), (33, .invokestatic 96, 36), 
  (36, .invokestatic 150, 39), (39, .ireturn, 40)]
def k_X9_feed : Nat := 112
def T_X9_feed : TB := [(0, .iload 3, 1), (1, .sipush 1, 2), (2, .if_icmp .lt 11, 5), (5, .iload 3, 6), (6, .sipush 8, 8), (8, .if_icmp .le 14, 11), (11, .sipush (-1000001), 13), (13, .ireturn, 14), (14, .aload 0, 15), (15, .getfield 577, 18), 
  (18, .iload 3, 19), (19, .invokestatic 69, 22), (22, .ifCond .ne 28, 25), (25, .sipush (-1000003), 27), (27, .ireturn, 28), (28, .aload 0, 29), (29, .getfield 577, 32), (32, .lload 1, 33), (33, .iload 3, 34), 
  (34, .invokestatic 70, 37), (37, .ireturn, 38)]
def k_X9_land : Nat := 113
def T_X9_land : TB := [(0, .aload 0, 1), (1, .getfield 577, 4), (4, .aload 0, 5), (5, .getfield 585, 8), (8, .invokestatic 72, 11), (11, .istore 1, 12), (12, .aload 0, 13), (13, .getfield 577, 16), (16, .invokestatic 71, 19), (19, .iload 1, 20), 
  (20, .ifCond .ne 45, 23), (23, .aload 0, 24), (24, .aload 0, 25), (25, .getfield 577, 28), (28, .getfield 392, 31), (31, .putfield 586, 34), (34, .sipush (-1000100), 36), (36, .aload 0, 37), (37, .getfield 577, 40), 
  (40, .getfield 391, 43), (43, .isub, 44), (44, .ireturn, 45), (45, .aload 0, 46), (46, .getfield 584, 49), (49, .astore 2, 50), (50, .aload 0, 51), (51, .aload 0, 52), (52, .getfield 585, 55), (55, .putfield 584, 58), 
  (58, .aload 0, 59), (59, .aload 2, 60), (60, .putfield 585, 63), (63, .aload 0, 64), (64, .getfield 584, 67), (67, .getfield 264, 70), (70, .ireturn, 71)]
def k_X9_fault : Nat := 114
def T_X9_fault : TB := [(0, .aload 0, 1), (1, .getfield 586, 4), (4, .ireturn, 5)]
def k_X9_later : Nat := 115
def T_X9_later : TB := [(0, .iload 1, 1), (1, .ifCond .lt 25, 4), (4, .iload 1, 5), (5, .sipush 100, 7), (7, .if_icmp .gt 25, 10), (10, .aload 0, 11), (11, .getfield 584, 14), (14, .getfield 268, 17), (17, .iload 1, 18), (18, .iadd, 19), 
  (19, .sipush 999, 22), (22, .if_icmp .le 28, 25), (25, .sipush (-1000001), 27), (27, .ireturn, 28), (28, .aload 0, 29), (29, .getfield 584, 32), (32, .invokestatic 35, 35), (35, .ifCond .eq 41, 38), (38, .sipush (-1000002), 40), 
  (40, .ireturn, 41), (41, .aload 0, 42), (42, .getfield 584, 45), (45, .dup, 46), (46, .getfield 268, 49), (49, .iload 1, 50), (50, .iadd, 51), (51, .putfield 268, 54), (54, .aload 0, 55), (55, .getfield 584, 58), 
  (58, .getfield 268, 61), (61, .ireturn, 62)]
def k_X9_goes : Nat := 116
def T_X9_goes : TB := [(0, .aload 0, 1), (1, .getfield 584, 4), (4, .iload 1, 5), (5, .invokestatic 38, 8), (8, .ifCond .eq 22, 11), (11, .aload 0, 12), (12, .getfield 584, 15), (15, .iload 2, 16), (16, .invokestatic 36, 19), (19, .ifCond .ne 25, 22), 
  (22, .sipush (-1000001), 24), (24, .ireturn, 25), (25, .aload 0, 26), (26, .getfield 584, 29), (29, .aload 0, 30), (30, .getfield 584, 33), (33, .getfield 262, 36), (36, .iload 1, 37), (37, .iaload, 38), (38, .iload 2, 39), 
  (39, .invokestatic 43, 42), (42, .ifCond .ne 48, 45), (45, .sipush (-1000002), 47), (47, .ireturn, 48), (48, .aload 0, 49), (49, .getfield 584, 52), (52, .getfield 262, 55), (55, .iload 1, 56), (56, .iload 2, 57), 
  (57, .iastore, 58), (58, .sipush 1, 59), (59, .ireturn, 60)]
def k_X9_man : Nat := 117
def T_X9_man : TB := [(0, .aload 0, 1), (1, .getfield 584, 4), (4, .iload 1, 5), (5, .invokestatic 38, 8), (8, .ifCond .ne 14, 11), (11, .sipush (-1000001), 13), (13, .ireturn, 14), (14, .iload 2, 15), 
  (15, .lookupswitch 69 #[(0, 40), (1, 50), (2, 60)], 40), (40, .aload 0, 41), (41, .getfield 584, 44), (44, .getfield 261, 47), (47, .iload 1, 48), (48, .iaload, 49), (49, .ireturn, 50), (50, .aload 0, 51), (51, .getfield 584, 54), 
  (54, .getfield 262, 57), (57, .iload 1, 58), (58, .iaload, 59), (59, .ireturn, 60), (60, .aload 0, 61), (61, .getfield 584, 64), (64, .iload 1, 65), (65, .invokestatic 56, 68), (68, .ireturn, 69), (69, .sipush (-1000001), 71), 
  (71, .ireturn, 72)]
def k_X9_law : Nat := 118
def T_X9_law : TB := [(0, .aload 0, 1), (1, .getfield 584, 4), (4, .iload 1, 5), (5, .invokestatic 36, 8), (8, .ifCond .eq 20, 11), (11, .iload 2, 12), (12, .ifCond .lt 20, 15), (15, .iload 2, 16), (16, .sipush 4, 17), (17, .if_icmp .le 23, 20), 
  (20, .sipush (-1000001), 22), (22, .ireturn, 23), (23, .iload 2, 24), (24, .sipush 4, 25), (25, .if_icmp .ne 40, 28), (28, .aload 0, 29), (29, .getfield 584, 32), (32, .getfield 256, 35), (35, .iload 1, 36), (36, .iaload, 37), 
  (37, .goto 49, 40), (40, .aload 0, 41), (41, .getfield 584, 44), (44, .iload 1, 45), (45, .iload 2, 46), (46, .invokestatic 45, 49), (49, .ireturn, 50)]
def k_X9_pact : Nat := 119
def T_X9_pact : TB := [(0, .aload 0, 1), (1, .getfield 584, 4), (4, .iload 1, 5), (5, .iload 2, 6), (6, .invokestatic 37, 9), (9, .ifCond .eq 19, 12), (12, .iload 3, 13), (13, .invokestatic 151, 16), (16, .ifCond .ne 22, 19), 
  (19, .sipush (-1000001), 21), (21, .ireturn, 22), (22, .aload 0, 23), (23, .getfield 584, 26), (26, .iload 1, 27), (27, .iload 2, 28), (28, .invokestatic 49, 31), (31, .ifCond .eq 38, 34), (34, .sipush 1, 35), (35, .goto 39, 38), 
  (38, .sipush 0, 39), (39, .istore 4, 41), (41, .aload 0, 42), (42, .getfield 584, 45), (45, .iload 1, 46), (46, .iload 2, 47), (47, .iload 3, 48), (48, .sipush 1, 49), (49, .if_icmp .ne 56, 52), (52, .sipush 1, 53), 
  (53, .goto 57, 56), (56, .sipush 0, 57), (57, .invokestatic 48, 60), (60, .iload 4, 62), (62, .ireturn, 63)]
def k_X9_debt : Nat := 120
def T_X9_debt : TB := [(0, .aload 0, 1), (1, .getfield 584, 4), (4, .iload 1, 5), (5, .iload 2, 6), (6, .iload 3, 7), (7, .invokestatic 51, 10), (10, .ifCond .ne 16, 13), (13, .sipush (-1000001), 15), (15, .ireturn, 16), (16, .aload 0, 17), 
  (17, .getfield 584, 20), (20, .sipush 1, 21), (21, .invokestatic 52, 24), (24, .ifCond .ne 30, 27), (27, .sipush (-1000003), 29), (29, .ireturn, 30), (30, .aload 0, 31), (31, .getfield 584, 34), (34, .iload 2, 35), 
  (35, .iload 1, 36), (36, .iload 3, 37), (37, .sipush (-1000000), 39), (39, .invokestatic 53, 42), (42, .ireturn, 43)]
def k_X9_debts : Nat := 121
def T_X9_debts : TB := [(0, .iload 1, 1), (1, .invokestatic 87, 4), (4, .ifCond .eq 18, 7), (7, .iload 3, 8), (8, .sipush 1, 9), (9, .if_icmp .lt 18, 12), (12, .iload 3, 13), (13, .sipush 10, 15), (15, .if_icmp .le 21, 18), (18, .sipush (-1000001), 20), 
  (20, .ireturn, 21), (21, .aload 0, 22), (22, .getfield 576, 25), (25, .iload 1, 26), (26, .invokestatic 89, 29), (29, .ifCond .eq 38, 32), (32, .aload 0, 33), (33, .sipush 1, 34), (34, .invokestatic 149, 37), (37, .ireturn, 38), 
  (38, .aload 0, 39), (39, .getfield 576, 42), (42, .iload 1, 43), (43, .iload 2, 44), (44, .sipush 3, 45), (45, .iload 3, 46), (46, .imul, 47), (47, .invokestatic 91, 50), (50, .ifCond .ne 59, 53), (53, .aload 0, 54), 
  (54, .sipush 2, 55), (55, .invokestatic 149, 58), (58, .ireturn, 59), (59, .sipush 0, 60), (60, .istore 4, 62), (62, .iload 4, 64), (64, .iload 3, 65), (65, .if_icmp .ge 129, 68), (68, .iload 2, 69), (69, .sipush 3, 70), 
  (70, .iload 4, 72), (72, .imul, 73), (73, .iadd, 74), (74, .istore 5, 76), (76, .aload 0, 77), (77, .getfield 584, 80), (80, .aload 0, 81), (81, .getfield 576, 84), (84, .iload 1, 85), (85, .iload 5, 87), 
  (87, .invokestatic 92, 90), (90, .aload 0, 91), (91, .getfield 576, 94), (94, .iload 1, 95), (95, .iload 5, 97), (97, .sipush 1, 98), (98, .iadd, 99), (99, .invokestatic 92, 102), (102, .aload 0, 103), (103, .getfield 576, 106), 
  (106, .iload 1, 107), (107, .iload 5, 109), (109, .sipush 2, 110), (110, .iadd, 111), (111, .invokestatic 92, 114), (114, .invokestatic 51, 117), (117, .ifCond .ne 123, 120), (120, .sipush (-1000001), 122), (122, .ireturn, 123), 
  (123, .iinc 4 1, 126), (126, .goto 62, 129), (129, .aload 0, 130), (130, .getfield 584, 133), (133, .iload 3, 134), (134, .invokestatic 52, 137), (137, .ifCond .ne 143, 140), (140, .sipush (-1000003), 142), (142, .ireturn, 143), 
  (143, .sipush 0, 144), (144, .istore 4, 146), (146, .iload 4, 148), (148, .iload 3, 149), (149, .if_icmp .ge 210, 152), (152, .iload 2, 153), (153, .sipush 3, 154), (154, .iload 4, 156), (156, .imul, 157), (157, .iadd, 158), 
  (158, .istore 5, 160), (160, .aload 0, 161), (161, .getfield 584, 164), (164, .aload 0, 165), (165, .getfield 576, 168), (168, .iload 1, 169), (169, .iload 5, 171), (171, .sipush 1, 172), (172, .iadd, 173), 
  (173, .invokestatic 92, 176), (176, .aload 0, 177), (177, .getfield 576, 180), (180, .iload 1, 181), (181, .iload 5, 183), (183, .invokestatic 92, 186), (186, .aload 0, 187), (187, .getfield 576, 190), (190, .iload 1, 191), 
  (191, .iload 5, 193), (193, .sipush 2, 194), (194, .iadd, 195), (195, .invokestatic 92, 198), (198, .sipush (-1000000), 200), (200, .invokestatic 53, 203), (203, .pop, 204), (204, .iinc 4 1, 207), (207, .goto 146, 210), 
  (210, .aload 0, 211), (211, .aload 0, 212), (212, .getfield 584, 215), (215, .getfield 267, 218), (218, .invokestatic 150, 221), (221, .ireturn, 222)]
def k_X9_ask : Nat := 122
def T_X9_ask : TB := [(0, .aload 0, 1), (1, .getfield 584, 4), (4, .iload 1, 5), (5, .invokestatic 39, 8), (8, .ifCond .ne 14, 11), (11, .sipush (-1000001), 13), (13, .ireturn, 14), (14, .aload 0, 15), (15, .getfield 584, 18), (18, .getfield 263, 21), 
  (21, .iload 1, 22), (22, .aaload, 23), (23, .astore 2, 24), (24, .aload 2, 25), (25, .invokestatic 8, 28), (28, .ifCond .eq 34, 31), (31, .sipush (-1000002), 33), (33, .ireturn, 34), (34, .aload 2, 35), (35, .dup, 36), 
  (36, .getfield 68, 39), (39, .sipush 1, 40), (40, .iadd, 41), (41, .putfield 68, 44), (44, .aload 2, 45), (45, .getfield 68, 48), (48, .ireturn, 49)]
def k_X9_letter : Nat := 123
def T_X9_letter : TB := [(0, .aload 0, 1), (1, .getfield 584, 4), (4, .iload 1, 5), (5, .invokestatic 39, 8), (8, .ifCond .eq 28, 11), (11, .iload 2, 12), (12, .invokestatic 152, 15), (15, .ifCond .eq 28, 18), (18, .iload 3, 19), (19, .ifCond .lt 28, 22), 
  (22, .iload 3, 23), (23, .sipush 99, 25), (25, .if_icmp .le 31, 28), (28, .sipush (-1000001), 30), (30, .ireturn, 31), (31, .aload 0, 32), (32, .getfield 584, 35), (35, .getfield 263, 38), (38, .iload 1, 39), (39, .aaload, 40), 
  (40, .astore 4, 42), (42, .aload 4, 44), (44, .invokestatic 8, 47), (47, .ifCond .eq 53, 50), (50, .sipush (-1000002), 52), (52, .ireturn, 53), (53, .aload 4, 55), (55, .aload 0, 56), (56, .getfield 584, 59), 
  (59, .getfield 268, 62), (62, .iload 3, 63), (63, .iadd, 64), (64, .putfield 69, 67), (67, .aload 4, 69), (69, .iload 2, 70), (70, .putfield 70, 73), (73, .aload 4, 75), (75, .getfield 69, 78), (78, .ireturn, 79)]
def k_X9_pay : Nat := 124
def T_X9_pay : TB := [(0, .aload 0, 1), (1, .getfield 584, 4), (4, .iload 1, 5), (5, .invokestatic 39, 8), (8, .ifCond .eq 18, 11), (11, .iload 2, 12), (12, .invokestatic 152, 15), (15, .ifCond .ne 21, 18), (18, .sipush (-1000001), 20), 
  (20, .ireturn, 21), (21, .aload 0, 22), (22, .getfield 584, 25), (25, .getfield 263, 28), (28, .iload 1, 29), (29, .aaload, 30), (30, .astore 3, 31), (31, .aload 3, 32), (32, .dup, 33), (33, .getfield 67, 36), (36, .iload 2, 37), 
  (37, .aload 3, 38), (38, .getfield 67, 41), (41, .invokeinterface 3 0, 44), (44, .isub, 45), (45, .putfield 67, 48), (48, .aload 3, 49), (49, .getfield 67, 52), (52, .ireturn, 53)]
def k_X9_claim : Nat := 125
def T_X9_claim : TB := [(0, .aload 0, 1), (1, .getfield 584, 4), (4, .iload 1, 5), (5, .invokestatic 39, 8), (8, .ifCond .ne 14, 11), (11, .sipush (-1000001), 13), (13, .ireturn, 14), (14, .aload 0, 15), (15, .getfield 584, 18), (18, .getfield 263, 21), 
  (21, .iload 1, 22), (22, .aaload, 23), (23, .astore 3, 24), (24, .iload 2, 25), (25, .lookupswitch 129 #[(0, 76), (1, 81), (2, 86), (3, 91), (4, 96), (5, 109), (6, 114), (7, 119), (8, 124)], 76), (76, .aload 3, 77), 
  (77, .getfield 64, 80), (80, .ireturn, 81), (81, .aload 3, 82), (82, .getfield 65, 85), (85, .ireturn, 86), (86, .aload 3, 87), (87, .getfield 66, 90), (90, .ireturn, 91), (91, .aload 3, 92), (92, .getfield 67, 95), 
  (95, .ireturn, 96), (96, .aload 3, 97), (97, .invokestatic 9, 100), (100, .ifCond .eq 107, 103), (103, .sipush 1, 104), (104, .goto 108, 107), (107, .sipush 0, 108), (108, .ireturn, 109), (109, .aload 3, 110), 
  (110, .getfield 68, 113), (113, .ireturn, 114), (114, .aload 3, 115), (115, .getfield 69, 118), (118, .ireturn, 119), (119, .aload 3, 120), (120, .getfield 70, 123), (123, .ireturn, 124), (124, .aload 3, 125), 
  (125, .getfield 71, 128), (128, .ireturn, 129), (129, .sipush (-1000001), 131), (131, .ireturn, 132)]
def k_X9_may : Nat := 126
def T_X9_may : TB := [(0, .aload 0, 1), (1, .getfield 584, 4), (4, .iload 1, 5), (5, .invokestatic 39, 8), (8, .ifCond .eq 29, 11), (11, .aload 0, 12), (12, .getfield 584, 15), (15, .iload 2, 16), (16, .invokestatic 38, 19), (19, .ifCond .eq 29, 22), 
  (22, .iload 3, 23), (23, .invokestatic 151, 26), (26, .ifCond .ne 32, 29), (29, .sipush (-1000001), 31), (31, .ireturn, 32), (32, .aload 0, 33), (33, .getfield 584, 36), (36, .getfield 263, 39), (39, .iload 1, 40), 
  (40, .aaload, 41), (41, .astore 4, 43), (43, .aload 0, 44), (44, .getfield 584, 47), (47, .aload 4, 49), (49, .iload 2, 50), (50, .aload 0, 51), (51, .getfield 584, 54), (54, .getfield 262, 57), (57, .iload 2, 58), 
  (58, .iaload, 59), (59, .invokestatic 57, 62), (62, .istore 5, 64), (64, .iload 3, 65), (65, .ifCond .ne 71, 68), (68, .iload 5, 70), (70, .ireturn, 71), (71, .iload 5, 73), (73, .ifCond .ne 97, 76), (76, .aload 0, 77), 
  (77, .getfield 584, 80), (80, .aload 4, 82), (82, .aload 0, 83), (83, .getfield 584, 86), (86, .getfield 262, 89), (89, .iload 2, 90), (90, .iaload, 91), (91, .invokestatic 59, 94), (94, .goto 99, 97), (97, .sipush (-1000000), 99), 
  (99, .ireturn, 100)]
def k_X9_seize : Nat := 127
def T_X9_seize : TB := [(0, .aload 0, 1), (1, .getfield 584, 4), (4, .iload 1, 5), (5, .invokestatic 39, 8), (8, .ifCond .eq 29, 11), (11, .aload 0, 12), (12, .getfield 584, 15), (15, .iload 2, 16), (16, .invokestatic 38, 19), (19, .ifCond .eq 29, 22), 
  (22, .iload 3, 23), (23, .invokestatic 152, 26), (26, .ifCond .ne 32, 29), (29, .sipush (-1000001), 31), (31, .ireturn, 32), (32, .aload 0, 33), (33, .getfield 584, 36), (36, .getfield 263, 39), (39, .iload 1, 40), 
  (40, .aaload, 41), (41, .astore 4, 43), (43, .aload 0, 44), (44, .getfield 584, 47), (47, .getfield 262, 50), (50, .iload 2, 51), (51, .iaload, 52), (52, .istore 5, 54), (54, .aload 0, 55), (55, .getfield 584, 58), 
  (58, .aload 4, 60), (60, .iload 2, 61), (61, .iload 5, 63), (63, .invokestatic 57, 66), (66, .ifCond .ne 84, 69), (69, .iload 3, 70), (70, .aload 0, 71), (71, .getfield 584, 74), (74, .aload 4, 76), (76, .iload 5, 78), 
  (78, .invokestatic 59, 81), (81, .if_icmp .le 87, 84), (84, .sipush (-1000002), 86), (86, .ireturn, 87), (87, .aload 0, 88), (88, .getfield 584, 91), (91, .iload 1, 92), (92, .iload 2, 93), (93, .iload 3, 94), 
  (94, .invokestatic 60, 97), (97, .ireturn, 98)]
def k_X9_swear : Nat := 128
def T_X9_swear : TB := [(0, .aload 0, 1), (1, .getfield 584, 4), (4, .iload 1, 5), (5, .invokestatic 36, 8), (8, .ifCond .eq 29, 11), (11, .aload 0, 12), (12, .getfield 584, 15), (15, .iload 2, 16), (16, .invokestatic 39, 19), (19, .ifCond .eq 29, 22), 
  (22, .iload 3, 23), (23, .invokestatic 151, 26), (26, .ifCond .ne 32, 29), (29, .sipush (-1000001), 31), (31, .ireturn, 32), (32, .aload 0, 33), (33, .getfield 584, 36), (36, .getfield 263, 39), (39, .iload 2, 40), 
  (40, .aaload, 41), (41, .astore 4, 43), (43, .aload 4, 45), (45, .iload 1, 46), (46, .invokestatic 11, 49), (49, .istore 5, 51), (51, .aload 4, 53), (53, .iload 1, 54), (54, .iload 3, 55), (55, .invokestatic 12, 58), 
  (58, .iload 5, 60), (60, .ireturn, 61)]
def k_X9_says : Nat := 129
def T_X9_says : TB := [(0, .aload 0, 1), (1, .getfield 584, 4), (4, .iload 1, 5), (5, .invokestatic 39, 8), (8, .ifCond .eq 30, 11), (11, .aload 0, 12), (12, .getfield 584, 15), (15, .aload 0, 16), (16, .getfield 584, 19), (19, .getfield 263, 22), 
  (22, .iload 1, 23), (23, .aaload, 24), (24, .invokestatic 61, 27), (27, .goto 32, 30), (30, .sipush (-1000001), 32), (32, .ireturn, 33)]
def k_X9_grown : Nat := 130
def T_X9_grown : TB := [(0, .iload 1, 1), (1, .sipush 1, 2), (2, .if_icmp .lt 20, 5), (5, .iload 1, 6), (6, .sipush 30, 8), (8, .if_icmp .gt 20, 11), (11, .iload 2, 12), (12, .ifCond .lt 20, 15), (15, .iload 2, 16), (16, .sipush 2, 17), 
  (17, .if_icmp .le 23, 20), (20, .sipush (-1000001), 22), (22, .ireturn, 23), (23, .aload 0, 24), (24, .getfield 584, 27), (27, .invokestatic 35, 30), (30, .ifCond .eq 36, 33), (33, .sipush (-1000002), 35), (35, .ireturn, 36), 
  (36, .aload 0, 37), (37, .getfield 578, 40), (40, .aload 0, 41), (41, .getfield 584, 44), (44, .iload 1, 45), (45, .iload 2, 46), (46, .invokestatic 27, 49), (49, .ireturn, 50)]
def k_X9_net : Nat := 131
def T_X9_net : TB := [(0, .iload 1, 1), (1, .ifCond .lt 9, 4), (4, .iload 1, 5), (5, .sipush 2, 6), (6, .if_icmp .le 12, 9), (9, .sipush (-1000001), 11), (11, .ireturn, 12), (12, .aload 0, 13), (13, .getfield 584, 16), (16, .invokestatic 35, 19), 
  (19, .ifCond .eq 25, 22), (22, .sipush (-1000002), 24), (24, .ireturn, 25), (25, .iload 1, 26), (26, .lookupswitch 68 #[(0, 52), (1, 60)], 52), (52, .aload 0, 53), (53, .getfield 584, 56), (56, .invokestatic 64, 59), 
  (59, .ireturn, 60), (60, .aload 0, 61), (61, .getfield 584, 64), (64, .invokestatic 65, 67), (67, .ireturn, 68), (68, .aload 0, 69), (69, .getfield 579, 72), (72, .aload 0, 73), (73, .getfield 584, 76), (76, .invokestatic 66, 79), 
  (79, .ireturn, 80)]
def k_X9_way : Nat := 132
def T_X9_way : TB := [(0, .aload 0, 1), (1, .getfield 584, 4), (4, .iload 1, 5), (5, .invokestatic 38, 8), (8, .ifCond .eq 22, 11), (11, .aload 0, 12), (12, .getfield 584, 15), (15, .iload 2, 16), (16, .invokestatic 36, 19), (19, .ifCond .ne 25, 22), 
  (22, .sipush (-1000001), 24), (24, .ireturn, 25), (25, .aload 0, 26), (26, .getfield 580, 29), (29, .aload 0, 30), (30, .getfield 584, 33), (33, .iload 1, 34), (34, .iload 2, 35), (35, .invokestatic 99, 38), (38, .ireturn, 39)]
def k_X9_opened : Nat := 133
def T_X9_opened : TB := [(0, .aload 0, 1), (1, .getfield 584, 4), (4, .iload 1, 5), (5, .invokestatic 38, 8), (8, .ifCond .eq 22, 11), (11, .aload 0, 12), (12, .getfield 584, 15), (15, .iload 2, 16), (16, .invokestatic 36, 19), (19, .ifCond .ne 25, 22), 
  (22, .sipush (-1000001), 24), (24, .ireturn, 25), (25, .aload 0, 26), (26, .getfield 580, 29), (29, .aload 0, 30), (30, .getfield 584, 33), (33, .iload 1, 34), (34, .iload 2, 35), (35, .invokestatic 101, 38), (38, .ireturn, 39)]
def k_X9_shut : Nat := 134
def T_X9_shut : TB := [(0, .aload 0, 1), (1, .getfield 584, 4), (4, .iload 1, 5), (5, .iload 2, 6), (6, .invokestatic 37, 9), (9, .ifCond .ne 15, 12), (12, .sipush (-1000001), 14), (14, .ireturn, 15), (15, .aload 0, 16), (16, .getfield 584, 19), 
  (19, .iload 1, 20), (20, .iload 2, 21), (21, .invokestatic 105, 24), (24, .ifCond .eq 31, 27), (27, .sipush 1, 28), (28, .goto 32, 31), (31, .sipush 0, 32), (32, .ireturn, 33)]
def k_X9_dead : Nat := 135
def T_X9_dead : TB := [(0, .aload 0, 1), (1, .getfield 584, 4), (4, .invokestatic 35, 7), (7, .ifCond .eq 15, 10), (10, .sipush (-1000002), 12), (12, .goto 22, 15), (15, .aload 0, 16), (16, .getfield 584, 19), (19, .invokestatic 106, 22), 
  (22, .ireturn, 23)]
def k_X9_owes : Nat := 136
def T_X9_owes : TB := [(0, .aload 0, 1), (1, .getfield 584, 4), (4, .iload 1, 5), (5, .invokestatic 36, 8), (8, .ifCond .ne 14, 11), (11, .sipush (-1000001), 13), (13, .ireturn, 14), (14, .aload 0, 15), (15, .getfield 581, 18), (18, .aload 0, 19), 
  (19, .getfield 584, 22), (22, .invokestatic 14, 25), (25, .aload 0, 26), (26, .getfield 581, 29), (29, .iload 1, 30), (30, .invokestatic 16, 33), (33, .ireturn, 34)]
def k_X9_rest : Nat := 137
def T_X9_rest : TB := [(0, .iload 1, 1), (1, .sipush (-1), 2), (2, .if_icmp .ge 8, 5), (5, .sipush (-1000001), 7), (7, .ireturn, 8), (8, .aload 0, 9), (9, .getfield 584, 12), (12, .invokestatic 35, 15), (15, .ifCond .eq 21, 18), 
  (18, .sipush (-1000002), 20), (20, .ireturn, 21), (21, .aload 0, 22), (22, .getfield 581, 25), (25, .aload 0, 26), (26, .getfield 584, 29), (29, .invokestatic 14, 32), (32, .iload 1, 33), (33, .sipush (-1), 34), 
  (34, .if_icmp .ne 47, 37), (37, .aload 0, 38), (38, .getfield 581, 41), (41, .invokestatic 22, 44), (44, .goto 55, 47), (47, .aload 0, 48), (48, .getfield 581, 51), (51, .iload 1, 52), (52, .invokestatic 23, 55), 
  (55, .ireturn, 56)]
def k_X9_has : Nat := 138
def T_X9_has : TB := [(0, .aload 0, 1), (1, .getfield 584, 4), (4, .iload 1, 5), (5, .invokestatic 36, 8), (8, .ifCond .ne 14, 11), (11, .sipush (-1000001), 13), (13, .ireturn, 14), (14, .aload 0, 15), (15, .getfield 581, 18), (18, .aload 0, 19), 
  (19, .getfield 584, 22), (22, .invokestatic 14, 25), (25, .iload 2, 26), (26, .ifCond .lt 40, 29), (29, .iload 2, 30), (30, .aload 0, 31), (31, .getfield 581, 34), (34, .getfield 132, 37), (37, .if_icmp .lt 43, 40), 
  (40, .sipush (-1000001), 42), (42, .ireturn, 43), (43, .aload 0, 44), (44, .getfield 581, 47), (47, .iload 2, 48), (48, .invokestatic 17, 51), (51, .aload 0, 52), (52, .getfield 581, 55), (55, .iload 1, 56), 
  (56, .invokestatic 18, 59), (59, .ireturn, 60)]
def k_X9_holds : Nat := 139
def T_X9_holds : TB := [(0, .aload 0, 1), (1, .getfield 584, 4), (4, .iload 1, 5), (5, .iload 2, 6), (6, .invokestatic 37, 9), (9, .ifCond .eq 22, 12), (12, .iload 3, 13), (13, .ifCond .lt 22, 16), (16, .iload 3, 17), (17, .sipush 99, 19), 
  (19, .if_icmp .le 25, 22), (22, .sipush (-1000001), 24), (24, .ireturn, 25), (25, .aload 0, 26), (26, .getfield 581, 29), (29, .aload 0, 30), (30, .getfield 584, 33), (33, .invokestatic 14, 36), (36, .aload 0, 37), 
  (37, .getfield 581, 40), (40, .iload 1, 41), (41, .iload 2, 42), (42, .iload 3, 43), (43, .invokestatic 25, 46), (46, .ifCond .eq 66, 49), (49, .aload 0, 50), (50, .getfield 581, 53), (53, .iload 2, 54), (54, .iload 1, 55), 
  (55, .iload 3, 56), (56, .invokestatic 25, 59), (59, .ifCond .eq 66, 62), (62, .sipush 1, 63), (63, .goto 67, 66), (66, .sipush 0, 67), (67, .ireturn, 68)]
def k_X9_reform : Nat := 140
def T_X9_reform : TB := [(0, .iload 1, 1), (1, .sipush 1, 2), (2, .if_icmp .lt 11, 5), (5, .iload 1, 6), (6, .sipush 10, 8), (8, .if_icmp .le 14, 11), (11, .sipush (-1000001), 13), (13, .ireturn, 14), (14, .aload 0, 15), (15, .getfield 584, 18), 
  (18, .invokestatic 35, 21), (21, .ifCond .eq 27, 24), (24, .sipush (-1000002), 26), (26, .ireturn, 27), (27, .aload 0, 28), (28, .getfield 578, 31), (31, .aload 0, 32), (32, .getfield 584, 35), (35, .iload 1, 36), 
  (36, .invokestatic 28, 39), (39, .ireturn, 40)]
def k_X9_image : Nat := 141
def T_X9_image : TB := [(0, .iload 1, 1), (1, .ifCond .lt 9, 4), (4, .iload 1, 5), (5, .sipush 2, 6), (6, .if_icmp .lt 12, 9), (9, .sipush (-1000001), 11), (11, .ireturn, 12), (12, .aload 0, 13), (13, .getfield 584, 16), (16, .invokestatic 35, 19), 
  (19, .ifCond .eq 25, 22), (22, .sipush (-1000002), 24), (24, .ireturn, 25), (25, .aload 0, 26), (26, .getfield 583, 29), (29, .iload 1, 30), (30, .aaload, 31), (31, .aload 0, 32), (32, .getfield 584, 35), 
  (35, .invokestatic 34, 38), (38, .sipush 1, 39), (39, .ireturn, 40)]
def k_X9_restore : Nat := 142
def T_X9_restore : TB := [(0, .iload 1, 1), (1, .ifCond .lt 9, 4), (4, .iload 1, 5), (5, .sipush 2, 6), (6, .if_icmp .lt 12, 9), (9, .sipush (-1000001), 11), (11, .ireturn, 12), (12, .aload 0, 13), (13, .getfield 583, 16), (16, .iload 1, 17), 
  (17, .aaload, 18), (18, .invokestatic 35, 21), (21, .ifCond .eq 27, 24), (24, .sipush (-1000002), 26), (26, .ireturn, 27), (27, .aload 0, 28), (28, .getfield 584, 31), (31, .aload 0, 32), (32, .getfield 583, 35), 
  (35, .iload 1, 36), (36, .aaload, 37), (37, .invokestatic 34, 40), (40, .sipush 1, 41), (41, .ireturn, 42)]
def k_X9_kind : Nat := 143
def T_X9_kind : TB := [(0, .aload 0, 1), (1, .getfield 584, 4), (4, .iload 1, 5), (5, .invokestatic 39, 8), (8, .ifCond .eq 30, 11), (11, .aload 0, 12), (12, .getfield 584, 15), (15, .aload 0, 16), (16, .getfield 584, 19), (19, .getfield 263, 22), 
  (22, .iload 1, 23), (23, .aaload, 24), (24, .invokestatic 62, 27), (27, .goto 32, 30), (30, .sipush (-1000001), 32), (32, .ireturn, 33)]
def k_X9_as : Nat := 144
def T_X9_as : TB := [(0, .aload 0, 1), (1, .getfield 584, 4), (4, .iload 1, 5), (5, .invokestatic 39, 8), (8, .ifCond .eq 21, 11), (11, .iload 2, 12), (12, .ifCond .lt 21, 15), (15, .iload 2, 16), (16, .sipush 7, 18), (18, .if_icmp .lt 24, 21), 
  (21, .sipush (-1000001), 23), (23, .ireturn, 24), (24, .aload 0, 25), (25, .getfield 584, 28), (28, .aload 0, 29), (29, .getfield 584, 32), (32, .getfield 263, 35), (35, .iload 1, 36), (36, .aaload, 37), (37, .invokestatic 62, 40), 
  (40, .iload 2, 41), (41, .invokestatic 153, 44), (44, .ifCond .ne 53, 47), (47, .aload 0, 48), (48, .sipush 3, 49), (49, .invokestatic 149, 52), (52, .ireturn, 53), (53, .aload 0, 54), (54, .iload 1, 55), 
  (55, .invokestatic 150, 58), (58, .ireturn, 59)]
def k_X9_asks : Nat := 145
def T_X9_asks : TB := [(0, .aload 0, 1), (1, .getfield 584, 4), (4, .iload 1, 5), (5, .invokestatic 39, 8), (8, .ifCond .eq 18, 11), (11, .iload 2, 12), (12, .invokestatic 151, 15), (15, .ifCond .ne 21, 18), (18, .sipush (-1000001), 20), 
  (20, .ireturn, 21), (21, .aload 0, 22), (22, .getfield 582, 25), (25, .aload 0, 26), (26, .getfield 584, 29), (29, .iload 1, 30), (30, .iload 2, 31), (31, .invokestatic 1, 34), (34, .ireturn, 35)]
def k_X9_trace : Nat := 146
def T_X9_trace : TB := [(0, .aload 0, 1), (1, .getfield 582, 4), (4, .iload 1, 5), (5, .invokestatic 2, 8), (8, .ireturn, 9)]
def k_X9_count : Nat := 147
def T_X9_count : TB := [(0, .iload 1, 1), (1, .lookupswitch 162 #[(0, 60), (1, 68), (2, 76), (3, 84), (4, 99), (5, 107), (6, 122), (7, 130), (8, 138), (9, 146), (10, 154)], 60), (60, .aload 0, 61), (61, .getfield 576, 64), (64, .invokestatic 97, 67), 
  (67, .ireturn, 68), (68, .aload 0, 69), (69, .getfield 584, 72), (72, .getfield 264, 75), (75, .ireturn, 76), (76, .aload 0, 77), (77, .getfield 584, 80), (80, .getfield 265, 83), (83, .ireturn, 84), (84, .aload 0, 85), 
  (85, .getfield 584, 88), (88, .aload 0, 89), (89, .getfield 584, 92), (92, .getfield 258, 95), (95, .invokestatic 50, 98), (98, .ireturn, 99), (99, .aload 0, 100), (100, .getfield 584, 103), (103, .getfield 266, 106), 
  (106, .ireturn, 107), (107, .aload 0, 108), (108, .getfield 584, 111), (111, .aload 0, 112), (112, .getfield 584, 115), (115, .getfield 259, 118), (118, .invokestatic 50, 121), (121, .ireturn, 122), (122, .aload 0, 123), 
  (123, .getfield 584, 126), (126, .getfield 267, 129), (129, .ireturn, 130), (130, .aload 0, 131), (131, .getfield 584, 134), (134, .invokestatic 54, 137), (137, .ireturn, 138), (138, .aload 0, 139), (139, .getfield 584, 142), 
  (142, .getfield 269, 145), (145, .ireturn, 146), (146, .aload 0, 147), (147, .getfield 584, 150), (150, .getfield 268, 153), (153, .ireturn, 154), (154, .aload 0, 155), (155, .getfield 577, 158), (158, .getfield 390, 161), 
  (161, .ireturn, 162), (162, .sipush (-1000001), 164), (164, .ireturn, 165)]
def k_X9_status : Nat := 148
def T_X9_status : TB := [(0, .aload 0, 1), (1, .getfield 587, 4), (4, .ireturn, 5)]
def k_X9_found : Nat := 149
def T_X9_found : TB := [(0, .aload 0, 1), (1, .iload 1, 2), (2, .putfield 587, 5), (5, .sipush (-1000010), 8), (8, .iload 1, 9), (9, .isub, 10), (10, .ireturn, 11)]
def k_X9_unfound : Nat := 150
def T_X9_unfound : TB := [(0, .aload 0, 1), (1, .sipush 0, 2), (2, .putfield 587, 5), (5, .iload 1, 6), (6, .ireturn, 7)]
def k_X9_isYesOrNo : Nat := 151
def T_X9_isYesOrNo : TB := [(0, .iload 0, 1), (1, .ifCond .eq 9, 4), (4, .iload 0, 5), (5, .sipush 1, 6), (6, .if_icmp .ne 13, 9), (9, .sipush 1, 10), (10, .goto 14, 13), (13, .sipush 0, 14), (14, .ireturn, 15)]
def k_X9_isSum : Nat := 152
def T_X9_isSum : TB := [(0, .iload 0, 1), (1, .sipush 1, 2), (2, .if_icmp .lt 16, 5), (5, .iload 0, 6), (6, .sipush 999, 9), (9, .if_icmp .gt 16, 12), (12, .sipush 1, 13), (13, .goto 17, 16), (16, .sipush 0, 17), (17, .ireturn, 18)]
def k_X9_isKindOf : Nat := 153
def T_X9_isKindOf : TB := [(0, .iload 0, 1), (1, .istore 2, 2), (2, .sipush 0, 3), (3, .istore 3, 4), (4, .iload 3, 5), (5, .sipush 7, 7), (7, .if_icmp .ge 33, 10), (10, .iload 2, 11), (11, .ifCond .lt 33, 14), (14, .iload 2, 15), (15, .iload 1, 16), 
  (16, .if_icmp .ne 21, 19), (19, .sipush 1, 20), (20, .ireturn, 21), (21, .getstatic 0, 24), (24, .iload 2, 25), (25, .iaload, 26), (26, .istore 2, 27), (27, .iinc 3 1, 30), (30, .goto 4, 33), (33, .sipush 0, 34), 
  (34, .ireturn, 35)]
def k_X10_init : Nat := 154
def T_X10_init : TB := [(0, .aload 0, 1), (1, .invokeinterface 1 0, 4), (4, .aload 0, 5), (5, .sipush 8, 7), (7, .newarray .int, 9), (9, .dup, 10), (10, .sipush 0, 11), (11, .sipush (-1), 12), (12, .iastore, 13), (13, .dup, 14), (14, .sipush 1, 15), 
  (15, .sipush (-1), 16), (16, .iastore, 17), (17, .dup, 18), (18, .sipush 2, 19), (19, .sipush (-1), 20), (20, .iastore, 21), (21, .dup, 22), (22, .sipush 3, 23), (23, .sipush (-1), 24), (24, .iastore, 25), (25, .dup, 26), 
  (26, .sipush 4, 27), (27, .sipush (-1), 28), (28, .iastore, 29), (29, .dup, 30), (30, .sipush 5, 31), (31, .sipush (-1), 32), (32, .iastore, 33), (33, .dup, 34), (34, .sipush 6, 36), (36, .sipush (-1), 37), (37, .iastore, 38), 
  (38, .dup, 39), (39, .sipush 7, 41), (41, .sipush (-1), 42), (42, .iastore, 43), (43, .putfield 642, 46), (46, .aload 0, 47), (47, .sipush 8, 49), (49, .newarray .int, 51), (51, .putfield 643, 54), (54, .aload 0, 55), 
  (55, .sipush 320, 58), (58, .newarray .int, 60), (60, .putfield 644, 63), (63, .aload 0, 64), (64, .sipush 132, 67), (67, .newarray .int, 69), (69, .putfield 645, 72), (72, .aload 0, 73), (73, .sipush 132, 76), 
  (76, .newarray .int, 78), (78, .putfield 646, 81), (81, .aload 0, 82), (82, .sipush 411, 85), (85, .newarray .int, 87), (87, .putfield 648, 90), (90, .aload 0, 91), (91, .sipush 500, 94), (94, .newarray .int, 96), 
  (96, .putfield 649, 99), (99, .aload 0, 100), (100, .sipush 411, 103), (103, .newarray .int, 105), (105, .putfield 659, 108), (108, .aload 0, 109), (109, .sipush 24, 111), (111, .newarray .int, 113), (113, .putfield 660, 116), 
  (116, .aload 0, 117), (117, .sipush 4096, 120), (120, .newarray .int, 122), (122, .putfield 661, 125), (125, .aload 0, 126), (126, .sipush 4096, 129), (129, .newarray .int, 131), (131, .putfield 662, 134), (134, .aload 0, 135), 
  (135, .sipush 7, 137), (137, .newarray .int, 139), (139, .putfield 663, 142), (142, .aload 0, 143), (143, .sipush 7, 145), (145, .newarray .int, 147), (147, .putfield 664, 150), (150, .aload 0, 151), (151, .sipush 6, 153), 
  (153, .newarray .int, 155), (155, .putfield 665, 158), (158, .aload 0, 159), (159, .sipush 36, 161), (161, .newarray .int, 163), (163, .putfield 666, 166), (166, .aload 0, 167), (167, .sipush 6, 169), (169, .newarray .int, 171), 
  (171, .putfield 667, 174), (174, .aload 0, 175), (175, .sipush 2, 176), (176, .newarray .boolean, 178), (178, .putfield 668, 181), (181, .aload 0, 182), (182, .sipush 264, 185), (185, .newarray .int, 187), 
  (187, .putfield 669, 190), (190, .aload 0, 191), (191, .sipush 822, 194), (194, .newarray .int, 196), (196, .putfield 670, 199), (199, .aload 0, 200), (200, .sipush 16, 202), (202, .newarray .int, 204), (204, .putfield 671, 207), 
  (207, .return_, 208)]
def k_X10_in : Nat := 155
def T_X10_in : TB := [(0, .lload 0, 1), (1, .lload 2, 2), (2, .lcmp, 3), (3, .ifCond .lt 17, 6), (6, .lload 0, 7), (7, .lload 4, 9), (9, .lcmp, 10), (10, .ifCond .gt 17, 13), (13, .sipush 1, 14), (14, .goto 18, 17), (17, .sipush 0, 18), 
  (18, .ireturn, 19)]
def k_X10_finding : Nat := 156
def T_X10_finding : TB := [(0, .aload 0, 1), (1, .iload 1, 2), (2, .putfield 641, 5), (5, .sipush (-1000010), 7), (7, .iload 1, 8), (8, .isub, 9), (9, .ireturn, 10)]
def k_X10_isSheet : Nat := 157
def T_X10_isSheet : TB := [(0, .iload 0, 1), (1, .i2l, 2), (2, .ldc2_w 0, 3), (3, .ldc2_w 7, 6), (6, .invokestatic 155, 9), (9, .ireturn, 10)]
def k_X10_sheet : Nat := 158
def T_X10_sheet : TB := [(0, .aload 0, 1), (1, .sipush 0, 2), (2, .putfield 640, 5), (5, .iload 1, 6), (6, .invokestatic 157, 9), (9, .ifCond .eq 30, 12), (12, .iload 2, 13), (13, .i2l, 14), (14, .ldc2_w 0, 15), (15, .ldc2_w 2, 18), 
  (18, .invokestatic 155, 21), (21, .ifCond .eq 30, 24), (24, .iload 3, 25), (25, .sipush 40, 27), (27, .if_icmp .le 33, 30), (30, .sipush (-1000001), 32), (32, .ireturn, 33), (33, .aload 0, 34), (34, .sipush 0, 35), 
  (35, .putfield 641, 38), (38, .iload 3, 39), (39, .ifCond .ge 48, 42), (42, .aload 0, 43), (43, .sipush 4, 44), (44, .invokestatic 156, 47), (47, .ireturn, 48), (48, .aload 0, 49), (49, .getfield 642, 52), (52, .iload 1, 53), 
  (53, .iload 2, 54), (54, .iastore, 55), (55, .aload 0, 56), (56, .getfield 643, 59), (59, .iload 1, 60), (60, .iload 3, 61), (61, .iastore, 62), (62, .sipush 0, 63), (63, .istore 4, 65), (65, .iload 4, 67), (67, .sipush 40, 69), 
  (69, .if_icmp .ge 91, 72), (72, .aload 0, 73), (73, .getfield 644, 76), (76, .sipush 40, 78), (78, .iload 1, 79), (79, .imul, 80), (80, .iload 4, 82), (82, .iadd, 83), (83, .sipush 0, 84), (84, .iastore, 85), (85, .iinc 4 1, 88), 
  (88, .goto 65, 91), (91, .iload 3, 92), (92, .ireturn, 93)]
def k_X10_set : Nat := 159
def T_X10_set : TB := [(0, .aload 0, 1), (1, .sipush 0, 2), (2, .putfield 640, 5), (5, .iload 1, 6), (6, .invokestatic 157, 9), (9, .ifCond .ne 15, 12), (12, .sipush (-1000001), 14), (14, .ireturn, 15), (15, .aload 0, 16), (16, .sipush 0, 17), 
  (17, .putfield 641, 20), (20, .aload 0, 21), (21, .getfield 642, 24), (24, .iload 1, 25), (25, .iaload, 26), (26, .ifCond .ge 35, 29), (29, .aload 0, 30), (30, .sipush 1, 31), (31, .invokestatic 156, 34), (34, .ireturn, 35), 
  (35, .iload 2, 36), (36, .i2l, 37), (37, .ldc2_w 0, 38), (38, .aload 0, 39), (39, .getfield 643, 42), (42, .iload 1, 43), (43, .iaload, 44), (44, .sipush 1, 45), (45, .isub, 46), (46, .i2l, 47), (47, .invokestatic 155, 50), 
  (50, .ifCond .ne 59, 53), (53, .aload 0, 54), (54, .sipush 2, 55), (55, .invokestatic 156, 58), (58, .ireturn, 59), (59, .aload 0, 60), (60, .getfield 644, 63), (63, .sipush 40, 65), (65, .iload 1, 66), (66, .imul, 67), 
  (67, .iload 2, 68), (68, .iadd, 69), (69, .aload 0, 70), (70, .getfield 642, 73), (73, .iload 1, 74), (74, .iaload, 75), (75, .ifCond .ne 83, 78), (78, .iload 3, 79), (79, .i2b, 80), (80, .goto 99, 83), (83, .aload 0, 84), 
  (84, .getfield 642, 87), (87, .iload 1, 88), (88, .iaload, 89), (89, .sipush 1, 90), (90, .if_icmp .ne 98, 93), (93, .iload 3, 94), (94, .i2s, 95), (95, .goto 99, 98), (98, .iload 3, 99), (99, .iastore, 100), (100, .aload 0, 101), 
  (101, .getfield 644, 104), (104, .sipush 40, 106), (106, .iload 1, 107), (107, .imul, 108), (108, .iload 2, 109), (109, .iadd, 110), (110, .iaload, 111), (111, .ireturn, 112)]
def k_X10_copy : Nat := 160
def T_X10_copy : TB := [(0, .aload 0, 1), (1, .sipush 0, 2), (2, .putfield 640, 5), (5, .iload 1, 6), (6, .invokestatic 157, 9), (9, .ifCond .eq 19, 12), (12, .iload 3, 13), (13, .invokestatic 157, 16), (16, .ifCond .ne 22, 19), 
  (19, .sipush (-1000001), 21), (21, .ireturn, 22), (22, .aload 0, 23), (23, .sipush 0, 24), (24, .putfield 641, 27), (27, .aload 0, 28), (28, .getfield 642, 31), (31, .iload 1, 32), (32, .iaload, 33), (33, .ifCond .lt 45, 36), 
  (36, .aload 0, 37), (37, .getfield 642, 40), (40, .iload 3, 41), (41, .iaload, 42), (42, .ifCond .ge 51, 45), (45, .aload 0, 46), (46, .sipush 1, 47), (47, .invokestatic 156, 50), (50, .ireturn, 51), (51, .aload 0, 52), 
  (52, .getfield 642, 55), (55, .iload 1, 56), (56, .iaload, 57), (57, .aload 0, 58), (58, .getfield 642, 61), (61, .iload 3, 62), (62, .iaload, 63), (63, .if_icmp .eq 72, 66), (66, .aload 0, 67), (67, .sipush 5, 68), 
  (68, .invokestatic 156, 71), (71, .ireturn, 72), (72, .iload 2, 73), (73, .ifCond .lt 121, 76), (76, .iload 4, 78), (78, .ifCond .lt 121, 81), (81, .iload 5, 83), (83, .ifCond .lt 121, 86), (86, .iload 2, 87), (87, .i2l, 88), 
  (88, .iload 5, 90), (90, .i2l, 91), (91, .ladd, 92), (92, .aload 0, 93), (93, .getfield 643, 96), (96, .iload 1, 97), (97, .iaload, 98), (98, .i2l, 99), (99, .lcmp, 100), (100, .ifCond .gt 121, 103), (103, .iload 4, 105), 
  (105, .i2l, 106), (106, .iload 5, 108), (108, .i2l, 109), (109, .ladd, 110), (110, .aload 0, 111), (111, .getfield 643, 114), (114, .iload 3, 115), (115, .iaload, 116), (116, .i2l, 117), (117, .lcmp, 118), 
  (118, .ifCond .le 127, 121), (121, .aload 0, 122), (122, .sipush 2, 123), (123, .invokestatic 156, 126), (126, .ireturn, 127), (127, .iload 2, 128), (128, .iload 4, 130), (130, .if_icmp .lt 137, 133), (133, .sipush 1, 134), 
  (134, .goto 138, 137), (137, .sipush 0, 138), (138, .istore 6, 140), (140, .sipush 0, 141), (141, .istore 7, 143), (143, .iload 7, 145), (145, .iload 5, 147), (147, .if_icmp .ge 204, 150), (150, .iload 6, 152), 
  (152, .ifCond .eq 160, 155), (155, .iload 7, 157), (157, .goto 167, 160), (160, .iload 5, 162), (162, .sipush 1, 163), (163, .isub, 164), (164, .iload 7, 166), (166, .isub, 167), (167, .istore 8, 169), (169, .aload 0, 170), 
  (170, .getfield 644, 173), (173, .sipush 40, 175), (175, .iload 3, 176), (176, .imul, 177), (177, .iload 4, 179), (179, .iadd, 180), (180, .iload 8, 182), (182, .iadd, 183), (183, .aload 0, 184), (184, .getfield 644, 187), 
  (187, .sipush 40, 189), (189, .iload 1, 190), (190, .imul, 191), (191, .iload 2, 192), (192, .iadd, 193), (193, .iload 8, 195), (195, .iadd, 196), (196, .iaload, 197), (197, .iastore, 198), (198, .iinc 7 1, 201), 
  (201, .goto 143, 204), (204, .iload 5, 206), (206, .ireturn, 207)]
def k_X10_drop : Nat := 161
def T_X10_drop : TB := [(0, .aload 0, 1), (1, .sipush 0, 2), (2, .putfield 640, 5), (5, .iload 1, 6), (6, .invokestatic 157, 9), (9, .ifCond .ne 15, 12), (12, .sipush (-1000001), 14), (14, .ireturn, 15), (15, .aload 0, 16), (16, .sipush 0, 17), 
  (17, .putfield 641, 20), (20, .aload 0, 21), (21, .getfield 642, 24), (24, .iload 1, 25), (25, .iaload, 26), (26, .ifCond .ge 35, 29), (29, .aload 0, 30), (30, .sipush 1, 31), (31, .invokestatic 156, 34), (34, .ireturn, 35), 
  (35, .aload 0, 36), (36, .getfield 642, 39), (39, .iload 1, 40), (40, .sipush (-1), 41), (41, .iastore, 42), (42, .aload 0, 43), (43, .getfield 643, 46), (46, .iload 1, 47), (47, .iaload, 48), (48, .ireturn, 49)]
def k_X10_feed : Nat := 162
def T_X10_feed : TB := [(0, .aload 0, 1), (1, .sipush 0, 2), (2, .putfield 640, 5), (5, .iload 3, 6), (6, .i2l, 7), (7, .ldc2_w 1, 8), (8, .ldc2_w 8, 11), (11, .invokestatic 155, 14), (14, .ifCond .ne 20, 17), (17, .sipush (-1000001), 19), 
  (19, .ireturn, 20), (20, .aload 0, 21), (21, .getfield 650, 24), (24, .iload 3, 25), (25, .iadd, 26), (26, .sipush 500, 29), (29, .if_icmp .le 35, 32), (32, .sipush (-1000003), 34), (34, .ireturn, 35), (35, .iload 3, 36), 
  (36, .sipush 1, 37), (37, .isub, 38), (38, .istore 4, 40), (40, .iload 4, 42), (42, .ifCond .lt 82, 45), (45, .aload 0, 46), (46, .getfield 649, 49), (49, .aload 0, 50), (50, .getfield 650, 53), (53, .lload 1, 54), 
  (54, .sipush 8, 56), (56, .iload 4, 58), (58, .imul, 59), (59, .lshr, 60), (60, .ldc2_w 255, 63), (63, .land, 64), (64, .l2i, 65), (65, .iastore, 66), (66, .aload 0, 67), (67, .dup, 68), (68, .getfield 650, 71), 
  (71, .sipush 1, 72), (72, .iadd, 73), (73, .putfield 650, 76), (76, .iinc 4 (-1), 79), (79, .goto 40, 82), (82, .aload 0, 83), (83, .getfield 650, 86), (86, .ireturn, 87)]
def k_X10_byteAt : Nat := 163
def T_X10_byteAt : TB := [(0, .iload 1, 1), (1, .aload 0, 2), (2, .getfield 652, 5), (5, .if_icmp .ge 17, 8), (8, .aload 0, 9), (9, .getfield 649, 12), (12, .iload 1, 13), (13, .iaload, 14), (14, .goto 19, 17), (17, .sipush (-1000000), 19), 
  (19, .ireturn, 20)]
def k_X10_isLetter : Nat := 164
def T_X10_isLetter : TB := [(0, .iload 0, 1), (1, .sipush 97, 3), (3, .if_icmp .lt 16, 6), (6, .iload 0, 7), (7, .sipush 122, 9), (9, .if_icmp .gt 16, 12), (12, .sipush 1, 13), (13, .goto 17, 16), (16, .sipush 0, 17), (17, .ireturn, 18)]
def k_X10_isFigure : Nat := 165
def T_X10_isFigure : TB := [(0, .iload 0, 1), (1, .sipush 48, 3), (3, .if_icmp .lt 16, 6), (6, .iload 0, 7), (7, .sipush 57, 9), (9, .if_icmp .gt 16, 12), (12, .sipush 1, 13), (13, .goto 17, 16), (16, .sipush 0, 17), (17, .ireturn, 18)]
def k_X10_next : Nat := 166
def T_X10_next : TB := [(0, .aload 0, 1), (1, .aload 0, 2), (2, .getfield 653, 5), (5, .invokestatic 163, 8), (8, .sipush 32, 10), (10, .if_icmp .eq 26, 13), (13, .aload 0, 14), (14, .aload 0, 15), (15, .getfield 653, 18), (18, .invokestatic 163, 21), 
  (21, .sipush 10, 23), (23, .if_icmp .ne 39, 26), (26, .aload 0, 27), (27, .dup, 28), (28, .getfield 653, 31), (31, .sipush 1, 32), (32, .iadd, 33), (33, .putfield 653, 36), (36, .goto 0, 39), (39, .aload 0, 40), (40, .aload 0, 41), 
  (41, .getfield 653, 44), (44, .putfield 655, 47), (47, .aload 0, 48), (48, .aload 0, 49), (49, .getfield 653, 52), (52, .invokestatic 163, 55), (55, .istore 1, 56), (56, .iload 1, 57), (57, .sipush (-1000000), 59), 
  (59, .if_icmp .ne 70, 62), (62, .aload 0, 63), (63, .sipush 1, 64), (64, .putfield 654, 67), (67, .goto 196, 70), (70, .iload 1, 71), (71, .invokestatic 164, 74), (74, .ifCond .eq 112, 77), (77, .aload 0, 78), (78, .aload 0, 79), 
  (79, .getfield 653, 82), (82, .invokestatic 163, 85), (85, .invokestatic 164, 88), (88, .ifCond .eq 104, 91), (91, .aload 0, 92), (92, .dup, 93), (93, .getfield 653, 96), (96, .sipush 1, 97), (97, .iadd, 98), 
  (98, .putfield 653, 101), (101, .goto 77, 104), (104, .aload 0, 105), (105, .sipush 2, 106), (106, .putfield 654, 109), (109, .goto 196, 112), (112, .iload 1, 113), (113, .invokestatic 165, 116), (116, .ifCond .eq 171, 119), 
  (119, .aload 0, 120), (120, .aload 0, 121), (121, .getfield 653, 124), (124, .invokestatic 163, 127), (127, .invokestatic 165, 130), (130, .ifCond .eq 146, 133), (133, .aload 0, 134), (134, .dup, 135), (135, .getfield 653, 138), 
  (138, .sipush 1, 139), (139, .iadd, 140), (140, .putfield 653, 143), (143, .goto 119, 146), (146, .aload 0, 147), (147, .aload 0, 148), (148, .getfield 653, 151), (151, .aload 0, 152), (152, .getfield 655, 155), (155, .isub, 156), 
  (156, .sipush 3, 157), (157, .if_icmp .le 164, 160), (160, .sipush 0, 161), (161, .goto 165, 164), (164, .sipush 3, 165), (165, .putfield 654, 168), (168, .goto 196, 171), (171, .aload 0, 172), (172, .dup, 173), 
  (173, .getfield 653, 176), (176, .sipush 1, 177), (177, .iadd, 178), (178, .putfield 653, 181), (181, .aload 0, 182), (182, .iload 1, 183), (183, .sipush 59, 185), (185, .if_icmp .ne 192, 188), (188, .sipush 4, 189), 
  (189, .goto 193, 192), (192, .sipush 0, 193), (193, .putfield 654, 196), (196, .aload 0, 197), (197, .aload 0, 198), (198, .getfield 653, 201), (201, .putfield 656, 204), (204, .return_, 205)]
def k_X10_bad : Nat := 167
def T_X10_bad : TB := [(0, .aload 0, 1), (1, .getfield 657, 4), (4, .ifCond .ne 20, 7), (7, .aload 0, 8), (8, .iload 1, 9), (9, .putfield 657, 12), (12, .aload 0, 13), (13, .aload 0, 14), (14, .getfield 655, 17), (17, .putfield 658, 20), 
  (20, .return_, 21)]
def k_X10_must : Nat := 168
def T_X10_must : TB := [(0, .iload 1, 1), (1, .ifCond .ne 9, 4), (4, .aload 0, 5), (5, .sipush 1, 6), (6, .invokestatic 167, 9), (9, .aload 0, 10), (10, .getfield 657, 13), (13, .ifCond .ne 20, 16), (16, .aload 0, 17), (17, .invokestatic 166, 20), 
  (20, .return_, 21)]
def k_X10_word : Nat := 169
def T_X10_word : TB := [(0, .ldc2_w 0, 1), (1, .lstore 1, 2), (2, .aload 0, 3), (3, .getfield 655, 6), (6, .istore 3, 7), (7, .iload 3, 8), (8, .aload 0, 9), (9, .getfield 656, 12), (12, .if_icmp .ge 56, 15), (15, .aload 0, 16), (16, .getfield 654, 19), 
  (19, .sipush 2, 20), (20, .if_icmp .ne 56, 23), (23, .aload 0, 24), (24, .getfield 656, 27), (27, .aload 0, 28), (28, .getfield 655, 31), (31, .isub, 32), (32, .sipush 8, 34), (34, .if_icmp .ge 56, 37), (37, .lload 1, 38), 
  (38, .sipush 8, 40), (40, .lshl, 41), (41, .aload 0, 42), (42, .getfield 649, 45), (45, .iload 3, 46), (46, .iaload, 47), (47, .i2l, 48), (48, .lor, 49), (49, .lstore 1, 50), (50, .iinc 3 1, 53), (53, .goto 7, 56), 
  (56, .aload 0, 57), (57, .getfield 657, 60), (60, .ifCond .ne 67, 63), (63, .lload 1, 64), (64, .goto 68, 67), (67, .ldc2_w 0, 68), (68, .lreturn, 69)]
def k_X10_numberIn : Nat := 170
def T_X10_numberIn : TB := [(0, .aload 0, 1), (1, .getfield 657, 4), (4, .ifCond .le 9, 7), (7, .sipush 0, 8), (8, .ireturn, 9), (9, .sipush 0, 10), (10, .istore 4, 12), (12, .aload 0, 13), (13, .getfield 655, 16), (16, .istore 5, 18), (18, .iload 5, 20), 
  (20, .aload 0, 21), (21, .getfield 656, 24), (24, .if_icmp .ge 59, 27), (27, .aload 0, 28), (28, .getfield 654, 31), (31, .sipush 3, 32), (32, .if_icmp .ne 59, 35), (35, .sipush 10, 37), (37, .iload 4, 39), (39, .imul, 40), 
  (40, .aload 0, 41), (41, .getfield 649, 44), (44, .iload 5, 46), (46, .iaload, 47), (47, .iadd, 48), (48, .sipush 48, 50), (50, .isub, 51), (51, .istore 4, 53), (53, .iinc 5 1, 56), (56, .goto 18, 59), (59, .aload 0, 60), 
  (60, .getfield 654, 63), (63, .sipush 3, 64), (64, .if_icmp .ne 91, 67), (67, .iload 4, 69), (69, .i2l, 70), (70, .iload 1, 71), (71, .i2l, 72), (72, .iload 2, 73), (73, .i2l, 74), (74, .invokestatic 155, 77), 
  (77, .ifCond .eq 86, 80), (80, .iload 4, 82), (82, .iload 3, 83), (83, .if_icmp .ne 91, 86), (86, .aload 0, 87), (87, .sipush 2, 88), (88, .invokestatic 167, 91), (91, .aload 0, 92), (92, .aload 0, 93), (93, .getfield 654, 96), 
  (96, .sipush 3, 97), (97, .if_icmp .ne 104, 100), (100, .sipush 1, 101), (101, .goto 105, 104), (104, .sipush 0, 105), (105, .invokestatic 168, 108), (108, .iload 4, 110), (110, .ireturn, 111)]
def k_X10_town : Nat := 171
def T_X10_town : TB := [(0, .aload 0, 1), (1, .sipush 0, 2), (2, .aload 0, 3), (3, .getfield 646, 6), (6, .sipush 0, 7), (7, .iaload, 8), (8, .sipush 1, 9), (9, .isub, 10), (10, .iload 1, 11), (11, .invokestatic 170, 14), (14, .ireturn, 15)]
def k_X10_begins : Nat := 172
def T_X10_begins : TB := [(0, .aload 0, 1), (1, .getfield 646, 4), (4, .iload 1, 5), (5, .iaload, 6), (6, .iload 2, 7), (7, .if_icmp .ne 15, 10), (10, .aload 0, 11), (11, .sipush 3, 12), (12, .invokestatic 167, 15), (15, .aload 0, 16), (16, .sipush 1, 17), 
  (17, .invokestatic 168, 20), (20, .return_, 21)]
def k_X10_ends : Nat := 173
def T_X10_ends : TB := [(0, .aload 0, 1), (1, .getfield 657, 4), (4, .ifCond .ne 24, 7), (7, .aload 0, 8), (8, .aload 0, 9), (9, .getfield 654, 12), (12, .sipush 4, 13), (13, .if_icmp .ne 20, 16), (16, .sipush 1, 17), (17, .goto 21, 20), 
  (20, .sipush 0, 21), (21, .invokestatic 168, 24), (24, .aload 0, 25), (25, .getfield 646, 28), (28, .iload 1, 29), (29, .dup2, 30), (30, .iaload, 31), (31, .aload 0, 32), (32, .getfield 657, 35), (35, .ifCond .ne 42, 38), 
  (38, .sipush 1, 39), (39, .goto 43, 42), (42, .sipush 0, 43), (43, .iadd, 44), (44, .iastore, 45), (45, .return_, 46)]
def k_X10_readTown : Nat := 174
def T_X10_readTown : TB := [(0, .aload 0, 1), (1, .sipush 0, 2), (2, .sipush 6, 4), (4, .invokestatic 172, 7), (7, .aload 0, 8), (8, .sipush 0, 9), (9, .sipush 99, 11), (11, .sipush (-1000000), 13), (13, .invokestatic 170, 16), (16, .istore 1, 17), 
  (17, .aload 0, 18), (18, .getfield 657, 21), (21, .ifCond .ne 86, 24), (24, .sipush 60, 26), (26, .sipush 4, 27), (27, .aload 0, 28), (28, .getfield 646, 31), (31, .sipush 0, 32), (32, .iaload, 33), (33, .imul, 34), 
  (34, .iadd, 35), (35, .istore 2, 36), (36, .aload 0, 37), (37, .getfield 646, 40), (40, .sipush 6, 42), (42, .aload 0, 43), (43, .getfield 646, 46), (46, .sipush 0, 47), (47, .iaload, 48), (48, .iadd, 49), (49, .iload 1, 50), 
  (50, .iastore, 51), (51, .aload 0, 52), (52, .getfield 646, 55), (55, .iload 2, 56), (56, .sipush 1, 57), (57, .iastore, 58), (58, .aload 0, 59), (59, .getfield 646, 62), (62, .iload 2, 63), (63, .sipush 1, 64), (64, .iadd, 65), 
  (65, .sipush 100, 67), (67, .iastore, 68), (68, .aload 0, 69), (69, .getfield 646, 72), (72, .iload 2, 73), (73, .sipush 2, 74), (74, .iadd, 75), (75, .sipush 1, 76), (76, .iastore, 77), (77, .aload 0, 78), (78, .getfield 646, 81), 
  (81, .iload 2, 82), (82, .sipush 3, 83), (83, .iadd, 84), (84, .sipush 0, 85), (85, .iastore, 86), (86, .aload 0, 87), (87, .sipush 0, 88), (88, .invokestatic 173, 91), (91, .return_, 92)]
def k_X10_readMan : Nat := 175
def T_X10_readMan : TB := [(0, .aload 0, 1), (1, .sipush 1, 2), (2, .sipush 12, 4), (4, .invokestatic 172, 7), (7, .aload 0, 8), (8, .sipush (-1000000), 10), (10, .invokestatic 171, 13), (13, .istore 1, 14), (14, .aload 0, 15), (15, .getfield 657, 18), 
  (18, .ifCond .ne 36, 21), (21, .aload 0, 22), (22, .getfield 646, 25), (25, .sipush 12, 27), (27, .aload 0, 28), (28, .getfield 646, 31), (31, .sipush 1, 32), (32, .iaload, 33), (33, .iadd, 34), (34, .iload 1, 35), 
  (35, .iastore, 36), (36, .aload 0, 37), (37, .sipush 1, 38), (38, .invokestatic 173, 41), (41, .return_, 42)]
def k_X10_readTwo : Nat := 176
def T_X10_readTwo : TB := [(0, .aload 0, 1), (1, .iload 1, 2), (2, .sipush 12, 4), (4, .invokestatic 172, 7), (7, .aload 0, 8), (8, .sipush (-1000000), 10), (10, .invokestatic 171, 13), (13, .istore 3, 14), (14, .aload 0, 15), (15, .iload 3, 16), 
  (16, .invokestatic 171, 19), (19, .istore 4, 21), (21, .aload 0, 22), (22, .getfield 657, 25), (25, .ifCond .ne 58, 28), (28, .aload 0, 29), (29, .getfield 646, 32), (32, .iload 2, 33), (33, .sipush 6, 35), (35, .iload 3, 36), 
  (36, .imul, 37), (37, .iadd, 38), (38, .iload 4, 40), (40, .iadd, 41), (41, .sipush 1, 42), (42, .iastore, 43), (43, .aload 0, 44), (44, .getfield 646, 47), (47, .iload 2, 48), (48, .sipush 6, 50), (50, .iload 4, 52), 
  (52, .imul, 53), (53, .iadd, 54), (54, .iload 3, 55), (55, .iadd, 56), (56, .sipush 1, 57), (57, .iastore, 58), (58, .aload 0, 59), (59, .iload 1, 60), (60, .invokestatic 173, 63), (63, .return_, 64)]
def k_X10_readLaw : Nat := 177
def T_X10_readLaw : TB := [(0, .aload 0, 1), (1, .sipush 3, 2), (2, .sipush 12, 4), (4, .invokestatic 172, 7), (7, .aload 0, 8), (8, .sipush (-1000000), 10), (10, .invokestatic 171, 13), (13, .istore 1, 14), (14, .aload 0, 15), (15, .sipush 0, 16), 
  (16, .sipush 3, 17), (17, .sipush (-1000000), 19), (19, .invokestatic 170, 22), (22, .istore 2, 23), (23, .aload 0, 24), (24, .sipush 1, 25), (25, .sipush 100, 27), (27, .sipush (-1000000), 29), (29, .invokestatic 170, 32), 
  (32, .istore 3, 33), (33, .aload 0, 34), (34, .sipush 0, 35), (35, .sipush 1, 36), (36, .sipush (-1000000), 38), (38, .invokestatic 170, 41), (41, .istore 4, 43), (43, .aload 0, 44), (44, .sipush 0, 45), (45, .sipush 1, 46), 
  (46, .sipush (-1000000), 48), (48, .invokestatic 170, 51), (51, .istore 5, 53), (53, .aload 0, 54), (54, .getfield 657, 57), (57, .ifCond .ne 116, 60), (60, .aload 0, 61), (61, .getfield 646, 64), (64, .sipush 60, 66), 
  (66, .sipush 4, 67), (67, .iload 1, 68), (68, .imul, 69), (69, .iadd, 70), (70, .iload 2, 71), (71, .iastore, 72), (72, .aload 0, 73), (73, .getfield 646, 76), (76, .sipush 60, 78), (78, .sipush 4, 79), (79, .iload 1, 80), 
  (80, .imul, 81), (81, .iadd, 82), (82, .sipush 1, 83), (83, .iadd, 84), (84, .iload 3, 85), (85, .iastore, 86), (86, .aload 0, 87), (87, .getfield 646, 90), (90, .sipush 60, 92), (92, .sipush 4, 93), (93, .iload 1, 94), 
  (94, .imul, 95), (95, .iadd, 96), (96, .sipush 2, 97), (97, .iadd, 98), (98, .iload 4, 100), (100, .iastore, 101), (101, .aload 0, 102), (102, .getfield 646, 105), (105, .sipush 60, 107), (107, .sipush 4, 108), 
  (108, .iload 1, 109), (109, .imul, 110), (110, .iadd, 111), (111, .sipush 3, 112), (112, .iadd, 113), (113, .iload 5, 115), (115, .iastore, 116), (116, .aload 0, 117), (117, .sipush 3, 118), (118, .invokestatic 173, 121), 
  (121, .return_, 122)]
def k_X10_readFair : Nat := 178
def T_X10_readFair : TB := [(0, .aload 0, 1), (1, .sipush 4, 2), (2, .sipush 4, 3), (3, .invokestatic 172, 6), (6, .aload 0, 7), (7, .sipush (-1000000), 9), (9, .invokestatic 171, 12), (12, .istore 1, 13), (13, .aload 0, 14), (14, .sipush 0, 15), 
  (15, .sipush 999, 18), (18, .sipush (-1000000), 20), (20, .invokestatic 170, 23), (23, .istore 2, 24), (24, .aload 0, 25), (25, .iload 2, 26), (26, .sipush 999, 29), (29, .sipush (-1000000), 31), (31, .invokestatic 170, 34), 
  (34, .istore 3, 35), (35, .aload 0, 36), (36, .getfield 657, 39), (39, .ifCond .ne 83, 42), (42, .sipush 84, 44), (44, .sipush 3, 45), (45, .aload 0, 46), (46, .getfield 646, 49), (49, .sipush 4, 50), (50, .iaload, 51), 
  (51, .imul, 52), (52, .iadd, 53), (53, .istore 4, 55), (55, .aload 0, 56), (56, .getfield 646, 59), (59, .iload 4, 61), (61, .iload 1, 62), (62, .iastore, 63), (63, .aload 0, 64), (64, .getfield 646, 67), (67, .iload 4, 69), 
  (69, .sipush 1, 70), (70, .iadd, 71), (71, .iload 2, 72), (72, .iastore, 73), (73, .aload 0, 74), (74, .getfield 646, 77), (77, .iload 4, 79), (79, .sipush 2, 80), (80, .iadd, 81), (81, .iload 3, 82), (82, .iastore, 83), 
  (83, .aload 0, 84), (84, .sipush 4, 85), (85, .invokestatic 173, 88), (88, .return_, 89)]
def k_X10_land : Nat := 179
def T_X10_land : TB := [(0, .aload 0, 1), (1, .sipush 0, 2), (2, .putfield 640, 5), (5, .aload 0, 6), (6, .aload 0, 7), (7, .getfield 650, 10), (10, .putfield 652, 13), (13, .aload 0, 14), (14, .sipush 0, 15), (15, .putfield 650, 18), (18, .aload 0, 19), 
  (19, .sipush 0, 20), (20, .putfield 653, 23), (23, .aload 0, 24), (24, .sipush 0, 25), (25, .putfield 657, 28), (28, .sipush 0, 29), (29, .istore 1, 30), (30, .iload 1, 31), (31, .sipush 132, 34), (34, .if_icmp .ge 50, 37), 
  (37, .aload 0, 38), (38, .getfield 646, 41), (41, .iload 1, 42), (42, .sipush 0, 43), (43, .iastore, 44), (44, .iinc 1 1, 47), (47, .goto 30, 50), (50, .aload 0, 51), (51, .invokestatic 166, 54), (54, .aload 0, 55), 
  (55, .invokestatic 169, 58), (58, .ldc2_w 1953462126, 61), (61, .lcmp, 62), (62, .ifCond .eq 70, 65), (65, .aload 0, 66), (66, .sipush 1, 67), (67, .invokestatic 167, 70), (70, .aload 0, 71), (71, .invokestatic 169, 74), 
  (74, .ldc2_w 1953462126, 77), (77, .lcmp, 78), (78, .ifCond .ne 88, 81), (81, .aload 0, 82), (82, .invokestatic 174, 85), (85, .goto 70, 88), (88, .aload 0, 89), (89, .invokestatic 169, 92), (92, .ldc2_w 7168366, 95), 
  (95, .lcmp, 96), (96, .ifCond .ne 106, 99), (99, .aload 0, 100), (100, .invokestatic 175, 103), (103, .goto 88, 106), (106, .aload 0, 107), (107, .invokestatic 169, 110), (110, .ldc2_w 1919902052, 113), (113, .lcmp, 114), 
  (114, .ifCond .ne 127, 117), (117, .aload 0, 118), (118, .sipush 2, 119), (119, .sipush 24, 121), (121, .invokestatic 176, 124), (124, .goto 106, 127), (127, .aload 0, 128), (128, .invokestatic 169, 131), 
  (131, .ldc2_w 7102839, 134), (134, .lcmp, 135), (135, .ifCond .ne 145, 138), (138, .aload 0, 139), (139, .invokestatic 177, 142), (142, .goto 127, 145), (145, .aload 0, 146), (146, .invokestatic 169, 149), 
  (149, .ldc2_w 1717660018, 152), (152, .lcmp, 153), (153, .ifCond .ne 163, 156), (156, .aload 0, 157), (157, .invokestatic 178, 160), (160, .goto 145, 163), (163, .aload 0, 164), (164, .invokestatic 169, 167), 
  (167, .ldc2_w 1885430644, 170), (170, .lcmp, 171), (171, .ifCond .ne 184, 174), (174, .aload 0, 175), (175, .sipush 5, 176), (176, .sipush 96, 178), (178, .invokestatic 176, 181), (181, .goto 163, 184), (184, .aload 0, 185), 
  (185, .getfield 657, 188), (188, .ifCond .ne 204, 191), (191, .aload 0, 192), (192, .getfield 654, 195), (195, .sipush 1, 196), (196, .if_icmp .eq 204, 199), (199, .aload 0, 200), (200, .sipush 1, 201), 
  (201, .invokestatic 167, 204), (204, .aload 0, 205), (205, .getfield 657, 208), (208, .ifCond .le 227, 211), (211, .aload 0, 212), (212, .aload 0, 213), (213, .getfield 657, 216), (216, .putfield 651, 219), 
  (219, .sipush (-1000100), 221), (221, .aload 0, 222), (222, .getfield 658, 225), (225, .isub, 226), (226, .ireturn, 227), (227, .aload 0, 228), (228, .sipush 1, 229), (229, .putfield 647, 232), (232, .sipush 0, 233), 
  (233, .istore 1, 234), (234, .iload 1, 235), (235, .sipush 132, 238), (238, .if_icmp .ge 259, 241), (241, .aload 0, 242), (242, .getfield 645, 245), (245, .iload 1, 246), (246, .aload 0, 247), (247, .getfield 646, 250), 
  (250, .iload 1, 251), (251, .iaload, 252), (252, .iastore, 253), (253, .iinc 1 1, 256), (256, .goto 234, 259), (259, .sipush 0, 260), (260, .istore 1, 261), (261, .iload 1, 262), (262, .sipush 411, 265), 
  (265, .if_icmp .ge 281, 268), (268, .aload 0, 269), (269, .getfield 648, 272), (272, .iload 1, 273), (273, .sipush 0, 274), (274, .iastore, 275), (275, .iinc 1 1, 278), (278, .goto 261, 281), (281, .sipush 0, 282), 
  (282, .istore 1, 283), (283, .iload 1, 284), (284, .sipush 12, 286), (286, .if_icmp .ge 312, 289), (289, .aload 0, 290), (290, .getfield 648, 293), (293, .sipush 3, 294), (294, .iload 1, 295), (295, .iadd, 296), 
  (296, .aload 0, 297), (297, .getfield 645, 300), (300, .sipush 12, 302), (302, .iload 1, 303), (303, .iadd, 304), (304, .iaload, 305), (305, .iastore, 306), (306, .iinc 1 1, 309), (309, .goto 283, 312), (312, .sipush 0, 313), 
  (313, .istore 1, 314), (314, .iload 1, 315), (315, .sipush 36, 317), (317, .if_icmp .ge 344, 320), (320, .aload 0, 321), (321, .getfield 648, 324), (324, .sipush 15, 326), (326, .iload 1, 327), (327, .iadd, 328), 
  (328, .aload 0, 329), (329, .getfield 645, 332), (332, .sipush 96, 334), (334, .iload 1, 335), (335, .iadd, 336), (336, .iaload, 337), (337, .iastore, 338), (338, .iinc 1 1, 341), (341, .goto 314, 344), (344, .aload 0, 345), 
  (345, .getfield 645, 348), (348, .sipush 0, 349), (349, .iaload, 350), (350, .ireturn, 351)]
def k_X10_fault : Nat := 180
def T_X10_fault : TB := [(0, .aload 0, 1), (1, .sipush 0, 2), (2, .putfield 640, 5), (5, .aload 0, 6), (6, .getfield 651, 9), (9, .ireturn, 10)]
def k_X10_isTown : Nat := 181
def T_X10_isTown : TB := [(0, .iload 1, 1), (1, .i2l, 2), (2, .ldc2_w 0, 3), (3, .aload 0, 4), (4, .getfield 645, 7), (7, .sipush 0, 8), (8, .iaload, 9), (9, .sipush 1, 10), (10, .isub, 11), (11, .i2l, 12), (12, .invokestatic 155, 15), (15, .ireturn, 16)]
def k_X10_isMan : Nat := 182
def T_X10_isMan : TB := [(0, .iload 1, 1), (1, .i2l, 2), (2, .ldc2_w 0, 3), (3, .aload 0, 4), (4, .getfield 645, 7), (7, .sipush 1, 8), (8, .iaload, 9), (9, .sipush 1, 10), (10, .isub, 11), (11, .i2l, 12), (12, .invokestatic 155, 15), (15, .ireturn, 16)]
def k_X10_isClaim : Nat := 183
def T_X10_isClaim : TB := [(0, .iload 1, 1), (1, .i2l, 2), (2, .ldc2_w 0, 3), (3, .aload 0, 4), (4, .getfield 648, 7), (7, .sipush 2, 8), (8, .iaload, 9), (9, .sipush 1, 10), (10, .isub, 11), (11, .i2l, 12), (12, .invokestatic 155, 15), (15, .ireturn, 16)]
def k_X10_of : Nat := 184
def T_X10_of : TB := [(0, .aload 0, 1), (1, .getfield 645, 4), (4, .sipush 12, 6), (6, .iload 1, 7), (7, .iadd, 8), (8, .iaload, 9), (9, .ireturn, 10)]
def k_X10_told : Nat := 185
def T_X10_told : TB := [(0, .aload 0, 1), (1, .getfield 648, 4), (4, .sipush 51, 6), (6, .sipush 15, 8), (8, .iload 1, 9), (9, .imul, 10), (10, .iadd, 11), (11, .iload 2, 12), (12, .iadd, 13), (13, .iaload, 14), (14, .ireturn, 15)]
def k_X10_tell : Nat := 186
def T_X10_tell : TB := [(0, .aload 0, 1), (1, .getfield 648, 4), (4, .sipush 51, 6), (6, .sipush 15, 8), (8, .iload 1, 9), (9, .imul, 10), (10, .iadd, 11), (11, .iload 2, 12), (12, .iadd, 13), (13, .iload 3, 14), (14, .iastore, 15), (15, .return_, 16)]
def k_X10_lawOf : Nat := 187
def T_X10_lawOf : TB := [(0, .aload 0, 1), (1, .getfield 645, 4), (4, .sipush 60, 6), (6, .sipush 4, 7), (7, .iload 1, 8), (8, .imul, 9), (9, .iadd, 10), (10, .iload 2, 11), (11, .iadd, 12), (12, .iaload, 13), (13, .ireturn, 14)]
def k_X10_havePact : Nat := 188
def T_X10_havePact : TB := [(0, .aload 0, 1), (1, .getfield 648, 4), (4, .sipush 15, 6), (6, .sipush 6, 8), (8, .iload 1, 9), (9, .imul, 10), (10, .iadd, 11), (11, .iload 2, 12), (12, .iadd, 13), (13, .iaload, 14), (14, .sipush 1, 15), 
  (15, .if_icmp .ne 22, 18), (18, .sipush 1, 19), (19, .goto 23, 22), (22, .sipush 0, 23), (23, .ireturn, 24)]
def k_X10_later : Nat := 189
def T_X10_later : TB := [(0, .aload 0, 1), (1, .sipush 0, 2), (2, .putfield 640, 5), (5, .iload 1, 6), (6, .i2l, 7), (7, .ldc2_w 0, 8), (8, .ldc2_w 100, 11), (11, .invokestatic 155, 14), (14, .ifCond .eq 31, 17), (17, .aload 0, 18), 
  (18, .getfield 648, 21), (21, .sipush 0, 22), (22, .iaload, 23), (23, .iload 1, 24), (24, .iadd, 25), (25, .sipush 999, 28), (28, .if_icmp .le 34, 31), (31, .sipush (-1000001), 33), (33, .ireturn, 34), (34, .aload 0, 35), 
  (35, .getfield 647, 38), (38, .ifCond .ne 44, 41), (41, .sipush (-1000002), 43), (43, .ireturn, 44), (44, .aload 0, 45), (45, .getfield 648, 48), (48, .sipush 0, 49), (49, .dup2, 50), (50, .iaload, 51), (51, .iload 1, 52), 
  (52, .iadd, 53), (53, .iastore, 54), (54, .aload 0, 55), (55, .getfield 648, 58), (58, .sipush 0, 59), (59, .iaload, 60), (60, .ireturn, 61)]
def k_X10_goes : Nat := 190
def T_X10_goes : TB := [(0, .aload 0, 1), (1, .sipush 0, 2), (2, .putfield 640, 5), (5, .aload 0, 6), (6, .iload 1, 7), (7, .invokestatic 182, 10), (10, .ifCond .eq 21, 13), (13, .aload 0, 14), (14, .iload 2, 15), (15, .invokestatic 181, 18), 
  (18, .ifCond .ne 24, 21), (21, .sipush (-1000001), 23), (23, .ireturn, 24), (24, .aload 0, 25), (25, .getfield 645, 28), (28, .sipush 24, 30), (30, .sipush 6, 32), (32, .aload 0, 33), (33, .getfield 648, 36), (36, .sipush 3, 37), 
  (37, .iload 1, 38), (38, .iadd, 39), (39, .iaload, 40), (40, .imul, 41), (41, .iadd, 42), (42, .iload 2, 43), (43, .iadd, 44), (44, .iaload, 45), (45, .ifCond .ne 51, 48), (48, .sipush (-1000002), 50), (50, .ireturn, 51), 
  (51, .aload 0, 52), (52, .getfield 648, 55), (55, .sipush 3, 56), (56, .iload 1, 57), (57, .iadd, 58), (58, .iload 2, 59), (59, .iastore, 60), (60, .sipush 1, 61), (61, .ireturn, 62)]
def k_X10_balance : Nat := 191
def T_X10_balance : TB := [(0, .sipush 0, 1), (1, .istore 2, 2), (2, .sipush 0, 3), (3, .istore 3, 4), (4, .iload 3, 5), (5, .aload 0, 6), (6, .getfield 648, 9), (9, .sipush 2, 10), (10, .iaload, 11), (11, .if_icmp .ge 66, 14), (14, .iload 2, 15), 
  (15, .aload 0, 16), (16, .iload 3, 17), (17, .sipush 0, 18), (18, .invokestatic 185, 21), (21, .iload 1, 22), (22, .if_icmp .ne 34, 25), (25, .aload 0, 26), (26, .iload 3, 27), (27, .sipush 3, 28), (28, .invokestatic 185, 31), 
  (31, .goto 35, 34), (34, .sipush 0, 35), (35, .iadd, 36), (36, .istore 2, 37), (37, .iload 2, 38), (38, .aload 0, 39), (39, .iload 3, 40), (40, .sipush 1, 41), (41, .invokestatic 185, 44), (44, .iload 1, 45), 
  (45, .if_icmp .ne 57, 48), (48, .aload 0, 49), (49, .iload 3, 50), (50, .sipush 3, 51), (51, .invokestatic 185, 54), (54, .goto 58, 57), (57, .sipush 0, 58), (58, .isub, 59), (59, .istore 2, 60), (60, .iinc 3 1, 63), 
  (63, .goto 4, 66), (66, .iload 2, 67), (67, .ireturn, 68)]
def k_X10_man : Nat := 192
def T_X10_man : TB := [(0, .aload 0, 1), (1, .sipush 0, 2), (2, .putfield 640, 5), (5, .aload 0, 6), (6, .iload 1, 7), (7, .invokestatic 182, 10), (10, .ifCond .eq 25, 13), (13, .iload 2, 14), (14, .i2l, 15), (15, .ldc2_w 0, 16), (16, .ldc2_w 2, 19), 
  (19, .invokestatic 155, 22), (22, .ifCond .ne 30, 25), (25, .sipush (-1000001), 27), (27, .goto 63, 30), (30, .iload 2, 31), (31, .ifCond .ne 42, 34), (34, .aload 0, 35), (35, .iload 1, 36), (36, .invokestatic 184, 39), 
  (39, .goto 63, 42), (42, .iload 2, 43), (43, .sipush 1, 44), (44, .if_icmp .ne 58, 47), (47, .aload 0, 48), (48, .getfield 648, 51), (51, .sipush 3, 52), (52, .iload 1, 53), (53, .iadd, 54), (54, .iaload, 55), (55, .goto 63, 58), 
  (58, .aload 0, 59), (59, .iload 1, 60), (60, .invokestatic 191, 63), (63, .ireturn, 64)]
def k_X10_law : Nat := 193
def T_X10_law : TB := [(0, .aload 0, 1), (1, .sipush 0, 2), (2, .putfield 640, 5), (5, .aload 0, 6), (6, .iload 1, 7), (7, .invokestatic 181, 10), (10, .ifCond .eq 25, 13), (13, .iload 2, 14), (14, .i2l, 15), (15, .ldc2_w 0, 16), (16, .ldc2_w 4, 19), 
  (19, .invokestatic 155, 22), (22, .ifCond .ne 30, 25), (25, .sipush (-1000001), 27), (27, .goto 53, 30), (30, .iload 2, 31), (31, .sipush 4, 32), (32, .if_icmp .ne 47, 35), (35, .aload 0, 36), (36, .getfield 645, 39), 
  (39, .sipush 6, 41), (41, .iload 1, 42), (42, .iadd, 43), (43, .iaload, 44), (44, .goto 53, 47), (47, .aload 0, 48), (48, .iload 1, 49), (49, .iload 2, 50), (50, .invokestatic 187, 53), (53, .ireturn, 54)]
def k_X10_pact : Nat := 194
def T_X10_pact : TB := [(0, .aload 0, 1), (1, .sipush 0, 2), (2, .putfield 640, 5), (5, .aload 0, 6), (6, .iload 1, 7), (7, .invokestatic 181, 10), (10, .ifCond .eq 36, 13), (13, .aload 0, 14), (14, .iload 2, 15), (15, .invokestatic 181, 18), 
  (18, .ifCond .eq 36, 21), (21, .iload 1, 22), (22, .iload 2, 23), (23, .if_icmp .eq 36, 26), (26, .iload 3, 27), (27, .i2l, 28), (28, .ldc2_w 0, 29), (29, .ldc2_w 1, 30), (30, .invokestatic 155, 33), (33, .ifCond .ne 39, 36), 
  (36, .sipush (-1000001), 38), (38, .ireturn, 39), (39, .aload 0, 40), (40, .getfield 648, 43), (43, .sipush 15, 45), (45, .sipush 6, 47), (47, .iload 1, 48), (48, .imul, 49), (49, .iadd, 50), (50, .iload 2, 51), (51, .iadd, 52), 
  (52, .iaload, 53), (53, .istore 4, 55), (55, .aload 0, 56), (56, .getfield 648, 59), (59, .sipush 15, 61), (61, .sipush 6, 63), (63, .iload 1, 64), (64, .imul, 65), (65, .iadd, 66), (66, .iload 2, 67), (67, .iadd, 68), 
  (68, .iload 3, 69), (69, .iastore, 70), (70, .aload 0, 71), (71, .getfield 648, 74), (74, .sipush 15, 76), (76, .sipush 6, 78), (78, .iload 2, 79), (79, .imul, 80), (80, .iadd, 81), (81, .iload 1, 82), (82, .iadd, 83), 
  (83, .iload 3, 84), (84, .iastore, 85), (85, .iload 4, 87), (87, .ireturn, 88)]
def k_X10_newClaim : Nat := 195
def T_X10_newClaim : TB := [(0, .aload 0, 1), (1, .getfield 648, 4), (4, .sipush 2, 5), (5, .iaload, 6), (6, .istore 5, 8), (8, .sipush 0, 9), (9, .istore 6, 11), (11, .iload 6, 13), (13, .sipush 15, 15), (15, .if_icmp .ge 45, 18), (18, .aload 0, 19), 
  (19, .iload 5, 21), (21, .iload 6, 23), (23, .iload 6, 25), (25, .sipush 9, 27), (27, .if_icmp .ge 34, 30), (30, .sipush 0, 31), (31, .goto 36, 34), (34, .sipush (-1000000), 36), (36, .invokestatic 186, 39), (39, .iinc 6 1, 42), 
  (42, .goto 11, 45), (45, .aload 0, 46), (46, .iload 5, 48), (48, .sipush 0, 49), (49, .iload 1, 50), (50, .invokestatic 186, 53), (53, .aload 0, 54), (54, .iload 5, 56), (56, .sipush 1, 57), (57, .iload 2, 58), 
  (58, .invokestatic 186, 61), (61, .aload 0, 62), (62, .iload 5, 64), (64, .sipush 2, 65), (65, .iload 3, 66), (66, .invokestatic 186, 69), (69, .aload 0, 70), (70, .iload 5, 72), (72, .sipush 3, 73), (73, .iload 3, 74), 
  (74, .invokestatic 186, 77), (77, .aload 0, 78), (78, .iload 5, 80), (80, .sipush 4, 81), (81, .iload 4, 83), (83, .sipush (-1000000), 85), (85, .if_icmp .ne 92, 88), (88, .sipush 0, 89), (89, .goto 93, 92), (92, .sipush 1, 93), 
  (93, .invokestatic 186, 96), (96, .aload 0, 97), (97, .iload 5, 99), (99, .sipush 6, 101), (101, .sipush (-1000000), 103), (103, .invokestatic 186, 106), (106, .aload 0, 107), (107, .iload 5, 109), (109, .sipush 7, 111), 
  (111, .sipush (-1000000), 113), (113, .invokestatic 186, 116), (116, .aload 0, 117), (117, .iload 5, 119), (119, .sipush 8, 121), (121, .iload 4, 123), (123, .invokestatic 186, 126), (126, .aload 0, 127), (127, .getfield 648, 130), 
  (130, .sipush 2, 131), (131, .dup2, 132), (132, .iaload, 133), (133, .sipush 1, 134), (134, .iadd, 135), (135, .iastore, 136), (136, .iload 5, 138), (138, .ireturn, 139)]
def k_X10_isDebt : Nat := 196
def T_X10_isDebt : TB := [(0, .aload 0, 1), (1, .iload 1, 2), (2, .invokestatic 182, 5), (5, .ifCond .eq 37, 8), (8, .aload 0, 9), (9, .iload 2, 10), (10, .invokestatic 182, 13), (13, .ifCond .eq 37, 16), (16, .iload 1, 17), (17, .iload 2, 18), 
  (18, .if_icmp .eq 37, 21), (21, .iload 3, 22), (22, .i2l, 23), (23, .ldc2_w 1, 24), (24, .ldc2_w 999, 27), (27, .invokestatic 155, 30), (30, .ifCond .eq 37, 33), (33, .sipush 1, 34), (34, .goto 38, 37), (37, .sipush 0, 38), 
  (38, .ireturn, 39)]
def k_X10_debt : Nat := 197
def T_X10_debt : TB := [(0, .aload 0, 1), (1, .sipush 0, 2), (2, .putfield 640, 5), (5, .aload 0, 6), (6, .iload 1, 7), (7, .iload 2, 8), (8, .iload 3, 9), (9, .invokestatic 196, 12), (12, .ifCond .ne 18, 15), (15, .sipush (-1000001), 17), 
  (17, .ireturn, 18), (18, .aload 0, 19), (19, .getfield 648, 22), (22, .sipush 2, 23), (23, .iaload, 24), (24, .sipush 24, 26), (26, .if_icmp .ne 34, 29), (29, .sipush (-1000003), 31), (31, .goto 43, 34), (34, .aload 0, 35), 
  (35, .iload 2, 36), (36, .iload 1, 37), (37, .iload 3, 38), (38, .sipush (-1000000), 40), (40, .invokestatic 195, 43), (43, .ireturn, 44)]
def k_X10_debts : Nat := 198
def T_X10_debts : TB := [(0, .aload 0, 1), (1, .sipush 0, 2), (2, .putfield 640, 5), (5, .iload 1, 6), (6, .invokestatic 157, 9), (9, .ifCond .eq 24, 12), (12, .iload 3, 13), (13, .i2l, 14), (14, .ldc2_w 1, 15), (15, .ldc2_w 10, 18), 
  (18, .invokestatic 155, 21), (21, .ifCond .ne 27, 24), (24, .sipush (-1000001), 26), (26, .ireturn, 27), (27, .aload 0, 28), (28, .getfield 642, 31), (31, .iload 1, 32), (32, .iaload, 33), (33, .ifCond .ge 42, 36), 
  (36, .aload 0, 37), (37, .sipush 1, 38), (38, .invokestatic 156, 41), (41, .ireturn, 42), (42, .iload 2, 43), (43, .ifCond .lt 64, 46), (46, .iload 2, 47), (47, .i2l, 48), (48, .sipush 3, 49), (49, .iload 3, 50), (50, .imul, 51), 
  (51, .i2l, 52), (52, .ladd, 53), (53, .aload 0, 54), (54, .getfield 643, 57), (57, .iload 1, 58), (58, .iaload, 59), (59, .i2l, 60), (60, .lcmp, 61), (61, .ifCond .le 70, 64), (64, .aload 0, 65), (65, .sipush 2, 66), 
  (66, .invokestatic 156, 69), (69, .ireturn, 70), (70, .sipush 40, 72), (72, .iload 1, 73), (73, .imul, 74), (74, .iload 2, 75), (75, .iadd, 76), (76, .istore 4, 78), (78, .iload 4, 80), (80, .sipush 40, 82), (82, .iload 1, 83), 
  (83, .imul, 84), (84, .iload 2, 85), (85, .iadd, 86), (86, .sipush 3, 87), (87, .iload 3, 88), (88, .imul, 89), (89, .iadd, 90), (90, .if_icmp .ge 134, 93), (93, .aload 0, 94), (94, .aload 0, 95), (95, .getfield 644, 98), 
  (98, .iload 4, 100), (100, .iaload, 101), (101, .aload 0, 102), (102, .getfield 644, 105), (105, .iload 4, 107), (107, .sipush 1, 108), (108, .iadd, 109), (109, .iaload, 110), (110, .aload 0, 111), (111, .getfield 644, 114), 
  (114, .iload 4, 116), (116, .sipush 2, 117), (117, .iadd, 118), (118, .iaload, 119), (119, .invokestatic 196, 122), (122, .ifCond .ne 128, 125), (125, .sipush (-1000001), 127), (127, .ireturn, 128), (128, .iinc 4 3, 131), 
  (131, .goto 78, 134), (134, .aload 0, 135), (135, .getfield 648, 138), (138, .sipush 2, 139), (139, .iaload, 140), (140, .iload 3, 141), (141, .iadd, 142), (142, .sipush 24, 144), (144, .if_icmp .le 150, 147), 
  (147, .sipush (-1000003), 149), (149, .ireturn, 150), (150, .aload 0, 151), (151, .sipush 0, 152), (152, .putfield 641, 155), (155, .sipush 0, 156), (156, .istore 4, 158), (158, .sipush 40, 160), (160, .iload 1, 161), 
  (161, .imul, 162), (162, .iload 2, 163), (163, .iadd, 164), (164, .istore 5, 166), (166, .iload 5, 168), (168, .sipush 40, 170), (170, .iload 1, 171), (171, .imul, 172), (172, .iload 2, 173), (173, .iadd, 174), 
  (174, .sipush 3, 175), (175, .iload 3, 176), (176, .imul, 177), (177, .iadd, 178), (178, .if_icmp .ge 220, 181), (181, .aload 0, 182), (182, .aload 0, 183), (183, .getfield 644, 186), (186, .iload 5, 188), (188, .sipush 1, 189), 
  (189, .iadd, 190), (190, .iaload, 191), (191, .aload 0, 192), (192, .getfield 644, 195), (195, .iload 5, 197), (197, .iaload, 198), (198, .aload 0, 199), (199, .getfield 644, 202), (202, .iload 5, 204), (204, .sipush 2, 205), 
  (205, .iadd, 206), (206, .iaload, 207), (207, .sipush (-1000000), 209), (209, .invokestatic 195, 212), (212, .istore 4, 214), (214, .iinc 5 3, 217), (217, .goto 166, 220), (220, .iload 4, 222), (222, .sipush 1, 223), 
  (223, .iadd, 224), (224, .ireturn, 225)]
def k_X10_ask : Nat := 199
def T_X10_ask : TB := [(0, .aload 0, 1), (1, .sipush 0, 2), (2, .putfield 640, 5), (5, .aload 0, 6), (6, .iload 1, 7), (7, .invokestatic 183, 10), (10, .ifCond .ne 16, 13), (13, .sipush (-1000001), 15), (15, .ireturn, 16), (16, .aload 0, 17), 
  (17, .iload 1, 18), (18, .sipush 3, 19), (19, .invokestatic 185, 22), (22, .ifCond .ne 28, 25), (25, .sipush (-1000002), 27), (27, .ireturn, 28), (28, .aload 0, 29), (29, .iload 1, 30), (30, .sipush 5, 31), (31, .aload 0, 32), 
  (32, .iload 1, 33), (33, .sipush 5, 34), (34, .invokestatic 185, 37), (37, .sipush 1, 38), (38, .iadd, 39), (39, .invokestatic 186, 42), (42, .aload 0, 43), (43, .iload 1, 44), (44, .sipush 5, 45), (45, .invokestatic 185, 48), 
  (48, .ireturn, 49)]
def k_X10_letter : Nat := 200
def T_X10_letter : TB := [(0, .aload 0, 1), (1, .sipush 0, 2), (2, .putfield 640, 5), (5, .aload 0, 6), (6, .iload 1, 7), (7, .invokestatic 183, 10), (10, .ifCond .eq 37, 13), (13, .iload 2, 14), (14, .i2l, 15), (15, .ldc2_w 1, 16), (16, .ldc2_w 999, 19), 
  (19, .invokestatic 155, 22), (22, .ifCond .eq 37, 25), (25, .iload 3, 26), (26, .i2l, 27), (27, .ldc2_w 0, 28), (28, .ldc2_w 99, 31), (31, .invokestatic 155, 34), (34, .ifCond .ne 40, 37), (37, .sipush (-1000001), 39), 
  (39, .ireturn, 40), (40, .aload 0, 41), (41, .iload 1, 42), (42, .sipush 3, 43), (43, .invokestatic 185, 46), (46, .ifCond .ne 52, 49), (49, .sipush (-1000002), 51), (51, .ireturn, 52), (52, .aload 0, 53), (53, .iload 1, 54), 
  (54, .sipush 6, 56), (56, .aload 0, 57), (57, .getfield 648, 60), (60, .sipush 0, 61), (61, .iaload, 62), (62, .iload 3, 63), (63, .iadd, 64), (64, .invokestatic 186, 67), (67, .aload 0, 68), (68, .iload 1, 69), 
  (69, .sipush 7, 71), (71, .iload 2, 72), (72, .invokestatic 186, 75), (75, .aload 0, 76), (76, .getfield 648, 79), (79, .sipush 0, 80), (80, .iaload, 81), (81, .iload 3, 82), (82, .iadd, 83), (83, .ireturn, 84)]
def k_X10_pay : Nat := 201
def T_X10_pay : TB := [(0, .aload 0, 1), (1, .sipush 0, 2), (2, .putfield 640, 5), (5, .aload 0, 6), (6, .iload 1, 7), (7, .invokestatic 183, 10), (10, .ifCond .eq 25, 13), (13, .iload 2, 14), (14, .i2l, 15), (15, .ldc2_w 1, 16), (16, .ldc2_w 999, 19), 
  (19, .invokestatic 155, 22), (22, .ifCond .ne 28, 25), (25, .sipush (-1000001), 27), (27, .ireturn, 28), (28, .aload 0, 29), (29, .iload 1, 30), (30, .sipush 3, 31), (31, .invokestatic 185, 34), (34, .iload 2, 35), (35, .isub, 36), 
  (36, .istore 3, 37), (37, .aload 0, 38), (38, .iload 1, 39), (39, .sipush 3, 40), (40, .iload 3, 41), (41, .ifCond .ge 48, 44), (44, .sipush 0, 45), (45, .goto 49, 48), (48, .iload 3, 49), (49, .invokestatic 186, 52), 
  (52, .aload 0, 53), (53, .iload 1, 54), (54, .sipush 3, 55), (55, .invokestatic 185, 58), (58, .ireturn, 59)]
def k_X10_claim : Nat := 202
def T_X10_claim : TB := [(0, .aload 0, 1), (1, .sipush 0, 2), (2, .putfield 640, 5), (5, .aload 0, 6), (6, .iload 1, 7), (7, .invokestatic 183, 10), (10, .ifCond .eq 34, 13), (13, .iload 2, 14), (14, .i2l, 15), (15, .ldc2_w 0, 16), (16, .ldc2_w 8, 19), 
  (19, .invokestatic 155, 22), (22, .ifCond .eq 34, 25), (25, .aload 0, 26), (26, .iload 1, 27), (27, .iload 2, 28), (28, .invokestatic 185, 31), (31, .goto 36, 34), (34, .sipush (-1000001), 36), (36, .ireturn, 37)]
def k_X10_isFair : Nat := 203
def T_X10_isFair : TB := [(0, .sipush 0, 1), (1, .istore 2, 2), (2, .sipush 0, 3), (3, .istore 3, 4), (4, .iload 3, 5), (5, .aload 0, 6), (6, .getfield 645, 9), (9, .sipush 4, 10), (10, .iaload, 11), (11, .if_icmp .ge 82, 14), (14, .sipush 84, 16), 
  (16, .sipush 3, 17), (17, .iload 3, 18), (18, .imul, 19), (19, .iadd, 20), (20, .istore 4, 22), (22, .iload 2, 23), (23, .ifCond .ne 70, 26), (26, .aload 0, 27), (27, .getfield 645, 30), (30, .iload 4, 32), (32, .iaload, 33), 
  (33, .iload 1, 34), (34, .if_icmp .ne 74, 37), (37, .aload 0, 38), (38, .getfield 648, 41), (41, .sipush 0, 42), (42, .iaload, 43), (43, .i2l, 44), (44, .aload 0, 45), (45, .getfield 645, 48), (48, .iload 4, 50), 
  (50, .sipush 1, 51), (51, .iadd, 52), (52, .iaload, 53), (53, .i2l, 54), (54, .aload 0, 55), (55, .getfield 645, 58), (58, .iload 4, 60), (60, .sipush 2, 61), (61, .iadd, 62), (62, .iaload, 63), (63, .i2l, 64), 
  (64, .invokestatic 155, 67), (67, .ifCond .eq 74, 70), (70, .sipush 1, 71), (71, .goto 75, 74), (74, .sipush 0, 75), (75, .istore 2, 76), (76, .iinc 3 1, 79), (79, .goto 4, 82), (82, .iload 2, 83), (83, .ireturn, 84)]
def k_X10_isLetterGood : Nat := 204
def T_X10_isLetterGood : TB := [(0, .aload 0, 1), (1, .iload 1, 2), (2, .sipush 6, 4), (4, .invokestatic 185, 7), (7, .sipush (-1000000), 9), (9, .if_icmp .eq 42, 12), (12, .aload 0, 13), (13, .iload 1, 14), (14, .sipush 6, 16), (16, .invokestatic 185, 19), 
  (19, .aload 0, 20), (20, .getfield 648, 23), (23, .sipush 0, 24), (24, .iaload, 25), (25, .if_icmp .lt 42, 28), (28, .aload 0, 29), (29, .iload 1, 30), (30, .sipush 7, 32), (32, .invokestatic 185, 35), (35, .ifCond .le 42, 38), 
  (38, .sipush 1, 39), (39, .goto 43, 42), (42, .sipush 0, 43), (43, .ireturn, 44)]
def k_X10_lacks : Nat := 205
def T_X10_lacks : TB := [(0, .aload 0, 1), (1, .iload 1, 2), (2, .sipush 0, 3), (3, .invokestatic 185, 6), (6, .istore 5, 8), (8, .aload 0, 9), (9, .iload 1, 10), (10, .sipush 1, 11), (11, .invokestatic 185, 14), (14, .istore 6, 16), (16, .aload 0, 17), 
  (17, .iload 1, 18), (18, .sipush 3, 19), (19, .invokestatic 185, 22), (22, .ifCond .ne 27, 25), (25, .sipush 1, 26), (26, .ireturn, 27), (27, .aload 0, 28), (28, .getfield 648, 31), (31, .sipush 3, 32), (32, .iload 5, 34), 
  (34, .iadd, 35), (35, .iaload, 36), (36, .iload 4, 38), (38, .if_icmp .eq 43, 41), (41, .sipush 2, 42), (42, .ireturn, 43), (43, .iload 2, 44), (44, .iload 5, 46), (46, .if_icmp .eq 59, 49), (49, .iload 3, 50), (50, .aload 0, 51), 
  (51, .iload 5, 53), (53, .invokestatic 184, 56), (56, .if_icmp .ne 61, 59), (59, .sipush 3, 60), (60, .ireturn, 61), (61, .aload 0, 62), (62, .iload 3, 63), (63, .aload 0, 64), (64, .iload 5, 66), (66, .invokestatic 184, 69), 
  (69, .invokestatic 188, 72), (72, .ifCond .eq 77, 75), (75, .sipush 4, 76), (76, .ireturn, 77), (77, .aload 0, 78), (78, .iload 4, 80), (80, .invokestatic 203, 83), (83, .ifCond .eq 88, 86), (86, .sipush 5, 87), (87, .ireturn, 88), 
  (88, .iload 2, 89), (89, .iload 6, 91), (91, .if_icmp .eq 107, 94), (94, .iload 3, 95), (95, .aload 0, 96), (96, .iload 6, 98), (98, .invokestatic 184, 101), (101, .if_icmp .eq 107, 104), (104, .sipush 6, 106), 
  (106, .ireturn, 107), (107, .iload 2, 108), (108, .iload 6, 110), (110, .if_icmp .eq 132, 113), (113, .aload 0, 114), (114, .iload 1, 115), (115, .sipush 5, 116), (116, .invokestatic 185, 119), (119, .aload 0, 120), 
  (120, .iload 4, 122), (122, .sipush 0, 123), (123, .invokestatic 187, 126), (126, .if_icmp .ge 132, 129), (129, .sipush 7, 131), (131, .ireturn, 132), (132, .aload 0, 133), (133, .iload 4, 135), (135, .sipush 3, 136), 
  (136, .invokestatic 187, 139), (139, .sipush 1, 140), (140, .if_icmp .ne 156, 143), (143, .aload 0, 144), (144, .iload 1, 145), (145, .invokestatic 204, 148), (148, .ifCond .ne 156, 151), (151, .sipush 8, 153), 
  (153, .goto 157, 156), (156, .sipush 0, 157), (157, .ireturn, 158)]
def k_X10_lacksOf : Nat := 206
def T_X10_lacksOf : TB := [(0, .aload 0, 1), (1, .iload 1, 2), (2, .iload 2, 3), (3, .aload 0, 4), (4, .iload 2, 5), (5, .invokestatic 184, 8), (8, .aload 0, 9), (9, .getfield 648, 12), (12, .sipush 3, 13), (13, .iload 2, 14), (14, .iadd, 15), 
  (15, .iaload, 16), (16, .invokestatic 205, 19), (19, .ireturn, 20)]
def k_X10_mostOf : Nat := 207
def T_X10_mostOf : TB := [(0, .aload 0, 1), (1, .iload 2, 2), (2, .sipush 1, 3), (3, .invokestatic 187, 6), (6, .aload 0, 7), (7, .iload 1, 8), (8, .sipush 3, 9), (9, .invokestatic 185, 12), (12, .imul, 13), (13, .sipush 100, 15), (15, .idiv, 16), 
  (16, .istore 3, 17), (17, .iload 3, 18), (18, .sipush 1, 19), (19, .if_icmp .ge 26, 22), (22, .sipush 1, 23), (23, .goto 27, 26), (26, .iload 3, 27), (27, .istore 3, 28), (28, .aload 0, 29), (29, .iload 2, 30), (30, .sipush 3, 31), 
  (31, .invokestatic 187, 34), (34, .sipush 1, 35), (35, .if_icmp .ne 59, 38), (38, .aload 0, 39), (39, .iload 1, 40), (40, .sipush 7, 42), (42, .invokestatic 185, 45), (45, .iload 3, 46), (46, .if_icmp .ge 59, 49), 
  (49, .aload 0, 50), (50, .iload 1, 51), (51, .sipush 7, 53), (53, .invokestatic 185, 56), (56, .goto 60, 59), (59, .iload 3, 60), (60, .ireturn, 61)]
def k_X10_may : Nat := 208
def T_X10_may : TB := [(0, .aload 0, 1), (1, .sipush 0, 2), (2, .putfield 640, 5), (5, .aload 0, 6), (6, .iload 1, 7), (7, .invokestatic 183, 10), (10, .ifCond .eq 31, 13), (13, .aload 0, 14), (14, .iload 2, 15), (15, .invokestatic 182, 18), 
  (18, .ifCond .eq 31, 21), (21, .iload 3, 22), (22, .i2l, 23), (23, .ldc2_w 0, 24), (24, .ldc2_w 1, 25), (25, .invokestatic 155, 28), (28, .ifCond .ne 34, 31), (31, .sipush (-1000001), 33), (33, .ireturn, 34), (34, .aload 0, 35), 
  (35, .iload 1, 36), (36, .iload 2, 37), (37, .invokestatic 206, 40), (40, .istore 4, 42), (42, .iload 3, 43), (43, .ifCond .ne 51, 46), (46, .iload 4, 48), (48, .goto 74, 51), (51, .iload 4, 53), (53, .ifCond .ne 72, 56), 
  (56, .aload 0, 57), (57, .iload 1, 58), (58, .aload 0, 59), (59, .getfield 648, 62), (62, .sipush 3, 63), (63, .iload 2, 64), (64, .iadd, 65), (65, .iaload, 66), (66, .invokestatic 207, 69), (69, .goto 74, 72), 
  (72, .sipush (-1000000), 74), (74, .ireturn, 75)]
def k_X10_take : Nat := 209
def T_X10_take : TB := [(0, .aload 0, 1), (1, .getfield 648, 4), (4, .sipush 3, 5), (5, .iload 2, 6), (6, .iadd, 7), (7, .iaload, 8), (8, .istore 4, 10), (10, .aload 0, 11), (11, .iload 1, 12), (12, .sipush 3, 13), (13, .aload 0, 14), (14, .iload 1, 15), 
  (15, .sipush 3, 16), (16, .invokestatic 185, 19), (19, .iload 3, 20), (20, .isub, 21), (21, .invokestatic 186, 24), (24, .aload 0, 25), (25, .iload 1, 26), (26, .sipush 7, 28), (28, .aload 0, 29), (29, .iload 1, 30), 
  (30, .sipush 7, 32), (32, .invokestatic 185, 35), (35, .aload 0, 36), (36, .iload 4, 38), (38, .sipush 3, 39), (39, .invokestatic 187, 42), (42, .sipush 1, 43), (43, .if_icmp .ne 50, 46), (46, .iload 3, 47), (47, .goto 51, 50), 
  (50, .sipush 0, 51), (51, .isub, 52), (52, .invokestatic 186, 55), (55, .aload 0, 56), (56, .getfield 648, 59), (59, .sipush 1, 60), (60, .dup2, 61), (61, .iaload, 62), (62, .iload 3, 63), (63, .iadd, 64), (64, .iastore, 65), 
  (65, .aload 0, 66), (66, .iload 4, 68), (68, .sipush 2, 69), (69, .invokestatic 187, 72), (72, .sipush 1, 73), (73, .if_icmp .ne 101, 76), (76, .iload 2, 77), (77, .aload 0, 78), (78, .iload 1, 79), (79, .sipush 1, 80), 
  (80, .invokestatic 185, 83), (83, .if_icmp .eq 101, 86), (86, .aload 0, 87), (87, .getfield 648, 90), (90, .sipush 2, 91), (91, .iaload, 92), (92, .sipush 24, 94), (94, .if_icmp .ge 101, 97), (97, .sipush 1, 98), 
  (98, .goto 102, 101), (101, .sipush 0, 102), (102, .istore 5, 104), (104, .iload 5, 106), (106, .ifCond .eq 125, 109), (109, .aload 0, 110), (110, .iload 2, 111), (111, .aload 0, 112), (112, .iload 1, 113), (113, .sipush 1, 114), 
  (114, .invokestatic 185, 117), (117, .iload 3, 118), (118, .iload 1, 119), (119, .invokestatic 195, 122), (122, .goto 127, 125), (125, .sipush (-1000000), 127), (127, .ireturn, 128)]
def k_X10_seize : Nat := 210
def T_X10_seize : TB := [(0, .aload 0, 1), (1, .sipush 0, 2), (2, .putfield 640, 5), (5, .aload 0, 6), (6, .iload 1, 7), (7, .invokestatic 183, 10), (10, .ifCond .eq 33, 13), (13, .aload 0, 14), (14, .iload 2, 15), (15, .invokestatic 182, 18), 
  (18, .ifCond .eq 33, 21), (21, .iload 3, 22), (22, .i2l, 23), (23, .ldc2_w 1, 24), (24, .ldc2_w 999, 27), (27, .invokestatic 155, 30), (30, .ifCond .ne 36, 33), (33, .sipush (-1000001), 35), (35, .ireturn, 36), (36, .aload 0, 37), 
  (37, .iload 1, 38), (38, .iload 2, 39), (39, .invokestatic 206, 42), (42, .ifCond .ne 62, 45), (45, .iload 3, 46), (46, .aload 0, 47), (47, .iload 1, 48), (48, .aload 0, 49), (49, .getfield 648, 52), (52, .sipush 3, 53), 
  (53, .iload 2, 54), (54, .iadd, 55), (55, .iaload, 56), (56, .invokestatic 207, 59), (59, .if_icmp .le 65, 62), (62, .sipush (-1000002), 64), (64, .ireturn, 65), (65, .aload 0, 66), (66, .iload 1, 67), (67, .iload 2, 68), 
  (68, .iload 3, 69), (69, .invokestatic 209, 72), (72, .ireturn, 73)]
def k_X10_swear : Nat := 211
def T_X10_swear : TB := [(0, .aload 0, 1), (1, .sipush 0, 2), (2, .putfield 640, 5), (5, .aload 0, 6), (6, .iload 1, 7), (7, .invokestatic 181, 10), (10, .ifCond .eq 31, 13), (13, .aload 0, 14), (14, .iload 2, 15), (15, .invokestatic 183, 18), 
  (18, .ifCond .eq 31, 21), (21, .iload 3, 22), (22, .i2l, 23), (23, .ldc2_w 0, 24), (24, .ldc2_w 1, 25), (25, .invokestatic 155, 28), (28, .ifCond .ne 34, 31), (31, .sipush (-1000001), 33), (33, .ireturn, 34), (34, .aload 0, 35), 
  (35, .iload 2, 36), (36, .sipush 9, 38), (38, .iload 1, 39), (39, .iadd, 40), (40, .invokestatic 185, 43), (43, .istore 4, 45), (45, .aload 0, 46), (46, .iload 2, 47), (47, .sipush 9, 49), (49, .iload 1, 50), (50, .iadd, 51), 
  (51, .iload 3, 52), (52, .invokestatic 186, 55), (55, .iload 4, 57), (57, .ireturn, 58)]
def k_X10_says : Nat := 212
def T_X10_says : TB := [(0, .aload 0, 1), (1, .sipush 0, 2), (2, .putfield 640, 5), (5, .aload 0, 6), (6, .iload 1, 7), (7, .invokestatic 183, 10), (10, .ifCond .ne 16, 13), (13, .sipush (-1000001), 15), (15, .ireturn, 16), (16, .aload 0, 17), 
  (17, .aload 0, 18), (18, .iload 1, 19), (19, .sipush 0, 20), (20, .invokestatic 185, 23), (23, .invokestatic 184, 26), (26, .istore 2, 27), (27, .aload 0, 28), (28, .aload 0, 29), (29, .iload 1, 30), (30, .sipush 1, 31), 
  (31, .invokestatic 185, 34), (34, .invokestatic 184, 37), (37, .istore 3, 38), (38, .aload 0, 39), (39, .iload 1, 40), (40, .sipush 9, 42), (42, .iload 2, 43), (43, .iadd, 44), (44, .invokestatic 185, 47), (47, .istore 4, 49), 
  (49, .aload 0, 50), (50, .iload 1, 51), (51, .sipush 9, 53), (53, .iload 3, 54), (54, .iadd, 55), (55, .invokestatic 185, 58), (58, .istore 5, 60), (60, .iload 4, 62), (62, .sipush (-1000000), 64), (64, .if_icmp .ne 76, 67), 
  (67, .iload 5, 69), (69, .sipush (-1000000), 71), (71, .if_icmp .ne 76, 74), (74, .sipush 0, 75), (75, .ireturn, 76), (76, .iload 4, 78), (78, .sipush (-1000000), 80), (80, .if_icmp .eq 97, 83), (83, .iload 5, 85), 
  (85, .sipush (-1000000), 87), (87, .if_icmp .eq 97, 90), (90, .iload 4, 92), (92, .iload 5, 94), (94, .if_icmp .ne 115, 97), (97, .iload 4, 99), (99, .sipush 1, 100), (100, .if_icmp .eq 109, 103), (103, .iload 5, 105), 
  (105, .sipush 1, 106), (106, .if_icmp .ne 113, 109), (109, .sipush 1, 110), (110, .goto 114, 113), (113, .sipush 2, 114), (114, .ireturn, 115), (115, .sipush 0, 116), (116, .istore 6, 118), (118, .iload 6, 120), 
  (120, .aload 0, 121), (121, .getfield 645, 124), (124, .sipush 0, 125), (125, .iaload, 126), (126, .if_icmp .ge 182, 129), (129, .iload 6, 131), (131, .iload 2, 132), (132, .if_icmp .eq 176, 135), (135, .iload 6, 137), 
  (137, .iload 3, 138), (138, .if_icmp .eq 176, 141), (141, .aload 0, 142), (142, .iload 1, 143), (143, .sipush 9, 145), (145, .iload 6, 147), (147, .iadd, 148), (148, .invokestatic 185, 151), (151, .sipush (-1000000), 153), 
  (153, .if_icmp .eq 176, 156), (156, .aload 0, 157), (157, .iload 1, 158), (158, .sipush 9, 160), (160, .iload 6, 162), (162, .iadd, 163), (163, .invokestatic 185, 166), (166, .sipush 1, 167), (167, .if_icmp .ne 174, 170), 
  (170, .sipush 4, 171), (171, .goto 175, 174), (174, .sipush 5, 175), (175, .ireturn, 176), (176, .iinc 6 1, 179), (179, .goto 118, 182), (182, .sipush 3, 183), (183, .ireturn, 184)]
def k_X10_hold : Nat := 213
def T_X10_hold : TB := [(0, .sipush 0, 1), (1, .istore 1, 2), (2, .iload 1, 3), (3, .sipush 411, 6), (6, .if_icmp .ge 27, 9), (9, .aload 0, 10), (10, .getfield 659, 13), (13, .iload 1, 14), (14, .aload 0, 15), (15, .getfield 648, 18), (18, .iload 1, 19), 
  (19, .iaload, 20), (20, .iastore, 21), (21, .iinc 1 1, 24), (24, .goto 2, 27), (27, .return_, 28)]
def k_X10_layBack : Nat := 214
def T_X10_layBack : TB := [(0, .sipush 0, 1), (1, .istore 1, 2), (2, .iload 1, 3), (3, .sipush 411, 6), (6, .if_icmp .ge 27, 9), (9, .aload 0, 10), (10, .getfield 648, 13), (13, .iload 1, 14), (14, .aload 0, 15), (15, .getfield 659, 18), (18, .iload 1, 19), 
  (19, .iaload, 20), (20, .iastore, 21), (21, .iinc 1 1, 24), (24, .goto 2, 27), (27, .return_, 28)]
def k_X10_grow : Nat := 215
def T_X10_grow : TB := [(0, .sipush 0, 1), (1, .istore 2, 2), (2, .iload 2, 3), (3, .iload 1, 4), (4, .if_icmp .ge 122, 7), (7, .aload 0, 8), (8, .getfield 648, 11), (11, .sipush 2, 12), (12, .iaload, 13), (13, .istore 3, 14), (14, .sipush 0, 15), 
  (15, .istore 4, 17), (17, .iload 4, 19), (19, .iload 3, 20), (20, .if_icmp .ge 106, 23), (23, .sipush (-1000000), 25), (25, .istore 5, 27), (27, .aload 0, 28), (28, .getfield 645, 31), (31, .sipush 1, 32), (32, .iaload, 33), 
  (33, .sipush 1, 34), (34, .isub, 35), (35, .istore 6, 37), (37, .iload 6, 39), (39, .ifCond .lt 68, 42), (42, .aload 0, 43), (43, .iload 4, 45), (45, .iload 6, 47), (47, .invokestatic 206, 50), (50, .ifCond .ne 58, 53), 
  (53, .iload 6, 55), (55, .goto 60, 58), (58, .iload 5, 60), (60, .istore 5, 62), (62, .iinc 6 (-1), 65), (65, .goto 37, 68), (68, .iload 5, 70), (70, .sipush (-1000000), 72), (72, .if_icmp .eq 100, 75), (75, .aload 0, 76), 
  (76, .iload 4, 78), (78, .iload 5, 80), (80, .aload 0, 81), (81, .iload 4, 83), (83, .aload 0, 84), (84, .getfield 648, 87), (87, .sipush 3, 88), (88, .iload 5, 90), (90, .iadd, 91), (91, .iaload, 92), (92, .invokestatic 207, 95), 
  (95, .invokestatic 209, 98), (98, .istore 6, 100), (100, .iinc 4 1, 103), (103, .goto 17, 106), (106, .aload 0, 107), (107, .getfield 648, 110), (110, .sipush 0, 111), (111, .dup2, 112), (112, .iaload, 113), (113, .sipush 1, 114), 
  (114, .iadd, 115), (115, .iastore, 116), (116, .iinc 2 1, 119), (119, .goto 2, 122), (122, .return_, 123)]
def k_X10_allLeft : Nat := 216
def T_X10_allLeft : TB := [(0, .sipush 0, 1), (1, .istore 1, 2), (2, .sipush 0, 3), (3, .istore 2, 4), (4, .iload 2, 5), (5, .aload 0, 6), (6, .getfield 648, 9), (9, .sipush 2, 10), (10, .iaload, 11), (11, .if_icmp .ge 29, 14), (14, .iload 1, 15), 
  (15, .aload 0, 16), (16, .iload 2, 17), (17, .sipush 3, 18), (18, .invokestatic 185, 21), (21, .iadd, 22), (22, .istore 1, 23), (23, .iinc 2 1, 26), (26, .goto 4, 29), (29, .iload 1, 30), (30, .ireturn, 31)]
def k_X10_grown : Nat := 217
def T_X10_grown : TB := [(0, .aload 0, 1), (1, .sipush 0, 2), (2, .putfield 640, 5), (5, .iload 1, 6), (6, .i2l, 7), (7, .ldc2_w 1, 8), (8, .ldc2_w 30, 11), (11, .invokestatic 155, 14), (14, .ifCond .eq 29, 17), (17, .iload 2, 18), (18, .i2l, 19), 
  (19, .ldc2_w 0, 20), (20, .ldc2_w 2, 23), (23, .invokestatic 155, 26), (26, .ifCond .ne 32, 29), (29, .sipush (-1000001), 31), (31, .ireturn, 32), (32, .aload 0, 33), (33, .getfield 647, 36), (36, .ifCond .ne 42, 39), 
  (39, .sipush (-1000002), 41), (41, .ireturn, 42), (42, .aload 0, 43), (43, .invokestatic 213, 46), (46, .aload 0, 47), (47, .iload 1, 48), (48, .invokestatic 215, 51), (51, .iload 2, 52), (52, .ifCond .ne 64, 55), 
  (55, .aload 0, 56), (56, .getfield 648, 59), (59, .sipush 2, 60), (60, .iaload, 61), (61, .goto 89, 64), (64, .iload 2, 65), (65, .sipush 1, 66), (66, .if_icmp .ne 85, 69), (69, .aload 0, 70), (70, .getfield 648, 73), 
  (73, .sipush 1, 74), (74, .iaload, 75), (75, .aload 0, 76), (76, .getfield 659, 79), (79, .sipush 1, 80), (80, .iaload, 81), (81, .isub, 82), (82, .goto 89, 85), (85, .aload 0, 86), (86, .invokestatic 216, 89), (89, .istore 3, 90), 
  (90, .aload 0, 91), (91, .invokestatic 214, 94), (94, .iload 3, 95), (95, .ireturn, 96)]
def k_X10_reform : Nat := 218
def T_X10_reform : TB := [(0, .aload 0, 1), (1, .sipush 0, 2), (2, .putfield 640, 5), (5, .iload 1, 6), (6, .i2l, 7), (7, .ldc2_w 1, 8), (8, .ldc2_w 10, 11), (11, .invokestatic 155, 14), (14, .ifCond .ne 20, 17), (17, .sipush (-1000001), 19), 
  (19, .ireturn, 20), (20, .aload 0, 21), (21, .getfield 647, 24), (24, .ifCond .ne 30, 27), (27, .sipush (-1000002), 29), (29, .ireturn, 30), (30, .sipush 0, 31), (31, .istore 2, 32), (32, .iload 2, 33), (33, .sipush 24, 35), 
  (35, .if_icmp .ge 59, 38), (38, .aload 0, 39), (39, .getfield 660, 42), (42, .iload 2, 43), (43, .aload 0, 44), (44, .getfield 645, 47), (47, .sipush 60, 49), (49, .iload 2, 50), (50, .iadd, 51), (51, .iaload, 52), 
  (52, .iastore, 53), (53, .iinc 2 1, 56), (56, .goto 32, 59), (59, .aload 0, 60), (60, .invokestatic 213, 63), (63, .sipush (-1000000), 65), (65, .istore 2, 66), (66, .sipush 0, 67), (67, .istore 3, 68), (68, .sipush 0, 69), 
  (69, .istore 4, 71), (71, .sipush 0, 72), (72, .istore 5, 74), (74, .iload 5, 76), (76, .sipush 64, 78), (78, .if_icmp .ge 249, 81), (81, .sipush 0, 82), (82, .istore 6, 84), (84, .iload 6, 86), (86, .sipush 6, 88), 
  (88, .if_icmp .ge 178, 91), (91, .aload 0, 92), (92, .getfield 645, 95), (95, .sipush 60, 97), (97, .sipush 4, 98), (98, .iload 6, 100), (100, .imul, 101), (101, .iadd, 102), (102, .iload 5, 104), (104, .sipush 4, 105), 
  (105, .irem, 106), (106, .iastore, 107), (107, .aload 0, 108), (108, .getfield 645, 111), (111, .sipush 60, 113), (113, .sipush 4, 114), (114, .iload 6, 116), (116, .imul, 117), (117, .iadd, 118), (118, .sipush 1, 119), 
  (119, .iadd, 120), (120, .sipush 25, 122), (122, .iload 5, 124), (124, .sipush 4, 125), (125, .idiv, 126), (126, .sipush 4, 127), (127, .irem, 128), (128, .sipush 1, 129), (129, .iadd, 130), (130, .imul, 131), (131, .iastore, 132), 
  (132, .aload 0, 133), (133, .getfield 645, 136), (136, .sipush 60, 138), (138, .sipush 4, 139), (139, .iload 6, 141), (141, .imul, 142), (142, .iadd, 143), (143, .sipush 2, 144), (144, .iadd, 145), (145, .iload 5, 147), 
  (147, .sipush 16, 149), (149, .idiv, 150), (150, .sipush 2, 151), (151, .irem, 152), (152, .iastore, 153), (153, .aload 0, 154), (154, .getfield 645, 157), (157, .sipush 60, 159), (159, .sipush 4, 160), (160, .iload 6, 162), 
  (162, .imul, 163), (163, .iadd, 164), (164, .sipush 3, 165), (165, .iadd, 166), (166, .iload 5, 168), (168, .sipush 32, 170), (170, .idiv, 171), (171, .iastore, 172), (172, .iinc 6 1, 175), (175, .goto 84, 178), 
  (178, .aload 0, 179), (179, .iload 1, 180), (180, .invokestatic 215, 183), (183, .aload 0, 184), (184, .invokestatic 216, 187), (187, .istore 6, 189), (189, .aload 0, 190), (190, .getfield 648, 193), (193, .sipush 1, 194), 
  (194, .iaload, 195), (195, .aload 0, 196), (196, .getfield 659, 199), (199, .sipush 1, 200), (200, .iaload, 201), (201, .isub, 202), (202, .istore 7, 204), (204, .iload 2, 205), (205, .sipush (-1000000), 207), 
  (207, .if_icmp .eq 229, 210), (210, .iload 6, 212), (212, .iload 3, 213), (213, .if_icmp .lt 229, 216), (216, .iload 6, 218), (218, .iload 3, 219), (219, .if_icmp .ne 239, 222), (222, .iload 7, 224), (224, .iload 4, 226), 
  (226, .if_icmp .ge 239, 229), (229, .iload 5, 231), (231, .istore 2, 232), (232, .iload 6, 234), (234, .istore 3, 235), (235, .iload 7, 237), (237, .istore 4, 239), (239, .aload 0, 240), (240, .invokestatic 214, 243), 
  (243, .iinc 5 1, 246), (246, .goto 74, 249), (249, .sipush 0, 250), (250, .istore 5, 252), (252, .iload 5, 254), (254, .sipush 24, 256), (256, .if_icmp .ge 282, 259), (259, .aload 0, 260), (260, .getfield 645, 263), 
  (263, .sipush 60, 265), (265, .iload 5, 267), (267, .iadd, 268), (268, .aload 0, 269), (269, .getfield 660, 272), (272, .iload 5, 274), (274, .iaload, 275), (275, .iastore, 276), (276, .iinc 5 1, 279), (279, .goto 252, 282), 
  (282, .iload 2, 283), (283, .ireturn, 284)]
def k_X10_hasOpen : Nat := 219
def T_X10_hasOpen : TB := [(0, .sipush 0, 1), (1, .istore 2, 2), (2, .sipush 0, 3), (3, .istore 3, 4), (4, .iload 3, 5), (5, .aload 0, 6), (6, .getfield 648, 9), (9, .sipush 2, 10), (10, .iaload, 11), (11, .if_icmp .ge 59, 14), (14, .iload 2, 15), 
  (15, .ifCond .ne 47, 18), (18, .aload 0, 19), (19, .iload 3, 20), (20, .sipush 3, 21), (21, .invokestatic 185, 24), (24, .ifCond .le 51, 27), (27, .aload 0, 28), (28, .iload 3, 29), (29, .sipush 0, 30), (30, .invokestatic 185, 33), 
  (33, .iload 1, 34), (34, .if_icmp .eq 47, 37), (37, .aload 0, 38), (38, .iload 3, 39), (39, .sipush 1, 40), (40, .invokestatic 185, 43), (43, .iload 1, 44), (44, .if_icmp .ne 51, 47), (47, .sipush 1, 48), (48, .goto 52, 51), 
  (51, .sipush 0, 52), (52, .istore 2, 53), (53, .iinc 3 1, 56), (56, .goto 4, 59), (59, .iload 2, 60), (60, .ireturn, 61)]
def k_X10_payments : Nat := 220
def T_X10_payments : TB := [(0, .aload 0, 1), (1, .getfield 645, 4), (4, .sipush 1, 5), (5, .iaload, 6), (6, .istore 1, 7), (7, .sipush 0, 8), (8, .istore 2, 9), (9, .iload 2, 10), (10, .sipush 1, 11), (11, .iload 1, 12), (12, .ishl, 13), 
  (13, .if_icmp .ge 36, 16), (16, .aload 0, 17), (17, .getfield 661, 20), (20, .iload 2, 21), (21, .sipush 0, 22), (22, .iastore, 23), (23, .aload 0, 24), (24, .getfield 662, 27), (27, .iload 2, 28), (28, .sipush 0, 29), 
  (29, .iastore, 30), (30, .iinc 2 1, 33), (33, .goto 9, 36), (36, .sipush 0, 37), (37, .istore 2, 38), (38, .iload 2, 39), (39, .iload 1, 40), (40, .if_icmp .ge 97, 43), (43, .aload 0, 44), (44, .iload 2, 45), 
  (45, .invokestatic 191, 48), (48, .istore 3, 49), (49, .sipush 0, 50), (50, .istore 4, 52), (52, .iload 4, 54), (54, .sipush 1, 55), (55, .iload 1, 56), (56, .ishl, 57), (57, .if_icmp .ge 91, 60), (60, .aload 0, 61), 
  (61, .getfield 661, 64), (64, .iload 4, 66), (66, .dup2, 67), (67, .iaload, 68), (68, .iload 4, 70), (70, .iload 2, 71), (71, .ishr, 72), (72, .sipush 1, 73), (73, .iand, 74), (74, .sipush 1, 75), (75, .if_icmp .ne 82, 78), 
  (78, .iload 3, 79), (79, .goto 83, 82), (82, .sipush 0, 83), (83, .iadd, 84), (84, .iastore, 85), (85, .iinc 4 1, 88), (88, .goto 52, 91), (91, .iinc 2 1, 94), (94, .goto 38, 97), (97, .sipush 1, 98), (98, .istore 2, 99), 
  (99, .iload 2, 100), (100, .sipush 1, 101), (101, .iload 1, 102), (102, .ishl, 103), (103, .if_icmp .ge 187, 106), (106, .sipush 0, 107), (107, .istore 3, 108), (108, .sipush 0, 109), (109, .istore 4, 111), (111, .iload 4, 113), 
  (113, .iload 1, 114), (114, .if_icmp .ge 159, 117), (117, .iload 2, 118), (118, .iload 4, 120), (120, .ishr, 121), (121, .sipush 1, 122), (122, .iand, 123), (123, .sipush 1, 124), (124, .if_icmp .ne 153, 127), (127, .aload 0, 128), 
  (128, .getfield 662, 131), (131, .iload 2, 132), (132, .sipush 1, 133), (133, .iload 4, 135), (135, .ishl, 136), (136, .isub, 137), (137, .iaload, 138), (138, .istore 5, 140), (140, .iload 5, 142), (142, .iload 3, 143), 
  (143, .if_icmp .le 151, 146), (146, .iload 5, 148), (148, .goto 152, 151), (151, .iload 3, 152), (152, .istore 3, 153), (153, .iinc 4 1, 156), (156, .goto 111, 159), (159, .aload 0, 160), (160, .getfield 662, 163), 
  (163, .iload 2, 164), (164, .iload 3, 165), (165, .aload 0, 166), (166, .getfield 661, 169), (169, .iload 2, 170), (170, .iaload, 171), (171, .ifCond .ne 178, 174), (174, .sipush 1, 175), (175, .goto 179, 178), 
  (178, .sipush 0, 179), (179, .iadd, 180), (180, .iastore, 181), (181, .iinc 2 1, 184), (184, .goto 99, 187), (187, .iload 1, 188), (188, .aload 0, 189), (189, .getfield 662, 192), (192, .sipush 1, 193), (193, .iload 1, 194), 
  (194, .ishl, 195), (195, .sipush 1, 196), (196, .isub, 197), (197, .iaload, 198), (198, .isub, 199), (199, .ireturn, 200)]
def k_X10_net : Nat := 221
def T_X10_net : TB := [(0, .aload 0, 1), (1, .sipush 0, 2), (2, .putfield 640, 5), (5, .iload 1, 6), (6, .i2l, 7), (7, .ldc2_w 0, 8), (8, .ldc2_w 2, 11), (11, .invokestatic 155, 14), (14, .ifCond .ne 20, 17), (17, .sipush (-1000001), 19), 
  (19, .ireturn, 20), (20, .aload 0, 21), (21, .getfield 647, 24), (24, .ifCond .ne 30, 27), (27, .sipush (-1000002), 29), (29, .ireturn, 30), (30, .sipush 0, 31), (31, .istore 2, 32), (32, .sipush 0, 33), (33, .istore 3, 34), 
  (34, .sipush 0, 35), (35, .istore 4, 37), (37, .iload 4, 39), (39, .aload 0, 40), (40, .getfield 645, 43), (43, .sipush 1, 44), (44, .iaload, 45), (45, .if_icmp .ge 101, 48), (48, .aload 0, 49), (49, .iload 4, 51), 
  (51, .invokestatic 191, 54), (54, .istore 5, 56), (56, .iload 2, 57), (57, .iload 5, 59), (59, .ifCond .le 67, 62), (62, .iload 5, 64), (64, .goto 68, 67), (67, .sipush 0, 68), (68, .iadd, 69), (69, .istore 2, 70), 
  (70, .iload 3, 71), (71, .iload 5, 73), (73, .ifCond .ne 92, 76), (76, .aload 0, 77), (77, .iload 4, 79), (79, .invokestatic 219, 82), (82, .ifCond .eq 92, 85), (85, .sipush 1, 86), (86, .iload 4, 88), (88, .ishl, 89), 
  (89, .goto 93, 92), (92, .sipush 0, 93), (93, .ior, 94), (94, .istore 3, 95), (95, .iinc 4 1, 98), (98, .goto 37, 101), (101, .iload 1, 102), (102, .ifCond .ne 109, 105), (105, .iload 2, 106), (106, .goto 122, 109), 
  (109, .iload 1, 110), (110, .sipush 1, 111), (111, .if_icmp .ne 118, 114), (114, .iload 3, 115), (115, .goto 122, 118), (118, .aload 0, 119), (119, .invokestatic 220, 122), (122, .ireturn, 123)]
def k_X10_against : Nat := 222
def T_X10_against : TB := [(0, .sipush 0, 1), (1, .istore 3, 2), (2, .sipush 0, 3), (3, .istore 4, 5), (5, .iload 4, 7), (7, .aload 0, 8), (8, .getfield 648, 11), (11, .sipush 2, 12), (12, .iaload, 13), (13, .if_icmp .ge 49, 16), (16, .iload 3, 17), 
  (17, .aload 0, 18), (18, .iload 4, 20), (20, .iload 1, 21), (21, .aload 0, 22), (22, .iload 1, 23), (23, .invokestatic 184, 26), (26, .iload 2, 27), (27, .invokestatic 205, 30), (30, .ifCond .ne 40, 33), (33, .sipush 1, 34), 
  (34, .iload 4, 36), (36, .ishl, 37), (37, .goto 41, 40), (40, .sipush 0, 41), (41, .ior, 42), (42, .istore 3, 43), (43, .iinc 4 1, 46), (46, .goto 5, 49), (49, .iload 3, 50), (50, .ireturn, 51)]
def k_X10_isRoad : Nat := 223
def T_X10_isRoad : TB := [(0, .aload 0, 1), (1, .getfield 645, 4), (4, .sipush 24, 6), (6, .sipush 6, 8), (8, .iload 1, 9), (9, .imul, 10), (10, .iadd, 11), (11, .iload 2, 12), (12, .iadd, 13), (13, .iaload, 14), (14, .sipush 1, 15), 
  (15, .if_icmp .ne 22, 18), (18, .sipush 1, 19), (19, .goto 23, 22), (22, .sipush 0, 23), (23, .ireturn, 24)]
def k_X10_way : Nat := 224
def T_X10_way : TB := [(0, .aload 0, 1), (1, .sipush 0, 2), (2, .putfield 640, 5), (5, .aload 0, 6), (6, .iload 1, 7), (7, .invokestatic 182, 10), (10, .ifCond .eq 21, 13), (13, .aload 0, 14), (14, .iload 2, 15), (15, .invokestatic 181, 18), 
  (18, .ifCond .ne 24, 21), (21, .sipush (-1000001), 23), (23, .ireturn, 24), (24, .sipush 1, 25), (25, .aload 0, 26), (26, .getfield 648, 29), (29, .sipush 3, 30), (30, .iload 1, 31), (31, .iadd, 32), (32, .iaload, 33), 
  (33, .ishl, 34), (34, .istore 3, 35), (35, .sipush 0, 36), (36, .istore 4, 38), (38, .iload 4, 40), (40, .sipush 6, 42), (42, .if_icmp .ge 155, 45), (45, .iload 3, 46), (46, .iload 2, 47), (47, .ishr, 48), (48, .sipush 1, 49), 
  (49, .iand, 50), (50, .sipush 1, 51), (51, .if_icmp .ne 57, 54), (54, .iload 4, 56), (56, .ireturn, 57), (57, .sipush 0, 58), (58, .istore 5, 60), (60, .sipush 0, 61), (61, .istore 6, 63), (63, .iload 6, 65), (65, .aload 0, 66), 
  (66, .getfield 645, 69), (69, .sipush 0, 70), (70, .iaload, 71), (71, .if_icmp .ge 144, 74), (74, .sipush 0, 75), (75, .istore 7, 77), (77, .iload 7, 79), (79, .aload 0, 80), (80, .getfield 645, 83), (83, .sipush 0, 84), 
  (84, .iaload, 85), (85, .if_icmp .ge 138, 88), (88, .iload 5, 90), (90, .iload 3, 91), (91, .iload 6, 93), (93, .ishr, 94), (94, .sipush 1, 95), (95, .iand, 96), (96, .sipush 1, 97), (97, .if_icmp .ne 128, 100), 
  (100, .aload 0, 101), (101, .iload 6, 103), (103, .iload 7, 105), (105, .invokestatic 223, 108), (108, .ifCond .eq 128, 111), (111, .aload 0, 112), (112, .iload 1, 113), (113, .iload 7, 115), (115, .invokestatic 222, 118), 
  (118, .ifCond .ne 128, 121), (121, .sipush 1, 122), (122, .iload 7, 124), (124, .ishl, 125), (125, .goto 129, 128), (128, .sipush 0, 129), (129, .ior, 130), (130, .istore 5, 132), (132, .iinc 7 1, 135), (135, .goto 77, 138), 
  (138, .iinc 6 1, 141), (141, .goto 63, 144), (144, .iload 3, 145), (145, .iload 5, 147), (147, .ior, 148), (148, .istore 3, 149), (149, .iinc 4 1, 152), (152, .goto 38, 155), (155, .sipush (-1000000), 157), (157, .ireturn, 158)]
def k_X10_bits : Nat := 225
def T_X10_bits : TB := [(0, .sipush 0, 1), (1, .istore 1, 2), (2, .iload 0, 3), (3, .istore 2, 4), (4, .iload 2, 5), (5, .ifCond .eq 20, 8), (8, .iinc 1 1, 11), (11, .iload 2, 12), (12, .iload 2, 13), (13, .sipush 1, 14), (14, .isub, 15), (15, .iand, 16), 
  (16, .istore 2, 17), (17, .goto 4, 20), (20, .iload 1, 21), (21, .ireturn, 22)]
def k_X10_opened : Nat := 226
def T_X10_opened : TB := [(0, .aload 0, 1), (1, .sipush 0, 2), (2, .putfield 640, 5), (5, .aload 0, 6), (6, .iload 1, 7), (7, .invokestatic 182, 10), (10, .ifCond .eq 21, 13), (13, .aload 0, 14), (14, .iload 2, 15), (15, .invokestatic 181, 18), 
  (18, .ifCond .ne 24, 21), (21, .sipush (-1000001), 23), (23, .ireturn, 24), (24, .sipush 0, 25), (25, .istore 3, 26), (26, .iload 3, 27), (27, .aload 0, 28), (28, .getfield 645, 31), (31, .sipush 0, 32), (32, .iaload, 33), 
  (33, .if_icmp .ge 54, 36), (36, .aload 0, 37), (37, .getfield 665, 40), (40, .iload 3, 41), (41, .aload 0, 42), (42, .iload 1, 43), (43, .iload 3, 44), (44, .invokestatic 222, 47), (47, .iastore, 48), (48, .iinc 3 1, 51), 
  (51, .goto 26, 54), (54, .sipush (-1000000), 56), (56, .istore 3, 57), (57, .sipush 1, 58), (58, .istore 4, 60), (60, .sipush 1, 61), (61, .aload 0, 62), (62, .getfield 648, 65), (65, .sipush 3, 66), (66, .iload 1, 67), 
  (67, .iadd, 68), (68, .iaload, 69), (69, .ishl, 70), (70, .istore 5, 72), (72, .aload 0, 73), (73, .getfield 663, 76), (76, .sipush 0, 77), (77, .aload 0, 78), (78, .getfield 648, 81), (81, .sipush 3, 82), (82, .iload 1, 83), 
  (83, .iadd, 84), (84, .iaload, 85), (85, .iastore, 86), (86, .aload 0, 87), (87, .getfield 664, 90), (90, .sipush 0, 91), (91, .sipush 0, 92), (92, .iastore, 93), (93, .aload 0, 94), (94, .getfield 663, 97), (97, .sipush 1, 98), 
  (98, .sipush (-1), 99), (99, .iastore, 100), (100, .iload 2, 101), (101, .aload 0, 102), (102, .getfield 663, 105), (105, .sipush 0, 106), (106, .iaload, 107), (107, .if_icmp .ne 112, 110), (110, .sipush 0, 111), 
  (111, .ireturn, 112), (112, .iload 4, 114), (114, .ifCond .le 344, 117), (117, .aload 0, 118), (118, .getfield 663, 121), (121, .iload 4, 123), (123, .iaload, 124), (124, .istore 6, 126), (126, .iload 5, 128), (128, .iload 6, 130), 
  (130, .ifCond .ge 137, 133), (133, .sipush (-1), 134), (134, .goto 143, 137), (137, .sipush 1, 138), (138, .iload 6, 140), (140, .ishl, 141), (141, .sipush (-1), 142), (142, .ixor, 143), (143, .iand, 144), (144, .istore 5, 146), 
  (146, .iinc 6 1, 149), (149, .iload 6, 151), (151, .aload 0, 152), (152, .getfield 645, 155), (155, .sipush 0, 156), (156, .iaload, 157), (157, .if_icmp .ge 195, 160), (160, .iload 5, 162), (162, .iload 6, 164), (164, .ishr, 165), 
  (165, .sipush 1, 166), (166, .iand, 167), (167, .sipush 1, 168), (168, .if_icmp .eq 189, 171), (171, .aload 0, 172), (172, .aload 0, 173), (173, .getfield 663, 176), (176, .iload 4, 178), (178, .sipush 1, 179), (179, .isub, 180), 
  (180, .iaload, 181), (181, .iload 6, 183), (183, .invokestatic 223, 186), (186, .ifCond .ne 195, 189), (189, .iinc 6 1, 192), (192, .goto 149, 195), (195, .aload 0, 196), (196, .getfield 663, 199), (199, .iload 4, 201), 
  (201, .iload 6, 203), (203, .iastore, 204), (204, .iload 6, 206), (206, .aload 0, 207), (207, .getfield 645, 210), (210, .sipush 0, 211), (211, .iaload, 212), (212, .if_icmp .lt 229, 215), (215, .aload 0, 216), 
  (216, .getfield 663, 219), (219, .iload 4, 221), (221, .sipush (-1), 222), (222, .iastore, 223), (223, .iinc 4 (-1), 226), (226, .goto 341, 229), (229, .iload 5, 231), (231, .sipush 1, 232), (232, .iload 6, 234), (234, .ishl, 235), 
  (235, .ior, 236), (236, .istore 5, 238), (238, .aload 0, 239), (239, .getfield 664, 242), (242, .iload 4, 244), (244, .aload 0, 245), (245, .getfield 664, 248), (248, .iload 4, 250), (250, .sipush 1, 251), (251, .isub, 252), 
  (252, .iaload, 253), (253, .aload 0, 254), (254, .getfield 665, 257), (257, .iload 6, 259), (259, .iaload, 260), (260, .ior, 261), (261, .iastore, 262), (262, .iload 6, 264), (264, .iload 2, 265), (265, .if_icmp .eq 282, 268), 
  (268, .iinc 4 1, 271), (271, .aload 0, 272), (272, .getfield 663, 275), (275, .iload 4, 277), (277, .sipush (-1), 278), (278, .iastore, 279), (279, .goto 341, 282), (282, .iload 3, 283), (283, .sipush (-1000000), 285), 
  (285, .if_icmp .eq 333, 288), (288, .aload 0, 289), (289, .getfield 664, 292), (292, .iload 4, 294), (294, .iaload, 295), (295, .invokestatic 225, 298), (298, .iload 3, 299), (299, .invokestatic 225, 302), 
  (302, .if_icmp .lt 333, 305), (305, .aload 0, 306), (306, .getfield 664, 309), (309, .iload 4, 311), (311, .iaload, 312), (312, .invokestatic 225, 315), (315, .iload 3, 316), (316, .invokestatic 225, 319), 
  (319, .if_icmp .ne 341, 322), (322, .aload 0, 323), (323, .getfield 664, 326), (326, .iload 4, 328), (328, .iaload, 329), (329, .iload 3, 330), (330, .if_icmp .ge 341, 333), (333, .aload 0, 334), (334, .getfield 664, 337), 
  (337, .iload 4, 339), (339, .iaload, 340), (340, .istore 3, 341), (341, .goto 112, 344), (344, .iload 3, 345), (345, .ireturn, 346)]
def k_X10_isShut : Nat := 227
def T_X10_isShut : TB := [(0, .sipush 0, 1), (1, .istore 3, 2), (2, .sipush 0, 3), (3, .istore 4, 5), (5, .iload 4, 7), (7, .aload 0, 8), (8, .getfield 648, 11), (11, .sipush 2, 12), (12, .iaload, 13), (13, .if_icmp .ge 45, 16), (16, .iload 3, 17), 
  (17, .ifCond .ne 33, 20), (20, .aload 0, 21), (21, .iload 4, 23), (23, .sipush (-1000000), 25), (25, .iload 1, 26), (26, .iload 2, 27), (27, .invokestatic 205, 30), (30, .ifCond .ne 37, 33), (33, .sipush 1, 34), (34, .goto 38, 37), 
  (37, .sipush 0, 38), (38, .istore 3, 39), (39, .iinc 4 1, 42), (42, .goto 5, 45), (45, .iload 3, 46), (46, .ireturn, 47)]
def k_X10_shut : Nat := 228
def T_X10_shut : TB := [(0, .aload 0, 1), (1, .sipush 0, 2), (2, .putfield 640, 5), (5, .aload 0, 6), (6, .iload 1, 7), (7, .invokestatic 181, 10), (10, .ifCond .eq 26, 13), (13, .aload 0, 14), (14, .iload 2, 15), (15, .invokestatic 181, 18), 
  (18, .ifCond .eq 26, 21), (21, .iload 1, 22), (22, .iload 2, 23), (23, .if_icmp .ne 31, 26), (26, .sipush (-1000001), 28), (28, .goto 45, 31), (31, .aload 0, 32), (32, .iload 1, 33), (33, .iload 2, 34), (34, .invokestatic 227, 37), 
  (37, .ifCond .eq 44, 40), (40, .sipush 1, 41), (41, .goto 45, 44), (44, .sipush 0, 45), (45, .ireturn, 46)]
def k_X10_dead : Nat := 229
def T_X10_dead : TB := [(0, .aload 0, 1), (1, .sipush 0, 2), (2, .putfield 640, 5), (5, .aload 0, 6), (6, .getfield 647, 9), (9, .ifCond .ne 15, 12), (12, .sipush (-1000002), 14), (14, .ireturn, 15), (15, .sipush 0, 16), (16, .istore 1, 17), 
  (17, .sipush 0, 18), (18, .istore 2, 19), (19, .iload 2, 20), (20, .aload 0, 21), (21, .getfield 645, 24), (24, .sipush 0, 25), (25, .iaload, 26), (26, .if_icmp .ge 81, 29), (29, .iload 2, 30), (30, .sipush 1, 31), (31, .iadd, 32), 
  (32, .istore 3, 33), (33, .iload 3, 34), (34, .aload 0, 35), (35, .getfield 645, 38), (38, .sipush 0, 39), (39, .iaload, 40), (40, .if_icmp .ge 75, 43), (43, .iload 1, 44), (44, .aload 0, 45), (45, .iload 2, 46), 
  (46, .iload 3, 47), (47, .invokestatic 227, 50), (50, .ifCond .ne 62, 53), (53, .aload 0, 54), (54, .iload 3, 55), (55, .iload 2, 56), (56, .invokestatic 227, 59), (59, .ifCond .eq 66, 62), (62, .sipush 1, 63), (63, .goto 67, 66), 
  (66, .sipush 0, 67), (67, .iadd, 68), (68, .istore 1, 69), (69, .iinc 3 1, 72), (72, .goto 33, 75), (75, .iinc 2 1, 78), (78, .goto 19, 81), (81, .iload 1, 82), (82, .ireturn, 83)]
def k_X10_layBetween : Nat := 230
def T_X10_layBetween : TB := [(0, .sipush 0, 1), (1, .istore 1, 2), (2, .iload 1, 3), (3, .sipush 36, 5), (5, .if_icmp .ge 21, 8), (8, .aload 0, 9), (9, .getfield 666, 12), (12, .iload 1, 13), (13, .sipush 0, 14), (14, .iastore, 15), (15, .iinc 1 1, 18), 
  (18, .goto 2, 21), (21, .sipush 0, 22), (22, .istore 1, 23), (23, .iload 1, 24), (24, .aload 0, 25), (25, .getfield 648, 28), (28, .sipush 2, 29), (29, .iaload, 30), (30, .if_icmp .ge 90, 33), (33, .aload 0, 34), 
  (34, .aload 0, 35), (35, .iload 1, 36), (36, .sipush 0, 37), (37, .invokestatic 185, 40), (40, .invokestatic 184, 43), (43, .istore 2, 44), (44, .aload 0, 45), (45, .aload 0, 46), (46, .iload 1, 47), (47, .sipush 1, 48), 
  (48, .invokestatic 185, 51), (51, .invokestatic 184, 54), (54, .istore 3, 55), (55, .aload 0, 56), (56, .getfield 666, 59), (59, .sipush 6, 61), (61, .iload 2, 62), (62, .imul, 63), (63, .iload 3, 64), (64, .iadd, 65), 
  (65, .dup2, 66), (66, .iaload, 67), (67, .iload 2, 68), (68, .iload 3, 69), (69, .if_icmp .ne 76, 72), (72, .sipush 0, 73), (73, .goto 82, 76), (76, .aload 0, 77), (77, .iload 1, 78), (78, .sipush 3, 79), 
  (79, .invokestatic 185, 82), (82, .iadd, 83), (83, .iastore, 84), (84, .iinc 1 1, 87), (87, .goto 23, 90), (90, .return_, 91)]
def k_X10_owesOf : Nat := 231
def T_X10_owesOf : TB := [(0, .sipush 0, 1), (1, .istore 2, 2), (2, .sipush 0, 3), (3, .istore 3, 4), (4, .iload 3, 5), (5, .sipush 6, 7), (7, .if_icmp .ge 30, 10), (10, .iload 2, 11), (11, .aload 0, 12), (12, .getfield 666, 15), (15, .sipush 6, 17), 
  (17, .iload 3, 18), (18, .imul, 19), (19, .iload 1, 20), (20, .iadd, 21), (21, .iaload, 22), (22, .iadd, 23), (23, .istore 2, 24), (24, .iinc 3 1, 27), (27, .goto 4, 30), (30, .iload 2, 31), (31, .ireturn, 32)]
def k_X10_owes : Nat := 232
def T_X10_owes : TB := [(0, .aload 0, 1), (1, .sipush 0, 2), (2, .putfield 640, 5), (5, .aload 0, 6), (6, .iload 1, 7), (7, .invokestatic 181, 10), (10, .ifCond .ne 16, 13), (13, .sipush (-1000001), 15), (15, .ireturn, 16), (16, .aload 0, 17), 
  (17, .invokestatic 230, 20), (20, .aload 0, 21), (21, .iload 1, 22), (22, .invokestatic 231, 25), (25, .ireturn, 26)]
def k_X10_hasOf : Nat := 233
def T_X10_hasOf : TB := [(0, .sipush 0, 1), (1, .istore 2, 2), (2, .aload 0, 3), (3, .getfield 667, 6), (6, .iload 1, 7), (7, .iaload, 8), (8, .ifCond .ne 19, 11), (11, .aload 0, 12), (12, .iload 1, 13), (13, .invokestatic 231, 16), (16, .goto 43, 19), 
  (19, .aload 0, 20), (20, .getfield 667, 23), (23, .iload 1, 24), (24, .iaload, 25), (25, .sipush 1, 26), (26, .if_icmp .ne 42, 29), (29, .aload 0, 30), (30, .iload 1, 31), (31, .invokestatic 231, 34), (34, .sipush 2, 35), 
  (35, .idiv, 36), (36, .sipush 10, 38), (38, .iadd, 39), (39, .goto 43, 42), (42, .sipush 0, 43), (43, .istore 3, 44), (44, .sipush 0, 45), (45, .istore 4, 47), (47, .iload 4, 49), (49, .aload 0, 50), (50, .getfield 645, 53), 
  (53, .sipush 0, 54), (54, .iaload, 55), (55, .if_icmp .ge 174, 58), (58, .iload 2, 59), (59, .aload 0, 60), (60, .getfield 667, 63), (63, .iload 4, 65), (65, .iaload, 66), (66, .sipush 2, 67), (67, .if_icmp .ne 74, 70), 
  (70, .sipush 0, 71), (71, .goto 86, 74), (74, .aload 0, 75), (75, .getfield 666, 78), (78, .sipush 6, 80), (80, .iload 1, 81), (81, .imul, 82), (82, .iload 4, 84), (84, .iadd, 85), (85, .iaload, 86), (86, .iadd, 87), 
  (87, .istore 2, 88), (88, .aload 0, 89), (89, .getfield 667, 92), (92, .iload 1, 93), (93, .iaload, 94), (94, .sipush 2, 95), (95, .if_icmp .ne 117, 98), (98, .aload 0, 99), (99, .getfield 666, 102), (102, .sipush 6, 104), 
  (104, .iload 4, 106), (106, .imul, 107), (107, .iload 1, 108), (108, .iadd, 109), (109, .iaload, 110), (110, .ifCond .le 117, 113), (113, .sipush 1, 114), (114, .goto 118, 117), (117, .sipush 0, 118), (118, .istore 5, 120), 
  (120, .iload 3, 121), (121, .iload 5, 123), (123, .ifCond .ne 130, 126), (126, .sipush 0, 127), (127, .goto 166, 130), (130, .aload 0, 131), (131, .getfield 667, 134), (134, .iload 4, 136), (136, .iaload, 137), 
  (137, .sipush 2, 138), (138, .if_icmp .ne 156, 141), (141, .aload 0, 142), (142, .getfield 645, 145), (145, .sipush 6, 147), (147, .iload 4, 149), (149, .iadd, 150), (150, .iaload, 151), (151, .sipush 2, 152), (152, .idiv, 153), 
  (153, .goto 166, 156), (156, .aload 0, 157), (157, .getfield 645, 160), (160, .sipush 6, 162), (162, .iload 4, 164), (164, .iadd, 165), (165, .iaload, 166), (166, .iadd, 167), (167, .istore 3, 168), (168, .iinc 4 1, 171), 
  (171, .goto 47, 174), (174, .iload 2, 175), (175, .iload 3, 176), (176, .isub, 177), (177, .ireturn, 178)]
def k_X10_allChoices : Nat := 234
def T_X10_allChoices : TB := [(0, .sipush 1, 1), (1, .istore 1, 2), (2, .sipush 0, 3), (3, .istore 2, 4), (4, .iload 2, 5), (5, .aload 0, 6), (6, .getfield 645, 9), (9, .sipush 0, 10), (10, .iaload, 11), (11, .if_icmp .ge 24, 14), (14, .iload 1, 15), 
  (15, .sipush 3, 16), (16, .imul, 17), (17, .istore 1, 18), (18, .iinc 2 1, 21), (21, .goto 4, 24), (24, .iload 1, 25), (25, .ireturn, 26)]
def k_X10_layChoices : Nat := 235
def T_X10_layChoices : TB := [(0, .iload 1, 1), (1, .istore 2, 2), (2, .sipush 0, 3), (3, .istore 3, 4), (4, .iload 3, 5), (5, .sipush 6, 7), (7, .if_icmp .ge 29, 10), (10, .aload 0, 11), (11, .getfield 667, 14), (14, .iload 3, 15), (15, .iload 2, 16), 
  (16, .sipush 3, 17), (17, .irem, 18), (18, .iastore, 19), (19, .iload 2, 20), (20, .sipush 3, 21), (21, .idiv, 22), (22, .istore 2, 23), (23, .iinc 3 1, 26), (26, .goto 4, 29), (29, .return_, 30)]
def k_X10_isAtRest : Nat := 236
def T_X10_isAtRest : TB := [(0, .aload 0, 1), (1, .iload 1, 2), (2, .invokestatic 235, 5), (5, .sipush 1, 6), (6, .istore 2, 7), (7, .sipush 0, 8), (8, .istore 3, 9), (9, .iload 3, 10), (10, .aload 0, 11), (11, .getfield 645, 14), (14, .sipush 0, 15), 
  (15, .iaload, 16), (16, .if_icmp .ge 91, 19), (19, .aload 0, 20), (20, .getfield 667, 23), (23, .iload 3, 24), (24, .iaload, 25), (25, .istore 4, 27), (27, .aload 0, 28), (28, .iload 3, 29), (29, .invokestatic 233, 32), 
  (32, .istore 5, 34), (34, .sipush 0, 35), (35, .istore 6, 37), (37, .iload 6, 39), (39, .sipush 3, 40), (40, .if_icmp .ge 77, 43), (43, .aload 0, 44), (44, .getfield 667, 47), (47, .iload 3, 48), (48, .iload 6, 50), 
  (50, .iastore, 51), (51, .iload 2, 52), (52, .ifCond .eq 69, 55), (55, .aload 0, 56), (56, .iload 3, 57), (57, .invokestatic 233, 60), (60, .iload 5, 62), (62, .if_icmp .gt 69, 65), (65, .sipush 1, 66), (66, .goto 70, 69), 
  (69, .sipush 0, 70), (70, .istore 2, 71), (71, .iinc 6 1, 74), (74, .goto 37, 77), (77, .aload 0, 78), (78, .getfield 667, 81), (81, .iload 3, 82), (82, .iload 4, 84), (84, .iastore, 85), (85, .iinc 3 1, 88), (88, .goto 9, 91), 
  (91, .iload 2, 92), (92, .ireturn, 93)]
def k_X10_rest : Nat := 237
def T_X10_rest : TB := [(0, .aload 0, 1), (1, .sipush 0, 2), (2, .putfield 640, 5), (5, .iload 1, 6), (6, .sipush (-1), 7), (7, .if_icmp .ge 13, 10), (10, .sipush (-1000001), 12), (12, .ireturn, 13), (13, .aload 0, 14), (14, .getfield 647, 17), 
  (17, .ifCond .ne 23, 20), (20, .sipush (-1000002), 22), (22, .ireturn, 23), (23, .aload 0, 24), (24, .invokestatic 230, 27), (27, .sipush 0, 28), (28, .istore 2, 29), (29, .sipush (-1000000), 31), (31, .istore 3, 32), 
  (32, .sipush 0, 33), (33, .istore 4, 35), (35, .iload 4, 37), (37, .aload 0, 38), (38, .invokestatic 234, 41), (41, .if_icmp .ge 74, 44), (44, .aload 0, 45), (45, .iload 4, 47), (47, .invokestatic 236, 50), 
  (50, .ifCond .eq 68, 53), (53, .iload 2, 54), (54, .iload 1, 55), (55, .if_icmp .ne 63, 58), (58, .iload 4, 60), (60, .goto 64, 63), (63, .iload 3, 64), (64, .istore 3, 65), (65, .iinc 2 1, 68), (68, .iinc 4 1, 71), 
  (71, .goto 35, 74), (74, .iload 1, 75), (75, .sipush (-1), 76), (76, .if_icmp .ne 83, 79), (79, .iload 2, 80), (80, .goto 84, 83), (83, .iload 3, 84), (84, .ireturn, 85)]
def k_X10_has : Nat := 238
def T_X10_has : TB := [(0, .aload 0, 1), (1, .sipush 0, 2), (2, .putfield 640, 5), (5, .aload 0, 6), (6, .iload 1, 7), (7, .invokestatic 181, 10), (10, .ifCond .eq 29, 13), (13, .iload 2, 14), (14, .i2l, 15), (15, .ldc2_w 0, 16), (16, .aload 0, 17), 
  (17, .invokestatic 234, 20), (20, .sipush 1, 21), (21, .isub, 22), (22, .i2l, 23), (23, .invokestatic 155, 26), (26, .ifCond .ne 32, 29), (29, .sipush (-1000001), 31), (31, .ireturn, 32), (32, .aload 0, 33), 
  (33, .invokestatic 230, 36), (36, .aload 0, 37), (37, .iload 2, 38), (38, .invokestatic 235, 41), (41, .aload 0, 42), (42, .iload 1, 43), (43, .invokestatic 233, 46), (46, .ireturn, 47)]
def k_X10_bears : Nat := 239
def T_X10_bears : TB := [(0, .aload 0, 1), (1, .getfield 666, 4), (4, .sipush 6, 6), (6, .iload 1, 7), (7, .imul, 8), (8, .iload 2, 9), (9, .iadd, 10), (10, .iaload, 11), (11, .sipush 100, 13), (13, .iload 3, 14), (14, .isub, 15), (15, .imul, 16), 
  (16, .aload 0, 17), (17, .getfield 645, 20), (20, .sipush 6, 22), (22, .iload 2, 23), (23, .iadd, 24), (24, .iaload, 25), (25, .iload 3, 26), (26, .imul, 27), (27, .if_icmp .gt 34, 30), (30, .sipush 1, 31), (31, .goto 35, 34), 
  (34, .sipush 0, 35), (35, .ireturn, 36)]
def k_X10_holds : Nat := 240
def T_X10_holds : TB := [(0, .aload 0, 1), (1, .sipush 0, 2), (2, .putfield 640, 5), (5, .aload 0, 6), (6, .iload 1, 7), (7, .invokestatic 181, 10), (10, .ifCond .eq 38, 13), (13, .aload 0, 14), (14, .iload 2, 15), (15, .invokestatic 181, 18), 
  (18, .ifCond .eq 38, 21), (21, .iload 1, 22), (22, .iload 2, 23), (23, .if_icmp .eq 38, 26), (26, .iload 3, 27), (27, .i2l, 28), (28, .ldc2_w 0, 29), (29, .ldc2_w 99, 32), (32, .invokestatic 155, 35), (35, .ifCond .ne 41, 38), 
  (38, .sipush (-1000001), 40), (40, .ireturn, 41), (41, .aload 0, 42), (42, .invokestatic 230, 45), (45, .aload 0, 46), (46, .iload 1, 47), (47, .iload 2, 48), (48, .iload 3, 49), (49, .invokestatic 239, 52), 
  (52, .ifCond .eq 69, 55), (55, .aload 0, 56), (56, .iload 2, 57), (57, .iload 1, 58), (58, .iload 3, 59), (59, .invokestatic 239, 62), (62, .ifCond .eq 69, 65), (65, .sipush 1, 66), (66, .goto 70, 69), (69, .sipush 0, 70), 
  (70, .ireturn, 71)]
def k_X10_image : Nat := 241
def T_X10_image : TB := [(0, .aload 0, 1), (1, .sipush 0, 2), (2, .putfield 640, 5), (5, .iload 1, 6), (6, .i2l, 7), (7, .ldc2_w 0, 8), (8, .ldc2_w 1, 9), (9, .invokestatic 155, 12), (12, .ifCond .ne 18, 15), (15, .sipush (-1000001), 17), 
  (17, .ireturn, 18), (18, .aload 0, 19), (19, .getfield 647, 22), (22, .ifCond .ne 28, 25), (25, .sipush (-1000002), 27), (27, .ireturn, 28), (28, .sipush 0, 29), (29, .istore 2, 30), (30, .iload 2, 31), (31, .sipush 132, 34), 
  (34, .if_icmp .ge 61, 37), (37, .aload 0, 38), (38, .getfield 669, 41), (41, .sipush 132, 44), (44, .iload 1, 45), (45, .imul, 46), (46, .iload 2, 47), (47, .iadd, 48), (48, .aload 0, 49), (49, .getfield 645, 52), 
  (52, .iload 2, 53), (53, .iaload, 54), (54, .iastore, 55), (55, .iinc 2 1, 58), (58, .goto 30, 61), (61, .sipush 0, 62), (62, .istore 2, 63), (63, .iload 2, 64), (64, .sipush 411, 67), (67, .if_icmp .ge 94, 70), (70, .aload 0, 71), 
  (71, .getfield 670, 74), (74, .sipush 411, 77), (77, .iload 1, 78), (78, .imul, 79), (79, .iload 2, 80), (80, .iadd, 81), (81, .aload 0, 82), (82, .getfield 648, 85), (85, .iload 2, 86), (86, .iaload, 87), (87, .iastore, 88), 
  (88, .iinc 2 1, 91), (91, .goto 63, 94), (94, .aload 0, 95), (95, .getfield 668, 98), (98, .iload 1, 99), (99, .sipush 1, 100), (100, .bastore, 101), (101, .sipush 1, 102), (102, .ireturn, 103)]
def k_X10_restore : Nat := 242
def T_X10_restore : TB := [(0, .aload 0, 1), (1, .sipush 0, 2), (2, .putfield 640, 5), (5, .iload 1, 6), (6, .i2l, 7), (7, .ldc2_w 0, 8), (8, .ldc2_w 1, 9), (9, .invokestatic 155, 12), (12, .ifCond .ne 18, 15), (15, .sipush (-1000001), 17), 
  (17, .ireturn, 18), (18, .aload 0, 19), (19, .getfield 668, 22), (22, .iload 1, 23), (23, .baload, 24), (24, .ifCond .ne 30, 27), (27, .sipush (-1000002), 29), (29, .ireturn, 30), (30, .sipush 0, 31), (31, .istore 2, 32), 
  (32, .iload 2, 33), (33, .sipush 132, 36), (36, .if_icmp .ge 63, 39), (39, .aload 0, 40), (40, .getfield 645, 43), (43, .iload 2, 44), (44, .aload 0, 45), (45, .getfield 669, 48), (48, .sipush 132, 51), (51, .iload 1, 52), 
  (52, .imul, 53), (53, .iload 2, 54), (54, .iadd, 55), (55, .iaload, 56), (56, .iastore, 57), (57, .iinc 2 1, 60), (60, .goto 32, 63), (63, .sipush 0, 64), (64, .istore 2, 65), (65, .iload 2, 66), (66, .sipush 411, 69), 
  (69, .if_icmp .ge 96, 72), (72, .aload 0, 73), (73, .getfield 648, 76), (76, .iload 2, 77), (77, .aload 0, 78), (78, .getfield 670, 81), (81, .sipush 411, 84), (84, .iload 1, 85), (85, .imul, 86), (86, .iload 2, 87), 
  (87, .iadd, 88), (88, .iaload, 89), (89, .iastore, 90), (90, .iinc 2 1, 93), (93, .goto 65, 96), (96, .sipush 1, 97), (97, .ireturn, 98)]
def k_X10_kindOf : Nat := 243
def T_X10_kindOf : TB := [(0, .aload 0, 1), (1, .iload 1, 2), (2, .sipush 3, 3), (3, .invokestatic 185, 6), (6, .ifCond .ne 12, 9), (9, .sipush 6, 11), (11, .ireturn, 12), (12, .aload 0, 13), (13, .aload 0, 14), (14, .iload 1, 15), (15, .sipush 0, 16), 
  (16, .invokestatic 185, 19), (19, .invokestatic 184, 22), (22, .istore 2, 23), (23, .aload 0, 24), (24, .iload 2, 25), (25, .aload 0, 26), (26, .aload 0, 27), (27, .iload 1, 28), (28, .sipush 1, 29), (29, .invokestatic 185, 32), 
  (32, .invokestatic 184, 35), (35, .invokestatic 188, 38), (38, .ifCond .eq 43, 41), (41, .sipush 5, 42), (42, .ireturn, 43), (43, .aload 0, 44), (44, .iload 1, 45), (45, .sipush 4, 46), (46, .invokestatic 185, 49), 
  (49, .sipush 1, 50), (50, .if_icmp .ne 55, 53), (53, .sipush 4, 54), (54, .ireturn, 55), (55, .aload 0, 56), (56, .iload 1, 57), (57, .sipush 5, 58), (58, .invokestatic 185, 61), (61, .aload 0, 62), (62, .iload 2, 63), 
  (63, .sipush 0, 64), (64, .invokestatic 187, 67), (67, .if_icmp .ge 74, 70), (70, .sipush 1, 71), (71, .goto 87, 74), (74, .aload 0, 75), (75, .iload 1, 76), (76, .invokestatic 204, 79), (79, .ifCond .eq 86, 82), 
  (82, .sipush 3, 83), (83, .goto 87, 86), (86, .sipush 2, 87), (87, .ireturn, 88)]
def k_X10_isOf : Nat := 244
def T_X10_isOf : TB := [(0, .iload 1, 1), (1, .ifCond .eq 40, 4), (4, .iload 0, 5), (5, .iload 1, 6), (6, .if_icmp .eq 40, 9), (9, .iload 1, 10), (10, .sipush 1, 11), (11, .if_icmp .ne 19, 14), (14, .iload 0, 15), (15, .sipush 4, 16), 
  (16, .if_icmp .eq 40, 19), (19, .iload 1, 20), (20, .sipush 2, 21), (21, .if_icmp .ne 29, 24), (24, .iload 0, 25), (25, .sipush 3, 26), (26, .if_icmp .eq 40, 29), (29, .iload 1, 30), (30, .sipush 5, 31), (31, .if_icmp .ne 44, 34), 
  (34, .iload 0, 35), (35, .sipush 6, 37), (37, .if_icmp .ne 44, 40), (40, .sipush 1, 41), (41, .goto 45, 44), (44, .sipush 0, 45), (45, .ireturn, 46)]
def k_X10_kind : Nat := 245
def T_X10_kind : TB := [(0, .aload 0, 1), (1, .sipush 0, 2), (2, .putfield 640, 5), (5, .aload 0, 6), (6, .iload 1, 7), (7, .invokestatic 183, 10), (10, .ifCond .eq 21, 13), (13, .aload 0, 14), (14, .iload 1, 15), (15, .invokestatic 243, 18), 
  (18, .goto 23, 21), (21, .sipush (-1000001), 23), (23, .ireturn, 24)]
def k_X10_as : Nat := 246
def T_X10_as : TB := [(0, .aload 0, 1), (1, .sipush 0, 2), (2, .putfield 640, 5), (5, .aload 0, 6), (6, .iload 1, 7), (7, .invokestatic 183, 10), (10, .ifCond .eq 25, 13), (13, .iload 2, 14), (14, .i2l, 15), (15, .ldc2_w 0, 16), (16, .ldc2_w 6, 19), 
  (19, .invokestatic 155, 22), (22, .ifCond .ne 28, 25), (25, .sipush (-1000001), 27), (27, .ireturn, 28), (28, .aload 0, 29), (29, .sipush 0, 30), (30, .putfield 641, 33), (33, .aload 0, 34), (34, .iload 1, 35), 
  (35, .invokestatic 243, 38), (38, .iload 2, 39), (39, .invokestatic 244, 42), (42, .ifCond .eq 49, 45), (45, .iload 1, 46), (46, .goto 54, 49), (49, .aload 0, 50), (50, .sipush 3, 51), (51, .invokestatic 156, 54), 
  (54, .ireturn, 55)]
def k_X10_began : Nat := 247
def T_X10_began : TB := [(0, .aload 0, 1), (1, .getfield 672, 4), (4, .sipush 16, 6), (6, .if_icmp .ge 29, 9), (9, .aload 0, 10), (10, .getfield 671, 13), (13, .aload 0, 14), (14, .getfield 672, 17), (17, .iload 1, 18), (18, .iastore, 19), 
  (19, .aload 0, 20), (20, .dup, 21), (21, .getfield 672, 24), (24, .sipush 1, 25), (25, .iadd, 26), (26, .putfield 672, 29), (29, .return_, 30)]
def k_X10_townSize : Nat := 248
def T_X10_townSize : TB := [(0, .iload 2, 1), (1, .sipush 3, 2), (2, .if_icmp .ne 11, 5), (5, .aload 0, 6), (6, .sipush 14, 8), (8, .invokestatic 247, 11), (11, .aload 0, 12), (12, .sipush 13, 14), (14, .invokestatic 247, 17), (17, .aload 0, 18), 
  (18, .sipush 10, 20), (20, .invokestatic 247, 23), (23, .aload 0, 24), (24, .iload 1, 25), (25, .sipush 3, 26), (26, .invokestatic 185, 29), (29, .sipush 1, 30), (30, .aload 0, 31), (31, .iload 1, 32), (32, .sipush 5, 33), 
  (33, .invokestatic 185, 36), (36, .iadd, 37), (37, .imul, 38), (38, .istore 3, 39), (39, .iload 2, 40), (40, .sipush 3, 41), (41, .if_icmp .ne 56, 44), (44, .iload 3, 45), (45, .aload 0, 46), (46, .iload 1, 47), 
  (47, .sipush 7, 49), (49, .invokestatic 185, 52), (52, .iadd, 53), (53, .goto 57, 56), (56, .iload 3, 57), (57, .ireturn, 58)]
def k_X10_ownMark : Nat := 249
def T_X10_ownMark : TB := [(0, .aload 0, 1), (1, .sipush 21, 3), (3, .invokestatic 247, 6), (6, .aload 0, 7), (7, .sipush 20, 9), (9, .invokestatic 247, 12), (12, .iload 1, 13), (13, .sipush 100, 15), (15, .aload 0, 16), (16, .iload 1, 17), 
  (17, .sipush 1, 18), (18, .invokestatic 185, 21), (21, .imul, 22), (22, .iadd, 23), (23, .ireturn, 24)]
def k_X10_sizeOf : Nat := 250
def T_X10_sizeOf : TB := [(0, .iload 2, 1), (1, .sipush 2, 2), (2, .invokestatic 244, 5), (5, .ifCond .eq 15, 8), (8, .aload 0, 9), (9, .iload 1, 10), (10, .iload 2, 11), (11, .invokestatic 248, 14), (14, .ireturn, 15), (15, .iload 2, 16), 
  (16, .sipush 5, 17), (17, .invokestatic 244, 20), (20, .ifCond .eq 43, 23), (23, .aload 0, 24), (24, .sipush 15, 26), (26, .invokestatic 247, 29), (29, .aload 0, 30), (30, .sipush 10, 32), (32, .invokestatic 247, 35), 
  (35, .aload 0, 36), (36, .iload 1, 37), (37, .sipush 3, 38), (38, .invokestatic 185, 41), (41, .ineg, 42), (42, .ireturn, 43), (43, .iload 2, 44), (44, .sipush 4, 45), (45, .if_icmp .ne 54, 48), (48, .aload 0, 49), 
  (49, .sipush 12, 51), (51, .invokestatic 247, 54), (54, .aload 0, 55), (55, .sipush 11, 57), (57, .invokestatic 247, 60), (60, .aload 0, 61), (61, .sipush 10, 63), (63, .invokestatic 247, 66), (66, .aload 0, 67), 
  (67, .iload 1, 68), (68, .sipush 3, 69), (69, .invokestatic 185, 72), (72, .aload 0, 73), (73, .iload 1, 74), (74, .invokestatic 249, 77), (77, .iadd, 78), (78, .istore 3, 79), (79, .iload 2, 80), (80, .sipush 4, 81), 
  (81, .if_icmp .ne 95, 84), (84, .iload 3, 85), (85, .aload 0, 86), (86, .iload 1, 87), (87, .sipush 2, 88), (88, .invokestatic 185, 91), (91, .isub, 92), (92, .goto 96, 95), (95, .iload 3, 96), (96, .ireturn, 97)]
def k_X10_markOf : Nat := 251
def T_X10_markOf : TB := [(0, .iload 2, 1), (1, .sipush 1, 2), (2, .invokestatic 244, 5), (5, .ifCond .eq 14, 8), (8, .aload 0, 9), (9, .iload 1, 10), (10, .invokestatic 249, 13), (13, .ireturn, 14), (14, .iload 2, 15), (15, .sipush 3, 16), 
  (16, .if_icmp .eq 25, 19), (19, .iload 2, 20), (20, .sipush 6, 22), (22, .if_icmp .ne 41, 25), (25, .aload 0, 26), (26, .iload 2, 27), (27, .sipush 3, 28), (28, .if_icmp .ne 36, 31), (31, .sipush 23, 33), (33, .goto 38, 36), 
  (36, .sipush 24, 38), (38, .invokestatic 247, 41), (41, .iload 2, 42), (42, .sipush 2, 43), (43, .invokestatic 244, 46), (46, .ifCond .eq 55, 49), (49, .aload 0, 50), (50, .sipush 22, 52), (52, .invokestatic 247, 55), 
  (55, .aload 0, 56), (56, .sipush 20, 58), (58, .invokestatic 247, 61), (61, .iload 1, 62), (62, .iload 2, 63), (63, .sipush 2, 64), (64, .invokestatic 244, 67), (67, .ifCond .eq 76, 70), (70, .sipush 1000, 73), (73, .goto 77, 76), 
  (76, .sipush 0, 77), (77, .iadd, 78), (78, .istore 3, 79), (79, .iload 2, 80), (80, .sipush 3, 81), (81, .if_icmp .ne 95, 84), (84, .iload 3, 85), (85, .aload 0, 86), (86, .iload 1, 87), (87, .iload 2, 88), 
  (88, .invokestatic 248, 91), (91, .iadd, 92), (92, .goto 113, 95), (95, .iload 2, 96), (96, .sipush 6, 98), (98, .if_icmp .ne 112, 101), (101, .iload 3, 102), (102, .aload 0, 103), (103, .iload 1, 104), (104, .sipush 2, 105), 
  (105, .invokestatic 185, 108), (108, .isub, 109), (109, .goto 113, 112), (112, .iload 3, 113), (113, .ireturn, 114)]
def k_X10_asks : Nat := 252
def T_X10_asks : TB := [(0, .aload 0, 1), (1, .sipush 0, 2), (2, .putfield 640, 5), (5, .aload 0, 6), (6, .iload 1, 7), (7, .invokestatic 183, 10), (10, .ifCond .eq 23, 13), (13, .iload 2, 14), (14, .i2l, 15), (15, .ldc2_w 0, 16), (16, .ldc2_w 1, 17), 
  (17, .invokestatic 155, 20), (20, .ifCond .ne 26, 23), (23, .sipush (-1000001), 25), (25, .ireturn, 26), (26, .aload 0, 27), (27, .sipush 0, 28), (28, .putfield 672, 31), (31, .iload 2, 32), (32, .ifCond .ne 48, 35), 
  (35, .aload 0, 36), (36, .iload 1, 37), (37, .aload 0, 38), (38, .iload 1, 39), (39, .invokestatic 243, 42), (42, .invokestatic 250, 45), (45, .goto 58, 48), (48, .aload 0, 49), (49, .iload 1, 50), (50, .aload 0, 51), 
  (51, .iload 1, 52), (52, .invokestatic 243, 55), (55, .invokestatic 251, 58), (58, .ireturn, 59)]
def k_X10_trace : Nat := 253
def T_X10_trace : TB := [(0, .aload 0, 1), (1, .sipush 0, 2), (2, .putfield 640, 5), (5, .iload 1, 6), (6, .i2l, 7), (7, .ldc2_w 0, 8), (8, .aload 0, 9), (9, .getfield 672, 12), (12, .sipush 1, 13), (13, .isub, 14), (14, .i2l, 15), 
  (15, .invokestatic 155, 18), (18, .ifCond .eq 30, 21), (21, .aload 0, 22), (22, .getfield 671, 25), (25, .iload 1, 26), (26, .iaload, 27), (27, .goto 32, 30), (30, .sipush (-1000000), 32), (32, .ireturn, 33)]
def k_X10_pairs : Nat := 254
def T_X10_pairs : TB := [(0, .sipush 0, 1), (1, .istore 3, 2), (2, .sipush 0, 3), (3, .istore 4, 5), (5, .iload 4, 7), (7, .sipush 6, 9), (9, .if_icmp .ge 52, 12), (12, .iload 4, 14), (14, .sipush 1, 15), (15, .iadd, 16), (16, .istore 5, 18), 
  (18, .iload 5, 20), (20, .sipush 6, 22), (22, .if_icmp .ge 46, 25), (25, .iload 3, 26), (26, .aload 1, 27), (27, .iload 2, 28), (28, .sipush 6, 30), (30, .iload 4, 32), (32, .imul, 33), (33, .iadd, 34), (34, .iload 5, 36), 
  (36, .iadd, 37), (37, .iaload, 38), (38, .iadd, 39), (39, .istore 3, 40), (40, .iinc 5 1, 43), (43, .goto 18, 46), (46, .iinc 4 1, 49), (49, .goto 5, 52), (52, .iload 3, 53), (53, .ireturn, 54)]
def k_X10_count : Nat := 255
def T_X10_count : TB := [(0, .aload 0, 1), (1, .sipush 0, 2), (2, .putfield 640, 5), (5, .sipush 0, 6), (6, .istore 2, 7), (7, .iload 1, 8), 
  (8, .lookupswitch 207 #[(0, 68), (1, 101), (2, 108), (3, 115), (4, 126), (5, 133), (6, 144), (7, 151), (8, 188), (9, 195), (10, 202)], 68), (68, .sipush 0, 69), (69, .istore 3, 70), (70, .iload 3, 71), (71, .sipush 8, 73), 
  (73, .if_icmp .ge 99, 76), (76, .iload 2, 77), (77, .aload 0, 78), (78, .getfield 642, 81), (81, .iload 3, 82), (82, .iaload, 83), (83, .ifCond .lt 90, 86), (86, .sipush 1, 87), (87, .goto 91, 90), (90, .sipush 0, 91), 
  (91, .iadd, 92), (92, .istore 2, 93), (93, .iinc 3 1, 96), (96, .goto 70, 99), (99, .iload 2, 100), (100, .ireturn, 101), (101, .aload 0, 102), (102, .getfield 645, 105), (105, .sipush 0, 106), (106, .iaload, 107), 
  (107, .ireturn, 108), (108, .aload 0, 109), (109, .getfield 645, 112), (112, .sipush 1, 113), (113, .iaload, 114), (114, .ireturn, 115), (115, .aload 0, 116), (116, .aload 0, 117), (117, .getfield 645, 120), (120, .sipush 24, 122), 
  (122, .invokestatic 254, 125), (125, .ireturn, 126), (126, .aload 0, 127), (127, .getfield 645, 130), (130, .sipush 4, 131), (131, .iaload, 132), (132, .ireturn, 133), (133, .aload 0, 134), (134, .aload 0, 135), 
  (135, .getfield 648, 138), (138, .sipush 15, 140), (140, .invokestatic 254, 143), (143, .ireturn, 144), (144, .aload 0, 145), (145, .getfield 648, 148), (148, .sipush 2, 149), (149, .iaload, 150), (150, .ireturn, 151), 
  (151, .sipush 0, 152), (152, .istore 3, 153), (153, .iload 3, 154), (154, .aload 0, 155), (155, .getfield 648, 158), (158, .sipush 2, 159), (159, .iaload, 160), (160, .if_icmp .ge 186, 163), (163, .iload 2, 164), 
  (164, .aload 0, 165), (165, .iload 3, 166), (166, .sipush 3, 167), (167, .invokestatic 185, 170), (170, .ifCond .ne 177, 173), (173, .sipush 1, 174), (174, .goto 178, 177), (177, .sipush 0, 178), (178, .iadd, 179), 
  (179, .istore 2, 180), (180, .iinc 3 1, 183), (183, .goto 153, 186), (186, .iload 2, 187), (187, .ireturn, 188), (188, .aload 0, 189), (189, .getfield 648, 192), (192, .sipush 1, 193), (193, .iaload, 194), (194, .ireturn, 195), 
  (195, .aload 0, 196), (196, .getfield 648, 199), (199, .sipush 0, 200), (200, .iaload, 201), (201, .ireturn, 202), (202, .aload 0, 203), (203, .getfield 650, 206), (206, .ireturn, 207), (207, .sipush (-1000001), 209), 
  (209, .ireturn, 210)]
def k_X10_status : Nat := 256
def T_X10_status : TB := [(0, .aload 0, 1), (1, .sipush 0, 2), (2, .putfield 640, 5), (5, .aload 0, 6), (6, .getfield 641, 9), (9, .ireturn, 10)]
def k_J6_compare_7cf53 : Nat := 257
def T_J6_compare_7cf53 : TB := [(0, .iload 0, 1), (1, .iload 1, 2), (2, .if_icmp .ge 9, 5), (5, .sipush (-1), 6), (6, .goto 19, 9), (9, .iload 0, 10), (10, .iload 1, 11), (11, .if_icmp .ne 18, 14), (14, .sipush 0, 15), (15, .goto 19, 18), (18, .sipush 1, 19), 
  (19, .ireturn, 20)]
def k_J6_bitCount_0f7a4 : Nat := 258
def T_J6_bitCount_0f7a4 : TB := [(0, .iload 0, 1), (1, .iload 0, 2), (2, .sipush 1, 3), (3, .iushr, 4), (4, .sipush 1431655765, 7), (7, .iand, 8), (8, .isub, 9), (9, .istore 0, 10), (10, .iload 0, 11), (11, .sipush 858993459, 14), (14, .iand, 15), 
  (15, .iload 0, 16), (16, .sipush 2, 17), (17, .iushr, 18), (18, .sipush 858993459, 21), (21, .iand, 22), (22, .iadd, 23), (23, .istore 0, 24), (24, .iload 0, 25), (25, .iload 0, 26), (26, .sipush 4, 27), (27, .iushr, 28), 
  (28, .iadd, 29), (29, .sipush 252645135, 32), (32, .iand, 33), (33, .istore 0, 34), (34, .iload 0, 35), (35, .iload 0, 36), (36, .sipush 8, 38), (38, .iushr, 39), (39, .iadd, 40), (40, .istore 0, 41), (41, .iload 0, 42), 
  (42, .iload 0, 43), (43, .sipush 16, 45), (45, .iushr, 46), (46, .iadd, 47), (47, .istore 0, 48), (48, .iload 0, 49), (49, .sipush 63, 51), (51, .iand, 52), (52, .ireturn, 53)]
def k_J0_length_8abf5 : Nat := 259
def T_J0_length_8abf5 : TB := [(0, .aload 0, 1), (1, .getfield 704, 4), (4, .arraylength, 5), (5, .aload 0, 6), (6, .invokestatic 261, 9), (9, .ishr, 10), (10, .ireturn, 11)]
def k_J0_charAt_5068e : Nat := 260
def T_J0_charAt_5068e : TB := [(0, .aload 0, 1), (1, .invokestatic 262, 4), (4, .ifCond .eq 16, 7), (7, .aload 0, 8), (8, .getfield 704, 11), (11, .iload 1, 12), (12, .invokestatic 263, 15), (15, .ireturn, 16), (16, .aload 0, 17), (17, .getfield 704, 20), 
  (20, .iload 1, 21)]
def k_J0_coder_7d493 : Nat := 261
def T_J0_coder_7d493 : TB := [(0, .getstatic 4, 3), (3, .ifCond .eq 13, 6), (6, .aload 0, 7), (7, .getfield 705, 10), (10, .goto 14, 13), (13, .sipush 1, 14), (14, .ireturn, 15)]
def k_J0_isLatin1_aae02 : Nat := 262
def T_J0_isLatin1_aae02 : TB := [(0, .getstatic 4, 3), (3, .ifCond .eq 17, 6), (6, .aload 0, 7), (7, .getfield 705, 10), (10, .ifCond .ne 17, 13), (13, .sipush 1, 14), (14, .goto 18, 17), (17, .sipush 0, 18), (18, .ireturn, 19)]
def k_J1_charAt_3b067 : Nat := 263
def T_J1_charAt_3b067 : TB := [(0, .iload 1, 1), (1, .aload 0, 2), (2, .arraylength, 3), (3, .invokeinterface 4 0, 6), (6, .aload 0, 7), (7, .iload 1, 8), (8, .baload, 9), (9, .sipush 255, 12), (12, .iand, 13), (13, .i2c, 14), (14, .ireturn, 15)]
def k_J7_rangeCheck_23922 : Nat := 264
def T_J7_rangeCheck_23922 : TB := [(0, .iload 1, 1), (1, .iload 2, 2), (2, .if_icmp .le 46, 5), (46, .iload 1, 47), (47, .ifCond .ge 59, 50), (59, .iload 2, 60), (60, .iload 0, 61), (61, .if_icmp .le 73, 64), (73, .return_, 74)]
def k_J7_fill_53178 : Nat := 265
def T_J7_fill_53178 : TB := [(0, .sipush 0, 1), (1, .istore 2, 2), (2, .aload 0, 3), (3, .arraylength, 4), (4, .istore 3, 5), (5, .iload 2, 6), (6, .iload 3, 7), (7, .if_icmp .ge 20, 10), (10, .aload 0, 11), (11, .iload 2, 12), (12, .iload 1, 13), 
  (13, .iastore, 14), (14, .iinc 2 1, 17), (17, .goto 5, 20), (20, .return_, 21)]
def k_J7_fill_fda19 : Nat := 266
def T_J7_fill_fda19 : TB := [(0, .aload 0, 1), (1, .arraylength, 2), (2, .iload 1, 3), (3, .iload 2, 4), (4, .invokestatic 264, 7), (7, .iload 1, 8), (8, .istore 4, 10), (10, .iload 4, 12), (12, .iload 2, 13), (13, .if_icmp .ge 27, 16), (16, .aload 0, 17), 
  (17, .iload 4, 19), (19, .iload 3, 20), (20, .iastore, 21), (21, .iinc 4 1, 24), (24, .goto 10, 27), (27, .return_, 28)]
def k_L_law : Nat := 267
def T_L_law : TB := [(0, .new 9, 3), (3, .dup, 4), (4, .invokestatic 107, 7), (7, .astore 1, 8), (8, .new 10, 11), (11, .dup, 12), (12, .invokestatic 154, 15), (15, .astore 2, 16), (16, .sipush 0, 17), (17, .istore 3, 18), (18, .iload 3, 19), 
  (19, .aload 0, 20), (20, .arraylength, 21), (21, .sipush 6, 23), (23, .isub, 24), (24, .if_icmp .gt 1521, 27), (27, .aload 0, 28), (28, .iload 3, 29), (29, .iaload, 30), (30, .sipush 63, 32), (32, .iand, 33), 
  (33, .lookupswitch 1515 #[(0, 212), (1, 255), (2, 298), (3, 361), (4, 384), (5, 447), (6, 460), (7, 473), (8, 496), (9, 529), (10, 562), (11, 595), (12, 638), (13, 681), (14, 724), (15, 747), (16, 790), (17, 823), (18, 856), (19, 899), (20, 942), (21, 985), (22, 1008), (23, 1041), (24, 1064), (25, 1097), (26, 1130), (27, 1163), (28, 1176), (29, 1199), (30, 1222), (31, 1255), (32, 1298), (33, 1321), (34, 1344), (35, 1367), (36, 1390), (37, 1423), (38, 1456), (39, 1479), (40, 1502)], 212), 
  (212, .aload 1, 213), (213, .aload 0, 214), (214, .iload 3, 215), (215, .sipush 1, 216), (216, .iadd, 217), (217, .iaload, 218), (218, .aload 0, 219), (219, .iload 3, 220), (220, .sipush 2, 221), (221, .iadd, 222), 
  (222, .iaload, 223), (223, .aload 0, 224), (224, .iload 3, 225), (225, .sipush 3, 226), (226, .iadd, 227), (227, .iaload, 228), (228, .invokestatic 108, 231), (231, .aload 2, 232), (232, .aload 0, 233), (233, .iload 3, 234), 
  (234, .sipush 1, 235), (235, .iadd, 236), (236, .iaload, 237), (237, .aload 0, 238), (238, .iload 3, 239), (239, .sipush 2, 240), (240, .iadd, 241), (241, .iaload, 242), (242, .aload 0, 243), (243, .iload 3, 244), 
  (244, .sipush 3, 245), (245, .iadd, 246), (246, .iaload, 247), (247, .invokestatic 158, 250), (250, .if_icmp .eq 1515, 253), (253, .sipush 0, 254), (254, .ireturn, 255), (255, .aload 1, 256), (256, .aload 0, 257), 
  (257, .iload 3, 258), (258, .sipush 1, 259), (259, .iadd, 260), (260, .iaload, 261), (261, .aload 0, 262), (262, .iload 3, 263), (263, .sipush 2, 264), (264, .iadd, 265), (265, .iaload, 266), (266, .aload 0, 267), 
  (267, .iload 3, 268), (268, .sipush 3, 269), (269, .iadd, 270), (270, .iaload, 271), (271, .invokestatic 109, 274), (274, .aload 2, 275), (275, .aload 0, 276), (276, .iload 3, 277), (277, .sipush 1, 278), (278, .iadd, 279), 
  (279, .iaload, 280), (280, .aload 0, 281), (281, .iload 3, 282), (282, .sipush 2, 283), (283, .iadd, 284), (284, .iaload, 285), (285, .aload 0, 286), (286, .iload 3, 287), (287, .sipush 3, 288), (288, .iadd, 289), 
  (289, .iaload, 290), (290, .invokestatic 159, 293), (293, .if_icmp .eq 1515, 296), (296, .sipush 0, 297), (297, .ireturn, 298), (298, .aload 1, 299), (299, .aload 0, 300), (300, .iload 3, 301), (301, .sipush 1, 302), 
  (302, .iadd, 303), (303, .iaload, 304), (304, .aload 0, 305), (305, .iload 3, 306), (306, .sipush 2, 307), (307, .iadd, 308), (308, .iaload, 309), (309, .aload 0, 310), (310, .iload 3, 311), (311, .sipush 3, 312), 
  (312, .iadd, 313), (313, .iaload, 314), (314, .aload 0, 315), (315, .iload 3, 316), (316, .sipush 4, 317), (317, .iadd, 318), (318, .iaload, 319), (319, .aload 0, 320), (320, .iload 3, 321), (321, .sipush 5, 322), 
  (322, .iadd, 323), (323, .iaload, 324), (324, .invokestatic 110, 327), (327, .aload 2, 328), (328, .aload 0, 329), (329, .iload 3, 330), (330, .sipush 1, 331), (331, .iadd, 332), (332, .iaload, 333), (333, .aload 0, 334), 
  (334, .iload 3, 335), (335, .sipush 2, 336), (336, .iadd, 337), (337, .iaload, 338), (338, .aload 0, 339), (339, .iload 3, 340), (340, .sipush 3, 341), (341, .iadd, 342), (342, .iaload, 343), (343, .aload 0, 344), 
  (344, .iload 3, 345), (345, .sipush 4, 346), (346, .iadd, 347), (347, .iaload, 348), (348, .aload 0, 349), (349, .iload 3, 350), (350, .sipush 5, 351), (351, .iadd, 352), (352, .iaload, 353), (353, .invokestatic 160, 356), 
  (356, .if_icmp .eq 1515, 359), (359, .sipush 0, 360), (360, .ireturn, 361), (361, .aload 1, 362), (362, .aload 0, 363), (363, .iload 3, 364), (364, .sipush 1, 365), (365, .iadd, 366), (366, .iaload, 367), 
  (367, .invokestatic 111, 370), (370, .aload 2, 371), (371, .aload 0, 372), (372, .iload 3, 373), (373, .sipush 1, 374), (374, .iadd, 375), (375, .iaload, 376), (376, .invokestatic 161, 379), (379, .if_icmp .eq 1515, 382), 
  (382, .sipush 0, 383), (383, .ireturn, 384), (384, .aload 1, 385), (385, .aload 0, 386), (386, .iload 3, 387), (387, .sipush 1, 388), (388, .iadd, 389), (389, .iaload, 390), (390, .i2l, 391), (391, .sipush 32, 393), 
  (393, .lshl, 394), (394, .aload 0, 395), (395, .iload 3, 396), (396, .sipush 2, 397), (397, .iadd, 398), (398, .iaload, 399), (399, .i2l, 400), (400, .ldc2_w 4294967295, 403), (403, .land, 404), (404, .lor, 405), 
  (405, .aload 0, 406), (406, .iload 3, 407), (407, .sipush 3, 408), (408, .iadd, 409), (409, .iaload, 410), (410, .invokestatic 112, 413), (413, .aload 2, 414), (414, .aload 0, 415), (415, .iload 3, 416), (416, .sipush 1, 417), 
  (417, .iadd, 418), (418, .iaload, 419), (419, .i2l, 420), (420, .sipush 32, 422), (422, .lshl, 423), (423, .aload 0, 424), (424, .iload 3, 425), (425, .sipush 2, 426), (426, .iadd, 427), (427, .iaload, 428), (428, .i2l, 429), 
  (429, .ldc2_w 4294967295, 432), (432, .land, 433), (433, .lor, 434), (434, .aload 0, 435), (435, .iload 3, 436), (436, .sipush 3, 437), (437, .iadd, 438), (438, .iaload, 439), (439, .invokestatic 162, 442), 
  (442, .if_icmp .eq 1515, 445), (445, .sipush 0, 446), (446, .ireturn, 447), (447, .aload 1, 448), (448, .invokestatic 113, 451), (451, .aload 2, 452), (452, .invokestatic 179, 455), (455, .if_icmp .eq 1515, 458), 
  (458, .sipush 0, 459), (459, .ireturn, 460), (460, .aload 1, 461), (461, .invokestatic 114, 464), (464, .aload 2, 465), (465, .invokestatic 180, 468), (468, .if_icmp .eq 1515, 471), (471, .sipush 0, 472), (472, .ireturn, 473), 
  (473, .aload 1, 474), (474, .aload 0, 475), (475, .iload 3, 476), (476, .sipush 1, 477), (477, .iadd, 478), (478, .iaload, 479), (479, .invokestatic 115, 482), (482, .aload 2, 483), (483, .aload 0, 484), (484, .iload 3, 485), 
  (485, .sipush 1, 486), (486, .iadd, 487), (487, .iaload, 488), (488, .invokestatic 189, 491), (491, .if_icmp .eq 1515, 494), (494, .sipush 0, 495), (495, .ireturn, 496), (496, .aload 1, 497), (497, .aload 0, 498), 
  (498, .iload 3, 499), (499, .sipush 1, 500), (500, .iadd, 501), (501, .iaload, 502), (502, .aload 0, 503), (503, .iload 3, 504), (504, .sipush 2, 505), (505, .iadd, 506), (506, .iaload, 507), (507, .invokestatic 116, 510), 
  (510, .aload 2, 511), (511, .aload 0, 512), (512, .iload 3, 513), (513, .sipush 1, 514), (514, .iadd, 515), (515, .iaload, 516), (516, .aload 0, 517), (517, .iload 3, 518), (518, .sipush 2, 519), (519, .iadd, 520), 
  (520, .iaload, 521), (521, .invokestatic 190, 524), (524, .if_icmp .eq 1515, 527), (527, .sipush 0, 528), (528, .ireturn, 529), (529, .aload 1, 530), (530, .aload 0, 531), (531, .iload 3, 532), (532, .sipush 1, 533), 
  (533, .iadd, 534), (534, .iaload, 535), (535, .aload 0, 536), (536, .iload 3, 537), (537, .sipush 2, 538), (538, .iadd, 539), (539, .iaload, 540), (540, .invokestatic 117, 543), (543, .aload 2, 544), (544, .aload 0, 545), 
  (545, .iload 3, 546), (546, .sipush 1, 547), (547, .iadd, 548), (548, .iaload, 549), (549, .aload 0, 550), (550, .iload 3, 551), (551, .sipush 2, 552), (552, .iadd, 553), (553, .iaload, 554), (554, .invokestatic 192, 557), 
  (557, .if_icmp .eq 1515, 560), (560, .sipush 0, 561), (561, .ireturn, 562), (562, .aload 1, 563), (563, .aload 0, 564), (564, .iload 3, 565), (565, .sipush 1, 566), (566, .iadd, 567), (567, .iaload, 568), (568, .aload 0, 569), 
  (569, .iload 3, 570), (570, .sipush 2, 571), (571, .iadd, 572), (572, .iaload, 573), (573, .invokestatic 118, 576), (576, .aload 2, 577), (577, .aload 0, 578), (578, .iload 3, 579), (579, .sipush 1, 580), (580, .iadd, 581), 
  (581, .iaload, 582), (582, .aload 0, 583), (583, .iload 3, 584), (584, .sipush 2, 585), (585, .iadd, 586), (586, .iaload, 587), (587, .invokestatic 193, 590), (590, .if_icmp .eq 1515, 593), (593, .sipush 0, 594), 
  (594, .ireturn, 595), (595, .aload 1, 596), (596, .aload 0, 597), (597, .iload 3, 598), (598, .sipush 1, 599), (599, .iadd, 600), (600, .iaload, 601), (601, .aload 0, 602), (602, .iload 3, 603), (603, .sipush 2, 604), 
  (604, .iadd, 605), (605, .iaload, 606), (606, .aload 0, 607), (607, .iload 3, 608), (608, .sipush 3, 609), (609, .iadd, 610), (610, .iaload, 611), (611, .invokestatic 119, 614), (614, .aload 2, 615), (615, .aload 0, 616), 
  (616, .iload 3, 617), (617, .sipush 1, 618), (618, .iadd, 619), (619, .iaload, 620), (620, .aload 0, 621), (621, .iload 3, 622), (622, .sipush 2, 623), (623, .iadd, 624), (624, .iaload, 625), (625, .aload 0, 626), 
  (626, .iload 3, 627), (627, .sipush 3, 628), (628, .iadd, 629), (629, .iaload, 630), (630, .invokestatic 194, 633), (633, .if_icmp .eq 1515, 636), (636, .sipush 0, 637), (637, .ireturn, 638), (638, .aload 1, 639), 
  (639, .aload 0, 640), (640, .iload 3, 641), (641, .sipush 1, 642), (642, .iadd, 643), (643, .iaload, 644), (644, .aload 0, 645), (645, .iload 3, 646), (646, .sipush 2, 647), (647, .iadd, 648), (648, .iaload, 649), 
  (649, .aload 0, 650), (650, .iload 3, 651), (651, .sipush 3, 652), (652, .iadd, 653), (653, .iaload, 654), (654, .invokestatic 120, 657), (657, .aload 2, 658), (658, .aload 0, 659), (659, .iload 3, 660), (660, .sipush 1, 661), 
  (661, .iadd, 662), (662, .iaload, 663), (663, .aload 0, 664), (664, .iload 3, 665), (665, .sipush 2, 666), (666, .iadd, 667), (667, .iaload, 668), (668, .aload 0, 669), (669, .iload 3, 670), (670, .sipush 3, 671), 
  (671, .iadd, 672), (672, .iaload, 673), (673, .invokestatic 197, 676), (676, .if_icmp .eq 1515, 679), (679, .sipush 0, 680), (680, .ireturn, 681), (681, .aload 1, 682), (682, .aload 0, 683), (683, .iload 3, 684), 
  (684, .sipush 1, 685), (685, .iadd, 686), (686, .iaload, 687), (687, .aload 0, 688), (688, .iload 3, 689), (689, .sipush 2, 690), (690, .iadd, 691), (691, .iaload, 692), (692, .aload 0, 693), (693, .iload 3, 694), 
  (694, .sipush 3, 695), (695, .iadd, 696), (696, .iaload, 697), (697, .invokestatic 121, 700), (700, .aload 2, 701), (701, .aload 0, 702), (702, .iload 3, 703), (703, .sipush 1, 704), (704, .iadd, 705), (705, .iaload, 706), 
  (706, .aload 0, 707), (707, .iload 3, 708), (708, .sipush 2, 709), (709, .iadd, 710), (710, .iaload, 711), (711, .aload 0, 712), (712, .iload 3, 713), (713, .sipush 3, 714), (714, .iadd, 715), (715, .iaload, 716), 
  (716, .invokestatic 198, 719), (719, .if_icmp .eq 1515, 722), (722, .sipush 0, 723), (723, .ireturn, 724), (724, .aload 1, 725), (725, .aload 0, 726), (726, .iload 3, 727), (727, .sipush 1, 728), (728, .iadd, 729), 
  (729, .iaload, 730), (730, .invokestatic 122, 733), (733, .aload 2, 734), (734, .aload 0, 735), (735, .iload 3, 736), (736, .sipush 1, 737), (737, .iadd, 738), (738, .iaload, 739), (739, .invokestatic 199, 742), 
  (742, .if_icmp .eq 1515, 745), (745, .sipush 0, 746), (746, .ireturn, 747), (747, .aload 1, 748), (748, .aload 0, 749), (749, .iload 3, 750), (750, .sipush 1, 751), (751, .iadd, 752), (752, .iaload, 753), (753, .aload 0, 754), 
  (754, .iload 3, 755), (755, .sipush 2, 756), (756, .iadd, 757), (757, .iaload, 758), (758, .aload 0, 759), (759, .iload 3, 760), (760, .sipush 3, 761), (761, .iadd, 762), (762, .iaload, 763), (763, .invokestatic 123, 766), 
  (766, .aload 2, 767), (767, .aload 0, 768), (768, .iload 3, 769), (769, .sipush 1, 770), (770, .iadd, 771), (771, .iaload, 772), (772, .aload 0, 773), (773, .iload 3, 774), (774, .sipush 2, 775), (775, .iadd, 776), 
  (776, .iaload, 777), (777, .aload 0, 778), (778, .iload 3, 779), (779, .sipush 3, 780), (780, .iadd, 781), (781, .iaload, 782), (782, .invokestatic 200, 785), (785, .if_icmp .eq 1515, 788), (788, .sipush 0, 789), 
  (789, .ireturn, 790), (790, .aload 1, 791), (791, .aload 0, 792), (792, .iload 3, 793), (793, .sipush 1, 794), (794, .iadd, 795), (795, .iaload, 796), (796, .aload 0, 797), (797, .iload 3, 798), (798, .sipush 2, 799), 
  (799, .iadd, 800), (800, .iaload, 801), (801, .invokestatic 124, 804), (804, .aload 2, 805), (805, .aload 0, 806), (806, .iload 3, 807), (807, .sipush 1, 808), (808, .iadd, 809), (809, .iaload, 810), (810, .aload 0, 811), 
  (811, .iload 3, 812), (812, .sipush 2, 813), (813, .iadd, 814), (814, .iaload, 815), (815, .invokestatic 201, 818), (818, .if_icmp .eq 1515, 821), (821, .sipush 0, 822), (822, .ireturn, 823), (823, .aload 1, 824), 
  (824, .aload 0, 825), (825, .iload 3, 826), (826, .sipush 1, 827), (827, .iadd, 828), (828, .iaload, 829), (829, .aload 0, 830), (830, .iload 3, 831), (831, .sipush 2, 832), (832, .iadd, 833), (833, .iaload, 834), 
  (834, .invokestatic 125, 837), (837, .aload 2, 838), (838, .aload 0, 839), (839, .iload 3, 840), (840, .sipush 1, 841), (841, .iadd, 842), (842, .iaload, 843), (843, .aload 0, 844), (844, .iload 3, 845), (845, .sipush 2, 846), 
  (846, .iadd, 847), (847, .iaload, 848), (848, .invokestatic 202, 851), (851, .if_icmp .eq 1515, 854), (854, .sipush 0, 855), (855, .ireturn, 856), (856, .aload 1, 857), (857, .aload 0, 858), (858, .iload 3, 859), 
  (859, .sipush 1, 860), (860, .iadd, 861), (861, .iaload, 862), (862, .aload 0, 863), (863, .iload 3, 864), (864, .sipush 2, 865), (865, .iadd, 866), (866, .iaload, 867), (867, .aload 0, 868), (868, .iload 3, 869), 
  (869, .sipush 3, 870), (870, .iadd, 871), (871, .iaload, 872), (872, .invokestatic 126, 875), (875, .aload 2, 876), (876, .aload 0, 877), (877, .iload 3, 878), (878, .sipush 1, 879), (879, .iadd, 880), (880, .iaload, 881), 
  (881, .aload 0, 882), (882, .iload 3, 883), (883, .sipush 2, 884), (884, .iadd, 885), (885, .iaload, 886), (886, .aload 0, 887), (887, .iload 3, 888), (888, .sipush 3, 889), (889, .iadd, 890), (890, .iaload, 891), 
  (891, .invokestatic 208, 894), (894, .if_icmp .eq 1515, 897), (897, .sipush 0, 898), (898, .ireturn, 899), (899, .aload 1, 900), (900, .aload 0, 901), (901, .iload 3, 902), (902, .sipush 1, 903), (903, .iadd, 904), 
  (904, .iaload, 905), (905, .aload 0, 906), (906, .iload 3, 907), (907, .sipush 2, 908), (908, .iadd, 909), (909, .iaload, 910), (910, .aload 0, 911), (911, .iload 3, 912), (912, .sipush 3, 913), (913, .iadd, 914), 
  (914, .iaload, 915), (915, .invokestatic 127, 918), (918, .aload 2, 919), (919, .aload 0, 920), (920, .iload 3, 921), (921, .sipush 1, 922), (922, .iadd, 923), (923, .iaload, 924), (924, .aload 0, 925), (925, .iload 3, 926), 
  (926, .sipush 2, 927), (927, .iadd, 928), (928, .iaload, 929), (929, .aload 0, 930), (930, .iload 3, 931), (931, .sipush 3, 932), (932, .iadd, 933), (933, .iaload, 934), (934, .invokestatic 210, 937), (937, .if_icmp .eq 1515, 940), 
  (940, .sipush 0, 941), (941, .ireturn, 942), (942, .aload 1, 943), (943, .aload 0, 944), (944, .iload 3, 945), (945, .sipush 1, 946), (946, .iadd, 947), (947, .iaload, 948), (948, .aload 0, 949), (949, .iload 3, 950), 
  (950, .sipush 2, 951), (951, .iadd, 952), (952, .iaload, 953), (953, .aload 0, 954), (954, .iload 3, 955), (955, .sipush 3, 956), (956, .iadd, 957), (957, .iaload, 958), (958, .invokestatic 128, 961), (961, .aload 2, 962), 
  (962, .aload 0, 963), (963, .iload 3, 964), (964, .sipush 1, 965), (965, .iadd, 966), (966, .iaload, 967), (967, .aload 0, 968), (968, .iload 3, 969), (969, .sipush 2, 970), (970, .iadd, 971), (971, .iaload, 972), 
  (972, .aload 0, 973), (973, .iload 3, 974), (974, .sipush 3, 975), (975, .iadd, 976), (976, .iaload, 977), (977, .invokestatic 211, 980), (980, .if_icmp .eq 1515, 983), (983, .sipush 0, 984), (984, .ireturn, 985), 
  (985, .aload 1, 986), (986, .aload 0, 987), (987, .iload 3, 988), (988, .sipush 1, 989), (989, .iadd, 990), (990, .iaload, 991), (991, .invokestatic 129, 994), (994, .aload 2, 995), (995, .aload 0, 996), (996, .iload 3, 997), 
  (997, .sipush 1, 998), (998, .iadd, 999), (999, .iaload, 1000), (1000, .invokestatic 212, 1003), (1003, .if_icmp .eq 1515, 1006), (1006, .sipush 0, 1007), (1007, .ireturn, 1008), (1008, .aload 1, 1009), (1009, .aload 0, 1010), 
  (1010, .iload 3, 1011), (1011, .sipush 1, 1012), (1012, .iadd, 1013), (1013, .iaload, 1014), (1014, .aload 0, 1015), (1015, .iload 3, 1016), (1016, .sipush 2, 1017), (1017, .iadd, 1018), (1018, .iaload, 1019), 
  (1019, .invokestatic 130, 1022), (1022, .aload 2, 1023), (1023, .aload 0, 1024), (1024, .iload 3, 1025), (1025, .sipush 1, 1026), (1026, .iadd, 1027), (1027, .iaload, 1028), (1028, .aload 0, 1029), (1029, .iload 3, 1030), 
  (1030, .sipush 2, 1031), (1031, .iadd, 1032), (1032, .iaload, 1033), (1033, .invokestatic 217, 1036), (1036, .if_icmp .eq 1515, 1039), (1039, .sipush 0, 1040), (1040, .ireturn, 1041), (1041, .aload 1, 1042), (1042, .aload 0, 1043), 
  (1043, .iload 3, 1044), (1044, .sipush 1, 1045), (1045, .iadd, 1046), (1046, .iaload, 1047), (1047, .invokestatic 131, 1050), (1050, .aload 2, 1051), (1051, .aload 0, 1052), (1052, .iload 3, 1053), (1053, .sipush 1, 1054), 
  (1054, .iadd, 1055), (1055, .iaload, 1056), (1056, .invokestatic 221, 1059), (1059, .if_icmp .eq 1515, 1062), (1062, .sipush 0, 1063), (1063, .ireturn, 1064), (1064, .aload 1, 1065), (1065, .aload 0, 1066), (1066, .iload 3, 1067), 
  (1067, .sipush 1, 1068), (1068, .iadd, 1069), (1069, .iaload, 1070), (1070, .aload 0, 1071), (1071, .iload 3, 1072), (1072, .sipush 2, 1073), (1073, .iadd, 1074), (1074, .iaload, 1075), (1075, .invokestatic 132, 1078), 
  (1078, .aload 2, 1079), (1079, .aload 0, 1080), (1080, .iload 3, 1081), (1081, .sipush 1, 1082), (1082, .iadd, 1083), (1083, .iaload, 1084), (1084, .aload 0, 1085), (1085, .iload 3, 1086), (1086, .sipush 2, 1087), 
  (1087, .iadd, 1088), (1088, .iaload, 1089), (1089, .invokestatic 224, 1092), (1092, .if_icmp .eq 1515, 1095), (1095, .sipush 0, 1096), (1096, .ireturn, 1097), (1097, .aload 1, 1098), (1098, .aload 0, 1099), (1099, .iload 3, 1100), 
  (1100, .sipush 1, 1101), (1101, .iadd, 1102), (1102, .iaload, 1103), (1103, .aload 0, 1104), (1104, .iload 3, 1105), (1105, .sipush 2, 1106), (1106, .iadd, 1107), (1107, .iaload, 1108), (1108, .invokestatic 133, 1111), 
  (1111, .aload 2, 1112), (1112, .aload 0, 1113), (1113, .iload 3, 1114), (1114, .sipush 1, 1115), (1115, .iadd, 1116), (1116, .iaload, 1117), (1117, .aload 0, 1118), (1118, .iload 3, 1119), (1119, .sipush 2, 1120), 
  (1120, .iadd, 1121), (1121, .iaload, 1122), (1122, .invokestatic 226, 1125), (1125, .if_icmp .eq 1515, 1128), (1128, .sipush 0, 1129), (1129, .ireturn, 1130), (1130, .aload 1, 1131), (1131, .aload 0, 1132), (1132, .iload 3, 1133), 
  (1133, .sipush 1, 1134), (1134, .iadd, 1135), (1135, .iaload, 1136), (1136, .aload 0, 1137), (1137, .iload 3, 1138), (1138, .sipush 2, 1139), (1139, .iadd, 1140), (1140, .iaload, 1141), (1141, .invokestatic 134, 1144), 
  (1144, .aload 2, 1145), (1145, .aload 0, 1146), (1146, .iload 3, 1147), (1147, .sipush 1, 1148), (1148, .iadd, 1149), (1149, .iaload, 1150), (1150, .aload 0, 1151), (1151, .iload 3, 1152), (1152, .sipush 2, 1153), 
  (1153, .iadd, 1154), (1154, .iaload, 1155), (1155, .invokestatic 228, 1158), (1158, .if_icmp .eq 1515, 1161), (1161, .sipush 0, 1162), (1162, .ireturn, 1163), (1163, .aload 1, 1164), (1164, .invokestatic 135, 1167), 
  (1167, .aload 2, 1168), (1168, .invokestatic 229, 1171), (1171, .if_icmp .eq 1515, 1174), (1174, .sipush 0, 1175), (1175, .ireturn, 1176), (1176, .aload 1, 1177), (1177, .aload 0, 1178), (1178, .iload 3, 1179), 
  (1179, .sipush 1, 1180), (1180, .iadd, 1181), (1181, .iaload, 1182), (1182, .invokestatic 136, 1185), (1185, .aload 2, 1186), (1186, .aload 0, 1187), (1187, .iload 3, 1188), (1188, .sipush 1, 1189), (1189, .iadd, 1190), 
  (1190, .iaload, 1191), (1191, .invokestatic 232, 1194), (1194, .if_icmp .eq 1515, 1197), (1197, .sipush 0, 1198), (1198, .ireturn, 1199), (1199, .aload 1, 1200), (1200, .aload 0, 1201), (1201, .iload 3, 1202), 
  (1202, .sipush 1, 1203), (1203, .iadd, 1204), (1204, .iaload, 1205), (1205, .invokestatic 137, 1208), (1208, .aload 2, 1209), (1209, .aload 0, 1210), (1210, .iload 3, 1211), (1211, .sipush 1, 1212), (1212, .iadd, 1213), 
  (1213, .iaload, 1214), (1214, .invokestatic 237, 1217), (1217, .if_icmp .eq 1515, 1220), (1220, .sipush 0, 1221), (1221, .ireturn, 1222), (1222, .aload 1, 1223), (1223, .aload 0, 1224), (1224, .iload 3, 1225), 
  (1225, .sipush 1, 1226), (1226, .iadd, 1227), (1227, .iaload, 1228), (1228, .aload 0, 1229), (1229, .iload 3, 1230), (1230, .sipush 2, 1231), (1231, .iadd, 1232), (1232, .iaload, 1233), (1233, .invokestatic 138, 1236), 
  (1236, .aload 2, 1237), (1237, .aload 0, 1238), (1238, .iload 3, 1239), (1239, .sipush 1, 1240), (1240, .iadd, 1241), (1241, .iaload, 1242), (1242, .aload 0, 1243), (1243, .iload 3, 1244), (1244, .sipush 2, 1245), 
  (1245, .iadd, 1246), (1246, .iaload, 1247), (1247, .invokestatic 238, 1250), (1250, .if_icmp .eq 1515, 1253), (1253, .sipush 0, 1254), (1254, .ireturn, 1255), (1255, .aload 1, 1256), (1256, .aload 0, 1257), (1257, .iload 3, 1258), 
  (1258, .sipush 1, 1259), (1259, .iadd, 1260), (1260, .iaload, 1261), (1261, .aload 0, 1262), (1262, .iload 3, 1263), (1263, .sipush 2, 1264), (1264, .iadd, 1265), (1265, .iaload, 1266), (1266, .aload 0, 1267), 
  (1267, .iload 3, 1268), (1268, .sipush 3, 1269), (1269, .iadd, 1270), (1270, .iaload, 1271), (1271, .invokestatic 139, 1274), (1274, .aload 2, 1275), (1275, .aload 0, 1276), (1276, .iload 3, 1277), (1277, .sipush 1, 1278), 
  (1278, .iadd, 1279), (1279, .iaload, 1280), (1280, .aload 0, 1281), (1281, .iload 3, 1282), (1282, .sipush 2, 1283), (1283, .iadd, 1284), (1284, .iaload, 1285), (1285, .aload 0, 1286), (1286, .iload 3, 1287), 
  (1287, .sipush 3, 1288), (1288, .iadd, 1289), (1289, .iaload, 1290), (1290, .invokestatic 240, 1293), (1293, .if_icmp .eq 1515, 1296), (1296, .sipush 0, 1297), (1297, .ireturn, 1298), (1298, .aload 1, 1299), (1299, .aload 0, 1300), 
  (1300, .iload 3, 1301), (1301, .sipush 1, 1302), (1302, .iadd, 1303), (1303, .iaload, 1304), (1304, .invokestatic 140, 1307), (1307, .aload 2, 1308), (1308, .aload 0, 1309), (1309, .iload 3, 1310), (1310, .sipush 1, 1311), 
  (1311, .iadd, 1312), (1312, .iaload, 1313), (1313, .invokestatic 218, 1316), (1316, .if_icmp .eq 1515, 1319), (1319, .sipush 0, 1320), (1320, .ireturn, 1321), (1321, .aload 1, 1322), (1322, .aload 0, 1323), (1323, .iload 3, 1324), 
  (1324, .sipush 1, 1325), (1325, .iadd, 1326), (1326, .iaload, 1327), (1327, .invokestatic 141, 1330), (1330, .aload 2, 1331), (1331, .aload 0, 1332), (1332, .iload 3, 1333), (1333, .sipush 1, 1334), (1334, .iadd, 1335), 
  (1335, .iaload, 1336), (1336, .invokestatic 241, 1339), (1339, .if_icmp .eq 1515, 1342), (1342, .sipush 0, 1343), (1343, .ireturn, 1344), (1344, .aload 1, 1345), (1345, .aload 0, 1346), (1346, .iload 3, 1347), 
  (1347, .sipush 1, 1348), (1348, .iadd, 1349), (1349, .iaload, 1350), (1350, .invokestatic 142, 1353), (1353, .aload 2, 1354), (1354, .aload 0, 1355), (1355, .iload 3, 1356), (1356, .sipush 1, 1357), (1357, .iadd, 1358), 
  (1358, .iaload, 1359), (1359, .invokestatic 242, 1362), (1362, .if_icmp .eq 1515, 1365), (1365, .sipush 0, 1366), (1366, .ireturn, 1367), (1367, .aload 1, 1368), (1368, .aload 0, 1369), (1369, .iload 3, 1370), 
  (1370, .sipush 1, 1371), (1371, .iadd, 1372), (1372, .iaload, 1373), (1373, .invokestatic 143, 1376), (1376, .aload 2, 1377), (1377, .aload 0, 1378), (1378, .iload 3, 1379), (1379, .sipush 1, 1380), (1380, .iadd, 1381), 
  (1381, .iaload, 1382), (1382, .invokestatic 245, 1385), (1385, .if_icmp .eq 1515, 1388), (1388, .sipush 0, 1389), (1389, .ireturn, 1390), (1390, .aload 1, 1391), (1391, .aload 0, 1392), (1392, .iload 3, 1393), 
  (1393, .sipush 1, 1394), (1394, .iadd, 1395), (1395, .iaload, 1396), (1396, .aload 0, 1397), (1397, .iload 3, 1398), (1398, .sipush 2, 1399), (1399, .iadd, 1400), (1400, .iaload, 1401), (1401, .invokestatic 144, 1404), 
  (1404, .aload 2, 1405), (1405, .aload 0, 1406), (1406, .iload 3, 1407), (1407, .sipush 1, 1408), (1408, .iadd, 1409), (1409, .iaload, 1410), (1410, .aload 0, 1411), (1411, .iload 3, 1412), (1412, .sipush 2, 1413), 
  (1413, .iadd, 1414), (1414, .iaload, 1415), (1415, .invokestatic 246, 1418), (1418, .if_icmp .eq 1515, 1421), (1421, .sipush 0, 1422), (1422, .ireturn, 1423), (1423, .aload 1, 1424), (1424, .aload 0, 1425), (1425, .iload 3, 1426), 
  (1426, .sipush 1, 1427), (1427, .iadd, 1428), (1428, .iaload, 1429), (1429, .aload 0, 1430), (1430, .iload 3, 1431), (1431, .sipush 2, 1432), (1432, .iadd, 1433), (1433, .iaload, 1434), (1434, .invokestatic 145, 1437), 
  (1437, .aload 2, 1438), (1438, .aload 0, 1439), (1439, .iload 3, 1440), (1440, .sipush 1, 1441), (1441, .iadd, 1442), (1442, .iaload, 1443), (1443, .aload 0, 1444), (1444, .iload 3, 1445), (1445, .sipush 2, 1446), 
  (1446, .iadd, 1447), (1447, .iaload, 1448), (1448, .invokestatic 252, 1451), (1451, .if_icmp .eq 1515, 1454), (1454, .sipush 0, 1455), (1455, .ireturn, 1456), (1456, .aload 1, 1457), (1457, .aload 0, 1458), (1458, .iload 3, 1459), 
  (1459, .sipush 1, 1460), (1460, .iadd, 1461), (1461, .iaload, 1462), (1462, .invokestatic 146, 1465), (1465, .aload 2, 1466), (1466, .aload 0, 1467), (1467, .iload 3, 1468), (1468, .sipush 1, 1469), (1469, .iadd, 1470), 
  (1470, .iaload, 1471), (1471, .invokestatic 253, 1474), (1474, .if_icmp .eq 1515, 1477), (1477, .sipush 0, 1478), (1478, .ireturn, 1479), (1479, .aload 1, 1480), (1480, .aload 0, 1481), (1481, .iload 3, 1482), 
  (1482, .sipush 1, 1483), (1483, .iadd, 1484), (1484, .iaload, 1485), (1485, .invokestatic 147, 1488), (1488, .aload 2, 1489), (1489, .aload 0, 1490), (1490, .iload 3, 1491), (1491, .sipush 1, 1492), (1492, .iadd, 1493), 
  (1493, .iaload, 1494), (1494, .invokestatic 255, 1497), (1497, .if_icmp .eq 1515, 1500), (1500, .sipush 0, 1501), (1501, .ireturn, 1502), (1502, .aload 1, 1503), (1503, .invokestatic 148, 1506), (1506, .aload 2, 1507), 
  (1507, .invokestatic 256, 1510), (1510, .if_icmp .eq 1515, 1513), (1513, .sipush 0, 1514), (1514, .ireturn, 1515), (1515, .iinc 3 6, 1518), (1518, .goto 18, 1521), (1521, .sipush 1, 1522), (1522, .ireturn, 1523)]
def MS : List MT := [(1, 1, 0, 97, T_X0_init), (4, 5, 1, 0, T_X0_answer), (2, 2, 1, 0, T_X0_traced), (2, 4, 1, 99, T_X0_nearestBody), (3, 4, 1, 0, T_X0_given), (1, 1, 0, 97, T_X1_init), (5, 5, 0, 1, T_X1_begin), (2, 2, 0, 1, T_X1_becomeLike), 
  (1, 1, 2, 1, T_X1_isPaid), (1, 1, 2, 1, T_X1_isBred), (2, 2, 2, 1, T_X1_hasLetterOn), (2, 2, 1, 1, T_X1_oathOf), (3, 3, 0, 1, T_X1_setOath), (1, 1, 0, 97, T_X2_init), (2, 6, 0, 2, T_X2_gather), (3, 3, 1, 2, T_X2_dueTo), 
  (2, 4, 1, 2, T_X2_owedBy), (2, 4, 0, 2, T_X2_choose), (2, 2, 1, 2, T_X2_worthOf), (2, 4, 1, 2, T_X2_gain), (3, 3, 1, 2, T_X2_loss), (2, 4, 1, 2, T_X2_tradeLost), (1, 3, 1, 2, T_X2_rowsAtRest), (2, 4, 1, 2, T_X2_rowAtRest), 
  (2, 5, 2, 2, T_X2_isAtRest), (4, 4, 2, 2, T_X2_isKept), (1, 1, 0, 97, T_X3_init), (4, 4, 1, 3, T_X3_foretell), (3, 10, 1, 3, T_X3_bestLaw), (2, 4, 0, 3, T_X3_giveLaw), (2, 5, 0, 3, T_X3_growBy), (2, 5, 0, 3, T_X3_seizeFor), 
  (1, 2, 0, 97, T_X4_init), (1, 1, 0, 4, T_X4_clear), (2, 3, 0, 4, T_X4_becomeLike), (1, 1, 2, 4, T_X4_isNone), (2, 2, 2, 4, T_X4_isTown), (3, 3, 2, 4, T_X4_areTwoTowns), (2, 2, 2, 4, T_X4_isMan), (2, 2, 2, 4, T_X4_isClaim), 
  (2, 2, 0, 4, T_X4_addTown), (2, 2, 0, 4, T_X4_addMan), (3, 3, 0, 4, T_X4_addRoad), (3, 3, 2, 4, T_X4_hasRoad), (6, 7, 0, 4, T_X4_setLaw), (3, 3, 1, 4, T_X4_lawOf), (4, 5, 0, 4, T_X4_addFair), (2, 4, 2, 4, T_X4_hasFair), 
  (4, 4, 0, 4, T_X4_setPact), (3, 3, 2, 4, T_X4_hasPact), (2, 4, 1, 4, T_X4_pairsIn), (4, 4, 2, 4, T_X4_canOwe), (2, 2, 2, 4, T_X4_hasRoom), (5, 5, 1, 4, T_X4_addClaim), (1, 3, 1, 4, T_X4_paidClaims), (1, 3, 1, 4, T_X4_leftInAll), 
  (2, 4, 1, 4, T_X4_balanceOf), (4, 4, 1, 4, T_X4_wordLacked), (5, 7, 1, 4, T_X4_wordLacked_), (3, 4, 1, 4, T_X4_mostOf), (4, 6, 1, 4, T_X4_takeGoods), (2, 8, 1, 4, T_X4_saying), (2, 3, 1, 4, T_X4_kindTold), (1, 1, 0, 97, T_X5_init), 
  (1, 3, 1, 99, T_X5_coinOf), (1, 4, 1, 99, T_X5_menOut), (2, 5, 1, 5, T_X5_fewestPayments), (2, 7, 1, 5, T_X5_mostGroups), (1, 1, 0, 97, T_X6_init), (2, 2, 2, 6, T_X6_hasRoom), (3, 5, 1, 6, T_X6_take), (1, 1, 0, 6, T_X6_empty), 
  (2, 5, 2, 6, T_X6_readLand), (2, 2, 2, 6, T_X6_fails), (1, 1, 1, 6, T_X6_wordTold), (2, 3, 2, 6, T_X6_isName), (2, 2, 2, 6, T_X6_readRow), (1, 2, 2, 6, T_X6_readTown), (1, 2, 2, 6, T_X6_readMan), (2, 4, 2, 6, T_X6_readPair), 
  (1, 6, 2, 6, T_X6_readLaw), (1, 4, 2, 6, T_X6_readFair), (3, 4, 1, 6, T_X6_readNumber), (1, 1, 2, 6, T_X6_readSemicolon), (1, 3, 0, 6, T_X6_nextToken), (2, 3, 1, 6, T_X6_sortAt), (1, 1, 0, 97, T_X7_init), 
  (1, 1, 2, 99, T_X7_isNumber), (1, 1, 2, 99, T_X7_isLane), (2, 2, 2, 7, T_X7_isMissing), (2, 2, 1, 7, T_X7_laneOf), (4, 4, 2, 7, T_X7_hasRange), (3, 3, 1, 7, T_X7_item), (4, 5, 0, 7, T_X7_renew), (4, 5, 1, 7, T_X7_put), 
  (6, 6, 0, 7, T_X7_move), (2, 3, 1, 7, T_X7_remove), (1, 3, 1, 7, T_X7_present), (1, 1, 0, 97, T_X8_init), (4, 6, 1, 8, T_X8_fewestRoads), (3, 5, 1, 8, T_X8_openNeighbours), (4, 5, 1, 8, T_X8_fewestBars), (6, 8, 0, 8, T_X8_walk), 
  (2, 3, 0, 8, T_X8_choose), (3, 5, 0, 8, T_X8_findBars), (3, 4, 2, 99, T_X8_isShutAt), (1, 4, 1, 99, T_X8_deadPairs), (1, 2, 0, 97, T_X9_init), (4, 4, 1, 9, T_X9_sheet), (4, 4, 1, 9, T_X9_set), (6, 6, 1, 9, T_X9_copy), 
  (2, 2, 1, 9, T_X9_drop), (3, 4, 1, 9, T_X9_feed), (1, 3, 1, 9, T_X9_land), (1, 1, 1, 9, T_X9_fault), (2, 2, 1, 9, T_X9_later), (3, 3, 1, 9, T_X9_goes), (3, 3, 1, 9, T_X9_man), (3, 3, 1, 9, T_X9_law), (4, 5, 1, 9, T_X9_pact), 
  (4, 4, 1, 9, T_X9_debt), (4, 6, 1, 9, T_X9_debts), (2, 3, 1, 9, T_X9_ask), (4, 5, 1, 9, T_X9_letter), (3, 4, 1, 9, T_X9_pay), (3, 4, 1, 9, T_X9_claim), (4, 6, 1, 9, T_X9_may), (4, 6, 1, 9, T_X9_seize), (4, 6, 1, 9, T_X9_swear), 
  (2, 2, 1, 9, T_X9_says), (3, 3, 1, 9, T_X9_grown), (2, 2, 1, 9, T_X9_net), (3, 3, 1, 9, T_X9_way), (3, 3, 1, 9, T_X9_opened), (3, 3, 1, 9, T_X9_shut), (1, 1, 1, 9, T_X9_dead), (2, 2, 1, 9, T_X9_owes), (2, 2, 1, 9, T_X9_rest), 
  (3, 3, 1, 9, T_X9_has), (4, 4, 1, 9, T_X9_holds), (2, 2, 1, 9, T_X9_reform), (2, 2, 1, 9, T_X9_image), (2, 2, 1, 9, T_X9_restore), (2, 2, 1, 9, T_X9_kind), (3, 3, 1, 9, T_X9_as), (3, 3, 1, 9, T_X9_asks), (2, 2, 1, 9, T_X9_trace), 
  (2, 2, 1, 9, T_X9_count), (1, 1, 1, 9, T_X9_status), (2, 2, 1, 9, T_X9_found), (2, 2, 1, 9, T_X9_unfound), (1, 1, 2, 99, T_X9_isYesOrNo), (1, 1, 2, 99, T_X9_isSum), (2, 4, 2, 99, T_X9_isKindOf), (1, 1, 0, 97, T_X10_init), 
  (3, 6, 2, 99, T_X10_in), (2, 2, 1, 10, T_X10_finding), (1, 1, 2, 99, T_X10_isSheet), (4, 5, 1, 10, T_X10_sheet), (4, 4, 1, 10, T_X10_set), (6, 9, 1, 10, T_X10_copy), (2, 2, 1, 10, T_X10_drop), (3, 5, 1, 10, T_X10_feed), 
  (2, 2, 1, 10, T_X10_byteAt), (1, 1, 2, 99, T_X10_isLetter), (1, 1, 2, 99, T_X10_isFigure), (1, 2, 0, 10, T_X10_next), (2, 2, 0, 10, T_X10_bad), (2, 2, 0, 10, T_X10_must), (1, 4, 5, 10, T_X10_word), (4, 6, 1, 10, T_X10_numberIn), 
  (2, 2, 1, 10, T_X10_town), (3, 3, 0, 10, T_X10_begins), (2, 2, 0, 10, T_X10_ends), (1, 3, 0, 10, T_X10_readTown), (1, 2, 0, 10, T_X10_readMan), (3, 5, 0, 10, T_X10_readTwo), (1, 6, 0, 10, T_X10_readLaw), 
  (1, 5, 0, 10, T_X10_readFair), (1, 2, 1, 10, T_X10_land), (1, 1, 1, 10, T_X10_fault), (2, 2, 2, 10, T_X10_isTown), (2, 2, 2, 10, T_X10_isMan), (2, 2, 2, 10, T_X10_isClaim), (2, 2, 1, 10, T_X10_of), (3, 3, 1, 10, T_X10_told), 
  (4, 4, 0, 10, T_X10_tell), (3, 3, 1, 10, T_X10_lawOf), (3, 3, 2, 10, T_X10_havePact), (2, 2, 1, 10, T_X10_later), (3, 3, 1, 10, T_X10_goes), (2, 4, 1, 10, T_X10_balance), (3, 3, 1, 10, T_X10_man), (3, 3, 1, 10, T_X10_law), 
  (4, 5, 1, 10, T_X10_pact), (5, 7, 1, 10, T_X10_newClaim), (4, 4, 2, 10, T_X10_isDebt), (4, 4, 1, 10, T_X10_debt), (4, 6, 1, 10, T_X10_debts), (2, 2, 1, 10, T_X10_ask), (4, 4, 1, 10, T_X10_letter), (3, 4, 1, 10, T_X10_pay), 
  (3, 3, 1, 10, T_X10_claim), (2, 5, 2, 10, T_X10_isFair), (2, 2, 2, 10, T_X10_isLetterGood), (5, 7, 1, 10, T_X10_lacks), (3, 3, 1, 10, T_X10_lacksOf), (3, 4, 1, 10, T_X10_mostOf), (4, 5, 1, 10, T_X10_may), (4, 6, 1, 10, T_X10_take), 
  (4, 4, 1, 10, T_X10_seize), (4, 5, 1, 10, T_X10_swear), (2, 7, 1, 10, T_X10_says), (1, 2, 0, 10, T_X10_hold), (1, 2, 0, 10, T_X10_layBack), (2, 7, 0, 10, T_X10_grow), (1, 3, 1, 10, T_X10_allLeft), (3, 4, 1, 10, T_X10_grown), 
  (2, 8, 1, 10, T_X10_reform), (2, 4, 2, 10, T_X10_hasOpen), (1, 6, 1, 10, T_X10_payments), (2, 6, 1, 10, T_X10_net), (3, 5, 1, 10, T_X10_against), (3, 3, 2, 10, T_X10_isRoad), (3, 8, 1, 10, T_X10_way), (1, 3, 1, 99, T_X10_bits), 
  (3, 7, 1, 10, T_X10_opened), (3, 5, 2, 10, T_X10_isShut), (3, 3, 1, 10, T_X10_shut), (1, 4, 1, 10, T_X10_dead), (1, 4, 0, 10, T_X10_layBetween), (2, 4, 1, 10, T_X10_owesOf), (2, 2, 1, 10, T_X10_owes), (2, 6, 1, 10, T_X10_hasOf), 
  (1, 3, 1, 10, T_X10_allChoices), (2, 4, 0, 10, T_X10_layChoices), (2, 7, 2, 10, T_X10_isAtRest), (2, 5, 1, 10, T_X10_rest), (3, 3, 1, 10, T_X10_has), (4, 4, 2, 10, T_X10_bears), (4, 4, 1, 10, T_X10_holds), 
  (2, 3, 1, 10, T_X10_image), (2, 3, 1, 10, T_X10_restore), (2, 3, 1, 10, T_X10_kindOf), (2, 2, 2, 99, T_X10_isOf), (2, 2, 1, 10, T_X10_kind), (3, 3, 1, 10, T_X10_as), (2, 2, 0, 10, T_X10_began), (3, 4, 1, 10, T_X10_townSize), 
  (2, 2, 1, 10, T_X10_ownMark), (3, 4, 1, 10, T_X10_sizeOf), (3, 4, 1, 10, T_X10_markOf), (3, 3, 1, 10, T_X10_asks), (2, 2, 1, 10, T_X10_trace), (3, 6, 1, 10, T_X10_pairs), (2, 4, 1, 10, T_X10_count), (1, 1, 1, 10, T_X10_status), 
  (2, 2, 1, 99, T_J6_compare_7cf53), (1, 1, 1, 99, T_J6_bitCount_0f7a4), (1, 1, 1, 98, T_J0_length_8abf5), (2, 2, 4, 98, T_J0_charAt_5068e), (1, 1, 3, 98, T_J0_coder_7d493), (1, 1, 2, 98, T_J0_isLatin1_aae02), 
  (2, 2, 4, 99, T_J1_charAt_3b067), (3, 3, 0, 99, T_J7_rangeCheck_23922), (2, 4, 0, 99, T_J7_fill_53178), (4, 5, 0, 99, T_J7_fill_fda19), (1, 4, 2, 99, T_L_law)]
