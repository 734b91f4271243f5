-- THE CONSTRUCTORS, run
abbrev Op : Type := En ⊕ (Nat × Nat × Nat × Nat × Nat)
def cdX0_init : List (Nat × Op) := [(0, .inl (.aload_n 0, (0, 0, 0))), (1, .inr (7, 3, 7, 0, 0)), (4, .inl (.aload_n 0, (0, 0, 0))), (5, .inl (.bipush 8, (0, 0, 0))), (7, .inr (4, 0, 0, 0, 0)), (9, .inl (.putfield 9, (81, 0, 1))), (12, .inl (.aload_n 0, (0, 0, 0))), (13, .inr (0, 15, 12, 7, 7)), (16, .inl (.dup, (0, 0, 0))), (17, .inr (9, 17, 10, 7, 0)), (20, .inl (.putfield 18, (83, 0, 2))), (23, .inl (.aload_n 0, (0, 0, 0))), (24, .inr (0, 22, 13, 6, 4)), (27, .inl (.dup, (0, 0, 0))), (28, .inr (9, 24, 11, 6, 0)), (31, .inl (.putfield 25, (84, 0, 3))), (34, .inl (.return_, (0, 0, 0)))]
def cdX1_init : List (Nat × Op) := [(0, .inl (.aload_n 0, (0, 0, 0))), (1, .inr (7, 3, 2, 0, 0)), (4, .inl (.aload_n 0, (0, 0, 0))), (5, .inr (0, 9, 3, 7, 7)), (8, .inl (.dup, (0, 0, 0))), (9, .inr (9, 11, 2, 7, 0)), (12, .inl (.putfield 12, (47, 1, 0))), (15, .inl (.aload_n 0, (0, 0, 0))), (16, .inr (0, 18, 4, 6, 4)), (19, .inl (.dup, (0, 0, 0))), (20, .inr (9, 20, 3, 6, 0)), (23, .inl (.putfield 21, (49, 1, 1))), (26, .inl (.aload_n 0, (0, 0, 0))), (27, .inl (.iconst 5, (0, 0, 0))), (28, .inr (1, 0, 0, 0, 0)), (30, .inl (.putfield 25, (51, 1, 2))), (33, .inl (.aload_n 0, (0, 0, 0))), (34, .inl (.iconst 5, (0, 0, 0))), (35, .inr (1, 0, 0, 0, 0)), (37, .inl (.putfield 29, (53, 1, 3))), (40, .inl (.return_, (0, 0, 0)))]
def cdX2_init : List (Nat × Op) := [(0, .inl (.aload_n 0, (0, 0, 0))), (1, .inr (7, 3, 5, 0, 0)), (4, .inl (.aload_n 0, (0, 0, 0))), (5, .inl (.iconst 4, (0, 0, 0))), (6, .inr (5, 9, 6, 0, 0)), (9, .inl (.putfield 11, (65, 2, 3))), (12, .inl (.aload_n 0, (0, 0, 0))), (13, .inr (0, 17, 7, 6, 4)), (16, .inl (.dup, (0, 0, 0))), (17, .inr (9, 19, 4, 6, 0)), (20, .inl (.putfield 20, (66, 2, 4))), (23, .inl (.iconst 0, (0, 0, 0))), (24, .inl (.istore_n 1, (0, 0, 0))), (25, .inl (.iload_n 1, (0, 0, 0))), (26, .inl (.aload_n 0, (0, 0, 0))), (27, .inl (.getfield 11, (65, 2, 3))), (30, .inl (.arraylength, (0, 0, 0))), (31, .inl (.if_icmp .ge 22, (53, 0, 0))), (34, .inl (.aload_n 0, (0, 0, 0))), (35, .inl (.getfield 11, (65, 2, 3))), (38, .inl (.iload_n 1, (0, 0, 0))), (39, .inr (0, 9, 6, 7, 7)), (42, .inl (.dup, (0, 0, 0))), (43, .inr (9, 24, 5, 7, 0)), (46, .inr (6, 0, 0, 0, 0)), (47, .inl (.iinc 1 1, (0, 0, 0))), (50, .inl (.goto (-25), (25, 0, 0))), (53, .inl (.return_, (0, 0, 0)))]
def cdX3_init : List (Nat × Op) := [(0, .inl (.aload_n 0, (0, 0, 0))), (1, .inr (7, 3, 6, 0, 0)), (4, .inl (.aload_n 0, (0, 0, 0))), (5, .inl (.bipush 61, (0, 0, 0))), (7, .inr (1, 0, 0, 0, 0)), (9, .inl (.putfield 9, (76, 3, 4))), (12, .inl (.aload_n 0, (0, 0, 0))), (13, .inr (0, 15, 9, 7, 7)), (16, .inl (.dup, (0, 0, 0))), (17, .inr (9, 17, 7, 7, 0)), (20, .inl (.putfield 18, (77, 3, 5))), (23, .inl (.aload_n 0, (0, 0, 0))), (24, .inr (0, 22, 10, 6, 4)), (27, .inl (.dup, (0, 0, 0))), (28, .inr (9, 24, 8, 6, 0)), (31, .inl (.putfield 25, (78, 3, 6))), (34, .inl (.return_, (0, 0, 0)))]
def cdX4_init : List (Nat × Op) := [(0, .inl (.aload_n 0, (0, 0, 0))), (1, .inr (7, 3, 8, 0, 0)), (4, .inl (.aload_n 0, (0, 0, 0))), (5, .inl (.bipush 16, (0, 0, 0))), (7, .inr (5, 9, 15, 0, 0)), (10, .inl (.putfield 11, (88, 4, 2))), (13, .inl (.iconst 0, (0, 0, 0))), (14, .inl (.istore_n 1, (0, 0, 0))), (15, .inl (.iload_n 1, (0, 0, 0))), (16, .inl (.aload_n 0, (0, 0, 0))), (17, .inl (.getfield 11, (88, 4, 2))), (20, .inl (.arraylength, (0, 0, 0))), (21, .inl (.if_icmp .ge 22, (43, 0, 0))), (24, .inl (.aload_n 0, (0, 0, 0))), (25, .inl (.getfield 11, (88, 4, 2))), (28, .inl (.iload_n 1, (0, 0, 0))), (29, .inr (0, 9, 15, 7, 7)), (32, .inl (.dup, (0, 0, 0))), (33, .inr (9, 17, 12, 7, 0)), (36, .inr (6, 0, 0, 0, 0)), (37, .inl (.iinc 1 1, (0, 0, 0))), (40, .inl (.goto (-25), (15, 0, 0))), (43, .inl (.return_, (0, 0, 0)))]
def cdX5_init : List (Nat × Op) := [(0, .inl (.aload_n 0, (0, 0, 0))), (1, .inr (7, 3, 9, 0, 0)), (4, .inl (.aload_n 0, (0, 0, 0))), (5, .inl (.iconst 3, (0, 0, 0))), (6, .inr (5, 9, 17, 0, 0)), (9, .inl (.putfield 11, (91, 5, 1))), (12, .inl (.iconst 0, (0, 0, 0))), (13, .inl (.istore_n 1, (0, 0, 0))), (14, .inl (.iload_n 1, (0, 0, 0))), (15, .inl (.aload_n 0, (0, 0, 0))), (16, .inl (.getfield 11, (91, 5, 1))), (19, .inl (.arraylength, (0, 0, 0))), (20, .inl (.if_icmp .ge 22, (42, 0, 0))), (23, .inl (.aload_n 0, (0, 0, 0))), (24, .inl (.getfield 11, (91, 5, 1))), (27, .inl (.iload_n 1, (0, 0, 0))), (28, .inr (0, 9, 17, 7, 7)), (31, .inl (.dup, (0, 0, 0))), (32, .inr (9, 17, 13, 7, 0)), (35, .inr (6, 0, 0, 0, 0)), (36, .inl (.iinc 1 1, (0, 0, 0))), (39, .inl (.goto (-25), (14, 0, 0))), (42, .inl (.return_, (0, 0, 0)))]
def cdX6_init : List (Nat × Op) := [(0, .inl (.aload_n 0, (0, 0, 0))), (1, .inr (7, 3, 4, 0, 0)), (4, .inl (.aload_n 0, (0, 0, 0))), (5, .inl (.bipush (-2), (0, 0, 0))), (7, .inl (.putfield 9, (36, 6, 0))), (10, .inl (.aload_n 0, (0, 0, 0))), (11, .inl (.bipush (-2), (0, 0, 0))), (13, .inl (.putfield 15, (39, 6, 1))), (16, .inl (.aload_n 0, (0, 0, 0))), (17, .inl (.iconst 5, (0, 0, 0))), (18, .inr (1, 0, 0, 0, 0)), (20, .inl (.putfield 18, (44, 6, 2))), (23, .inl (.aload_n 0, (0, 0, 0))), (24, .inl (.iconst 5, (0, 0, 0))), (25, .inr (1, 0, 0, 0, 0)), (27, .inl (.putfield 22, (46, 6, 3))), (30, .inl (.return_, (0, 0, 0)))]
def cdX7_init : List (Nat × Op) := [(0, .inl (.aload_n 0, (0, 0, 0))), (1, .inr (7, 3, 3, 0, 0)), (4, .inl (.aload_n 0, (0, 0, 0))), (5, .inl (.iconst 5, (0, 0, 0))), (6, .inr (1, 0, 0, 0, 0)), (8, .inl (.putfield 9, (18, 7, 0))), (11, .inl (.aload_n 0, (0, 0, 0))), (12, .inl (.iconst 5, (0, 0, 0))), (13, .inr (1, 0, 0, 0, 0)), (15, .inl (.putfield 15, (21, 7, 1))), (18, .inl (.aload_n 0, (0, 0, 0))), (19, .inl (.bipush 8, (0, 0, 0))), (21, .inr (1, 0, 0, 0, 0)), (23, .inl (.putfield 18, (23, 7, 2))), (26, .inl (.return_, (0, 0, 0)))]
def cdX8_init : List (Nat × Op) := [(0, .inl (.aload_n 0, (0, 0, 0))), (1, .inr (7, 3, 1, 0, 0)), (4, .inl (.aload_n 0, (0, 0, 0))), (5, .inl (.sipush 700, (0, 0, 0))), (8, .inr (2, 0, 0, 0, 0)), (10, .inl (.putfield 9, (6, 8, 3))), (13, .inl (.aload_n 0, (0, 0, 0))), (14, .inl (.bipush 13, (0, 0, 0))), (16, .inr (1, 0, 0, 0, 0)), (18, .inl (.putfield 15, (7, 8, 4))), (21, .inl (.aload_n 0, (0, 0, 0))), (22, .inl (.bipush 13, (0, 0, 0))), (24, .inr (1, 0, 0, 0, 0)), (26, .inl (.putfield 19, (8, 8, 5))), (29, .inl (.aload_n 0, (0, 0, 0))), (30, .inl (.bipush 13, (0, 0, 0))), (32, .inr (3, 0, 0, 0, 0)), (34, .inl (.putfield 22, (9, 8, 6))), (37, .inl (.aload_n 0, (0, 0, 0))), (38, .inl (.bipush 13, (0, 0, 0))), (40, .inr (1, 0, 0, 0, 0)), (42, .inl (.putfield 26, (10, 8, 7))), (45, .inl (.return_, (0, 0, 0)))]
def cdX9_init : List (Nat × Op) := [(0, .inl (.aload_n 0, (0, 0, 0))), (1, .inr (7, 3, 10, 0, 0)), (4, .inl (.aload_n 0, (0, 0, 0))), (5, .inl (.iconst 5, (0, 0, 0))), (6, .inr (1, 0, 0, 0, 0)), (8, .inl (.putfield 9, (129, 9, 8))), (11, .inl (.aload_n 0, (0, 0, 0))), (12, .inl (.iconst 5, (0, 0, 0))), (13, .inr (1, 0, 0, 0, 0)), (15, .inl (.putfield 15, (132, 9, 9))), (18, .inl (.aload_n 0, (0, 0, 0))), (19, .inl (.iconst 5, (0, 0, 0))), (20, .inr (1, 0, 0, 0, 0)), (22, .inl (.putfield 18, (136, 9, 10))), (25, .inl (.aload_n 0, (0, 0, 0))), (26, .inl (.bipush 8, (0, 0, 0))), (28, .inr (1, 0, 0, 0, 0)), (30, .inl (.putfield 21, (140, 9, 11))), (33, .inl (.aload_n 0, (0, 0, 0))), (34, .inl (.bipush 8, (0, 0, 0))), (36, .inr (1, 0, 0, 0, 0)), (38, .inl (.putfield 24, (143, 9, 12))), (41, .inl (.aload_n 0, (0, 0, 0))), (42, .inl (.bipush 8, (0, 0, 0))), (44, .inr (1, 0, 0, 0, 0)), (46, .inl (.putfield 27, (146, 9, 13))), (49, .inl (.aload_n 0, (0, 0, 0))), (50, .inl (.bipush 8, (0, 0, 0))), (52, .inr (1, 0, 0, 0, 0)), (54, .inl (.putfield 30, (148, 9, 14))), (57, .inl (.aload_n 0, (0, 0, 0))), (58, .inl (.iconst 4, (0, 0, 0))), (59, .inr (1, 0, 0, 0, 0)), (61, .inl (.putfield 33, (150, 9, 15))), (64, .inl (.aload_n 0, (0, 0, 0))), (65, .inl (.iconst 4, (0, 0, 0))), (66, .inr (1, 0, 0, 0, 0)), (68, .inl (.putfield 36, (153, 9, 16))), (71, .inl (.aload_n 0, (0, 0, 0))), (72, .inl (.bipush 6, (0, 0, 0))), (74, .inr (1, 0, 0, 0, 0)), (76, .inl (.putfield 39, (156, 9, 17))), (79, .inl (.aload_n 0, (0, 0, 0))), (80, .inl (.bipush 6, (0, 0, 0))), (82, .inr (1, 0, 0, 0, 0)), (84, .inl (.putfield 42, (159, 9, 18))), (87, .inl (.return_, (0, 0, 0)))]
def cdX10_init : List (Nat × Op) := [(0, .inl (.aload_n 0, (0, 0, 0))), (1, .inr (7, 1, 0, 0, 0)), (4, .inl (.aload_n 0, (0, 0, 0))), (5, .inr (0, 7, 1, 8, 15)), (8, .inl (.dup, (0, 0, 0))), (9, .inr (9, 9, 0, 8, 0)), (12, .inl (.putfield 10, (162, 10, 0))), (15, .inl (.aload_n 0, (0, 0, 0))), (16, .inr (0, 16, 2, 1, 6)), (19, .inl (.dup, (0, 0, 0))), (20, .inr (9, 18, 1, 1, 0)), (23, .inl (.putfield 19, (163, 10, 1))), (26, .inl (.aload_n 0, (0, 0, 0))), (27, .inr (0, 23, 5, 2, 7)), (30, .inl (.dup, (0, 0, 0))), (31, .inr (8, 25, 1, 2, 0)), (34, .inl (.putfield 26, (164, 10, 2))), (37, .inl (.aload_n 0, (0, 0, 0))), (38, .inr (0, 30, 8, 3, 7)), (41, .inl (.dup, (0, 0, 0))), (42, .inr (9, 32, 6, 3, 0)), (45, .inl (.putfield 33, (165, 10, 3))), (48, .inl (.aload_n 0, (0, 0, 0))), (49, .inr (0, 37, 11, 0, 4)), (52, .inl (.dup, (0, 0, 0))), (53, .inr (9, 39, 9, 0, 0)), (56, .inl (.putfield 40, (166, 10, 4))), (59, .inl (.aload_n 0, (0, 0, 0))), (60, .inr (0, 44, 14, 4, 3)), (63, .inl (.dup, (0, 0, 0))), (64, .inr (8, 46, 2, 4, 0)), (67, .inl (.putfield 47, (167, 10, 5))), (70, .inl (.aload_n 0, (0, 0, 0))), (71, .inr (0, 51, 16, 5, 2)), (74, .inl (.dup, (0, 0, 0))), (75, .inr (8, 53, 3, 5, 0)), (78, .inl (.putfield 54, (168, 10, 6))), (81, .inl (.aload_n 0, (0, 0, 0))), (82, .inr (0, 58, 18, 6, 4)), (85, .inl (.dup, (0, 0, 0))), (86, .inr (9, 60, 14, 6, 0)), (89, .inl (.putfield 61, (169, 10, 7))), (92, .inl (.aload_n 0, (0, 0, 0))), (93, .inr (0, 65, 19, 7, 7)), (96, .inl (.dup, (0, 0, 0))), (97, .inr (9, 67, 15, 7, 0)), (100, .inl (.putfield 68, (170, 10, 8))), (103, .inl (.aload_n 0, (0, 0, 0))), (104, .inr (0, 72, 20, 9, 19)), (107, .inl (.dup, (0, 0, 0))), (108, .inr (9, 74, 16, 9, 0)), (111, .inl (.putfield 75, (171, 10, 9))), (114, .inl (.aload_n 0, (0, 0, 0))), (115, .inr (0, 72, 20, 9, 19)), (118, .inl (.dup, (0, 0, 0))), (119, .inr (9, 74, 16, 9, 0)), (122, .inl (.putfield 79, (172, 10, 10))), (125, .inl (.return_, (0, 0, 0)))]
def cdX11_init : List (Nat × Op) := [(0, .inl (.aload_n 0, (0, 0, 0))), (1, .inr (7, 1, 21, 0, 0)), (4, .inl (.aload_n 0, (0, 0, 0))), (5, .inl (.sipush 700, (0, 0, 0))), (8, .inr (1, 0, 0, 0, 0)), (10, .inl (.putfield 7, (176, 11, 1))), (13, .inl (.aload_n 0, (0, 0, 0))), (14, .inl (.iconst (-1), (0, 0, 0))), (15, .inl (.putfield 13, (185, 11, 10))), (18, .inl (.aload_n 0, (0, 0, 0))), (19, .inl (.bipush 8, (0, 0, 0))), (21, .inr (1, 0, 0, 0, 0)), (23, .inl (.putfield 17, (187, 11, 12))), (26, .inl (.aload_n 0, (0, 0, 0))), (27, .inl (.sipush 188, (0, 0, 0))), (30, .inr (1, 0, 0, 0, 0)), (32, .inl (.putfield 20, (190, 11, 15))), (35, .inl (.aload_n 0, (0, 0, 0))), (36, .inl (.sipush 188, (0, 0, 0))), (39, .inr (1, 0, 0, 0, 0)), (41, .inl (.putfield 23, (191, 11, 16))), (44, .inl (.aload_n 0, (0, 0, 0))), (45, .inl (.bipush 22, (0, 0, 0))), (47, .inr (1, 0, 0, 0, 0)), (49, .inl (.putfield 26, (192, 11, 17))), (52, .inl (.aload_n 0, (0, 0, 0))), (53, .inl (.bipush 22, (0, 0, 0))), (55, .inr (1, 0, 0, 0, 0)), (57, .inl (.putfield 29, (193, 11, 18))), (60, .inl (.aload_n 0, (0, 0, 0))), (61, .inl (.bipush 22, (0, 0, 0))), (63, .inr (1, 0, 0, 0, 0)), (65, .inl (.putfield 32, (194, 11, 19))), (68, .inl (.aload_n 0, (0, 0, 0))), (69, .inl (.bipush 22, (0, 0, 0))), (71, .inr (1, 0, 0, 0, 0)), (73, .inl (.putfield 35, (195, 11, 20))), (76, .inl (.aload_n 0, (0, 0, 0))), (77, .inl (.sipush 352, (0, 0, 0))), (80, .inr (1, 0, 0, 0, 0)), (82, .inl (.putfield 38, (196, 11, 21))), (85, .inl (.aload_n 0, (0, 0, 0))), (86, .inl (.bipush 66, (0, 0, 0))), (88, .inr (1, 0, 0, 0, 0)), (90, .inl (.putfield 41, (197, 11, 22))), (93, .inl (.aload_n 0, (0, 0, 0))), (94, .inl (.iconst 5, (0, 0, 0))), (95, .inr (1, 0, 0, 0, 0)), (97, .inl (.putfield 44, (202, 11, 27))), (100, .inl (.aload_n 0, (0, 0, 0))), (101, .inl (.iconst 5, (0, 0, 0))), (102, .inr (1, 0, 0, 0, 0)), (104, .inl (.putfield 47, (203, 11, 28))), (107, .inl (.aload_n 0, (0, 0, 0))), (108, .inl (.iconst 4, (0, 0, 0))), (109, .inr (1, 0, 0, 0, 0)), (111, .inl (.putfield 50, (211, 11, 36))), (114, .inl (.return_, (0, 0, 0)))]
def CCt : List (Nat × Mt × List (Nat × Op)) := [(7, mX0_init, cdX0_init), (2, mX1_init, cdX1_init), (5, mX2_init, cdX2_init), (6, mX3_init, cdX3_init), (8, mX4_init, cdX4_init), (9, mX5_init, cdX5_init), (4, mX6_init, cdX6_init), (3, mX7_init, cdX7_init), (1, mX8_init, cdX8_init), (10, mX9_init, cdX9_init), (0, mX10_init, cdX10_init), (177, mX11_init, cdX11_init)]
def exN (o : Option (aH × Nat × Nat)) (c s : Nat) : Option (aH × Nat × Nat) := match o with
  | some z => some (z.1, c + z.2.1, s + z.2.2)
  | none => none
def nwA (k N : Nat) : aC := if k = 1 then .inl (0, .inl (List.replicate N 0)) else if k = 2 then .inl (1, .inl (List.replicate N 0)) else if k = 3 then .inl (2, .inl (List.replicate N 0)) else .inl (3, .inr (.inl (List.replicate N 0)))
def aaS (h : aH) (v a : Nat) (n : Int32) : Option aH := match h[a]? with
  | some (.inl (t, .inr (.inr rs))) => (match h[v]? with
    | some (.inr (c, _)) => if t = 4 ∧ c = 7 ∧ vpB n rs.length = true then some (h.set a (.inl (4, .inr (.inr (rs.set n.toNatClampNeg (some v)))))) else none
    | _ => none)
  | _ => none
def mxL (mi : Nat) : Nat := match CCt[mi]? with
  | some m => m.2.1.2.2.2.1
  | none => 0
def fc {α : Type} (h : aH) (k : aH → α) : α := match h with
  | [] => k []
  | c :: t => fc t (fun t' => k (c :: t'))
set_option maxRecDepth 100000 in
set_option maxHeartbeats 400000 in
theorem fc_eq {α : Type} : ∀ (h : aH) (k : aH → α), fc h k = k h := by
  intro h
  induction h with
  | nil => intro k; rfl
  | cons c t ih => intro k; unfold fc; rw [ih]
/-- a constructor run: (the heap it leaves, cells, slots) -/
def ex : Nat → Nat → Nat → Nat → List Value → List Value → aH → Option (aH × Nat × Nat)
  | 0, _, _, _, _, _, _ => none
  | f + 1, D, mi, pc, xs, st, h => match (CCt[mi]?).bind (fun m => m.2.2.lookup pc) with
    | none => none
    | some (.inl e) => sto none e.1 e.2 xs h st (fun xs' h' st' => fc h' fun h' => ex f D mi (pc + lenI e.1) xs' st' h') (fun xs' h' st' => ex f D mi e.2.1 xs' st' h') (fun v h' => match v with
      | none => some (h', 0, 0)
      | some _ => none)
    | some (.inr q) =>
      if q.1 = 0 then (if wfS xs st h = true then exN (fc (h ++ [.inr (q.2.2.2.1, dfl q.2.2.2.1 q.2.2.2.2)]) fun h' => ex f D mi (pc + 3) xs (.ref h.length :: st) h') 1 q.2.2.2.2 else none)
      else if q.1 < 5 then (match st with
        | .int x :: rest => if x = nI x.toNatClampNeg ∧ x.toNatClampNeg < 10000 ∧ wfS xs rest h = true then exN (fc (h ++ [nwA q.1 x.toNatClampNeg]) fun h' => ex f D mi (pc + 2) xs (.ref h.length :: rest) h') 1 x.toNatClampNeg else none
        | _ => none)
      else if q.1 = 5 then (match st with
        | .int x :: rest => if x = nI x.toNatClampNeg ∧ x.toNatClampNeg < 10000 ∧ wfS xs rest h = true then exN (fc (h ++ [.inl (4, .inr (.inr (List.replicate x.toNatClampNeg none)))]) fun h' => ex f D mi (pc + 3) xs (.ref h.length :: rest) h') 1 x.toNatClampNeg else none
        | _ => none)
      else if q.1 = 6 then (match st with
        | .ref v :: .int n :: .ref a :: rest => (aaS h v a n).bind fun h' => fc h' fun h' => ex f D mi (pc + 1) xs rest h'
        | _ => none)
      else (match st with
        | .ref a :: rest => if (rest.map fun v => v.category).sum ≤ 8 then (if q.1 = 7 then ex f D mi (pc + 3) xs rest h
            else (match D with
              | 0 => none
              | D' + 1 => if wfS xs rest h = true then (match ex f D' q.2.2.2.1 0 (eN [.ref a] (mxL q.2.2.2.1)) [] h with
                | some z => exN (ex f (D' + 1) mi (pc + 3) xs rest z.1) z.2.1 z.2.2
                | none => none) else none)) else none
        | _ => none)
def ckE (M : Mt) (pc : Nat) (e : Op) : Bool := match e with
  | .inl e => decide (decode M.2.2.1 pc = .ok (e.1, lenI e.1)) && (okI M pc e.1 e.2 && ckT M.2.2.2.1 e.2.1 e)
  | .inr q => if q.1 = 0 then ckG M pc (.new q.2.1) q.2.1 q.2.2.1 q.2.2.2.1 q.2.2.2.2
    else if q.1 = 1 then decide (decode M.2.2.1 pc = .ok (.newarray .int, 2))
    else if q.1 = 2 then decide (decode M.2.2.1 pc = .ok (.newarray .byte, 2))
    else if q.1 = 3 then decide (decode M.2.2.1 pc = .ok (.newarray .boolean, 2))
    else if q.1 = 4 then decide (decode M.2.2.1 pc = .ok (.newarray .long, 2))
    else if q.1 = 5 then ckG M pc (.anewarray q.2.1) q.2.1 q.2.2.1 7 7
    else if q.1 = 6 then decide (decode M.2.2.1 pc = .ok (.aastore, 1))
    else if q.1 = 7 then ckO M pc q.2.1 q.2.2.1
    else (match CCt[q.2.2.2.1]? with
      | some m' => if q.1 = 8 then okC M pc (.invokespecial q.2.1) m'.1 q.2.2.1 2 0 else okN M pc (.invokespecial q.2.1) m'.1 q.2.2.1 0
      | none => false)
set_option maxRecDepth 100000 in
set_option maxHeartbeats 400000 in
theorem kcX0_init : cdX0_init.all (fun x => ckE mX0_init x.1 x.2) = true := by decide +kernel
set_option maxRecDepth 100000 in
set_option maxHeartbeats 400000 in
theorem kcX1_init : cdX1_init.all (fun x => ckE mX1_init x.1 x.2) = true := by decide +kernel
set_option maxRecDepth 100000 in
set_option maxHeartbeats 400000 in
theorem kcX2_init : cdX2_init.all (fun x => ckE mX2_init x.1 x.2) = true := by decide +kernel
set_option maxRecDepth 100000 in
set_option maxHeartbeats 400000 in
theorem kcX3_init : cdX3_init.all (fun x => ckE mX3_init x.1 x.2) = true := by decide +kernel
set_option maxRecDepth 100000 in
set_option maxHeartbeats 400000 in
theorem kcX4_init : cdX4_init.all (fun x => ckE mX4_init x.1 x.2) = true := by decide +kernel
set_option maxRecDepth 100000 in
set_option maxHeartbeats 400000 in
theorem kcX5_init : cdX5_init.all (fun x => ckE mX5_init x.1 x.2) = true := by decide +kernel
set_option maxRecDepth 100000 in
set_option maxHeartbeats 400000 in
theorem kcX6_init : cdX6_init.all (fun x => ckE mX6_init x.1 x.2) = true := by decide +kernel
set_option maxRecDepth 100000 in
set_option maxHeartbeats 400000 in
theorem kcX7_init : cdX7_init.all (fun x => ckE mX7_init x.1 x.2) = true := by decide +kernel
set_option maxRecDepth 100000 in
set_option maxHeartbeats 400000 in
theorem kcX8_init : cdX8_init.all (fun x => ckE mX8_init x.1 x.2) = true := by decide +kernel
set_option maxRecDepth 100000 in
set_option maxHeartbeats 400000 in
theorem kcX9_init : cdX9_init.all (fun x => ckE mX9_init x.1 x.2) = true := by decide +kernel
set_option maxRecDepth 100000 in
set_option maxHeartbeats 400000 in
theorem kcX10_init : cdX10_init.all (fun x => ckE mX10_init x.1 x.2) = true := by decide +kernel
set_option maxRecDepth 100000 in
set_option maxHeartbeats 400000 in
theorem kcX11_init : cdX11_init.all (fun x => ckE mX11_init x.1 x.2) = true := by decide +kernel
set_option maxRecDepth 100000 in
set_option maxHeartbeats 400000 in
theorem CC_ok : ∀ (mi : Nat) (m : Nat × Mt × List (Nat × Op)), CCt[mi]? = some m → MT[m.1]? = some m.2.1 ∧ cN m.2.1.1 = m.2.1.2.1.cls ∧ plainName m.2.1.2.1.cls = true ∧ m.2.1.2.2.2.2 = none ∧ m.2.1.2.2.2.1 ≤ 20 ∧ 1 ≤ m.2.1.2.2.2.1 ∧ (m.2.2.all (fun x => ckE m.2.1 x.1 x.2)) = true := by
  intro mi m h
  match mi, h with
  | 0, h => cases h; exact ⟨jX0_init, rfl, by decide, rfl, by decide, by decide, kcX0_init⟩
  | 1, h => cases h; exact ⟨jX1_init, rfl, by decide, rfl, by decide, by decide, kcX1_init⟩
  | 2, h => cases h; exact ⟨jX2_init, rfl, by decide, rfl, by decide, by decide, kcX2_init⟩
  | 3, h => cases h; exact ⟨jX3_init, rfl, by decide, rfl, by decide, by decide, kcX3_init⟩
  | 4, h => cases h; exact ⟨jX4_init, rfl, by decide, rfl, by decide, by decide, kcX4_init⟩
  | 5, h => cases h; exact ⟨jX5_init, rfl, by decide, rfl, by decide, by decide, kcX5_init⟩
  | 6, h => cases h; exact ⟨jX6_init, rfl, by decide, rfl, by decide, by decide, kcX6_init⟩
  | 7, h => cases h; exact ⟨jX7_init, rfl, by decide, rfl, by decide, by decide, kcX7_init⟩
  | 8, h => cases h; exact ⟨jX8_init, rfl, by decide, rfl, by decide, by decide, kcX8_init⟩
  | 9, h => cases h; exact ⟨jX9_init, rfl, by decide, rfl, by decide, by decide, kcX9_init⟩
  | 10, h => cases h; exact ⟨jX10_init, rfl, by decide, rfl, by decide, by decide, kcX10_init⟩
  | 11, h => cases h; exact ⟨jX11_init, rfl, by decide, rfl, by decide, by decide, kcX11_init⟩
  | n + 12, h => cases h
section EXK
variable {d : Nat}
set_option maxRecDepth 100000 in
set_option maxHeartbeats 400000 in
theorem exN_of {o : Option (aH × Nat × Nat)} {c s : Nat} {z : aH × Nat × Nat} (q : exN o c s = some z) : ∃ w, o = some w ∧ z = (w.1, c + w.2.1, s + w.2.2) := by
  unfold exN at q
  split at q
  · rename_i w
    cases q
    exact ⟨w, rfl, rfl⟩
  · cases q
def QE (h : aH) (r : Option Value) (h' : aH) : Prop := r = none ∧ h' = h
set_option maxRecDepth 100000 in
set_option maxHeartbeats 400000 in
theorem ex_ok : ∀ (f D mi pc : Nat) (xs st : List Value) (h : aH) (z : aH × Nat × Nat) (m : Nat × Mt × List (Nat × Op)), CCt[mi]? = some m → ex f D mi pc xs st h = some z → Ev (d + D + 1) none m.2.1 (z.2.1, z.2.2) pc xs st h (QE z.1) := by
  intro f
  induction f with
  | zero => intro D mi pc xs st h z m hm q; cases q
  | succ f ih =>
    intro D mi pc xs st h z m hm q
    obtain ⟨hj, hcn, hpl, hret, hmx, hm1, hck⟩ := CC_ok mi m hm
    unfold ex at q
    rw [hm, Option.bind_some] at q
    cases hlk : m.2.2.lookup pc with
    | none => rw [hlk] at q; cases q
    | some e =>
      rw [hlk] at q
      have hc1 : ckE m.2.1 pc e = true := List.all_eq_true.mp hck _ (lookup_mem hlk)
      cases e with
      | inl e =>
        dsimp only at q
        unfold ckE at hc1
        dsimp only at hc1
        simp only [Bool.and_eq_true, decide_eq_true_eq] at hc1
        obtain ⟨c1, c2, c3⟩ := hc1
        have qq := sto_ok (M := m.2.1) (X := none) c3 q
        refine stp_ok (fun _ => hcn) c1 c2 (stq_stp qq) (fun xs' st' h' w => ih D mi (pc + lenI e.1) xs' st' h' z m hm ((fc_eq h' (fun h' => ex f D mi (pc + lenI e.1) xs' st' h')).symm.trans w)) (fun t xs' st' h' w => ?_) (fun r h' w => ?_)
        · obtain ⟨rfl, -, w⟩ := w
          exact ih D mi e.2.1 xs' st' h' z m hm w
        · cases r with
          | none => cases w; exact ⟨rfl, rfl⟩
          | some v => cases w
      | inr g =>
        dsimp only at q
        unfold ckE at hc1
        dsimp only at hc1
        by_cases g0 : g.1 = 0
        · rw [if_pos g0] at q hc1
          by_cases hw : wfS xs st h = true
          · rw [if_pos hw] at q
            obtain ⟨w, e1, rfl⟩ := exN_of q
            rw [fc_eq] at e1
            have k := ih D mi (pc + 3) xs _ _ w m hm e1
            rw [show (1 + w.2.1, g.2.2.2.2 + w.2.2) = (w.2.1 + 1, w.2.2 + g.2.2.2.2) by rw [Nat.add_comm 1, Nat.add_comm g.2.2.2.2]]
            exact ev_new hc1 rfl hcn hw k
          · rw [if_neg hw] at q; cases q
        · rw [if_neg g0] at q hc1
          by_cases g5 : g.1 < 5
          · rw [if_pos g5] at q
            split at q
            · rename_i x rest
              split at q
              · rename_i hx
                obtain ⟨x1, x2, x3⟩ := hx
                obtain ⟨w, e1, rfl⟩ := exN_of q
                rw [fc_eq] at e1
                have k := ih D mi (pc + 2) xs _ _ w m hm e1
                rw [show (1 + w.2.1, x.toNatClampNeg + w.2.2) = (w.2.1 + 1, w.2.2 + x.toNatClampNeg) by rw [Nat.add_comm 1, Nat.add_comm x.toNatClampNeg], x1]
                rw [← x1]
                unfold nwA at k
                by_cases k1 : g.1 = 1
                · rw [if_pos k1] at hc1 k
                  have := ev_newI (of_decide_eq_true hc1) x2 x3 k
                  rwa [← x1] at this
                · rw [if_neg k1] at hc1 k
                  by_cases k2 : g.1 = 2
                  · rw [if_pos k2] at hc1 k
                    have := ev_newB (of_decide_eq_true hc1) x2 x3 k
                    rwa [← x1] at this
                  · rw [if_neg k2] at hc1 k
                    by_cases k3 : g.1 = 3
                    · rw [if_pos k3] at hc1 k
                      have := ev_newZ (of_decide_eq_true hc1) x2 x3 k
                      rwa [← x1] at this
                    · rw [if_neg k3] at hc1 k
                      rw [if_pos (show g.1 = 4 by omega)] at hc1
                      have := ev_newJ (of_decide_eq_true hc1) x2 x3 k
                      rwa [← x1] at this
              · cases q
            · cases q
          · rw [if_neg g5] at q
            rw [if_neg (show ¬ g.1 = 1 by omega), if_neg (show ¬ g.1 = 2 by omega), if_neg (show ¬ g.1 = 3 by omega), if_neg (show ¬ g.1 = 4 by omega)] at hc1
            by_cases k5 : g.1 = 5
            · rw [if_pos k5] at q hc1
              split at q
              · rename_i x rest
                split at q
                · rename_i hx
                  obtain ⟨x1, x2, x3⟩ := hx
                  obtain ⟨w, e1, rfl⟩ := exN_of q
                  rw [fc_eq] at e1
                  have k := ih D mi (pc + 3) xs _ _ w m hm e1
                  rw [show (1 + w.2.1, x.toNatClampNeg + w.2.2) = (w.2.1 + 1, w.2.2 + x.toNatClampNeg) by rw [Nat.add_comm 1, Nat.add_comm x.toNatClampNeg]]
                  have := ev_newR hc1 x2 hcn x3 k
                  rwa [← x1] at this
                · cases q
              · cases q
            · rw [if_neg k5] at q hc1
              by_cases k6 : g.1 = 6
              · rw [if_pos k6] at q hc1
                split at q
                · rename_i v n a rest
                  obtain ⟨h', e1, e2⟩ := bnd q
                  rw [fc_eq] at e2
                  have k := ih D mi (pc + 1) xs rest h' z m hm e2
                  unfold aaS at e1
                  split at e1
                  · rename_i t rs ha
                    split at e1
                    · rename_i c fs hv
                      split at e1
                      · rename_i hz
                        obtain ⟨rfl, rfl, hz⟩ := hz
                        cases e1
                        exact ev_aast (of_decide_eq_true hc1) ha hv (vpB_ok hz) k
                      · cases e1
                    · cases e1
                  · cases e1
                · cases q
              · rw [if_neg k6] at q hc1
                split at q
                · rename_i a rest
                  by_cases hcat : (rest.map fun v => v.category).sum ≤ 8
                  · rw [if_pos hcat] at q
                    by_cases k7 : g.1 = 7
                    · rw [if_pos k7] at q hc1
                      exact ev_obj hc1 hcn hcat (ih D mi (pc + 3) xs rest h z m hm q)
                    · rw [if_neg k7] at q hc1
                      split at q
                      · cases q
                      · rename_i D'
                        by_cases hw : wfS xs rest h = true
                        · rw [if_pos hw] at q
                          split at q
                          · rename_i y hy
                            obtain ⟨w, e1, rfl⟩ := exN_of q
                            cases hm' : CCt[g.2.2.2.1]? with
                            | none => rw [hm'] at hc1; cases hc1
                            | some m' =>
                              rw [hm'] at hc1
                              dsimp only at hc1
                              obtain ⟨hj', hcn', hpl', hret', hmx', hm1', hck'⟩ := CC_ok _ _ hm'
                              have hmxl : mxL g.2.2.2.1 = m'.2.1.2.2.2.1 := by unfold mxL; rw [hm']
                              rw [hmxl] at hy
                              have kc := ih D' g.2.2.2.1 0 _ [] h y m' hm' hy
                              have hct : CT (d + D' + 1) m'.2.1 (y.2.1, y.2.2) [.ref a] h (QE y.1) := ct_ev hpl' hm1' (fun r h' w => by obtain ⟨rfl, rfl⟩ := w; exact hret') kc
                              have kn := ih (D' + 1) mi (pc + 3) xs rest y.1 w m hm e1
                              by_cases k8 : g.1 = 8
                              · rw [if_pos k8] at hc1
                                exact ev_I (as := []) (rest := rest) (b := (w.2.1, w.2.2)) (bc := (y.2.1, y.2.2)) hc1 hj' hct hcn hret' hmx' rfl rfl hcat hw (fun r h' w => by obtain ⟨rfl, rfl⟩ := w; exact kn)
                              · rw [if_neg k8] at hc1
                                exact ev_N (as := []) (rest := rest) (b := (w.2.1, w.2.2)) (bc := (y.2.1, y.2.2)) hc1 hj' hct hcn hret' hmx' rfl rfl hcat hw (fun r h' w => by obtain ⟨rfl, rfl⟩ := w; exact kn)
                          · cases q
                        · rw [if_neg hw] at q; cases q
                  · rw [if_neg hcat] at q; cases q
                · cases q
end EXK
