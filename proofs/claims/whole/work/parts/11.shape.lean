/-! PRINTED by wip/whole/heap.py: the heap behind the constructors: its shape, its constant slots -/
def SH : List (Nat × Nat) := [(999, 0), (0, 9), (2, 1), (5, 32), (4, 8), (4, 8), (4, 8), (4, 8), (4, 8), (4, 8), (4, 8), (4, 8), (4, 8), (4, 8), (4, 8), (4, 8), (4, 8), (4, 8), (4, 8), (4, 8), (4, 8), (4, 8), (4, 8), (4, 8), (4, 8), (4, 8), (4, 8), (4, 8), (4, 8), (4, 8), (4, 8), (4, 8), (4, 8), (4, 8), (4, 8), (4, 8), (7, 4), (6, 13), (9, 4), (8, 3), (8, 3), (8, 3), (8, 3), (10, 2), (1, 3), (10, 2), (1, 3), (6, 13), (9, 4), (8, 3), (8, 3), (8, 3), (8, 3), (10, 2), (1, 3), (10, 2), (1, 3), (6, 13), (9, 4), (8, 3), (8, 3), (8, 3), (8, 3), (10, 2), (1, 3), (10, 2), (1, 3), (6, 13), (9, 4), (8, 3), (8, 3), (8, 3), (8, 3), (10, 2), (1, 3), (10, 2), (1, 3), (11, 16), (12, 10), (1, 4), (13, 3), (12, 10), (1, 4), (13, 3), (12, 10), (1, 4), (13, 3), (12, 10), (1, 4), (13, 3), (12, 10), (1, 4), (13, 3), (12, 10), (1, 4), (13, 3), (12, 10), (1, 4), (13, 3), (12, 10), (1, 4), (13, 3), (12, 10), (1, 4), (13, 3), (12, 10), (1, 4), (13, 3), (12, 10), (1, 4), (13, 3), (12, 10), (1, 4), (13, 3), (12, 10), (1, 4), (13, 3), (12, 10), (1, 4), (13, 3), (12, 10), (1, 4), (13, 3), (12, 10), (1, 4), (13, 3), (13, 4), (14, 4), (1, 10), (1, 10), (1, 10), (14, 4), (1, 10), (1, 10), (1, 10), (14, 4), (1, 10), (1, 10), (1, 10), (14, 4), (1, 10), (1, 10), (1, 10), (16, 2), (16, 2), (18, 42), (3, 32), (1, 32), (1, 32), (1, 32), (1, 32), (1, 32), (1, 32), (1, 4), (1, 4), (1, 4), (1, 4), (1, 4), (1, 4), (1, 4), (1, 8), (1, 24), (3, 4), (3, 16), (1, 16), (1, 16), (1, 16), (1, 16), (3, 16), (1, 16), (1, 16), (1, 16), (1, 16), (1, 16), (1, 16), (1, 48), (1, 64), (1, 16), (1, 40), (1, 40), (1, 40), (1, 4)]
def shp (a : Nat) : Nat × Nat := SH.getD a (999, 0)
def CST : List (Nat × Nat × Value) := [(1, 0, .ref 2), (1, 1, .ref 36), (1, 2, .ref 77), (1, 3, .ref 126), (1, 4, .ref 143), (1, 5, .ref 144), (2, 0, .ref 3), (3, 0, .ref 4), (3, 1, .ref 5), (3, 2, .ref 6), (3, 3, .ref 7), (3, 4, .ref 8), (3, 5, .ref 9), (3, 6, .ref 10), (3, 7, .ref 11), (3, 8, .ref 12), (3, 9, .ref 13), (3, 10, .ref 14), (3, 11, .ref 15), (3, 12, .ref 16), (3, 13, .ref 17), (3, 14, .ref 18), (3, 15, .ref 19), (3, 16, .ref 20), (3, 17, .ref 21), (3, 18, .ref 22), (3, 19, .ref 23), (3, 20, .ref 24), (3, 21, .ref 25), (3, 22, .ref 26), (3, 23, .ref 27), (3, 24, .ref 28), (3, 25, .ref 29), (3, 26, .ref 30), (3, 27, .ref 31), (3, 28, .ref 32), (3, 29, .ref 33), (3, 30, .ref 34), (3, 31, .ref 35), (4, 0, .int 0), (5, 0, .int 1), (6, 0, .int 2), (7, 0, .int 3), (8, 0, .int 4), (9, 0, .int 5), (10, 0, .int 6), (11, 0, .int 7), (12, 0, .int 8), (13, 0, .int 9), (14, 0, .int 10), (15, 0, .int 11), (16, 0, .int 12), (17, 0, .int 13), (18, 0, .int 14), (19, 0, .int 15), (20, 0, .int 16), (21, 0, .int 17), (22, 0, .int 18), (23, 0, .int 19), (24, 0, .int 20), (25, 0, .int 21), (26, 0, .int 22), (27, 0, .int 23), (28, 0, .int 24), (29, 0, .int 25), (30, 0, .int 26), (31, 0, .int 27), (32, 0, .int 28), (33, 0, .int 29), (34, 0, .int 30), (35, 0, .int 31), (36, 0, .ref 37), (36, 1, .ref 47), (36, 2, .ref 57), (36, 3, .ref 67), (37, 0, .int 0), (37, 9, .ref 38), (37, 11, .ref 43), (37, 12, .ref 45), (43, 0, .ref 44), (45, 0, .ref 46), (47, 0, .int 1), (47, 9, .ref 48), (47, 11, .ref 53), (47, 12, .ref 55), (53, 0, .ref 54), (55, 0, .ref 56), (57, 0, .int 2), (57, 9, .ref 58), (57, 11, .ref 63), (57, 12, .ref 65), (63, 0, .ref 64), (65, 0, .ref 66), (67, 0, .int 3), (67, 9, .ref 68), (67, 11, .ref 73), (67, 12, .ref 75), (73, 0, .ref 74), (75, 0, .ref 76), (77, 0, .ref 78), (77, 1, .ref 81), (77, 2, .ref 84), (77, 3, .ref 87), (77, 4, .ref 90), (77, 5, .ref 93), (77, 6, .ref 96), (77, 7, .ref 99), (77, 8, .ref 102), (77, 9, .ref 105), (77, 10, .ref 108), (77, 11, .ref 111), (77, 12, .ref 114), (77, 13, .ref 117), (77, 14, .ref 120), (77, 15, .ref 123), (78, 0, .int 0), (78, 6, .ref 79), (78, 7, .ref 80), (81, 0, .int 1), (81, 6, .ref 82), (81, 7, .ref 83), (84, 0, .int 2), (84, 6, .ref 85), (84, 7, .ref 86), (87, 0, .int 3), (87, 6, .ref 88), (87, 7, .ref 89), (90, 0, .int 4), (90, 6, .ref 91), (90, 7, .ref 92), (93, 0, .int 5), (93, 6, .ref 94), (93, 7, .ref 95), (96, 0, .int 6), (96, 6, .ref 97), (96, 7, .ref 98), (99, 0, .int 7), (99, 6, .ref 100), (99, 7, .ref 101), (102, 0, .int 8), (102, 6, .ref 103), (102, 7, .ref 104), (105, 0, .int 9), (105, 6, .ref 106), (105, 7, .ref 107), (108, 0, .int 10), (108, 6, .ref 109), (108, 7, .ref 110), (111, 0, .int 11), (111, 6, .ref 112), (111, 7, .ref 113), (114, 0, .int 12), (114, 6, .ref 115), (114, 7, .ref 116), (117, 0, .int 13), (117, 6, .ref 118), (117, 7, .ref 119), (120, 0, .int 14), (120, 6, .ref 121), (120, 7, .ref 122), (123, 0, .int 15), (123, 6, .ref 124), (123, 7, .ref 125), (126, 0, .ref 127), (126, 1, .ref 131), (126, 2, .ref 135), (126, 3, .ref 139), (127, 0, .ref 128), (127, 1, .ref 129), (127, 2, .ref 130), (131, 0, .ref 132), (131, 1, .ref 133), (131, 2, .ref 134), (135, 0, .ref 136), (135, 1, .ref 137), (135, 2, .ref 138), (139, 0, .ref 140), (139, 1, .ref 141), (139, 2, .ref 142), (145, 0, .ref 146), (145, 1, .ref 147), (145, 2, .ref 148), (145, 3, .ref 149), (145, 4, .ref 150), (145, 5, .ref 151), (145, 6, .ref 152), (145, 7, .ref 153), (145, 8, .ref 154), (145, 9, .ref 155), (145, 10, .ref 156), (145, 11, .ref 157), (145, 12, .ref 158), (145, 13, .ref 159), (145, 14, .ref 160), (145, 15, .ref 161), (145, 16, .ref 162), (145, 17, .ref 163), (145, 18, .ref 164), (145, 19, .ref 165), (145, 20, .ref 166), (145, 21, .ref 167), (145, 22, .ref 168), (145, 23, .ref 169), (145, 24, .ref 170), (145, 25, .ref 171), (145, 26, .ref 172), (145, 27, .ref 173), (145, 28, .ref 174), (145, 29, .ref 175), (145, 30, .ref 176), (145, 31, .ref 177), (145, 32, .ref 178), (145, 33, .ref 179), (145, 34, .ref 180), (145, 35, .ref 181)]
def R0 : mH := [.inl (0, [.ref 2, .ref 36, .ref 77, .ref 126, .ref 143, .ref 144, .int 0, .int 0, .int 0]), .inl (1, [.ref 3]), .inr (2, [.ref 4, .ref 5, .ref 6, .ref 7, .ref 8, .ref 9, .ref 10, .ref 11, .ref 12, .ref 13, .ref 14, .ref 15, .ref 16, .ref 17, .ref 18, .ref 19, .ref 20, .ref 21, .ref 22, .ref 23, .ref 24, .ref 25, .ref 26, .ref 27, .ref 28, .ref 29, .ref 30, .ref 31, .ref 32, .ref 33, .ref 34, .ref 35]), .inl (2, [.int 0, .int 1, .int 0, .int 0, .int 0, .int 0, .null, .null]), .inl (2, [.int 1, .int 0, .int 0, .int 0, .int 0, .int 0, .null, .null]), .inl (2, [.int 2, .int 0, .int 0, .int 0, .int 0, .int 0, .null, .null]), .inl (2, [.int 3, .int 0, .int 0, .int 0, .int 0, .int 0, .null, .null]), .inl (2, [.int 4, .int 0, .int 0, .int 0, .int 0, .int 0, .null, .null]), .inl (2, [.int 5, .int 0, .int 0, .int 0, .int 0, .int 0, .null, .null]), .inl (2, [.int 6, .int 0, .int 0, .int 0, .int 0, .int 0, .null, .null]), .inl (2, [.int 7, .int 0, .int 0, .int 0, .int 0, .int 0, .null, .null]), .inl (2, [.int 8, .int 0, .int 0, .int 0, .int 0, .int 0, .null, .null]), .inl (2, [.int 9, .int 0, .int 0, .int 0, .int 0, .int 0, .null, .null]), .inl (2, [.int 10, .int 0, .int 0, .int 0, .int 0, .int 0, .null, .null]), .inl (2, [.int 11, .int 0, .int 0, .int 0, .int 0, .int 0, .null, .null]), .inl (2, [.int 12, .int 0, .int 0, .int 0, .int 0, .int 0, .null, .null]), .inl (2, [.int 13, .int 0, .int 0, .int 0, .int 0, .int 0, .null, .null]), .inl (2, [.int 14, .int 0, .int 0, .int 0, .int 0, .int 0, .null, .null]), .inl (2, [.int 15, .int 0, .int 0, .int 0, .int 0, .int 0, .null, .null]), .inl (2, [.int 16, .int 0, .int 0, .int 0, .int 0, .int 0, .null, .null]), .inl (2, [.int 17, .int 0, .int 0, .int 0, .int 0, .int 0, .null, .null]), .inl (2, [.int 18, .int 0, .int 0, .int 0, .int 0, .int 0, .null, .null]), .inl (2, [.int 19, .int 0, .int 0, .int 0, .int 0, .int 0, .null, .null]), .inl (2, [.int 20, .int 0, .int 0, .int 0, .int 0, .int 0, .null, .null]), .inl (2, [.int 21, .int 0, .int 0, .int 0, .int 0, .int 0, .null, .null]), .inl (2, [.int 22, .int 0, .int 0, .int 0, .int 0, .int 0, .null, .null]), .inl (2, [.int 23, .int 0, .int 0, .int 0, .int 0, .int 0, .null, .null]), .inl (2, [.int 24, .int 0, .int 0, .int 0, .int 0, .int 0, .null, .null]), .inl (2, [.int 25, .int 0, .int 0, .int 0, .int 0, .int 0, .null, .null]), .inl (2, [.int 26, .int 0, .int 0, .int 0, .int 0, .int 0, .null, .null]), .inl (2, [.int 27, .int 0, .int 0, .int 0, .int 0, .int 0, .null, .null]), .inl (2, [.int 28, .int 0, .int 0, .int 0, .int 0, .int 0, .null, .null]), .inl (2, [.int 29, .int 0, .int 0, .int 0, .int 0, .int 0, .null, .null]), .inl (2, [.int 30, .int 0, .int 0, .int 0, .int 0, .int 0, .null, .null]), .inl (2, [.int 31, .int 0, .int 0, .int 0, .int 0, .int 0, .null, .null]), .inr (3, [.ref 37, .ref 47, .ref 57, .ref 67]), .inl (3, [.int 0, .null, .int 0, .int 0, .int 0, .int 0, .null, .null, .int 0, .ref 38, .int 0, .ref 43, .ref 45]), .inr (4, [.ref 39, .ref 40, .ref 41, .ref 42]), .inl (4, [.null, .null, .null]), .inl (4, [.null, .null, .null]), .inl (4, [.null, .null, .null]), .inl (4, [.null, .null, .null]), .inl (5, [.ref 44, .int 0]), .inr (0, [.int 0, .int 0, .int 0]), .inl (5, [.ref 46, .int 0]), .inr (0, [.int 0, .int 0, .int 0]), .inl (3, [.int 1, .null, .int 0, .int 0, .int 0, .int 0, .null, .null, .int 0, .ref 48, .int 0, .ref 53, .ref 55]), .inr (4, [.ref 49, .ref 50, .ref 51, .ref 52]), .inl (4, [.null, .null, .null]), .inl (4, [.null, .null, .null]), .inl (4, [.null, .null, .null]), .inl (4, [.null, .null, .null]), .inl (5, [.ref 54, .int 0]), .inr (0, [.int 0, .int 0, .int 0]), .inl (5, [.ref 56, .int 0]), .inr (0, [.int 0, .int 0, .int 0]), .inl (3, [.int 2, .null, .int 0, .int 0, .int 0, .int 0, .null, .null, .int 0, .ref 58, .int 0, .ref 63, .ref 65]), .inr (4, [.ref 59, .ref 60, .ref 61, .ref 62]), .inl (4, [.null, .null, .null]), .inl (4, [.null, .null, .null]), .inl (4, [.null, .null, .null]), .inl (4, [.null, .null, .null]), .inl (5, [.ref 64, .int 0]), .inr (0, [.int 0, .int 0, .int 0]), .inl (5, [.ref 66, .int 0]), .inr (0, [.int 0, .int 0, .int 0]), .inl (3, [.int 3, .null, .int 0, .int 0, .int 0, .int 0, .null, .null, .int 0, .ref 68, .int 0, .ref 73, .ref 75]), .inr (4, [.ref 69, .ref 70, .ref 71, .ref 72]), .inl (4, [.null, .null, .null]), .inl (4, [.null, .null, .null]), .inl (4, [.null, .null, .null]), .inl (4, [.null, .null, .null]), .inl (5, [.ref 74, .int 0]), .inr (0, [.int 0, .int 0, .int 0]), .inl (5, [.ref 76, .int 0]), .inr (0, [.int 0, .int 0, .int 0]), .inr (5, [.ref 78, .ref 81, .ref 84, .ref 87, .ref 90, .ref 93, .ref 96, .ref 99, .ref 102, .ref 105, .ref 108, .ref 111, .ref 114, .ref 117, .ref 120, .ref 123]), .inl (6, [.int 0, .int 0, .null, .int 0, .int 0, .null, .ref 79, .ref 80, .int 0, .int 0]), .inr (0, [.int 0, .int 0, .int 0, .int 0]), .inr (6, [.null, .null, .null]), .inl (6, [.int 1, .int 0, .null, .int 0, .int 0, .null, .ref 82, .ref 83, .int 0, .int 0]), .inr (0, [.int 0, .int 0, .int 0, .int 0]), .inr (6, [.null, .null, .null]), .inl (6, [.int 2, .int 0, .null, .int 0, .int 0, .null, .ref 85, .ref 86, .int 0, .int 0]), .inr (0, [.int 0, .int 0, .int 0, .int 0]), .inr (6, [.null, .null, .null]), .inl (6, [.int 3, .int 0, .null, .int 0, .int 0, .null, .ref 88, .ref 89, .int 0, .int 0]), .inr (0, [.int 0, .int 0, .int 0, .int 0]), .inr (6, [.null, .null, .null]), .inl (6, [.int 4, .int 0, .null, .int 0, .int 0, .null, .ref 91, .ref 92, .int 0, .int 0]), .inr (0, [.int 0, .int 0, .int 0, .int 0]), .inr (6, [.null, .null, .null]), .inl (6, [.int 5, .int 0, .null, .int 0, .int 0, .null, .ref 94, .ref 95, .int 0, .int 0]), .inr (0, [.int 0, .int 0, .int 0, .int 0]), .inr (6, [.null, .null, .null]), .inl (6, [.int 6, .int 0, .null, .int 0, .int 0, .null, .ref 97, .ref 98, .int 0, .int 0]), .inr (0, [.int 0, .int 0, .int 0, .int 0]), .inr (6, [.null, .null, .null]), .inl (6, [.int 7, .int 0, .null, .int 0, .int 0, .null, .ref 100, .ref 101, .int 0, .int 0]), .inr (0, [.int 0, .int 0, .int 0, .int 0]), .inr (6, [.null, .null, .null]), .inl (6, [.int 8, .int 0, .null, .int 0, .int 0, .null, .ref 103, .ref 104, .int 0, .int 0]), .inr (0, [.int 0, .int 0, .int 0, .int 0]), .inr (6, [.null, .null, .null]), .inl (6, [.int 9, .int 0, .null, .int 0, .int 0, .null, .ref 106, .ref 107, .int 0, .int 0]), .inr (0, [.int 0, .int 0, .int 0, .int 0]), .inr (6, [.null, .null, .null]), .inl (6, [.int 10, .int 0, .null, .int 0, .int 0, .null, .ref 109, .ref 110, .int 0, .int 0]), .inr (0, [.int 0, .int 0, .int 0, .int 0]), .inr (6, [.null, .null, .null]), .inl (6, [.int 11, .int 0, .null, .int 0, .int 0, .null, .ref 112, .ref 113, .int 0, .int 0]), .inr (0, [.int 0, .int 0, .int 0, .int 0]), .inr (6, [.null, .null, .null]), .inl (6, [.int 12, .int 0, .null, .int 0, .int 0, .null, .ref 115, .ref 116, .int 0, .int 0]), .inr (0, [.int 0, .int 0, .int 0, .int 0]), .inr (6, [.null, .null, .null]), .inl (6, [.int 13, .int 0, .null, .int 0, .int 0, .null, .ref 118, .ref 119, .int 0, .int 0]), .inr (0, [.int 0, .int 0, .int 0, .int 0]), .inr (6, [.null, .null, .null]), .inl (6, [.int 14, .int 0, .null, .int 0, .int 0, .null, .ref 121, .ref 122, .int 0, .int 0]), .inr (0, [.int 0, .int 0, .int 0, .int 0]), .inr (6, [.null, .null, .null]), .inl (6, [.int 15, .int 0, .null, .int 0, .int 0, .null, .ref 124, .ref 125, .int 0, .int 0]), .inr (0, [.int 0, .int 0, .int 0, .int 0]), .inr (6, [.null, .null, .null]), .inr (6, [.ref 127, .ref 131, .ref 135, .ref 139]), .inl (7, [.ref 128, .ref 129, .ref 130, .int 0]), .inr (0, [.int 0, .int 0, .int 0, .int 0, .int 0, .int 0, .int 0, .int 0, .int 0, .int 0]), .inr (0, [.int 0, .int 0, .int 0, .int 0, .int 0, .int 0, .int 0, .int 0, .int 0, .int 0]), .inr (0, [.int 0, .int 0, .int 0, .int 0, .int 0, .int 0, .int 0, .int 0, .int 0, .int 0]), .inl (7, [.ref 132, .ref 133, .ref 134, .int 0]), .inr (0, [.int 0, .int 0, .int 0, .int 0, .int 0, .int 0, .int 0, .int 0, .int 0, .int 0]), .inr (0, [.int 0, .int 0, .int 0, .int 0, .int 0, .int 0, .int 0, .int 0, .int 0, .int 0]), .inr (0, [.int 0, .int 0, .int 0, .int 0, .int 0, .int 0, .int 0, .int 0, .int 0, .int 0]), .inl (7, [.ref 136, .ref 137, .ref 138, .int 0]), .inr (0, [.int 0, .int 0, .int 0, .int 0, .int 0, .int 0, .int 0, .int 0, .int 0, .int 0]), .inr (0, [.int 0, .int 0, .int 0, .int 0, .int 0, .int 0, .int 0, .int 0, .int 0, .int 0]), .inr (0, [.int 0, .int 0, .int 0, .int 0, .int 0, .int 0, .int 0, .int 0, .int 0, .int 0]), .inl (7, [.ref 140, .ref 141, .ref 142, .int 0]), .inr (0, [.int 0, .int 0, .int 0, .int 0, .int 0, .int 0, .int 0, .int 0, .int 0, .int 0]), .inr (0, [.int 0, .int 0, .int 0, .int 0, .int 0, .int 0, .int 0, .int 0, .int 0, .int 0]), .inr (0, [.int 0, .int 0, .int 0, .int 0, .int 0, .int 0, .int 0, .int 0, .int 0, .int 0]), .inl (8, [.null, .null]), .inl (8, [.null, .null]), .inl (9, [.ref 146, .ref 147, .ref 148, .ref 149, .ref 150, .ref 151, .ref 152, .ref 153, .ref 154, .ref 155, .ref 156, .ref 157, .ref 158, .ref 159, .ref 160, .ref 161, .ref 162, .ref 163, .ref 164, .ref 165, .ref 166, .ref 167, .ref 168, .ref 169, .ref 170, .ref 171, .ref 172, .ref 173, .ref 174, .ref 175, .ref 176, .ref 177, .ref 178, .ref 179, .ref 180, .ref 181, .int 0, .int 0, .int 0, .int 0, .int 0, .int 0]), .inr (1, [.int 1, .int 0, .int 0, .int 0, .int 0, .int 0, .int 0, .int 0, .int 0, .int 0, .int 0, .int 0, .int 0, .int 0, .int 0, .int 0, .int 0, .int 0, .int 0, .int 0, .int 0, .int 0, .int 0, .int 0, .int 0, .int 0, .int 0, .int 0, .int 0, .int 0, .int 0, .int 0]), .inr (0, [.int (-1), .int 0, .int 0, .int 0, .int 0, .int 0, .int 0, .int 0, .int 0, .int 0, .int 0, .int 0, .int 0, .int 0, .int 0, .int 0, .int 0, .int 0, .int 0, .int 0, .int 0, .int 0, .int 0, .int 0, .int 0, .int 0, .int 0, .int 0, .int 0, .int 0, .int 0, .int 0]), .inr (0, [.int 0, .int 0, .int 0, .int 0, .int 0, .int 0, .int 0, .int 0, .int 0, .int 0, .int 0, .int 0, .int 0, .int 0, .int 0, .int 0, .int 0, .int 0, .int 0, .int 0, .int 0, .int 0, .int 0, .int 0, .int 0, .int 0, .int 0, .int 0, .int 0, .int 0, .int 0, .int 0]), .inr (0, [.int 0, .int 0, .int 0, .int 0, .int 0, .int 0, .int 0, .int 0, .int 0, .int 0, .int 0, .int 0, .int 0, .int 0, .int 0, .int 0, .int 0, .int 0, .int 0, .int 0, .int 0, .int 0, .int 0, .int 0, .int 0, .int 0, .int 0, .int 0, .int 0, .int 0, .int 0, .int 0]), .inr (0, [.int 0, .int 0, .int 0, .int 0, .int 0, .int 0, .int 0, .int 0, .int 0, .int 0, .int 0, .int 0, .int 0, .int 0, .int 0, .int 0, .int 0, .int 0, .int 0, .int 0, .int 0, .int 0, .int 0, .int 0, .int 0, .int 0, .int 0, .int 0, .int 0, .int 0, .int 0, .int 0]), .inr (0, [.int 0, .int 0, .int 0, .int 0, .int 0, .int 0, .int 0, .int 0, .int 0, .int 0, .int 0, .int 0, .int 0, .int 0, .int 0, .int 0, .int 0, .int 0, .int 0, .int 0, .int 0, .int 0, .int 0, .int 0, .int 0, .int 0, .int 0, .int 0, .int 0, .int 0, .int 0, .int 0]), .inr (0, [.int (-1), .int 0, .int 0, .int 0, .int 0, .int 0, .int 0, .int 0, .int 0, .int 0, .int 0, .int 0, .int 0, .int 0, .int 0, .int 0, .int 0, .int 0, .int 0, .int 0, .int 0, .int 0, .int 0, .int 0, .int 0, .int 0, .int 0, .int 0, .int 0, .int 0, .int 0, .int 0]), .inr (0, [.int 0, .int 0, .int 0, .int 0]), .inr (0, [.int 0, .int 0, .int 0, .int 0]), .inr (0, [.int 0, .int 0, .int 0, .int 0]), .inr (0, [.int 0, .int 0, .int 0, .int 0]), .inr (0, [.int 0, .int 0, .int 0, .int 0]), .inr (0, [.int 0, .int 0, .int 0, .int 0]), .inr (0, [.int 0, .int 0, .int 0, .int 0]), .inr (0, [.int 0, .int 0, .int 0, .int 0, .int 0, .int 0, .int 0, .int 0]), .inr (0, [.int 0, .int 0, .int 0, .int 0, .int 0, .int 0, .int 0, .int 0, .int 0, .int 0, .int 0, .int 0, .int 0, .int 0, .int 0, .int 0, .int 0, .int 0, .int 0, .int 0, .int 0, .int 0, .int 0, .int 0]), .inr (1, [.int 0, .int 0, .int 0, .int 0]), .inr (1, [.int 0, .int 0, .int 0, .int 0, .int 0, .int 0, .int 0, .int 0, .int 0, .int 0, .int 0, .int 0, .int 0, .int 0, .int 0, .int 0]), .inr (0, [.int 0, .int 0, .int 0, .int 0, .int 0, .int 0, .int 0, .int 0, .int 0, .int 0, .int 0, .int 0, .int 0, .int 0, .int 0, .int 0]), .inr (0, [.int 0, .int 0, .int 0, .int 0, .int 0, .int 0, .int 0, .int 0, .int 0, .int 0, .int 0, .int 0, .int 0, .int 0, .int 0, .int 0]), .inr (0, [.int 0, .int 0, .int 0, .int 0, .int 0, .int 0, .int 0, .int 0, .int 0, .int 0, .int 0, .int 0, .int 0, .int 0, .int 0, .int 0]), .inr (0, [.int 0, .int 0, .int 0, .int 0, .int 0, .int 0, .int 0, .int 0, .int 0, .int 0, .int 0, .int 0, .int 0, .int 0, .int 0, .int 0]), .inr (1, [.int 0, .int 0, .int 0, .int 0, .int 0, .int 0, .int 0, .int 0, .int 0, .int 0, .int 0, .int 0, .int 0, .int 0, .int 0, .int 0]), .inr (0, [.int 0, .int 0, .int 0, .int 0, .int 0, .int 0, .int 0, .int 0, .int 0, .int 0, .int 0, .int 0, .int 0, .int 0, .int 0, .int 0]), .inr (0, [.int 0, .int 0, .int 0, .int 0, .int 0, .int 0, .int 0, .int 0, .int 0, .int 0, .int 0, .int 0, .int 0, .int 0, .int 0, .int 0]), .inr (0, [.int 0, .int 0, .int 0, .int 0, .int 0, .int 0, .int 0, .int 0, .int 0, .int 0, .int 0, .int 0, .int 0, .int 0, .int 0, .int 0]), .inr (0, [.int 0, .int 0, .int 0, .int 0, .int 0, .int 0, .int 0, .int 0, .int 0, .int 0, .int 0, .int 0, .int 0, .int 0, .int 0, .int 0]), .inr (0, [.int 0, .int 0, .int 0, .int 0, .int 0, .int 0, .int 0, .int 0, .int 0, .int 0, .int 0, .int 0, .int 0, .int 0, .int 0, .int 0]), .inr (0, [.int 0, .int 0, .int 0, .int 0, .int 0, .int 0, .int 0, .int 0, .int 0, .int 0, .int 0, .int 0, .int 0, .int 0, .int 0, .int 0]), .inr (0, [.int 0, .int 0, .int 0, .int 0, .int 0, .int 0, .int 0, .int 0, .int 0, .int 0, .int 0, .int 0, .int 0, .int 0, .int 0, .int 0, .int 0, .int 0, .int 0, .int 0, .int 0, .int 0, .int 0, .int 0, .int 0, .int 0, .int 0, .int 0, .int 0, .int 0, .int 0, .int 0, .int 0, .int 0, .int 0, .int 0, .int 0, .int 0, .int 0, .int 0, .int 0, .int 0, .int 0, .int 0, .int 0, .int 0, .int 0, .int 0]), .inr (0, [.int 0, .int 0, .int 0, .int 0, .int 0, .int 0, .int 0, .int 0, .int 0, .int 0, .int 0, .int 0, .int 0, .int 0, .int 0, .int 0, .int 0, .int 0, .int 0, .int 0, .int 0, .int 0, .int 0, .int 0, .int 0, .int 0, .int 0, .int 0, .int 0, .int 0, .int 0, .int 0, .int 0, .int 0, .int 0, .int 0, .int 0, .int 0, .int 0, .int 0, .int 0, .int 0, .int 0, .int 0, .int 0, .int 0, .int 0, .int 0, .int 0, .int 0, .int 0, .int 0, .int 0, .int 0, .int 0, .int 0, .int 0, .int 0, .int 0, .int 0, .int 0, .int 0, .int 0, .int 0]), .inr (0, [.int 0, .int 0, .int 0, .int 0, .int 0, .int 0, .int 0, .int 0, .int 0, .int 0, .int 0, .int 0, .int 0, .int 0, .int 0, .int 0]), .inr (0, [.int 0, .int 0, .int 0, .int 0, .int 0, .int 0, .int 0, .int 0, .int 0, .int 0, .int 0, .int 0, .int 0, .int 0, .int 0, .int 0, .int 0, .int 0, .int 0, .int 0, .int 0, .int 0, .int 0, .int 0, .int 0, .int 0, .int 0, .int 0, .int 0, .int 0, .int 0, .int 0, .int 0, .int 0, .int 0, .int 0, .int 0, .int 0, .int 0, .int 0]), .inr (0, [.int 0, .int 0, .int 0, .int 0, .int 0, .int 0, .int 0, .int 0, .int 0, .int 0, .int 0, .int 0, .int 0, .int 0, .int 0, .int 0, .int 0, .int 0, .int 0, .int 0, .int 0, .int 0, .int 0, .int 0, .int 0, .int 0, .int 0, .int 0, .int 0, .int 0, .int 0, .int 0, .int 0, .int 0, .int 0, .int 0, .int 0, .int 0, .int 0, .int 0]), .inr (0, [.int 0, .int 0, .int 0, .int 0, .int 0, .int 0, .int 0, .int 0, .int 0, .int 0, .int 0, .int 0, .int 0, .int 0, .int 0, .int 0, .int 0, .int 0, .int 0, .int 0, .int 0, .int 0, .int 0, .int 0, .int 0, .int 0, .int 0, .int 0, .int 0, .int 0, .int 0, .int 0, .int 0, .int 0, .int 0, .int 0, .int 0, .int 0, .int 0, .int 0]), .inr (0, [.int 0, .int 0, .int 0, .int 0])]
/-- the heap's shape, its slots' kinds, its constants -/
def wf (M : mH) : Prop := M.length = 182 ∧ (∃ xs : List Int32, M[0]? = some (.inr (7, xs.map .int)) ∧ xs.length ≤ 3072) ∧ (∀ a, 1 ≤ a → a < 182 → ∃ c, M[a]? = some c ∧ ctag c = shp a) ∧ (∀ a k, 1 ≤ a → a < 182 → k < (shp a).2 → vk (tkind (shp a).1 k) (mv M a k)) ∧ ∀ q ∈ CST, mv M q.1 q.2.1 = q.2.2
theorem shp_lt {a t n : Nat} (h : shp a = (t, n)) (ht : t < 999) : 1 ≤ a ∧ a < 182 := by
  cases a with
  | zero => cases h; omega
  | succ a =>
    refine ⟨by omega, ?_⟩
    by_cases h2 : a + 1 < 182
    · exact h2
    · have h3 : SH.length = 182 := rfl
      rw [shp, List.getD_eq_getElem?_getD, List.getElem?_eq_none (by omega)] at h
      cases h
      omega
theorem wf.obj {M : mH} (h : wf M) {a t n : Nat} (hs : shp a = (2 * t, n)) (ht : t < 100) : ∃ fs : List Value, M[a]? = some (.inl (t, fs)) ∧ fs.length = n := by
  obtain ⟨h1, h2⟩ := shp_lt hs (by omega)
  obtain ⟨c, hc, e⟩ := h.2.2.1 a h1 h2
  rw [hs] at e
  cases c with
  | inl q =>
    simp only [ctag, Prod.mk.injEq] at e
    have e3 : q.1 = t := by omega
    subst e3
    exact ⟨q.2, hc, e.2⟩
  | inr q => simp only [ctag, Prod.mk.injEq] at e; omega
theorem wf.arr {M : mH} (h : wf M) {a t n : Nat} (hs : shp a = (2 * t + 1, n)) (ht : t < 100) : ∃ es : List Value, M[a]? = some (.inr (t, es)) ∧ es.length = n := by
  obtain ⟨h1, h2⟩ := shp_lt hs (by omega)
  obtain ⟨c, hc, e⟩ := h.2.2.1 a h1 h2
  rw [hs] at e
  cases c with
  | inl q => simp only [ctag, Prod.mk.injEq] at e; omega
  | inr q =>
    simp only [ctag, Prod.mk.injEq] at e
    have e3 : q.1 = t := by omega
    subst e3
    exact ⟨q.2, hc, e.2⟩
theorem wf.kind {M : mH} (h : wf M) {a t n k : Nat} (hs : shp a = (t, n)) (ht : t < 999) (hk : k < n) : vk (tkind t k) (mv M a k) := by
  obtain ⟨h1, h2⟩ := shp_lt hs ht
  have h3 := h.2.2.2.1 a k h1 h2 (by rw [hs]; exact hk)
  rw [hs] at h3
  exact h3
theorem vk_int {n : Nat} {v : Value} (hn : n < 2) (h : vk n v) : v = .int (mvi v) := by
  rcases (show n = 0 ∨ n = 1 by omega) with rfl | rfl
  · obtain ⟨x, rfl⟩ := h; rfl
  · rcases h with rfl | rfl <;> rfl
theorem mv_int {M : mH} (h : wf M) {a t n k : Nat} (hs : shp a = (t, n)) (ht : t < 999) (hk : k < n) (hn : tkind t k < 2) : mv M a k = .int (gi M a k) := vk_int hn (h.kind hs ht hk)
theorem mv_ref {M : mH} (h : wf M) {a t n k : Nat} (hs : shp a = (t, n)) (ht : t < 999) (hk : k < n) (hn : tkind t k = 2) : mv M a k = rf (gr M a k) := by
  have h1 := h.kind hs ht hk
  rw [hn] at h1
  unfold gr
  rcases h1 with e | ⟨x, e⟩ <;> rw [e] <;> rfl
theorem wf.get {M : mH} (h : wf M) {a t n k : Nat} (hs : shp a = (2 * t, n)) (ht : t < 100) (hk : k < n) : mget M a t k = some (mv M a k) := by
  obtain ⟨fs, h1, h2⟩ := h.obj hs ht
  have h3 : fs[k]? = some (fs.getD k .null) := by rw [List.getD_eq_getElem?_getD, List.getElem?_eq_getElem (by omega)]; rfl
  simp only [mget, mv, h1, Nat.beq_refl, cond_true, h3]
theorem wf.put {M : mH} (h : wf M) {a t n k : Nat} (hs : shp a = (2 * t, n)) (ht : t < 100) (hk : k < n) (v : Value) : mput M a t k v = some (mu M a k v) := by
  obtain ⟨fs, h1, h2⟩ := h.obj hs ht
  have h3 : Nat.blt k fs.length = true := by rw [Nat.blt_eq]; omega
  simp only [mput, mu, h1, Nat.beq_refl, h3, Bool.and_self, cond_true]
theorem wf.ald {M : mH} (h : wf M) {a t n i : Nat} (hs : shp a = (2 * t + 1, n)) (ht : t < 100) (hi : i < n) (hn : n < 1000) : mald M a (nI i) = some (t, mv M a i) := by
  obtain ⟨es, h1, h2⟩ := h.arr hs ht
  have h3 : es[i]? = some (es.getD i .null) := by rw [List.getD_eq_getElem?_getD, List.getElem?_eq_getElem (by omega)]; rfl
  have h4 : decide (0 ≤ nI i) = true := decide_eq_true (nI_pos' (by omega))
  simp only [mald, mv, h1, h4, cond_true, nI_clamp (show i < 2 ^ 31 by omega), h3]
theorem wf.ast {M : mH} (h : wf M) {a t n i : Nat} (hs : shp a = (2 * t + 1, n)) (ht : t < 100) (hi : i < n) (hn : n < 1000) (v : Value) : mast M a t (nI i) v = some (mu M a i v) := by
  obtain ⟨es, h1, h2⟩ := h.arr hs ht
  have h4 : decide (0 ≤ nI i) = true := decide_eq_true (nI_pos' (by omega))
  have h3 : Nat.blt i es.length = true := by rw [Nat.blt_eq]; omega
  simp only [mast, mu, h1, h4, cond_true, nI_clamp (show i < 2 ^ 31 by omega), Nat.beq_refl, h3, Bool.and_self]
theorem wf.cls {M : mH} (h : wf M) {a t n : Nat} (hs : shp a = (2 * t, n)) (ht : t < 100) : mcls M a = some t := by
  obtain ⟨fs, h1, h2⟩ := h.obj hs ht
  simp only [mcls, h1]
theorem wf.tya {M : mH} (h : wf M) {a t n : Nat} (hs : shp a = (2 * t + 1, n)) (ht : t < 100) : mtya M a = t := by
  obtain ⟨fs, h1, h2⟩ := h.arr hs ht
  simp only [mtya, h1]
theorem mv_mu {M : mH} (h : wf M) {a t n k : Nat} (hs : shp a = (t, n)) (ht : t < 999) (hk : k < n) (v : Value) (a' k' : Nat) : mv (mu M a k v) a' k' = if a' = a ∧ k' = k then v else mv M a' k' := by
  obtain ⟨h1, h2⟩ := shp_lt hs ht
  obtain ⟨c, hc, e⟩ := h.2.2.1 a h1 h2
  rw [hs] at e
  have hal : a < M.length := by rw [h.1]; exact h2
  cases c with
  | inl q =>
    simp only [ctag, Prod.mk.injEq] at e
    simp only [mu, hc, mv]
    by_cases ha : a' = a
    · subst ha
      rw [List.getElem?_set_self hal]
      simp only [hc, true_and, List.getD_eq_getElem?_getD]
      by_cases hkk : k' = k
      · subst hkk; rw [List.getElem?_set_self (by omega), if_pos rfl]; rfl
      · rw [List.getElem?_set_ne (Ne.symm hkk), if_neg hkk]
    · rw [List.getElem?_set_ne (Ne.symm ha), if_neg (fun z => ha z.1)]
  | inr q =>
    simp only [ctag, Prod.mk.injEq] at e
    simp only [mu, hc, mv]
    by_cases ha : a' = a
    · subst ha
      rw [List.getElem?_set_self hal]
      simp only [hc, true_and, List.getD_eq_getElem?_getD]
      by_cases hkk : k' = k
      · subst hkk; rw [List.getElem?_set_self (by omega), if_pos rfl]; rfl
      · rw [List.getElem?_set_ne (Ne.symm hkk), if_neg hkk]
    · rw [List.getElem?_set_ne (Ne.symm ha), if_neg (fun z => ha z.1)]
/-- what may be written where: in the shape, of the slot's kind, no constant -/
def wok (a k : Nat) (v : Value) : Prop := k < (shp a).2 ∧ (shp a).1 < 999 ∧ vk (tkind (shp a).1 k) v ∧ CST.all (fun q => !(Nat.beq q.1 a && Nat.beq q.2.1 k)) = true
theorem mu_tag {M : mH} {a k : Nat} {v : Value} {b : Nat} {c : mC} (h : M[b]? = some c) : ∃ c', (mu M a k v)[b]? = some c' ∧ ctag c' = ctag c := by
  unfold mu
  split
  · rename_i q hq
    by_cases hab : a = b
    · subst hab
      rw [h] at hq
      cases hq
      exact ⟨_, List.getElem?_set_self (List.getElem?_eq_some_iff.mp h).1, by simp [ctag]⟩
    · exact ⟨c, by rw [List.getElem?_set_ne hab]; exact h, rfl⟩
  · rename_i q hq
    by_cases hab : a = b
    · subst hab
      rw [h] at hq
      cases hq
      exact ⟨_, List.getElem?_set_self (List.getElem?_eq_some_iff.mp h).1, by simp [ctag]⟩
    · exact ⟨c, by rw [List.getElem?_set_ne hab]; exact h, rfl⟩
  · exact ⟨c, h, rfl⟩
theorem mu_len {M : mH} {a k : Nat} {v : Value} : (mu M a k v).length = M.length := by
  unfold mu
  split <;> simp
theorem mu_ne {M : mH} {a k b : Nat} {v : Value} (h : a ≠ b) : (mu M a k v)[b]? = M[b]? := by
  unfold mu
  split
  · exact List.getElem?_set_ne h
  · exact List.getElem?_set_ne h
  · rfl
theorem wf.mu {M : mH} (h : wf M) {a k : Nat} {v : Value} (hw : wok a k v) : wf (mu M a k v) := by
  obtain ⟨w1, w2, w3, w4⟩ := hw
  have hs : shp a = ((shp a).1, (shp a).2) := rfl
  obtain ⟨h1, h2⟩ := shp_lt hs w2
  have hmv := mv_mu h hs w2 w1 v
  refine ⟨by rw [mu_len]; exact h.1, ?_, fun b hb1 hb2 => ?_, fun b j hb1 hb2 hj => ?_, fun q hq => ?_⟩
  · obtain ⟨xs, hx, hxl⟩ := h.2.1
    exact ⟨xs, by rw [mu_ne (by omega)]; exact hx, hxl⟩
  · obtain ⟨c, hc, e⟩ := h.2.2.1 b hb1 hb2
    obtain ⟨c', hc', e'⟩ := mu_tag (a := a) (k := k) (v := v) hc
    exact ⟨c', hc', e'.trans e⟩
  · rw [hmv]
    by_cases hh : b = a ∧ j = k
    · obtain ⟨rfl, rfl⟩ := hh
      rw [if_pos ⟨rfl, rfl⟩]
      exact w3
    · rw [if_neg hh]
      exact h.2.2.2.1 b j hb1 hb2 hj
  · rw [hmv]
    have h4 := List.all_eq_true.mp w4 q hq
    rw [if_neg]
    · exact h.2.2.2.2 q hq
    · rintro ⟨e1, e2⟩
      rw [e1, e2, Nat.beq_refl, Nat.beq_refl] at h4
      cases h4
theorem gi_mu {M : mH} (h : wf M) {a k : Nat} {v : Value} (hw : wok a k v) (a' k' : Nat) : gi (mu M a k v) a' k' = if a' = a ∧ k' = k then mvi v else gi M a' k' := by
  unfold gi
  rw [mv_mu h rfl hw.2.1 hw.1 v]
  split <;> rfl
def vrf (v : Value) : Option Nat := match v with
  | .ref x => some x
  | _ => none
theorem gr_eq (M : mH) (a k : Nat) : gr M a k = vrf (mv M a k) := by
  unfold gr vrf
  rfl
theorem gr_mu {M : mH} (h : wf M) {a k : Nat} {v : Value} (hw : wok a k v) (a' k' : Nat) : gr (mu M a k v) a' k' = if a' = a ∧ k' = k then vrf v else gr M a' k' := by
  rw [gr_eq, gr_eq, mv_mu h rfl hw.2.1 hw.1 v]
  split <;> rfl
theorem mc1_rf {o : Option Nat} : mc1 (rf o) = true := by cases o <;> rfl
theorem mc1_int {x : Int32} : mc1 (.int x) = true := rfl
theorem cat_rf {o : Option Nat} : (rf o).category = 1 := by cases o <;> rfl
theorem cat_int {x : Int32} : (Value.int x).category = 1 := rfl
theorem mfit_rfo {o : Option Nat} {n : String} : mfit (.object n) (rf o) = true := by cases o <;> rfl
theorem mfit_rfa {o : Option Nat} {t : FieldType} : mfit (.array t) (rf o) = true := by cases o <;> rfl
theorem rf_some {a : Nat} : rf (some a) = .ref a := rfl
theorem rf_none : rf none = .null := rfl
/-! one instruction on the heap -/
section HV
variable {d y pc nx i ci k n a : Nat} {cv : Int32} {L : mL} {st : List Value} {M : mH} {Q : Option Value → mH → Prop}
theorem H_geti (hf : mfetch y pc = some (.getfield i, nx, ci, k, cv)) (hci : ci < 100) (hk : k < n) (hn : tkind (2 * ci) k < 2) (hw : wf M) (hs : shp a = (2 * ci, n)) : V d y pc L (.ref a :: st) M Q = V d y nx L (.int (gi M a k) :: st) M Q :=
  V_eq hf rfl rfl (by dsimp only [mdo]; rw [hw.get hs hci hk, mv_int hw hs (by omega) hk hn])
theorem H_getr (hf : mfetch y pc = some (.getfield i, nx, ci, k, cv)) (hci : ci < 100) (hk : k < n) (hn : tkind (2 * ci) k = 2) (hw : wf M) (hs : shp a = (2 * ci, n)) : V d y pc L (.ref a :: st) M Q = V d y nx L (rf (gr M a k) :: st) M Q :=
  V_eq hf rfl rfl (by dsimp only [mdo]; rw [hw.get hs hci hk, mv_ref hw hs (by omega) hk hn])
theorem H_put (hf : mfetch y pc = some (.putfield i, nx, ci, k, cv)) (hci : ci < 100) (hk : k < n) {v : Value} (hv : mfit (mTy ci k) v = true) (hw : wf M) (hs : shp a = (2 * ci, n)) : V d y pc L (v :: .ref a :: st) M Q = V d y nx L st (mu M a k v) Q :=
  V_eq hf rfl rfl (by dsimp only [mdo]; rw [hv, cond_true, hw.put hs hci hk])
theorem H_iald (hf : mfetch y pc = some (.iaload, nx, ci, k, cv)) {j : Nat} (hw : wf M) (hs : shp a = (1, n)) (hj : j < n) (hn : n < 1000) : V d y pc L (.int (nI j) :: .ref a :: st) M Q = V d y nx L (.int (gi M a j) :: st) M Q :=
  V_eq hf rfl rfl (by dsimp only [mdo]; rw [hw.ald (t := 0) hs (by omega) hj hn, mv_int hw hs (by omega) hj (show tkind 1 j < 2 from (by decide : (0 : Nat) < 2))]; rfl)
theorem H_bald (hf : mfetch y pc = some (.baload, nx, ci, k, cv)) {j : Nat} (hw : wf M) (hs : shp a = (3, n)) (hj : j < n) (hn : n < 1000) : V d y pc L (.int (nI j) :: .ref a :: st) M Q = V d y nx L (.int (gi M a j) :: st) M Q :=
  V_eq hf rfl rfl (by dsimp only [mdo]; rw [hw.ald (t := 1) hs (by omega) hj hn, mv_int hw hs (by omega) hj (show tkind 3 j < 2 from (by decide : (1 : Nat) < 2))]; rfl)
theorem H_aald (hf : mfetch y pc = some (.aaload, nx, ci, k, cv)) {j t : Nat} (hw : wf M) (hs : shp a = (2 * t + 1, n)) (ht : 2 ≤ t ∧ t ≤ 6) (hj : j < n) (hn : n < 1000) : V d y pc L (.int (nI j) :: .ref a :: st) M Q = V d y nx L (rf (gr M a j) :: st) M Q := by
  have hk : tkind (2 * t + 1) j = 2 := by
    rcases (show t = 2 ∨ t = 3 ∨ t = 4 ∨ t = 5 ∨ t = 6 by omega) with rfl | rfl | rfl | rfl | rfl <;> rfl
  have hb : (Nat.ble 2 t && Nat.ble t 6) = true := by
    rcases (show t = 2 ∨ t = 3 ∨ t = 4 ∨ t = 5 ∨ t = 6 by omega) with rfl | rfl | rfl | rfl | rfl <;> rfl
  refine V_eq hf rfl rfl ?_
  dsimp only [mdo]
  rw [hw.ald hs (by omega) hj hn, mv_ref hw hs (by omega) hj hk]
  cases gr M a j <;> simp only [rf, hb, cond_true]
theorem H_iast (hf : mfetch y pc = some (.iastore, nx, ci, k, cv)) {j : Nat} {x : Int32} (hw : wf M) (hs : shp a = (1, n)) (hj : j < n) (hn : n < 1000) : V d y pc L (.int x :: .int (nI j) :: .ref a :: st) M Q = V d y nx L st (mu M a j (.int x)) Q :=
  V_eq hf rfl rfl (by dsimp only [mdo]; rw [hw.ast (t := 0) hs (by omega) hj hn])
theorem H_bast (hf : mfetch y pc = some (.bastore, nx, ci, k, cv)) {j : Nat} {x : Int32} (hx : (x == 0 || x == 1) = true) (hw : wf M) (hs : shp a = (3, n)) (hj : j < n) (hn : n < 1000) : V d y pc L (.int x :: .int (nI j) :: .ref a :: st) M Q = V d y nx L st (mu M a j (.int x)) Q :=
  V_eq hf rfl rfl (by dsimp only [mdo]; rw [hx, cond_true, hw.ast (t := 1) hs (by omega) hj hn])
theorem H_aast (hf : mfetch y pc = some (.aastore, nx, ci, k, cv)) {j t v m : Nat} (hw : wf M) (hs : shp a = (2 * t + 1, n)) (ht : 2 ≤ t ∧ t ≤ 6) (hv : shp v = (2 * mAc t, m)) (hj : j < n) (hn : n < 1000) : V d y pc L (.ref v :: .int (nI j) :: .ref a :: st) M Q = V d y nx L st (mu M a j (.ref v)) Q := by
  have hac : mAc t < 100 := by
    rcases (show t = 2 ∨ t = 3 ∨ t = 4 ∨ t = 5 ∨ t = 6 by omega) with rfl | rfl | rfl | rfl | rfl <;> decide
  have hb : (Nat.ble 2 t && Nat.ble t 6) = true := by
    rcases (show t = 2 ∨ t = 3 ∨ t = 4 ∨ t = 5 ∨ t = 6 by omega) with rfl | rfl | rfl | rfl | rfl <;> rfl
  refine V_eq hf rfl rfl ?_
  dsimp only [mdo]
  rw [hw.tya hs (by omega), hw.cls hv hac, hb, beq_self_eq_true, Bool.and_self, cond_true, hw.ast hs (by omega) hj hn]
theorem H_callv {st as rest : List Value} {m y1 : Nat} (hf : mfetch y pc = some (.invokevirtual i, nx, y1, n, cv)) (hst : st = (as.reverse ++ [rf (some a)]) ++ rest) (hn : as.length + 1 = n) (hc : as.all mc1 = true) (hr : (rest.map Value.category).sum ≤ 8) (hlt : mOwn y1 < 100) (hw : wf M) (hs : shp a = (2 * mOwn y1, m)) : V (d + 1) y pc L st M Q = Vc d y1 (rf (some a) :: as) M (fun r M' => V (d + 1) y nx L (r.toList ++ rest) M' Q) := by
  subst hst
  subst hn
  refine V_call hf rfl ?_
  have h1 : (as.reverse ++ [rf (some a)] ++ rest).take (as.length + 1) = as.reverse ++ [rf (some a)] := List.take_left' (by simp)
  have h2 : (as.reverse ++ [rf (some a)] ++ rest).drop (as.length + 1) = rest := List.drop_left' (by simp)
  have h3 : mcok (as.length + 1) (as.reverse ++ [rf (some a)] ++ rest) = true := by
    simp only [mcok, h1, h2, Bool.and_eq_true, Nat.ble_eq]
    refine ⟨by simp, ?_, hr⟩
    rw [List.all_append, List.all_reverse, hc]
    rfl
  dsimp only [mcall]
  rw [h3, cond_true, h1, h2, List.reverse_append, List.reverse_reverse]
  show (bif mcls M a == some (mOwn y1) then _ else _) = _
  rw [hw.cls hs hlt, beq_self_eq_true, cond_true]
  rfl
theorem H_calls {st as rest : List Value} {y1 : Nat} (hf : mfetch y pc = some (.invokestatic i, nx, y1, n, cv)) (hst : st = as.reverse ++ rest) (hn : as.length = n) (hc : as.all mc1 = true) (hr : (rest.map Value.category).sum ≤ 8) (hlt : Nat.blt y1 1000 = true) : V (d + 1) y pc L st M Q = Vc d y1 as M (fun r M' => V (d + 1) y nx L (r.toList ++ rest) M' Q) := by
  subst hst
  subst hn
  refine V_call hf rfl ?_
  have h1 : (as.reverse ++ rest).take as.length = as.reverse := List.take_left' (by simp)
  have h2 : (as.reverse ++ rest).drop as.length = rest := List.drop_left' (by simp)
  have h3 : mcok as.length (as.reverse ++ rest) = true := by
    simp only [mcok, h1, h2, Bool.and_eq_true, Nat.ble_eq]
    refine ⟨by simp, ?_, hr⟩
    rw [List.all_reverse, hc]
  dsimp only [mcall]
  rw [h3, hlt, Bool.and_self, cond_true, h1, h2, List.reverse_reverse]
/-- a comparison of two references -/
theorem H_aeq {o : Int} {x z : Option Nat} {tg : Nat} (hf : mfetch y pc = some (.if_acmp .eq o, nx, tg, k, cv)) : V d y pc L (rf z :: rf x :: st) M Q = if x = z then V d y tg L st M Q else V d y nx L st M Q := by
  cases x with
  | none => cases z with
    | none => rw [if_pos rfl]; exact V_eq hf rfl rfl rfl
    | some w => rw [if_neg (by simp)]; exact V_eq hf rfl rfl rfl
  | some v => cases z with
    | none => rw [if_neg (by simp)]; exact V_eq hf rfl rfl rfl
    | some w =>
      by_cases h : v = w
      · subst h; rw [if_pos rfl]; exact V_eq hf rfl rfl (by dsimp only [rf, mdo]; rw [Nat.beq_refl, cond_true])
      · rw [if_neg (by simpa using h)]
        exact V_eq hf rfl rfl (by dsimp only [rf, mdo]; rw [show Nat.beq v w = false by cases hq : Nat.beq v w with | false => rfl | true => exact absurd (Nat.eq_of_beq_eq_true hq) h, cond_false])
theorem H_ane {o : Int} {x z : Option Nat} {tg : Nat} (hf : mfetch y pc = some (.if_acmp .ne o, nx, tg, k, cv)) : V d y pc L (rf z :: rf x :: st) M Q = if x = z then V d y nx L st M Q else V d y tg L st M Q := by
  cases x with
  | none => cases z with
    | none => rw [if_pos rfl]; exact V_eq hf rfl rfl rfl
    | some w => rw [if_neg (by simp)]; exact V_eq hf rfl rfl rfl
  | some v => cases z with
    | none => rw [if_neg (by simp)]; exact V_eq hf rfl rfl rfl
    | some w =>
      by_cases h : v = w
      · subst h; rw [if_pos rfl]; exact V_eq hf rfl rfl (by dsimp only [rf, mdo]; rw [Nat.beq_refl, cond_true])
      · rw [if_neg (by simpa using h)]
        exact V_eq hf rfl rfl (by dsimp only [rf, mdo]; rw [show Nat.beq v w = false by cases hq : Nat.beq v w with | false => rfl | true => exact absurd (Nat.eq_of_beq_eq_true hq) h, cond_false])
end HV
theorem V_brn {d y pc a b : Nat} {c : Prop} [Decidable c] {L L' : mL} {st st' : List Value} {M M' : mH} {Q : Option Value → mH → Prop} {e : mE} (hf : mfetch y pc = some e) (hr : mret e st = none) (hc : mcall e st M = none) (hd : mdo e pc L st M = some (bif decide (¬ c) then a else b, L', st', M')) : V d y pc L st M Q = if c then V d y b L' st' M' Q else V d y a L' st' M' Q := by
  rw [V_br hf hr hc hd]
  by_cases h : c
  · rw [if_neg (fun z => z h), if_pos h]
  · rw [if_pos h, if_neg h]
theorem SH_small : SH.all (fun q => Nat.blt q.2 1000) = true := by decide +kernel
theorem shp_small (a : Nat) : (shp a).2 < 1000 := by
  unfold shp
  rw [List.getD_eq_getElem?_getD]
  cases h : SH[a]? with
  | none => decide
  | some q =>
    have := List.all_eq_true.mp SH_small q (List.mem_of_getElem? h)
    rw [Nat.blt_eq] at this
    exact this
section HV2
variable {d y pc nx ci k a : Nat} {cv : Int32} {L : mL} {st : List Value} {M : mH} {Q : Option Value → mH → Prop}
theorem H2_iald (hf : mfetch y pc = some (.iaload, nx, ci, k, cv)) {j : Nat} (hw : wf M) (hs : (shp a).1 = 1) (hj : j < (shp a).2) : V d y pc L (.int (nI j) :: rf (some a) :: st) M Q = V d y nx L (.int (gi M a j) :: st) M Q :=
  H_iald hf hw (n := (shp a).2) (by rw [← hs]) hj (shp_small a)
theorem H2_bald (hf : mfetch y pc = some (.baload, nx, ci, k, cv)) {j : Nat} (hw : wf M) (hs : (shp a).1 = 3) (hj : j < (shp a).2) : V d y pc L (.int (nI j) :: rf (some a) :: st) M Q = V d y nx L (.int (gi M a j) :: st) M Q :=
  H_bald hf hw (n := (shp a).2) (by rw [← hs]) hj (shp_small a)
theorem H2_aald (hf : mfetch y pc = some (.aaload, nx, ci, k, cv)) {j : Nat} (hw : wf M) (hs : 5 ≤ (shp a).1 ∧ (shp a).1 ≤ 13 ∧ (shp a).1 % 2 = 1) (hj : j < (shp a).2) : V d y pc L (.int (nI j) :: rf (some a) :: st) M Q = V d y nx L (rf (gr M a j) :: st) M Q :=
  H_aald hf hw (t := (shp a).1 / 2) (n := (shp a).2) (by rw [show 2 * ((shp a).1 / 2) + 1 = (shp a).1 by omega]) (by omega) hj (shp_small a)
theorem H2_iast (hf : mfetch y pc = some (.iastore, nx, ci, k, cv)) {j : Nat} {x : Int32} (hw : wf M) (hs : (shp a).1 = 1) (hj : j < (shp a).2) : V d y pc L (.int x :: .int (nI j) :: rf (some a) :: st) M Q = V d y nx L st (mu M a j (.int x)) Q :=
  H_iast hf hw (n := (shp a).2) (by rw [← hs]) hj (shp_small a)
theorem H2_bast (hf : mfetch y pc = some (.bastore, nx, ci, k, cv)) {j : Nat} {x : Int32} (hx : (x == 0 || x == 1) = true) (hw : wf M) (hs : (shp a).1 = 3) (hj : j < (shp a).2) : V d y pc L (.int x :: .int (nI j) :: rf (some a) :: st) M Q = V d y nx L st (mu M a j (.int x)) Q :=
  H_bast hf hx hw (n := (shp a).2) (by rw [← hs]) hj (shp_small a)
theorem H2_aast (hf : mfetch y pc = some (.aastore, nx, ci, k, cv)) {j v : Nat} (hw : wf M) (hs : 5 ≤ (shp a).1 ∧ (shp a).1 ≤ 13 ∧ (shp a).1 % 2 = 1) (hv : (shp v).1 = 2 * mAc ((shp a).1 / 2)) (hj : j < (shp a).2) : V d y pc L (rf (some v) :: .int (nI j) :: rf (some a) :: st) M Q = V d y nx L st (mu M a j (rf (some v))) Q :=
  H_aast hf hw (t := (shp a).1 / 2) (n := (shp a).2) (m := (shp v).2) (by rw [show 2 * ((shp a).1 / 2) + 1 = (shp a).1 by omega]) (by omega) (by rw [← hv]) hj (shp_small a)
end HV2
