abbrev xT : Type := Nat × Int × Int
def kO : Nat → Option (Nat × List xT) := fun r => match r with
  | 0 => some (10, [(0, -2147483648, 2147483647), (22, 0, 0), (4, 0, 0), (5, 0, 0), (6, 0, 0), (7, 0, 0), (7, 0, 0), (8, 0, 0), (8, 0, 0), (23, 0, 0), (24, 0, 0), (0, 0, 3), (9, 0, 0), (10, 0, 0), (11, 0, 0), (25, 0, 0), (12, 0, 0), (12, 0, 0)])
  | 1 => some (6, [(26, 0, 0), (0, -2147483648, 2147483647), (0, -1, 60)])
  | 2 => some (4, [(27, 0, 0), (0, 0, 900), (28, 0, 0), (29, 0, 0), (30, 0, 0), (31, 0, 0), (0, -2147483648, 2147483647), (0, -2147483648, 2147483647), (0, -2147483648, 2147483647), (0, -2147483648, 2147483647), (0, -2147483648, 2147483647), (1, 0, 0), (14, 1, 0), (0, -2147483648, 2147483647), (0, -2147483648, 2147483647), (0, -2147483648, 2147483647), (0, -2147483648, 2147483647)])
  | 3 => some (9, [(4, 0, 0), (44, 0, 0), (78, 0, 0), (79, 0, 0), (1, 0, 0)])
  | 4 => some (3, [(4, 0, 0), (32, 0, 0), (0, -2147483648, 2147483647), (0, 0, 59)])
  | 5 => some (8, [(0, 0, 6), (0, 0, 6), (0, 0, 2), (0, 0, 999), (0, -2147483648, 2147483647), (0, -2147483648, 2147483647), (0, -2147483648, 2147483647), (33, 0, 0), (34, 0, 0), (35, 0, 0), (36, 0, 0), (37, 0, 0), (38, 0, 0), (82, 0, 0), (83, 0, 0), (84, 0, 0), (85, 0, 0), (86, 0, 0)])
  | 6 => some (2, [(0, 0, 1), (0, -2147483648, 2147483647), (0, -2147483648, 2147483647), (45, 0, 0), (45, 0, 0), (45, 0, 0), (45, 0, 0), (45, 0, 0), (45, 0, 0)])
  | 7 => some (7, [(52, 0, 0), (0, 0, 36), (53, 0, 0), (54, 0, 0), (0, 0, 6), (0, 0, 6), (0, 0, 35), (0, -2147483648, 2147483647)])
  | 8 => some (0, [(1, 0, 0), (0, -2147483648, 2147483647), (0, -2147483648, 2147483647), (0, -2147483648, 2147483647)])
  | 9 => some (1, [(1, 0, 0), (1, 0, 0), (55, 0, 0), (1, 0, 0)])
  | 10 => some (5, [(0, -2147483648, 2147483647), (0, -2147483648, 2147483647), (0, -2147483648, 2147483647), (0, -2147483648, 2147483647), (0, 0, 1), (0, -2147483648, 2147483647), (51, 0, 0)])
  | 200 => some (10, [(0, -2147483648, 2147483647), (22, 1, 0), (4, 1, 0), (5, 1, 0), (6, 1, 0), (7, 1, 0), (7, 1, 0), (8, 1, 0), (8, 1, 0), (23, 1, 0), (24, 1, 0), (0, 0, 3), (9, 1, 0), (10, 1, 0), (11, 1, 0), (25, 1, 0), (12, 1, 0), (12, 1, 0)])
  | 201 => some (10, [(0, -2147483648, 2147483647), (22, 0, 0), (4, 1, 0), (5, 1, 0), (6, 1, 0), (7, 1, 0), (7, 1, 0), (8, 1, 0), (8, 1, 0), (23, 1, 0), (24, 1, 0), (0, 0, 3), (9, 1, 0), (10, 1, 0), (11, 1, 0), (25, 1, 0), (12, 1, 0), (12, 1, 0)])
  | 202 => some (10, [(0, -2147483648, 2147483647), (22, 0, 0), (4, 0, 0), (5, 1, 0), (6, 1, 0), (7, 1, 0), (7, 1, 0), (8, 1, 0), (8, 1, 0), (23, 1, 0), (24, 1, 0), (0, 0, 3), (9, 1, 0), (10, 1, 0), (11, 1, 0), (25, 1, 0), (12, 1, 0), (12, 1, 0)])
  | 203 => some (10, [(0, -2147483648, 2147483647), (22, 0, 0), (4, 0, 0), (5, 0, 0), (6, 1, 0), (7, 1, 0), (7, 1, 0), (8, 1, 0), (8, 1, 0), (23, 1, 0), (24, 1, 0), (0, 0, 3), (9, 1, 0), (10, 1, 0), (11, 1, 0), (25, 1, 0), (12, 1, 0), (12, 1, 0)])
  | 204 => some (10, [(0, -2147483648, 2147483647), (22, 0, 0), (4, 0, 0), (5, 0, 0), (6, 0, 0), (7, 1, 0), (7, 1, 0), (8, 1, 0), (8, 1, 0), (23, 1, 0), (24, 1, 0), (0, 0, 3), (9, 1, 0), (10, 1, 0), (11, 1, 0), (25, 1, 0), (12, 1, 0), (12, 1, 0)])
  | 205 => some (10, [(0, -2147483648, 2147483647), (22, 0, 0), (4, 0, 0), (5, 0, 0), (6, 0, 0), (7, 0, 0), (7, 1, 0), (8, 1, 0), (8, 1, 0), (23, 1, 0), (24, 1, 0), (0, 0, 3), (9, 1, 0), (10, 1, 0), (11, 1, 0), (25, 1, 0), (12, 1, 0), (12, 1, 0)])
  | 206 => some (10, [(0, -2147483648, 2147483647), (22, 0, 0), (4, 0, 0), (5, 0, 0), (6, 0, 0), (7, 0, 0), (7, 0, 0), (8, 1, 0), (8, 1, 0), (23, 1, 0), (24, 1, 0), (0, 0, 3), (9, 1, 0), (10, 1, 0), (11, 1, 0), (25, 1, 0), (12, 1, 0), (12, 1, 0)])
  | 207 => some (10, [(0, -2147483648, 2147483647), (22, 0, 0), (4, 0, 0), (5, 0, 0), (6, 0, 0), (7, 0, 0), (7, 0, 0), (8, 0, 0), (8, 1, 0), (23, 1, 0), (24, 1, 0), (0, 0, 3), (9, 1, 0), (10, 1, 0), (11, 1, 0), (25, 1, 0), (12, 1, 0), (12, 1, 0)])
  | 208 => some (10, [(0, -2147483648, 2147483647), (22, 0, 0), (4, 0, 0), (5, 0, 0), (6, 0, 0), (7, 0, 0), (7, 0, 0), (8, 0, 0), (8, 0, 0), (23, 1, 0), (24, 1, 0), (0, 0, 3), (9, 1, 0), (10, 1, 0), (11, 1, 0), (25, 1, 0), (12, 1, 0), (12, 1, 0)])
  | 209 => some (10, [(0, -2147483648, 2147483647), (22, 0, 0), (4, 0, 0), (5, 0, 0), (6, 0, 0), (7, 0, 0), (7, 0, 0), (8, 0, 0), (8, 0, 0), (23, 0, 0), (24, 1, 0), (0, 0, 3), (9, 1, 0), (10, 1, 0), (11, 1, 0), (25, 1, 0), (12, 1, 0), (12, 1, 0)])
  | 210 => some (10, [(0, -2147483648, 2147483647), (22, 0, 0), (4, 0, 0), (5, 0, 0), (6, 0, 0), (7, 0, 0), (7, 0, 0), (8, 0, 0), (8, 0, 0), (23, 0, 0), (24, 0, 0), (0, 0, 3), (9, 1, 0), (10, 1, 0), (11, 1, 0), (25, 1, 0), (12, 1, 0), (12, 1, 0)])
  | 211 => some (10, [(0, -2147483648, 2147483647), (22, 0, 0), (4, 0, 0), (5, 0, 0), (6, 0, 0), (7, 0, 0), (7, 0, 0), (8, 0, 0), (8, 0, 0), (23, 0, 0), (24, 0, 0), (0, 0, 3), (9, 0, 0), (10, 1, 0), (11, 1, 0), (25, 1, 0), (12, 1, 0), (12, 1, 0)])
  | 212 => some (10, [(0, -2147483648, 2147483647), (22, 0, 0), (4, 0, 0), (5, 0, 0), (6, 0, 0), (7, 0, 0), (7, 0, 0), (8, 0, 0), (8, 0, 0), (23, 0, 0), (24, 0, 0), (0, 0, 3), (9, 0, 0), (10, 0, 0), (11, 1, 0), (25, 1, 0), (12, 1, 0), (12, 1, 0)])
  | 213 => some (10, [(0, -2147483648, 2147483647), (22, 0, 0), (4, 0, 0), (5, 0, 0), (6, 0, 0), (7, 0, 0), (7, 0, 0), (8, 0, 0), (8, 0, 0), (23, 0, 0), (24, 0, 0), (0, 0, 3), (9, 0, 0), (10, 0, 0), (11, 0, 0), (25, 1, 0), (12, 1, 0), (12, 1, 0)])
  | 214 => some (10, [(0, -2147483648, 2147483647), (22, 0, 0), (4, 0, 0), (5, 0, 0), (6, 0, 0), (7, 0, 0), (7, 0, 0), (8, 0, 0), (8, 0, 0), (23, 0, 0), (24, 0, 0), (0, 0, 3), (9, 0, 0), (10, 0, 0), (11, 0, 0), (25, 0, 0), (12, 1, 0), (12, 1, 0)])
  | 215 => some (10, [(0, -2147483648, 2147483647), (22, 0, 0), (4, 0, 0), (5, 0, 0), (6, 0, 0), (7, 0, 0), (7, 0, 0), (8, 0, 0), (8, 0, 0), (23, 0, 0), (24, 0, 0), (0, 0, 3), (9, 0, 0), (10, 0, 0), (11, 0, 0), (25, 0, 0), (12, 0, 0), (12, 1, 0)])
  | 230 => some (6, [(26, 1, 0), (0, -2147483648, 2147483647), (0, -1, 60)])
  | 260 => some (4, [(27, 1, 0), (0, 0, 900), (28, 1, 0), (29, 1, 0), (30, 1, 0), (31, 1, 0), (0, -2147483648, 2147483647), (0, -2147483648, 2147483647), (0, -2147483648, 2147483647), (0, -2147483648, 2147483647), (0, -2147483648, 2147483647), (1, 0, 0), (14, 1, 0), (0, -2147483648, 2147483647), (0, -2147483648, 2147483647), (0, -2147483648, 2147483647), (0, -2147483648, 2147483647)])
  | 261 => some (4, [(27, 0, 0), (0, 0, 900), (28, 1, 0), (29, 1, 0), (30, 1, 0), (31, 1, 0), (0, -2147483648, 2147483647), (0, -2147483648, 2147483647), (0, -2147483648, 2147483647), (0, -2147483648, 2147483647), (0, -2147483648, 2147483647), (1, 0, 0), (14, 1, 0), (0, -2147483648, 2147483647), (0, -2147483648, 2147483647), (0, -2147483648, 2147483647), (0, -2147483648, 2147483647)])
  | 262 => some (4, [(27, 0, 0), (0, 0, 900), (28, 0, 0), (29, 1, 0), (30, 1, 0), (31, 1, 0), (0, -2147483648, 2147483647), (0, -2147483648, 2147483647), (0, -2147483648, 2147483647), (0, -2147483648, 2147483647), (0, -2147483648, 2147483647), (1, 0, 0), (14, 1, 0), (0, -2147483648, 2147483647), (0, -2147483648, 2147483647), (0, -2147483648, 2147483647), (0, -2147483648, 2147483647)])
  | 263 => some (4, [(27, 0, 0), (0, 0, 900), (28, 0, 0), (29, 0, 0), (30, 1, 0), (31, 1, 0), (0, -2147483648, 2147483647), (0, -2147483648, 2147483647), (0, -2147483648, 2147483647), (0, -2147483648, 2147483647), (0, -2147483648, 2147483647), (1, 0, 0), (14, 1, 0), (0, -2147483648, 2147483647), (0, -2147483648, 2147483647), (0, -2147483648, 2147483647), (0, -2147483648, 2147483647)])
  | 264 => some (4, [(27, 0, 0), (0, 0, 900), (28, 0, 0), (29, 0, 0), (30, 0, 0), (31, 1, 0), (0, -2147483648, 2147483647), (0, -2147483648, 2147483647), (0, -2147483648, 2147483647), (0, -2147483648, 2147483647), (0, -2147483648, 2147483647), (1, 0, 0), (14, 1, 0), (0, -2147483648, 2147483647), (0, -2147483648, 2147483647), (0, -2147483648, 2147483647), (0, -2147483648, 2147483647)])
  | 290 => some (9, [(4, 1, 0), (44, 1, 0), (78, 1, 0), (79, 1, 0), (1, 0, 0)])
  | 291 => some (9, [(4, 1, 0), (44, 0, 0), (78, 1, 0), (79, 1, 0), (1, 0, 0)])
  | 292 => some (9, [(4, 1, 0), (44, 0, 0), (78, 0, 0), (79, 1, 0), (1, 0, 0)])
  | 293 => some (9, [(4, 1, 0), (44, 0, 0), (78, 0, 0), (79, 0, 0), (1, 0, 0)])
  | 320 => some (3, [(4, 1, 0), (32, 1, 0), (0, -2147483648, 2147483647), (0, 0, 59)])
  | 321 => some (3, [(4, 1, 0), (32, 0, 0), (0, -2147483648, 2147483647), (0, 0, 59)])
  | 350 => some (8, [(0, 0, 6), (0, 0, 6), (0, 0, 2), (0, 0, 999), (0, -2147483648, 2147483647), (0, -2147483648, 2147483647), (0, -2147483648, 2147483647), (33, 1, 0), (34, 1, 0), (35, 1, 0), (36, 1, 0), (37, 1, 0), (38, 1, 0), (82, 1, 0), (83, 1, 0), (84, 1, 0), (85, 1, 0), (86, 1, 0)])
  | 351 => some (8, [(0, 0, 6), (0, 0, 6), (0, 0, 2), (0, 0, 999), (0, -2147483648, 2147483647), (0, -2147483648, 2147483647), (0, -2147483648, 2147483647), (33, 0, 0), (34, 1, 0), (35, 1, 0), (36, 1, 0), (37, 1, 0), (38, 1, 0), (82, 1, 0), (83, 1, 0), (84, 1, 0), (85, 1, 0), (86, 1, 0)])
  | 352 => some (8, [(0, 0, 6), (0, 0, 6), (0, 0, 2), (0, 0, 999), (0, -2147483648, 2147483647), (0, -2147483648, 2147483647), (0, -2147483648, 2147483647), (33, 0, 0), (34, 0, 0), (35, 1, 0), (36, 1, 0), (37, 1, 0), (38, 1, 0), (82, 1, 0), (83, 1, 0), (84, 1, 0), (85, 1, 0), (86, 1, 0)])
  | 353 => some (8, [(0, 0, 6), (0, 0, 6), (0, 0, 2), (0, 0, 999), (0, -2147483648, 2147483647), (0, -2147483648, 2147483647), (0, -2147483648, 2147483647), (33, 0, 0), (34, 0, 0), (35, 0, 0), (36, 1, 0), (37, 1, 0), (38, 1, 0), (82, 1, 0), (83, 1, 0), (84, 1, 0), (85, 1, 0), (86, 1, 0)])
  | 354 => some (8, [(0, 0, 6), (0, 0, 6), (0, 0, 2), (0, 0, 999), (0, -2147483648, 2147483647), (0, -2147483648, 2147483647), (0, -2147483648, 2147483647), (33, 0, 0), (34, 0, 0), (35, 0, 0), (36, 0, 0), (37, 1, 0), (38, 1, 0), (82, 1, 0), (83, 1, 0), (84, 1, 0), (85, 1, 0), (86, 1, 0)])
  | 355 => some (8, [(0, 0, 6), (0, 0, 6), (0, 0, 2), (0, 0, 999), (0, -2147483648, 2147483647), (0, -2147483648, 2147483647), (0, -2147483648, 2147483647), (33, 0, 0), (34, 0, 0), (35, 0, 0), (36, 0, 0), (37, 0, 0), (38, 1, 0), (82, 1, 0), (83, 1, 0), (84, 1, 0), (85, 1, 0), (86, 1, 0)])
  | 356 => some (8, [(0, 0, 6), (0, 0, 6), (0, 0, 2), (0, 0, 999), (0, -2147483648, 2147483647), (0, -2147483648, 2147483647), (0, -2147483648, 2147483647), (33, 0, 0), (34, 0, 0), (35, 0, 0), (36, 0, 0), (37, 0, 0), (38, 0, 0), (82, 1, 0), (83, 1, 0), (84, 1, 0), (85, 1, 0), (86, 1, 0)])
  | 357 => some (8, [(0, 0, 6), (0, 0, 6), (0, 0, 2), (0, 0, 999), (0, -2147483648, 2147483647), (0, -2147483648, 2147483647), (0, -2147483648, 2147483647), (33, 0, 0), (34, 0, 0), (35, 0, 0), (36, 0, 0), (37, 0, 0), (38, 0, 0), (82, 0, 0), (83, 1, 0), (84, 1, 0), (85, 1, 0), (86, 1, 0)])
  | 358 => some (8, [(0, 0, 6), (0, 0, 6), (0, 0, 2), (0, 0, 999), (0, -2147483648, 2147483647), (0, -2147483648, 2147483647), (0, -2147483648, 2147483647), (33, 0, 0), (34, 0, 0), (35, 0, 0), (36, 0, 0), (37, 0, 0), (38, 0, 0), (82, 0, 0), (83, 0, 0), (84, 1, 0), (85, 1, 0), (86, 1, 0)])
  | 359 => some (8, [(0, 0, 6), (0, 0, 6), (0, 0, 2), (0, 0, 999), (0, -2147483648, 2147483647), (0, -2147483648, 2147483647), (0, -2147483648, 2147483647), (33, 0, 0), (34, 0, 0), (35, 0, 0), (36, 0, 0), (37, 0, 0), (38, 0, 0), (82, 0, 0), (83, 0, 0), (84, 0, 0), (85, 1, 0), (86, 1, 0)])
  | 360 => some (8, [(0, 0, 6), (0, 0, 6), (0, 0, 2), (0, 0, 999), (0, -2147483648, 2147483647), (0, -2147483648, 2147483647), (0, -2147483648, 2147483647), (33, 0, 0), (34, 0, 0), (35, 0, 0), (36, 0, 0), (37, 0, 0), (38, 0, 0), (82, 0, 0), (83, 0, 0), (84, 0, 0), (85, 0, 0), (86, 1, 0)])
  | 380 => some (2, [(0, 0, 1), (0, -2147483648, 2147483647), (0, -2147483648, 2147483647), (45, 1, 0), (45, 1, 0), (45, 1, 0), (45, 1, 0), (45, 1, 0), (45, 1, 0)])
  | 381 => some (2, [(0, 0, 1), (0, -2147483648, 2147483647), (0, -2147483648, 2147483647), (45, 0, 0), (45, 1, 0), (45, 1, 0), (45, 1, 0), (45, 1, 0), (45, 1, 0)])
  | 382 => some (2, [(0, 0, 1), (0, -2147483648, 2147483647), (0, -2147483648, 2147483647), (45, 0, 0), (45, 0, 0), (45, 1, 0), (45, 1, 0), (45, 1, 0), (45, 1, 0)])
  | 383 => some (2, [(0, 0, 1), (0, -2147483648, 2147483647), (0, -2147483648, 2147483647), (45, 0, 0), (45, 0, 0), (45, 0, 0), (45, 1, 0), (45, 1, 0), (45, 1, 0)])
  | 384 => some (2, [(0, 0, 1), (0, -2147483648, 2147483647), (0, -2147483648, 2147483647), (45, 0, 0), (45, 0, 0), (45, 0, 0), (45, 0, 0), (45, 1, 0), (45, 1, 0)])
  | 385 => some (2, [(0, 0, 1), (0, -2147483648, 2147483647), (0, -2147483648, 2147483647), (45, 0, 0), (45, 0, 0), (45, 0, 0), (45, 0, 0), (45, 0, 0), (45, 1, 0)])
  | 410 => some (7, [(52, 1, 0), (0, 0, 36), (53, 1, 0), (54, 1, 0), (0, 0, 6), (0, 0, 6), (0, 0, 35), (0, -2147483648, 2147483647)])
  | 411 => some (7, [(52, 0, 0), (0, 0, 36), (53, 1, 0), (54, 1, 0), (0, 0, 6), (0, 0, 6), (0, 0, 35), (0, -2147483648, 2147483647)])
  | 412 => some (7, [(52, 0, 0), (0, 0, 36), (53, 0, 0), (54, 1, 0), (0, 0, 6), (0, 0, 6), (0, 0, 35), (0, -2147483648, 2147483647)])
  | 470 => some (1, [(1, 0, 0), (1, 0, 0), (55, 1, 0), (1, 0, 0)])
  | 500 => some (5, [(0, -2147483648, 2147483647), (0, -2147483648, 2147483647), (0, -2147483648, 2147483647), (0, -2147483648, 2147483647), (0, 0, 1), (0, -2147483648, 2147483647), (51, 1, 0)])
  | _ => none
def cF90 (i : Nat) : xT := if 0 ≤ i ∧ i ≤ 19 then (0, 0, 127) else if 20 ≤ i ∧ i ≤ 20 then (0, 0, 20) else if 21 ≤ i ∧ i ≤ 21 then (0, 0, 900) else if 22 ≤ i ∧ i ≤ 22 then (0, 0, 0) else (0, -2147483648, 2147483647)
def cF91 (i : Nat) : xT := if 0 ≤ i ∧ i ≤ 0 then (0, 0, 4) else if 1 ≤ i ∧ i ≤ 1 then (0, 0, 3) else if 2 ≤ i ∧ i ≤ 2 then (0, 0, 2) else if 3 ≤ i ∧ i ≤ 4 then (0, 0, 40) else if 5 ≤ i ∧ i ≤ 5 then (0, 0, 15) else if 6 ≤ i ∧ i ≤ 6 then (0, 0, 7) else if 7 ≤ i ∧ i ≤ 7 then (0, 0, 15) else if 8 ≤ i ∧ i ≤ 8 then (0, -2147483648, 2147483647) else if 9 ≤ i ∧ i ≤ 9 then (0, 0, 3) else if 10 ≤ i ∧ i ≤ 45 then (0, 0, 24) else if 46 ≤ i ∧ i ≤ 81 then (0, 0, 24) else if 82 ≤ i ∧ i ≤ 117 then (0, 0, 9) else (0, -2147483648, 2147483647)
def kA : Nat → Option (Nat × Nat × (Nat → xT)) := fun r => match r with
  | 20 => some (4, 4, fun _ => (3, 0, 0))
  | 21 => some (5, 3, fun _ => (7, 0, 0))
  | 22 => some (6, 3, fun _ => (8, 0, 0))
  | 23 => some (3, 169, fun _ => (0, -2147483648, 2147483647))
  | 24 => some (2, 60, fun _ => (1, 0, 0))
  | 25 => some (0, 900, fun _ => (0, -128, 127))
  | 26 => some (1, 901, fun _ => (0, -2147483648, 2147483647))
  | 27 => some (1, 901, fun _ => (0, -2147483648, 2147483647))
  | 28 => some (2, 901, fun _ => (1, 0, 0))
  | 29 => some (7, 901, fun _ => (14, 1, 0))
  | 30 => some (1, 3, fun _ => (0, -2147483648, 2147483647))
  | 31 => some (1, 2, fun _ => (0, 0, 40))
  | 32 => some (1, 2, fun _ => (0, 0, 40))
  | 33 => some (1, 2, fun _ => (0, -2147483648, 2147483647))
  | 34 => some (1, 4, fun _ => (0, -1, 40))
  | 35 => some (1, 5, fun _ => (0, -2147483648, 2147483647))
  | 36 => some (1, 36, fun _ => (0, 0, 99))
  | 80 => some (1, 36, fun _ => (0, 0, 99))
  | 81 => some (1, 36, fun _ => (0, 0, 9))
  | 82 => some (1, 36, fun _ => (0, 0, 99))
  | 83 => some (1, 36, fun _ => (0, 0, 1))
  | 84 => some (1, 36, fun _ => (0, -2147483648, 2147483647))
  | 42 => some (1, 36, fun _ => (0, -2147483648, 2147483647))
  | 76 => some (1, 36, fun _ => (0, -2147483648, 2147483647))
  | 77 => some (1, 36, fun _ => (0, -2147483648, 2147483647))
  | 43 => some (1, 60, fun _ => (0, -2147483648, 2147483647))
  | 49 => some (1, 60, fun _ => (0, -2147483648, 2147483647))
  | 50 => some (1, 36, fun _ => (0, 0, 35))
  | 51 => some (1, 36, fun _ => (0, 0, 198))
  | 52 => some (1, 36, fun _ => (0, 0, 268435456))
  | 53 => some (2, 100, fun _ => (1, 0, 0))
  | 90 => some (1, 24, cF90)
  | 91 => some (1, 120, cF91)
  | 900 => some (4, 4, fun i => if i < 0 then (3, 0, 0) else (3, 1, 0))
  | 901 => some (4, 4, fun i => if i < 1 then (3, 0, 0) else (3, 1, 0))
  | 902 => some (4, 4, fun i => if i < 2 then (3, 0, 0) else (3, 1, 0))
  | 903 => some (4, 4, fun i => if i < 3 then (3, 0, 0) else (3, 1, 0))
  | 910 => some (5, 3, fun i => if i < 0 then (7, 0, 0) else (7, 1, 0))
  | 911 => some (5, 3, fun i => if i < 1 then (7, 0, 0) else (7, 1, 0))
  | 912 => some (5, 3, fun i => if i < 2 then (7, 0, 0) else (7, 1, 0))
  | 920 => some (6, 3, fun i => if i < 0 then (8, 0, 0) else (8, 1, 0))
  | 921 => some (6, 3, fun i => if i < 1 then (8, 0, 0) else (8, 1, 0))
  | 922 => some (6, 3, fun i => if i < 2 then (8, 0, 0) else (8, 1, 0))
  | _ => none
def dpc (_ : Nat) : Prop := False
def dpu (_ : Nat) : Prop := False
def dpn (_ : Nat) : Prop := False
def gF : Nat → Nat → Nat → Bool := fun g r k => match g with
  | 3 => [(2, 1)].contains (r, k)
  | 29 => [(2, 0), (25, 0)].contains (r, k)
  | 31 => [(2, 2), (2, 4), (2, 5), (26, 0), (27, 0), (28, 0), (29, 0)].contains (r, k)
  | 32 => [(2, 8), (2, 9), (2, 11), (2, 12)].contains (r, k)
  | 33 => [(3, 1), (3, 2), (3, 3), (3, 4), (5, 0), (5, 1), (5, 2), (5, 10), (34, 0), (42, 0), (76, 0), (77, 0)].contains (r, k)
  | 34 => [(2, 13)].contains (r, k)
  | 37 => [(0, 2), (0, 3), (0, 12), (2, 0), (2, 2), (2, 3), (2, 4), (2, 5), (3, 0), (3, 1), (3, 2), (3, 3), (5, 7), (5, 8), (5, 9), (5, 10), (5, 11), (5, 12), (5, 13), (5, 14), (5, 15), (5, 16), (5, 17), (7, 0), (7, 2), (7, 3)].contains (r, k)
  | 39 => [(0, 5), (0, 6)].contains (r, k)
  | 40 => [(34, 0)].contains (r, k)
  | 50 => [(5, 0), (5, 1), (5, 2)].contains (r, k)
  | 51 => [(5, 3)].contains (r, k)
  | 52 => [(5, 4)].contains (r, k)
  | 53 => [(5, 5)].contains (r, k)
  | 54 => [(5, 6)].contains (r, k)
  | 55 => [(36, 0)].contains (r, k)
  | 56 => [(80, 0)].contains (r, k)
  | 57 => [(81, 0)].contains (r, k)
  | 58 => [(82, 0)].contains (r, k)
  | 59 => [(83, 0)].contains (r, k)
  | 60 => [(84, 0)].contains (r, k)
  | 61 => [(31, 0)].contains (r, k)
  | 62 => [(32, 0)].contains (r, k)
  | 63 => [(33, 0)].contains (r, k)
  | 65 => [(35, 0)].contains (r, k)
  | 67 => [(7, 6), (7, 7), (52, 0)].contains (r, k)
  | 69 => [(7, 4), (7, 5), (51, 0)].contains (r, k)
  | 68 => [(7, 1), (50, 0)].contains (r, k)
  | 70 => [(90, 0)].contains (r, k)
  | 71 => [(91, 0)].contains (r, k)
  | 72 => [(0, 0)].contains (r, k)
  | _ => false
def wdN : Nat → String := fun i => match i with
  | 0 => "WIDE"
  | 1 => "HIGH"
  | 2 => "SCHOOL"
  | 3 => "HANDS"
  | 4 => "SNOW"
  | 5 => "DEEP"
  | 6 => "WALL"
  | 7 => "TALL"
  | 8 => "SUN"
  | 9 => "BY"
  | 10 => "NO"
  | 11 => "ABOVE"
  | 12 => "BUILD"
  | 13 => "BEHIND"
  | 14 => "STEAL"
  | 15 => "ICE"
  | 16 => "FALL"
  | 17 => "THAW"
  | 18 => "STORM"
  | 19 => "TO"
  | 20 => "NIGHT"
  | 21 => "FROM"
  | 22 => "WHEN"
  | 23 => "DAY"
  | 24 => "BREACH"
  | 25 => "WAY"
  | 26 => "LOOP"
  | 27 => "END"
  | _ => "STOP"
def fRIGHT : Nat → Value := fun i => match i with
  | 0 => .int (1)
  | 1 => .int (0)
  | 2 => .int (0)
  | _ => .int (-1)
def fDOWN : Nat → Value := fun i => match i with
  | 0 => .int (0)
  | 1 => .int (1)
  | 2 => .int (-1)
  | _ => .int (0)
def jsI (i : Nat) : Nat := ([46, 52, 54, 56, 58, 60, 62, 68, 70, 72, 74, 76, 78, 80, 82] : List Nat).getD i 0
def jsT (i : Nat) : String := (["wide", " high", ";", "school u hands", "school v hands", "snow", " deep", "wall", " tall", "sun", " by", "no wall above", "no build behind", "no steal;", "no ice above"] : List String).getD i ""
def jsL : List Nat := [4, 5, 1, 14, 14, 4, 5, 4, 5, 3, 3, 13, 15, 9, 12]
def jsB : List (List Int32) := [[119, 105, 100, 101], [32, 104, 105, 103, 104], [59], [115, 99, 104, 111, 111, 108, 32, 117, 32, 104, 97, 110, 100, 115], [115, 99, 104, 111, 111, 108, 32, 118, 32, 104, 97, 110, 100, 115], [115, 110, 111, 119], [32, 100, 101, 101, 112], [119, 97, 108, 108], [32, 116, 97, 108, 108], [115, 117, 110], [32, 98, 121], [110, 111, 32, 119, 97, 108, 108, 32, 97, 98, 111, 118, 101], [110, 111, 32, 98, 117, 105, 108, 100, 32, 98, 101, 104, 105, 110, 100], [110, 111, 32, 115, 116, 101, 97, 108, 59], [110, 111, 32, 105, 99, 101, 32, 97, 98, 111, 118, 101]]
def nwL : List (String × Nat × MethodName × String) := [("SnowForts", 9, ⟨"SnowForts$Tray", "<init>", "()V"⟩, "SnowForts"), ("SnowForts", 18, ⟨"SnowForts$Reader", "<init>", "()V"⟩, "SnowForts"), ("SnowForts", 41, ⟨"SnowForts$Yard", "<init>", "()V"⟩, "SnowForts"), ("SnowForts", 51, ⟨"SnowForts$Orders", "<init>", "()V"⟩, "SnowForts"), ("SnowForts", 69, ⟨"SnowForts$Walk", "<init>", "()V"⟩, "SnowForts"), ("SnowForts", 76, ⟨"SnowForts$Mornings", "<init>", "()V"⟩, "SnowForts"), ("SnowForts", 83, ⟨"SnowForts$Odds", "<init>", "()V"⟩, "SnowForts"), ("SnowForts", 94, ⟨"SnowForts$Runner", "<init>", "()V"⟩, "SnowForts"), ("SnowForts$Walk", 85, ⟨"SnowForts", "isWithin", "(JII)Z"⟩, "SnowForts"), ("SnowForts$Reader", 111, ⟨"SnowForts", "isWithin", "(JII)Z"⟩, "SnowForts"), ("SnowForts$YardText", 147, ⟨"SnowForts", "isWithin", "(JII)Z"⟩, "SnowForts"), ("SnowForts$OrdersText", 69, ⟨"SnowForts", "isWithin", "(JII)Z"⟩, "SnowForts")]
/-- the Words' letters by 27 -/
def kwV : List Int64 := [459383, 164222, 274392372, 4281544, 384611, 82528, 453774, 394725, 14432, 79, 393, 582341, 1483114, 31519426, 10494723, 6647, 119163, 399542, 10502473, 555, 7622660, 131638, 458690, 2968, 38362985, 16819, 247552, 4027, 388978]
def kwN (i : Nat) : Int64 := kwV.getD i 0
/-! ===== FRAME: numbers; a heap typed by kinds; rows over it ===== -/
def rR (a : Int) : Int := if a = 0 then 1 else if a = 3 then -1 else 0
def rD (a : Int) : Int := if a = 1 then 1 else if a = 2 then -1 else 0
theorem i_rng (x : Int32) : -2147483648 ≤ x.toInt ∧ x.toInt ≤ 2147483647 := ⟨Int32.le_toInt x, Int.le_of_lt_add_one (Int32.toInt_lt x)⟩
theorem l_rng (x : Int64) : -9223372036854775808 ≤ x.toInt ∧ x.toInt ≤ 9223372036854775807 := ⟨Int64.le_toInt x, Int.le_of_lt_add_one (Int64.toInt_lt x)⟩
theorem bm32 {z : Int} (h1 : -2147483648 ≤ z) (h2 : z ≤ 2147483647) : z.bmod (2 ^ 32) = z := by
  rw [Int.bmod_eq_of_le] <;> omega
theorem bm64 {z : Int} (h1 : -9223372036854775808 ≤ z) (h2 : z ≤ 9223372036854775807) : z.bmod (2 ^ 64) = z := by
  rw [Int.bmod_eq_of_le] <;> omega
theorem i_add {x y z : Int32} {a b : Int} (e : z = x + y) (ha : x.toInt = a) (hb : y.toInt = b) (h1 : -2147483648 ≤ a + b) (h2 : a + b ≤ 2147483647) : z.toInt = a + b := by
  rw [e, Int32.toInt_add, ha, hb]; exact bm32 h1 h2
theorem i_sub {x y z : Int32} {a b : Int} (e : z = x - y) (ha : x.toInt = a) (hb : y.toInt = b) (h1 : -2147483648 ≤ a - b) (h2 : a - b ≤ 2147483647) : z.toInt = a - b := by
  rw [e, Int32.toInt_sub, ha, hb]; exact bm32 h1 h2
theorem i_mul {x y z : Int32} {a b : Int} (e : z = x * y) (ha : x.toInt = a) (hb : y.toInt = b) (h1 : -2147483648 ≤ a * b) (h2 : a * b ≤ 2147483647) : z.toInt = a * b := by
  rw [e, Int32.toInt_mul, ha, hb]; exact bm32 h1 h2
theorem l_add {x y z : Int64} {a b : Int} (e : z = x + y) (ha : x.toInt = a) (hb : y.toInt = b) (h1 : -9223372036854775808 ≤ a + b) (h2 : a + b ≤ 9223372036854775807) : z.toInt = a + b := by
  rw [e, Int64.toInt_add, ha, hb]; exact bm64 h1 h2
theorem l_sub {x y z : Int64} {a b : Int} (e : z = x - y) (ha : x.toInt = a) (hb : y.toInt = b) (h1 : -9223372036854775808 ≤ a - b) (h2 : a - b ≤ 9223372036854775807) : z.toInt = a - b := by
  rw [e, Int64.toInt_sub, ha, hb]; exact bm64 h1 h2
theorem l_ofi {x : Int32} {z : Int64} {a : Int} (e : x.toInt64 = z) (ha : x.toInt = a) : z.toInt = a := by
  rw [← e, Int32.toInt_toInt64, ha]
theorem i_ne1 {y : Int32} {b : Int} (hb : y.toInt = b) (h : 0 < b) : y ≠ -1 := by
  intro e; rw [e] at hb; have : (-1 : Int32).toInt = -1 := by decide
  omega
theorem i_nz {y : Int32} {b : Int} (hb : y.toInt = b) (h : b ≠ 0) : ¬ y = 0 := by
  intro e; rw [e] at hb; have : (0 : Int32).toInt = 0 := by decide
  omega
theorem l_nz {y : Int64} {b : Int} (hb : y.toInt = b) (h : b ≠ 0) : ¬ y = 0 := by
  intro e; rw [e] at hb; have : (0 : Int64).toInt = 0 := by decide
  omega
theorem i_divt {x y z : Int32} {a b : Int} (e : z = x / y) (ha : x.toInt = a) (hb : y.toInt = b) (h1 : 0 < b) : z.toInt = a.tdiv b := by
  rw [e, Int32.toInt_div_of_ne_right _ _ (i_ne1 hb h1), ha, hb]
theorem i_div {x y z : Int32} {a b : Int} (e : z = x / y) (ha : x.toInt = a) (hb : y.toInt = b) (h0 : 0 ≤ a) (h1 : 0 < b) : z.toInt = a / b := by
  rw [i_divt e ha hb h1, Int.tdiv_eq_ediv_of_nonneg h0]
theorem tdiv_lo {a b : Int} (h1 : 0 < b) : a.tmod b = a - b * a.tdiv b := by
  have := Int.tmod_add_mul_tdiv a b; omega
theorem i_remt {x y z : Int32} {a b : Int} (e : z = x - x / y * y) (ha : x.toInt = a) (hb : y.toInt = b) (h1 : 0 < b) : z.toInt = a.tmod b := by
  have hd : (x / y).toInt = a.tdiv b := i_divt rfl ha hb h1
  have r1 := i_rng x
  rw [ha] at r1
  have k1 : a.tmod b < b := Int.tmod_lt_of_pos a h1
  have k2 : -b < a.tmod b := by
    have := Int.lt_tmod_of_pos a h1
    omega
  have k0 := Int.tmod_add_mul_tdiv a b
  have k3 : a.tdiv b * b = b * a.tdiv b := Int.mul_comm _ _
  have k4 : 0 ≤ a → 0 ≤ a.tmod b := fun h => Int.tmod_nonneg b h
  have k5 : a ≤ 0 → a.tmod b ≤ 0 := fun h => by
    have := Int.tmod_nonneg b (show 0 ≤ -a by omega)
    rw [Int.neg_tmod] at this
    omega
  have k6 : 0 ≤ a → 0 ≤ a.tdiv b * b := fun h => Int.mul_nonneg (Int.tdiv_nonneg h (Int.le_of_lt h1)) (Int.le_of_lt h1)
  have k7 : a ≤ 0 → 0 ≤ -(a.tdiv b * b) := fun h => by
    have h2 := Int.mul_nonneg (Int.tdiv_nonneg (show 0 ≤ -a by omega) (Int.le_of_lt h1)) (Int.le_of_lt h1)
    rw [Int.neg_tdiv, Int.neg_mul] at h2
    exact h2
  have hm : (x / y * y).toInt = a.tdiv b * b := i_mul rfl hd hb (by omega) (by omega)
  have := i_sub e ha hm (by omega) (by omega)
  omega
theorem i_rem {x y z : Int32} {a b : Int} (e : z = x - x / y * y) (ha : x.toInt = a) (hb : y.toInt = b) (h0 : 0 ≤ a) (h1 : 0 < b) : z.toInt = a % b := by
  rw [i_remt e ha hb h1, Int.tmod_eq_emod_of_nonneg h0]
theorem i_remB {x y z : Int32} {a b : Int} (e : z = x - x / y * y) (ha : x.toInt = a) (hb : y.toInt = b) (h1 : 0 < b) : -b < z.toInt ∧ z.toInt < b := by
  rw [i_remt e ha hb h1]
  exact ⟨by have := Int.lt_tmod_of_pos a h1; omega, Int.tmod_lt_of_pos a h1⟩
theorem i_min {x y z : Int32} {a b : Int} (e : z = if y < x then y else x) (ha : x.toInt = a) (hb : y.toInt = b) : z.toInt ≤ a ∧ z.toInt ≤ b ∧ (z.toInt = a ∨ z.toInt = b) := by
  rw [e]
  by_cases h : y < x
  · rw [if_pos h]; have := Int32.lt_iff_toInt_lt.mp h; omega
  · rw [if_neg h]; have : ¬ y.toInt < x.toInt := fun q => h (Int32.lt_iff_toInt_lt.mpr q)
    omega
theorem i_max {x y z : Int32} {a b : Int} (e : z = if x < y then y else x) (ha : x.toInt = a) (hb : y.toInt = b) : a ≤ z.toInt ∧ b ≤ z.toInt ∧ (z.toInt = a ∨ z.toInt = b) := by
  rw [e]
  by_cases h : x < y
  · rw [if_pos h]; have := Int32.lt_iff_toInt_lt.mp h; omega
  · rw [if_neg h]; have : ¬ x.toInt < y.toInt := fun q => h (Int32.lt_iff_toInt_lt.mpr q)
    omega
theorem i_in {x : Int32} {a : Int} {n : Nat} (ha : x.toInt = a) (h0 : 0 ≤ a) (h1 : a < n) : vp_in x n := vp_in_iff.mpr ⟨by omega, by omega⟩
theorem i_ix {x : Int32} {a : Int} (ha : x.toInt = a) : x.toNatClampNeg = a.toNat := by
  show x.toInt.toNat = _
  rw [ha]
theorem z_of {v : Int32} (h : v = 0 ∨ v = 1) : narrow .boolean (.int v) = .int v := by
  rcases h with rfl | rfl <;> rfl
theorem lgc (x y : Int64) : (lg_cmp x y).toInt = if y.toInt < x.toInt then 1 else if x.toInt = y.toInt then 0 else -1 := by
  unfold lg_cmp
  by_cases h1 : y < x
  · rw [if_pos h1, if_pos (Int64.lt_iff_toInt_lt.mp h1)]; rfl
  · rw [if_neg h1, if_neg (fun q => h1 (Int64.lt_iff_toInt_lt.mpr q))]
    by_cases h2 : x = y
    · rw [if_pos h2, if_pos (by rw [h2])]; rfl
    · rw [if_neg h2, if_neg (fun q => h2 (Int64.toInt_inj.mp q))]; rfl
/-- what a cell's slot holds -/
def sv (H : Heap) (a j : Nat) : Option Value := (H[a]?).bind (fun c => c.slots[j]?)
def sI (H : Heap) (a j : Nat) : Int32 := match sv H a j with
  | some (.int v) => v
  | _ => 0
def sJ (H : Heap) (a j : Nat) : Int64 := match sv H a j with
  | some (.long v) => v
  | _ => 0
def sR (H : Heap) (a j : Nat) : Option Nat := match sv H a j with
  | some (.ref q) => some q
  | _ => none
/-- the classes' tables, and the array classes; what a slot may hold -/
abbrev xW : Type := va_G × (Nat → ClassId)
def tv (Γ : Nat → Option Nat) (t : xT) (v : Value) : Prop := match t.1 with
  | 0 => ∃ i : Int32, v = .int i ∧ t.2.1 ≤ i.toInt ∧ i.toInt ≤ t.2.2
  | 1 => ∃ i : Int64, v = .long i
  | k + 2 => ∃ o : Option Nat, v = va_rf o ∧ (t.2.1 = 0 → o ≠ none) ∧ ∀ a, o = some a → Γ a = some k
def okc (X : xW) (Γ : Nat → Option Nat) (r a : Nat) (H : Heap) : Prop := match kO r with
  | some o => ∃ cell : Cell, H[a]? = some cell ∧ cell.cls = X.1.1 o.1 ∧ cell.vm = .none ∧ ∀ (k : Nat) (ft : xT), o.2[k]? = some ft → ∃ v, cell.slots[X.1.2 o.1 k]? = some v ∧ tv Γ ft v
  | none => match kA r with
    | some q => ∃ z : Nat → Value, H[a]? = some (arrV (X.2 q.1) q.2.1 z) ∧ ∀ j, j < q.2.1 → tv Γ (q.2.2 j) (z j)
    | none => True
def Conf (X : xW) (Γ : Nat → Option Nat) (H : Heap) : Prop := ∀ a r, Γ a = some r → okc X Γ r a H
def AΓ (Γ : Nat → Option Nat) : Nat → Prop := fun q => ∃ r, Γ q = some r ∧ r ≠ 12
def xty (X : xW) : List (ClassId × FieldType) := [(X.2 0, .byte), (X.2 1, .int), (X.2 2, .long), (X.2 3, .boolean), (X.2 4, .object "SnowForts$Tray"), (X.2 5, .object "SnowForts$Yard"), (X.2 6, .object "SnowForts$Orders"), (X.2 7, .object "SnowForts$Word")]
/-- the constants: Walk's two rows, the Words -/
def wad (X : xW) (i : Nat) : Nat := X.2 (100 + i)
/-- the script; the literals and their bytes -/
def sad (X : xW) : Nat := X.2 200
def sln (X : xW) : Nat := X.2 201
def sel (X : xW) (j : Nat) : Int32 := Int32.ofNat (X.2 (300 + j))
def skd (X : xW) (i : Nat) : Nat := X.2 (210 + i)
def svd (X : xW) (i : Nat) : Nat := X.2 (230 + i)
def vkL (X : xW) (A : Nat → Prop) (U : State) (H : Heap) : Prop := ∀ i, i < 15 → va_O "java/lang/String" (skd X i) A U H ∧ va_OF "java/lang/String" "coder" "B" (.int 0) (skd X i) A U H ∧ va_OF "java/lang/String" "value" "[B" (.ref (svd X i)) (skd X i) A U H ∧ va_T .byte (svd X i) (jsL.getD i 0) (fun j => .int ((jsB.getD i []).getD j 0)) A U H
theorem vkL.moved {X : xW} {A : Nat → Prop} {u U : State} {H : Heap} (hvm : u.vm.Alike U.vm) (h : vkL X A u H) : vkL X A U H := fun i hi => ⟨va_O.moved hvm (h i hi).1, va_OF.moved hvm (h i hi).2.1, va_OF.moved hvm (h i hi).2.2.1, va_T.moved hvm (h i hi).2.2.2⟩
theorem vkL.kept {X : xW} {A : Nat → Prop} {U : State} {H H1 : Heap} (h : vkL X A U H) (hq : ∀ a : Nat, a < H.size → ¬ A a → H1[a]? = H[a]?) : vkL X A U H1 := fun i hi => ⟨(h i hi).1.kept hq, (h i hi).2.1.kept hq, (h i hi).2.2.1.kept hq, (h i hi).2.2.2.kept hq⟩
def Jst (X : xW) (A : Nat → Prop) (U : State) (H : Heap) : Prop := va_T .int (sad X) (sln X) (fun j => .int (sel X j)) A U H ∧ vkL X A U H ∧ va_Z "java/lang/String" "COMPACT_STRINGS" "Z" (.int 1) A U H ∧ va_Zq "jdk/internal/util/Preconditions" "SIOOBE_FORMATTER" "Ljava/util/function/BiFunction;" A U H
def Jrs (X : xW) (U : State) : Prop := ∀ i, i < 15 → vk_R "SnowFortsLaw" (jsI i) (jsT i) (skd X i) U
def Cst (X : xW) (Γ : Nat → Option Nat) (U : State) (H : Heap) : Prop := ∃ (tR tD tA : Nat),
  va_Z "SnowForts$Walk" "RIGHT" "[I" (.ref tR) (AΓ Γ) U H ∧ va_T .int tR 4 fRIGHT (AΓ Γ) U H ∧ va_Z "SnowForts$Walk" "DOWN" "[I" (.ref tD) (AΓ Γ) U H ∧ va_T .int tD 4 fDOWN (AΓ Γ) U H ∧
  (∀ i, i < 29 → va_Z "SnowForts$Word" (wdN i) "LSnowForts$Word;" (.ref (wad X i)) (AΓ Γ) U H ∧ Γ (wad X i) = some 12) ∧
  va_Z "SnowForts$Word" "ALL" "[LSnowForts$Word;" (.ref tA) (AΓ Γ) U H ∧ va_T (.object "SnowForts$Word") tA 29 (fun i => .ref (wad X i)) (AΓ Γ) U H ∧
  (∀ a, Γ a = some 12 → va_O "SnowForts$Word" a (AΓ Γ) U H ∧ ∃ i, i < 29 ∧ a = wad X i) ∧ va_Ef 29 "SnowForts$Word" "letters" "J" (fun i => .long (kwN i)) (wad X) (AΓ Γ) U H ∧ Jst X (AΓ Γ) U H ∧ Jrs X U
theorem Cst.go {X : xW} {Γ : Nat → Option Nat} {u U : State} {H H1 : Heap} (hvm : u.vm.Alike U.vm) (hR : Jrs X u → Jrs X U) (hq : ∀ a : Nat, a < H.size → ¬ AΓ Γ a → H1[a]? = H[a]?) (h : Cst X Γ u H) : Cst X Γ U H1 := by
  obtain ⟨tR, tD, tA, h1, h2, h3, h4, h5, h6, h7, h8, h9, ⟨j1, j2, j3, j4⟩, hr⟩ := h
  exact ⟨tR, tD, tA, (h1.moved hvm).kept hq, (h2.moved hvm).kept hq, (h3.moved hvm).kept hq, (h4.moved hvm).kept hq, fun i hi => ⟨((h5 i hi).1.moved hvm).kept hq, (h5 i hi).2⟩, (h6.moved hvm).kept hq, (h7.moved hvm).kept hq, fun a ha => ⟨((h8 a ha).1.moved hvm).kept hq, (h8 a ha).2⟩, fun i hi => ((h9 i hi).moved hvm).kept hq, ⟨(j1.moved hvm).kept hq, vkL.kept (j2.moved hvm) hq, (j3.moved hvm).kept hq, (j4.moved hvm).kept hq⟩, hR hr⟩
def Gd (X : xW) (Γ : Nat → Option Nat) (H0 : Heap) (U : State) : Prop := U.heap = H0 ∧ va_K X.1 vwCl (xty X) U ∧
  (∀ (ci : Nat) (q : vw_C), vwCl[ci]? = some q → ∀ x y, x < q.2.2 → y < q.2.2 → x ≠ y → X.1.2 ci x ≠ X.1.2 ci y) ∧
  (∀ q ∈ nwL, va_Nw (.methodLinkNest q.1 q.2.1 q.2.2.1 q.2.2.2) U) ∧ Cst X Γ U H0
theorem Gd.go {X : xW} {Γ : Nat → Option Nat} {H0 H : Heap} {s U : State} {locs : List Loc} (h : Gd X Γ H0 s) (hS : va_S (AΓ Γ) H0 H locs) (hU : U.heap = H) (hW : s.WarmedH U.vm) : Gd X Γ H U :=
  ⟨hU, h.2.1.moved hW.alike, h.2.2.1, fun q hq => (h.2.2.2.1 q hq).warmM hW, h.2.2.2.2.go hW.alike (fun q i hi => (q i hi).warm hW) hS.2.1⟩
theorem Gd.calling {X : xW} {Γ : Nat → Option Nat} {H0 : Heap} {U : State} {g : JFrame} {mk : MethodId} {a : Array Value} (h : Gd X Γ H0 U) : Gd X Γ H0 (U.calling g mk a) :=
  ⟨h.1, va_K.moved (u := U) (U := U.calling g mk a) (Vm.Alike.refl U.vm) h.2.1, h.2.2.1, fun q hq => va_Nw.same rfl (u := U) (U := U.calling g mk a) rfl (h.2.2.2.1 q hq), Cst.go (u := U) (U := U.calling g mk a) (Vm.Alike.refl U.vm) (fun q i hi => (q i hi).same rfl) (fun _ _ _ => rfl) h.2.2.2.2⟩
def rmL (n : Nat) : Room := { frames := n, cells := 0, slots := 0, locals := 48 * n }
/-- method y, its code, at level lv: from heap H0 with these arguments -/
def Ctr (l : Launch) (X : xW) (Γ : Nat → Option Nat) (y : MethodName) (b : ByteArray) (mL : Nat) (ret : Option FieldType) (lv : Nat) (av : List Value) (H0 : Heap) (Q : Array Value → State → Outcome → State → Prop) : Prop :=
  Met l y (Cond.code y b mL ret :: GW) (rmL lv) (va_Pc av (Gd X Γ H0)) Q 0 0 (AΓ Γ)
theorem blind {X : xW} {Γ : Nat → Option Nat} {H0 : Heap} {av : List Value} : FrameBlind (va_Pc av (Gd X Γ H0)) := fun _ _ _ _ h => ⟨h.1, h.2.calling⟩
abbrev QI (X : xW) (Γ : Nat → Option Nat) (post : Int32 → Heap → Prop) := va_Qi post (fun (H1 : Heap) (t : State) => t.heap = H1 ∧ Conf X Γ H1) (AΓ Γ)
abbrev QJ (X : xW) (Γ : Nat → Option Nat) (post : Int64 → Heap → Prop) := va_Ql post (fun (H1 : Heap) (t : State) => t.heap = H1 ∧ Conf X Γ H1) (AΓ Γ)
abbrev QV (X : xW) (Γ : Nat → Option Nat) (post : Heap → Prop) := va_Qv post (fun (H1 : Heap) (t : State) => t.heap = H1 ∧ Conf X Γ H1) (AΓ Γ)
def QQ (X : xW) (Γ : Nat → Option Nat) (post : Option Nat → Heap → Prop) : Array Value → State → Outcome → State → Prop := fun _ st oc t => (∃ (o : Option Nat) (H1 : Heap), oc = .returned (some (va_rf o)) ∧ post o H1 ∧ t.heap = H1 ∧ Conf X Γ H1) ∧ va_F (AΓ Γ) st t
def Ev (p : Program) (s : State) (m : MethodId) (args : Array Value) (meth : Method) (c : Code) (cc : ByteArray) (mL : Nat) (own : String) (ret : Option FieldType) (X : xW) (Γ : Nat → Option Nat) (H0 : Heap) : Prop :=
  p.tables.exec = Jvm.exec ∧ c.code = cc ∧ c.maxLocals = mL ∧ s.vm.findClass own = some m.cls ∧ (∀ w ∈ GW, w.before args s = true) ∧ Gd X Γ H0 s ∧ meth.locks = false ∧ meth.sig.returnType = ret
/-- groups of slots that a method keeps -/
def pr (X : xW) (gs : List Nat) (r j : Nat) : Prop := (r = 64 ∧ gs.contains 10 = true ∧ dpc j) ∨ (r = 64 ∧ gs.contains 16 = true ∧ dpu j) ∨ (r = 64 ∧ gs.contains 17 = true ∧ dpn j) ∨ (match kO r with
  | some o => ∃ k, k < o.2.length ∧ (gs.any fun g => gF g r k) = true ∧ j = X.1.2 o.1 k
  | none => (gs.any fun g => gF g r 0) = true)
def Kp (X : xW) (Γ : Nat → Option Nat) (gs : List Nat) (H H1 : Heap) : Prop := ∀ a r, Γ a = some r → ∀ j, pr X gs r j → sv H1 a j = sv H a j
theorem Kp.rf {X : xW} {Γ : Nat → Option Nat} {gs : List Nat} {H : Heap} : Kp X Γ gs H H := fun _ _ _ _ _ => rfl
theorem Kp.tr {X : xW} {Γ : Nat → Option Nat} {gs : List Nat} {H H1 H2 : Heap} (h : Kp X Γ gs H H1) (h2 : Kp X Γ gs H1 H2) : Kp X Γ gs H H2 := fun a r ha j hj => (h2 a r ha j hj).trans (h a r ha j hj)
theorem Kp.mono {X : xW} {Γ : Nat → Option Nat} {gs gs' : List Nat} {H H1 : Heap} (h : Kp X Γ gs H H1) (hs : (gs'.all fun g => gs.contains g) = true) : Kp X Γ gs' H H1 := by
  have hc : ∀ g, g ∈ gs' → g ∈ gs := fun g hg => by simpa using List.all_eq_true.mp hs g hg
  intro a r ha j hj
  refine h a r ha j ?_
  rcases hj with ⟨h1, h2, h3⟩ | ⟨h1, h2, h3⟩ | ⟨h1, h2, h3⟩ | hj
  · exact Or.inl ⟨h1, by simpa using hc 10 (by simpa using h2), h3⟩
  · exact Or.inr (Or.inl ⟨h1, by simpa using hc 16 (by simpa using h2), h3⟩)
  · exact Or.inr (Or.inr (Or.inl ⟨h1, by simpa using hc 17 (by simpa using h2), h3⟩))
  · refine Or.inr (Or.inr (Or.inr ?_))
    cases hk : kO r with
    | none =>
      rw [hk] at hj
      simp only at hj ⊢
      obtain ⟨g, hg, hx⟩ := List.any_eq_true.mp hj
      exact List.any_eq_true.mpr ⟨g, hc g hg, hx⟩
    | some o =>
      rw [hk] at hj
      simp only at hj ⊢
      obtain ⟨k, h1, h2, h3⟩ := hj
      obtain ⟨g, hg, hx⟩ := List.any_eq_true.mp h2
      exact ⟨k, h1, List.any_eq_true.mpr ⟨g, hc g hg, hx⟩, h3⟩
/-- one slot written -/
def Up (H H1 : Heap) (a j : Nat) (v : Value) : Prop := sv H1 a j = some v ∧ ∀ a' j', ¬ (a' = a ∧ j' = j) → sv H1 a' j' = sv H a' j'
theorem Up.of {H H1 : Heap} {a j : Nat} {v : Value} {cell : Cell} (hcell : H[a]? = some cell) (h1 : H1[a]? = some (cell.setSlot j v)) (h2 : ∀ q, q ≠ a → H1[q]? = H[q]?) (hlt : j < cell.slots.size) : Up H H1 a j v := by
  refine ⟨?_, fun a' j' hne => ?_⟩
  · simp only [sv, h1, Option.bind_some]
    simp [Cell.setSlot, hlt]
  · by_cases ha : a' = a
    · subst ha
      have hj : j ≠ j' := fun e => hne ⟨rfl, e.symm⟩
      simp only [sv, h1, hcell, Option.bind_some]
      exact slot_ne cell v hj
    · simp only [sv, h2 a' ha]
/-- a field's row of the tables -/
def FA (own : String) (index r ci k : Nat) (ft : xT) : Prop := ∃ (fts : List xT) (C : String) (T : u_T) (N : Nat), kO r = some (ci, fts) ∧ fts[k]? = some ft ∧ vwCl[ci]? = some (C, T, N) ∧ k < N ∧ fts.length = N ∧ (∀ w ∈ u_ws C T N, w ∈ GW) ∧ Cond.fieldLink own index (T k).1 (T k).2.1 (T k).2.2.1 ∈ GW
def FP (own : String) (index r ci k : Nat) (ft : xT) (ty : FieldType) : Prop := ∃ (fts : List xT) (C : String) (T : u_T) (N : Nat), kO r = some (ci, fts) ∧ fts[k]? = some ft ∧ vwCl[ci]? = some (C, T, N) ∧ k < N ∧ fts.length = N ∧ (∀ w ∈ u_ws C T N, w ∈ GW) ∧ Cond.fieldLink own index (T k).1 (T k).2.1 (T k).2.2.1 ∈ GW ∧ (T k).2.2.2 = false ∧ parseFieldDescriptor (T k).2.2.1 = some ty ∧ r ≠ 12
theorem okc.obj {X : xW} {Γ : Nat → Option Nat} {r a ci k : Nat} {H : Heap} {fts : List xT} {ft : xT} (h : okc X Γ r a H) (hr : kO r = some (ci, fts)) (hk : fts[k]? = some ft) : ∃ (cell : Cell) (v : Value), H[a]? = some cell ∧ cell.cls = X.1.1 ci ∧ cell.vm = .none ∧ cell.slots[X.1.2 ci k]? = some v ∧ tv Γ ft v := by
  unfold okc at h
  rw [hr] at h
  obtain ⟨cell, h1, h2, h3, h4⟩ := h
  obtain ⟨v, h5, h6⟩ := h4 k ft hk
  exact ⟨cell, v, h1, h2, h3, h5, h6⟩
theorem okc.arr {X : xW} {Γ : Nat → Option Nat} {r a t n : Nat} {H : Heap} {F : Nat → xT} (h : okc X Γ r a H) (hr : kO r = none) (hA : kA r = some (t, n, F)) : ∃ z : Nat → Value, H[a]? = some (arrV (X.2 t) n z) ∧ ∀ j, j < n → tv Γ (F j) (z j) := by
  unfold okc at h
  rw [hr] at h
  simp only [hA] at h
  exact h
theorem okc.kept {X : xW} {Γ : Nat → Option Nat} {r a : Nat} {H H1 : Heap} (h : okc X Γ r a H) (hq : H1[a]? = H[a]?) : okc X Γ r a H1 := by
  unfold okc at h ⊢
  rw [hq]
  exact h
theorem Conf.setO {X : xW} {Γ : Nat → Option Nat} {H H1 : Heap} {r a ci k : Nat} {fts : List xT} {ft : xT} {cell : Cell} {v : Value} (hC : Conf X Γ H) (ha : Γ a = some r) (hr : kO r = some (ci, fts)) (hk : fts[k]? = some ft) (hap : ∀ x y, x < fts.length → y < fts.length → x ≠ y → X.1.2 ci x ≠ X.1.2 ci y) (hv : tv Γ ft v) (hcell : H[a]? = some cell) (hlt : X.1.2 ci k < cell.slots.size) (h1 : H1[a]? = some (cell.setSlot (X.1.2 ci k) v)) (h2 : ∀ q, q ≠ a → H1[q]? = H[q]?) : Conf X Γ H1 := by
  intro a' r' h'
  by_cases hq : a' = a
  · subst hq
    have hrr : r' = r := Option.some.inj (h'.symm.trans ha)
    subst hrr
    have h0 := hC a' r' ha
    unfold okc at h0 ⊢
    rw [hr] at h0 ⊢
    obtain ⟨cell0, g1, g2, g3, g4⟩ := h0
    have hcc : cell0 = cell := Option.some.inj (g1.symm.trans hcell)
    subst hcc
    refine ⟨_, h1, g2, g3, fun k' ft' hk' => ?_⟩
    by_cases hkk : k' = k
    · subst hkk
      have hft : ft' = ft := Option.some.inj (hk'.symm.trans hk)
      subst hft
      exact ⟨v, by simp [Cell.setSlot, hlt], hv⟩
    · obtain ⟨v', g5, g6⟩ := g4 k' ft' hk'
      exact ⟨v', by rw [slot_ne _ _ (hap k k' (List.getElem?_eq_some_iff.mp hk).1 (List.getElem?_eq_some_iff.mp hk').1 (fun e => hkk e.symm))]; exact g5, g6⟩
  · exact (hC a' r' h').kept (h2 a' hq)
theorem Conf.setA {X : xW} {Γ : Nat → Option Nat} {H H1 : Heap} {r a t n j : Nat} {F : Nat → xT} {z : Nat → Value} {v : Value} (hC : Conf X Γ H) (ha : Γ a = some r) (hr : kO r = none) (hA : kA r = some (t, n, F)) (hz : ∀ j, j < n → tv Γ (F j) (z j)) (hv : tv Γ (F j) v) (h1 : H1[a]? = some ((arrV (X.2 t) n z).setSlot j v)) (h2 : ∀ q, q ≠ a → H1[q]? = H[q]?) : Conf X Γ H1 := by
  intro a' r' h'
  by_cases hq : a' = a
  · subst hq
    have hrr : r' = r := Option.some.inj (h'.symm.trans ha)
    subst hrr
    unfold okc
    rw [hr]
    simp only [hA]
    rw [arrV_store] at h1
    refine ⟨_, h1, fun i hi => ?_⟩
    by_cases hij : i = j
    · subst hij; simpa [updV] using hv
    · simpa [updV, hij] using hz i hi
  · exact (hC a' r' h').kept (h2 a' hq)

section FRW
variable {p : Program} {l : Launch} {e : Env} {R : Room} {s : State} {m : MethodId} {args : Array Value} {below : List Frame} {meth : Method} {c : Code} {H H0 : Heap} {locs : List Loc} {Q : State → Prop}
variable {cc : ByteArray} {pc mL : Nat} {own : String} {ret : Option FieldType} {ls : Array Slot} {rest : List Value} {X : xW} {Γ : Nat → Option Nat} {kc ks : Nat}
theorem q_get (E : Ev p s m args meth c cc mL own ret X Γ H0) (hC : Conf X Γ H) {a r ci k index : Nat} {ft : xT} (ha : Γ a = some r) (hf : FA own index r ci k ft) (hdg : decode cc pc = .ok (.getfield index, 3))
    (kk : ∀ v, sv H a (X.1.2 ci k) = some v → tv Γ ft v → W p l e R s m args below meth c H locs kc ks Q (F0 m (pc + 3) ls (v :: rest))) : W p l e R s m args below meth c H locs kc ks Q (F0 m pc ls (.ref a :: rest)) := by
  obtain ⟨hx, hb, hml, hown, hts, hG, -⟩ := E
  obtain ⟨fts, C, T, N, hr, hk, hc, hkN, -, hin, hl⟩ := hf
  obtain ⟨cell, v, q1, q2, q3, q4, q5⟩ := (hC a r ha).obj hr hk
  obtain ⟨hS, hfc, kC, hkC, hkind⟩ := hG.2.1.1 ci _ hc
  obtain ⟨cf, kf, fi, f, hi, hsl⟩ := hS k hkN
  refine W.getf hx hb hown (hts _ hl) hi (u_facts hfc hkC (u_lays hts hin hkN) hi).1 q1 (by rw [q3]; exact fun h => by cases h) (v := v) ?_ rfl rfl hdg (kk v (by simp [sv, q1, q4]) q5)
  rw [hsl]; exact q4
theorem q_getI (E : Ev p s m args meth c cc mL own ret X Γ H0) (hC : Conf X Γ H) {a r ci k index : Nat} {lo hi : Int} (ha : Γ a = some r) (hf : FA own index r ci k (0, lo, hi)) (hdg : decode cc pc = .ok (.getfield index, 3))
    (kk : ∀ v : Int32, sI H a (X.1.2 ci k) = v → lo ≤ v.toInt → v.toInt ≤ hi → W p l e R s m args below meth c H locs kc ks Q (F0 m (pc + 3) ls (.int v :: rest))) : W p l e R s m args below meth c H locs kc ks Q (F0 m pc ls (.ref a :: rest)) := by
  refine q_get E hC ha hf hdg fun v hv ht => ?_
  obtain ⟨i, rfl, h1, h2⟩ := ht
  exact kk i (by simp [sI, hv]) h1 h2
theorem q_getJ (E : Ev p s m args meth c cc mL own ret X Γ H0) (hC : Conf X Γ H) {a r ci k index : Nat} {lo hi : Int} (ha : Γ a = some r) (hf : FA own index r ci k (1, lo, hi)) (hdg : decode cc pc = .ok (.getfield index, 3))
    (kk : ∀ v : Int64, sJ H a (X.1.2 ci k) = v → W p l e R s m args below meth c H locs kc ks Q (F0 m (pc + 3) ls (.long v :: rest))) : W p l e R s m args below meth c H locs kc ks Q (F0 m pc ls (.ref a :: rest)) := by
  refine q_get E hC ha hf hdg fun v hv ht => ?_
  obtain ⟨i, rfl⟩ := ht
  exact kk i (by simp [sJ, hv])
theorem q_getR (E : Ev p s m args meth c cc mL own ret X Γ H0) (hC : Conf X Γ H) {a r ci k index k2 : Nat} {hi : Int} (ha : Γ a = some r) (hf : FA own index r ci k (k2 + 2, 0, hi)) (hdg : decode cc pc = .ok (.getfield index, 3))
    (kk : ∀ q : Nat, sR H a (X.1.2 ci k) = some q → Γ q = some k2 → W p l e R s m args below meth c H locs kc ks Q (F0 m (pc + 3) ls (.ref q :: rest))) : W p l e R s m args below meth c H locs kc ks Q (F0 m pc ls (.ref a :: rest)) := by
  refine q_get E hC ha hf hdg fun v hv ht => ?_
  obtain ⟨o, rfl, h1, h2⟩ := ht
  cases o with
  | none => exact absurd rfl (h1 rfl)
  | some q => exact kk q (by simp [sR, hv, va_rf]) (h2 q rfl)
theorem q_getQ (E : Ev p s m args meth c cc mL own ret X Γ H0) (hC : Conf X Γ H) {a r ci k index k2 : Nat} {lo hi : Int} (ha : Γ a = some r) (hf : FA own index r ci k (k2 + 2, lo, hi)) (hdg : decode cc pc = .ok (.getfield index, 3))
    (kk : ∀ o : Option Nat, sR H a (X.1.2 ci k) = o → (∀ q, o = some q → Γ q = some k2) → W p l e R s m args below meth c H locs kc ks Q (F0 m (pc + 3) ls (va_rf o :: rest))) : W p l e R s m args below meth c H locs kc ks Q (F0 m pc ls (.ref a :: rest)) := by
  refine q_get E hC ha hf hdg fun v hv ht => ?_
  obtain ⟨o, rfl, h1, h2⟩ := ht
  refine kk o ?_ h2
  cases o <;> simp [sR, hv, va_rf]
theorem q_put (E : Ev p s m args meth c cc mL own ret X Γ H0) (hC : Conf X Γ H) (hS : va_S (AΓ Γ) H0 H locs) {a r ci k index : Nat} {ft : xT} {ty : FieldType} {v : Value} (ha : Γ a = some r) (hf : FP own index r ci k ft ty) (hv : tv Γ ft v) (hn : narrow ty v = v) (hfit : fits ty v = true) (hdg : decode cc pc = .ok (.putfield index, 3))
    (kk : ∀ (H1 : Heap) (locs1 : List Loc), Conf X Γ H1 → va_S (AΓ Γ) H0 H1 locs1 → Up H H1 a (X.1.2 ci k) v → W p l e R s m args below meth c H1 locs1 kc ks Q (F0 m (pc + 3) ls rest)) : W p l e R s m args below meth c H locs kc ks Q (F0 m pc ls (v :: .ref a :: rest)) := by
  obtain ⟨hx, hb, hml, hown, hts, hG, -⟩ := E
  obtain ⟨fts, C, T, N, hr, hk, hc, hkN, hlen, hin, hl, hfin, hd, hw⟩ := hf
  obtain ⟨cell, v0, q1, q2, q3, q4, q5⟩ := (hC a r ha).obj hr hk
  obtain ⟨hSl, hfc, kC, hkC, hkind⟩ := hG.2.1.1 ci _ hc
  obtain ⟨cf, kf, fi, f, hi, hsl⟩ := hSl k hkN
  have hlay := hts _ (hin _ (u_in_lay hkN))
  unfold u_lay at hlay
  rw [if_neg (by rw [hfin]; decide)] at hlay
  have hst := (u_facts hfc hkC (u_lays hts hin hkN) hi).1
  have h6 := u_store hfc hkC hkind hlay hi hd hn hfit
  have hap := hG.2.2.1 ci _ hc
  have hlt : X.1.2 ci k < cell.slots.size := k2_hasslot q4
  refine W.putK hx hb (f := f) ⟨hown, hts _ hl, ⟨_, _, _, hi⟩, hst⟩ (by rw [q2]; exact h6) q1 q3 (by rw [hsl]; exact hlt) rfl rfl hdg fun H' e1 e2 e3 => ?_
  rw [hsl] at e1 ⊢
  exact kk H' _ (hC.setO ha hr hk (fun x y hx hy => hap x y (hlen ▸ hx) (hlen ▸ hy)) hv q1 hlt e1 e3) (hS.put e2 e3 ⟨r, ha, hw⟩) (Up.of q1 e1 e3 hlt)
theorem tv_I {lo hi : Int} {v : Int32} {a : Int} (hv : v.toInt = a) (h1 : lo ≤ a) (h2 : a ≤ hi) : tv Γ (0, lo, hi) (.int v) := ⟨v, rfl, (by show lo ≤ _; omega), (by show _ ≤ hi; omega)⟩
theorem tv_F {v : Int32} : tv Γ (0, -2147483648, 2147483647) (.int v) := ⟨v, rfl, (i_rng v).1, (i_rng v).2⟩
theorem tv_J {lo hi : Int} {v : Int64} : tv Γ (1, lo, hi) (.long v) := ⟨v, rfl⟩
theorem tv_R {k : Nat} {lo hi : Int} {q : Nat} (h : Γ q = some k) : tv Γ (k + 2, lo, hi) (.ref q) := ⟨some q, rfl, (fun _ h => by cases h), (fun _ e => by cases e; exact h)⟩
theorem tv_Q {k : Nat} {hi : Int} {o : Option Nat} (h : ∀ q, o = some q → Γ q = some k) : tv Γ (k + 2, 1, hi) (va_rf o) := ⟨o, rfl, (fun h => absurd (show (1 : Int) = 0 from h) (by decide)), h⟩
theorem fit_Q {C : String} (o : Option Nat) : fits (.object C) (va_rf o) = true := by cases o <;> rfl
theorem nar_Q {C : String} (o : Option Nat) : narrow (.object C) (va_rf o) = va_rf o := by cases o <;> rfl
theorem fit_B {v : Int32} (h : v = 0 ∨ v = 1) : fits .boolean (.int v) = true := by rcases h with rfl | rfl <;> rfl
/-- rows of arrays -/
theorem q_arr {n t r : Nat} {F : Nat → xT} {ty : FieldType} (E : Ev p s m args meth c cc mL own ret X Γ H0) (hC : Conf X Γ H) {a : Nat} (ha : Γ a = some r) (hr : kO r = none) (hA : kA r = some (t, n, F)) (ht : (xty X)[t]? = some (X.2 t, ty)) : ∃ z : Nat → Value, H[a]? = some (arrV (X.2 t) n z) ∧ (∀ j, j < n → tv Γ (F j) (z j)) ∧ s.isArrayOf (arrV (X.2 t) n z) ty := by
  obtain ⟨z, h1, h2⟩ := (hC a r ha).arr hr hA
  exact ⟨z, h1, h2, (E.2.2.2.2.2.1.2.1.2 t _ ht).1 n z⟩
theorem q_inn {i : Int32} {n : Nat} {cA : ClassId} {z : Nat → Value} (h : vp_in i n) : ¬ (i < 0 ∨ (arrV cA n z).slots.size ≤ i.toNatClampNeg) := by rw [arrV_size]; exact h
theorem q_inl {i : Int32} {n : Nat} (h : vp_in i n) : i.toNatClampNeg < n := Nat.not_le.mp fun q => h (Or.inr q)
theorem q_iald (E : Ev p s m args meth c cc mL own ret X Γ H0) (hC : Conf X Γ H) {a r n : Nat} {lo hi : Int} {i : Int32} (ha : Γ a = some r) (hr : kO r = none) {F : Nat → xT} (hA : kA r = some (1, n, F)) (hF : ∀ v, tv Γ (F i.toNatClampNeg) v → tv Γ (0, lo, hi) v) (hin : vp_in i n) (hdg : decode cc pc = .ok (.iaload, 1))
    (kk : ∀ v : Int32, sI H a i.toNatClampNeg = v → lo ≤ v.toInt → v.toInt ≤ hi → W p l e R s m args below meth c H locs kc ks Q (F0 m (pc + 1) ls (.int v :: rest))) : W p l e R s m args below meth c H locs kc ks Q (F0 m pc ls (.int i :: .ref a :: rest)) := by
  obtain ⟨z, h1, h2, h3⟩ := q_arr E hC ha hr hA rfl
  obtain ⟨v, hv, l1, l2⟩ := hF _ (h2 _ (q_inl hin))
  have h4 : (arrV (X.2 1) n z).slots[i.toNatClampNeg]? = some (.int v) := by rw [arrV_read _ _ (q_inl hin), hv]
  exact W.iald (v := .int v) E.1 E.2.1 h1 h3 (fun q => by cases q) (q_inn hin) h4 rfl rfl hdg (kk v (by simp [sI, sv, h1, h4]) l1 l2)
theorem q_bald (E : Ev p s m args meth c cc mL own ret X Γ H0) (hC : Conf X Γ H) {a r n : Nat} {lo hi : Int} {i : Int32} (ha : Γ a = some r) (hr : kO r = none) {F : Nat → xT} (hA : kA r = some (0, n, F)) (hF : ∀ v, tv Γ (F i.toNatClampNeg) v → tv Γ (0, lo, hi) v) (hin : vp_in i n) (hdg : decode cc pc = .ok (.baload, 1))
    (kk : ∀ v : Int32, sI H a i.toNatClampNeg = v → lo ≤ v.toInt → v.toInt ≤ hi → W p l e R s m args below meth c H locs kc ks Q (F0 m (pc + 1) ls (.int v :: rest))) : W p l e R s m args below meth c H locs kc ks Q (F0 m pc ls (.int i :: .ref a :: rest)) := by
  obtain ⟨z, h1, h2, h3⟩ := q_arr E hC ha hr hA rfl
  obtain ⟨v, hv, l1, l2⟩ := hF _ (h2 _ (q_inl hin))
  have h4 : (arrV (X.2 0) n z).slots[i.toNatClampNeg]? = some (.int v) := by rw [arrV_read _ _ (q_inl hin), hv]
  exact W.bald (v := .int v) E.1 E.2.1 h1 h3 (fun q => by cases q) (q_inn hin) h4 rfl rfl hdg (kk v (by simp [sI, sv, h1, h4]) l1 l2)
theorem q_zald (E : Ev p s m args meth c cc mL own ret X Γ H0) (hC : Conf X Γ H) {a r n : Nat} {lo hi : Int} {i : Int32} (ha : Γ a = some r) (hr : kO r = none) {F : Nat → xT} (hA : kA r = some (3, n, F)) (hF : ∀ v, tv Γ (F i.toNatClampNeg) v → tv Γ (0, lo, hi) v) (hin : vp_in i n) (hdg : decode cc pc = .ok (.baload, 1))
    (kk : ∀ v : Int32, sI H a i.toNatClampNeg = v → lo ≤ v.toInt → v.toInt ≤ hi → W p l e R s m args below meth c H locs kc ks Q (F0 m (pc + 1) ls (.int v :: rest))) : W p l e R s m args below meth c H locs kc ks Q (F0 m pc ls (.int i :: .ref a :: rest)) := by
  obtain ⟨z, h1, h2, h3⟩ := q_arr E hC ha hr hA rfl
  obtain ⟨v, hv, l1, l2⟩ := hF _ (h2 _ (q_inl hin))
  have h4 : (arrV (X.2 3) n z).slots[i.toNatClampNeg]? = some (.int v) := by rw [arrV_read _ _ (q_inl hin), hv]
  exact W.zald (v := .int v) E.1 E.2.1 h1 h3 (fun q => by cases q) (q_inn hin) h4 rfl rfl hdg (kk v (by simp [sI, sv, h1, h4]) l1 l2)
theorem q_lald (E : Ev p s m args meth c cc mL own ret X Γ H0) (hC : Conf X Γ H) {a r n : Nat} {lo hi : Int} {i : Int32} (ha : Γ a = some r) (hr : kO r = none) {F : Nat → xT} (hA : kA r = some (2, n, F)) (hF : ∀ j, F j = (1, lo, hi)) (hin : vp_in i n) (hdg : decode cc pc = .ok (.laload, 1))
    (kk : ∀ v : Int64, sJ H a i.toNatClampNeg = v → W p l e R s m args below meth c H locs kc ks Q (F0 m (pc + 1) ls (.long v :: rest))) : W p l e R s m args below meth c H locs kc ks Q (F0 m pc ls (.int i :: .ref a :: rest)) := by
  obtain ⟨z, h1, h2, h3⟩ := q_arr E hC ha hr hA rfl
  obtain ⟨v, hv⟩ := hF i.toNatClampNeg ▸ h2 _ (q_inl hin)
  have h4 : (arrV (X.2 2) n z).slots[i.toNatClampNeg]? = some (.long v) := by rw [arrV_read _ _ (q_inl hin), hv]
  exact W.lald (v := .long v) E.1 E.2.1 h1 h3 (fun q => by cases q) (q_inn hin) h4 rfl rfl hdg (kk v (by simp [sJ, sv, h1, h4]))
theorem q_aald (E : Ev p s m args meth c cc mL own ret X Γ H0) (hC : Conf X Γ H) {a r n t k2 : Nat} {hi : Int} {C : String} {i : Int32} (ha : Γ a = some r) (hr : kO r = none) {F : Nat → xT} (hA : kA r = some (t, n, F)) (hF : ∀ j, F j = (k2 + 2, 0, hi)) (ht : (xty X)[t]? = some (X.2 t, .object C)) (hin : vp_in i n) (hdg : decode cc pc = .ok (.aaload, 1))
    (kk : ∀ q : Nat, sR H a i.toNatClampNeg = some q → Γ q = some k2 → W p l e R s m args below meth c H locs kc ks Q (F0 m (pc + 1) ls (.ref q :: rest))) : W p l e R s m args below meth c H locs kc ks Q (F0 m pc ls (.int i :: .ref a :: rest)) := by
  obtain ⟨z, h1, h2, h3⟩ := q_arr E hC ha hr hA ht
  obtain ⟨o, hv, g1, g2⟩ := hF i.toNatClampNeg ▸ h2 _ (q_inl hin)
  cases o with
  | none => exact absurd rfl (g1 rfl)
  | some q =>
    have h4 : (arrV (X.2 t) n z).slots[i.toNatClampNeg]? = some (.ref q) := by rw [arrV_read _ _ (q_inl hin), hv]; rfl
    exact W.aald (v := .ref q) (ty := .object C) E.1 E.2.1 h1 h3 rfl (fun q => by cases q) (q_inn hin) h4 rfl rfl hdg (kk q (by simp [sR, sv, h1, h4]) (g2 q rfl))
theorem q_aaldQ (E : Ev p s m args meth c cc mL own ret X Γ H0) (hC : Conf X Γ H) {a r n t k2 : Nat} {lo hi : Int} {C : String} {i : Int32} (ha : Γ a = some r) (hr : kO r = none) {F : Nat → xT} (hA : kA r = some (t, n, F)) (hF : ∀ j, F j = (k2 + 2, lo, hi)) (ht : (xty X)[t]? = some (X.2 t, .object C)) (hin : vp_in i n) (hdg : decode cc pc = .ok (.aaload, 1))
    (kk : ∀ o : Option Nat, sR H a i.toNatClampNeg = o → (∀ q, o = some q → Γ q = some k2) → W p l e R s m args below meth c H locs kc ks Q (F0 m (pc + 1) ls (va_rf o :: rest))) : W p l e R s m args below meth c H locs kc ks Q (F0 m pc ls (.int i :: .ref a :: rest)) := by
  obtain ⟨z, h1, h2, h3⟩ := q_arr E hC ha hr hA ht
  obtain ⟨o, hv, g1, g2⟩ := hF i.toNatClampNeg ▸ h2 _ (q_inl hin)
  have h4 : (arrV (X.2 t) n z).slots[i.toNatClampNeg]? = some (va_rf o) := by rw [arrV_read _ _ (q_inl hin), hv]
  exact W.aald (v := va_rf o) (ty := .object C) E.1 E.2.1 h1 h3 rfl (fun q => by cases q) (q_inn hin) h4 rfl rfl hdg (kk o (by simp only [sR, sv, h1, h4, Option.bind_some]; cases o <;> rfl) g2)
theorem q_iast (E : Ev p s m args meth c cc mL own ret X Γ H0) (hC : Conf X Γ H) (hS : va_S (AΓ Γ) H0 H locs) {a r n : Nat} {i x : Int32} (ha : Γ a = some r) (hw : r ≠ 12) (hr : kO r = none) {F : Nat → xT} (hA : kA r = some (1, n, F)) (hin : vp_in i n) (hv : tv Γ (F i.toNatClampNeg) (.int x)) (hdg : decode cc pc = .ok (.iastore, 1))
    (kk : ∀ (H1 : Heap) (locs1 : List Loc), Conf X Γ H1 → va_S (AΓ Γ) H0 H1 locs1 → Up H H1 a i.toNatClampNeg (.int x) → W p l e R s m args below meth c H1 locs1 kc ks Q (F0 m (pc + 1) ls rest)) : W p l e R s m args below meth c H locs kc ks Q (F0 m pc ls (.int x :: .int i :: .ref a :: rest)) := by
  obtain ⟨z, h1, h2, h3⟩ := q_arr E hC ha hr hA rfl
  refine W.iast E.1 E.2.1 h1 h3 (fun q => by cases q) (q_inn hin) rfl rfl hdg fun H' e1 e2 e3 => ?_
  exact kk H' _ (hC.setA ha hr hA h2 hv e1 e3) (hS.put e2 e3 ⟨r, ha, hw⟩) (Up.of h1 e1 e3 (by rw [arrV_size]; exact q_inl hin))
theorem q_bast (E : Ev p s m args meth c cc mL own ret X Γ H0) (hC : Conf X Γ H) (hS : va_S (AΓ Γ) H0 H locs) {a r n : Nat} {i x : Int32} (ha : Γ a = some r) (hw : r ≠ 12) (hr : kO r = none) {F : Nat → xT} (hA : kA r = some (0, n, F)) (hF : ∀ j, F j = (0, -128, 127)) (hin : vp_in i n) (hdg : decode cc pc = .ok (.bastore, 1))
    (kk : ∀ (H1 : Heap) (locs1 : List Loc), Conf X Γ H1 → va_S (AΓ Γ) H0 H1 locs1 → Up H H1 a i.toNatClampNeg (.int x.toInt8.toInt32) → W p l e R s m args below meth c H1 locs1 kc ks Q (F0 m (pc + 1) ls rest)) : W p l e R s m args below meth c H locs kc ks Q (F0 m pc ls (.int x :: .int i :: .ref a :: rest)) := by
  obtain ⟨z, h1, h2, h3⟩ := q_arr E hC ha hr hA rfl
  refine W.bast E.1 E.2.1 h1 h3 (fun q => by cases q) (q_inn hin) rfl rfl hdg fun H' e1 e2 e3 => ?_
  exact kk H' _ (hC.setA ha hr hA h2 (hF _ ▸ tv_I rfl (by rw [Int8.toInt_toInt32]; exact Int8.le_toInt _) (by rw [Int8.toInt_toInt32]; exact Int.le_of_lt_add_one (Int8.toInt_lt _))) e1 e3) (hS.put e2 e3 ⟨r, ha, hw⟩) (Up.of h1 e1 e3 (by rw [arrV_size]; exact q_inl hin))
theorem q_zast (E : Ev p s m args meth c cc mL own ret X Γ H0) (hC : Conf X Γ H) (hS : va_S (AΓ Γ) H0 H locs) {a r n : Nat} {i x : Int32} (ha : Γ a = some r) (hw : r ≠ 12) (hr : kO r = none) {F : Nat → xT} (hA : kA r = some (3, n, F)) (hF : ∀ j, F j = (0, -2147483648, 2147483647)) (hin : vp_in i n) (hdg : decode cc pc = .ok (.bastore, 1))
    (kk : ∀ (H1 : Heap) (locs1 : List Loc), Conf X Γ H1 → va_S (AΓ Γ) H0 H1 locs1 → Up H H1 a i.toNatClampNeg (.int (x &&& 1)) → W p l e R s m args below meth c H1 locs1 kc ks Q (F0 m (pc + 1) ls rest)) : W p l e R s m args below meth c H locs kc ks Q (F0 m pc ls (.int x :: .int i :: .ref a :: rest)) := by
  obtain ⟨z, h1, h2, h3⟩ := q_arr E hC ha hr hA rfl
  refine W.zast E.1 E.2.1 h1 h3 (fun q => by cases q) (q_inn hin) rfl rfl hdg fun H' e1 e2 e3 => ?_
  exact kk H' _ (hC.setA ha hr hA h2 (hF _ ▸ tv_F) e1 e3) (hS.put e2 e3 ⟨r, ha, hw⟩) (Up.of h1 e1 e3 (by rw [arrV_size]; exact q_inl hin))
theorem q_last (E : Ev p s m args meth c cc mL own ret X Γ H0) (hC : Conf X Γ H) (hS : va_S (AΓ Γ) H0 H locs) {a r n : Nat} {lo hi : Int} {i : Int32} {x : Int64} (ha : Γ a = some r) (hw : r ≠ 12) (hr : kO r = none) {F : Nat → xT} (hA : kA r = some (2, n, F)) (hF : ∀ j, F j = (1, lo, hi)) (hin : vp_in i n) (hdg : decode cc pc = .ok (.lastore, 1))
    (kk : ∀ (H1 : Heap) (locs1 : List Loc), Conf X Γ H1 → va_S (AΓ Γ) H0 H1 locs1 → Up H H1 a i.toNatClampNeg (.long x) → W p l e R s m args below meth c H1 locs1 kc ks Q (F0 m (pc + 1) ls rest)) : W p l e R s m args below meth c H locs kc ks Q (F0 m pc ls (.long x :: .int i :: .ref a :: rest)) := by
  obtain ⟨z, h1, h2, h3⟩ := q_arr E hC ha hr hA rfl
  refine W.last E.1 E.2.1 h1 h3 (fun q => by cases q) (q_inn hin) rfl rfl hdg fun H' e1 e2 e3 => ?_
  exact kk H' _ (hC.setA ha hr hA h2 (hF _ ▸ tv_J) e1 e3) (hS.put e2 e3 ⟨r, ha, hw⟩) (Up.of h1 e1 e3 (by rw [arrV_size]; exact q_inl hin))
/-- a Word or null into a row of Words -/
theorem q_wast (E : Ev p s m args meth c cc mL own ret X Γ H0) (hC : Conf X Γ H) (hS : va_S (AΓ Γ) H0 H locs) {a r n : Nat} {hi : Int} {i : Int32} {o : Option Nat} (ha : Γ a = some r) (hw : r ≠ 12) (hr : kO r = none) {F : Nat → xT} (hA : kA r = some (7, n, F)) (hF : ∀ j, F j = (14, 1, hi)) (ho : ∀ q, o = some q → Γ q = some 12) (hin : vp_in i n) (hdg : decode cc pc = .ok (.aastore, 1))
    (kk : ∀ (H1 : Heap) (locs1 : List Loc), Conf X Γ H1 → va_S (AΓ Γ) H0 H1 locs1 → Up H H1 a i.toNatClampNeg (va_rf o) → W p l e R s m args below meth c H1 locs1 kc ks Q (F0 m (pc + 1) ls rest)) : W p l e R s m args below meth c H locs kc ks Q (F0 m pc ls (va_rf o :: .int i :: .ref a :: rest)) := by
  obtain ⟨z, h1, h2, h3⟩ := q_arr E hC ha hr hA rfl
  have fin : ∀ H' : Heap, H'[a]? = some ((arrV (X.2 7) n z).setSlot i.toNatClampNeg (va_rf o)) → H'.size = H.size → (∀ q, q ≠ a → H'[q]? = H[q]?) → W p l e R s m args below meth c H' (locs ++ [⟨a, i.toNatClampNeg⟩]) kc ks Q (F0 m (pc + 1) ls rest) := fun H' e1 e2 e3 =>
    kk H' _ (hC.setA ha hr hA h2 (hF _ ▸ tv_Q ho) e1 e3) (hS.put e2 e3 ⟨r, ha, hw⟩) (Up.of h1 e1 e3 (by rw [arrV_size]; exact q_inl hin))
  cases o with
  | none => exact va_WaastN (C := "SnowForts$Word") E.1 E.2.1 h1 h3 (fun q => by cases q) (q_inn hin) rfl rfl hdg fin
  | some q =>
    obtain ⟨hKo, hKa⟩ := E.2.2.2.2.2.1.2.1
    obtain ⟨-, kA', comp, g1, g2, g3, g4⟩ := hKa 7 _ rfl
    obtain ⟨tR, tD, tA, -, -, -, -, -, -, -, c8, -⟩ := E.2.2.2.2.2.1.2.2.2.2
    have hh : s.heap = H0 := E.2.2.2.2.2.1.1
    subst hh
    obtain ⟨cv, w1, w2, w3⟩ := va_Orecv (c8 q (ho q rfl)).1 hS
    have hcv : cv.cls = comp := Option.some.inj (w3.symm.trans g3)
    obtain ⟨kc, hkc, -⟩ := Vm.findClass_spec g3
    refine W.aast (cv := cv) E.1 E.2.1 h1 (fun q => by intro h; cases h) (fun q => by cases q) g1 g2 rfl hkc ⟨fun h => hin (Or.inl h), by rw [arrV_size]; exact q_inl hin⟩ w1 (fun q h => by rw [h] at w2; cases w2) (hcv.symm ▸ hkc) (hcv.symm ▸ va_asg _ _) rfl rfl hdg fin
theorem q_alen (E : Ev p s m args meth c cc mL own ret X Γ H0) (hC : Conf X Γ H) {a r n t : Nat} {F : Nat → xT} {ty : FieldType} {v : Int32} (ha : Γ a = some r) (hr : kO r = none) (hA : kA r = some (t, n, F)) (ht : (xty X)[t]? = some (X.2 t, ty)) (hv : Int32.ofNat n = v) (hdg : decode cc pc = .ok (.arraylength, 1))
    (kk : W p l e R s m args below meth c H locs kc ks Q (F0 m (pc + 1) ls (.int v :: rest))) : W p l e R s m args below meth c H locs kc ks Q (F0 m pc ls (.ref a :: rest)) := by
  obtain ⟨z, h1, h2, h3⟩ := q_arr E hC ha hr hA ht
  exact W.alen E.1 E.2.1 h1 h3 (by rw [arrV_size]; exact hv) rfl rfl hdg kk
end FRW

section FRB
variable {p : Program} {l : Launch} {e : Env} {R : Room} {s : State} {m : MethodId} {args : Array Value} {below : List Frame} {meth : Method} {c : Code} {H H0 : Heap} {locs : List Loc} {Q : State → Prop}
variable {cc : ByteArray} {pc mL cells slots : Nat} {own : String} {ret : Option FieldType} {ls : Array Slot} {rest : List Value} {X : xW} {Γ : Nat → Option Nat}
theorem c_eq {x y : Int32} {a b : Int} (ha : x.toInt = a) (hb : y.toInt = b) : x = y ↔ a = b := by rw [← ha, ← hb]; exact Int32.toInt_inj.symm
theorem c_lt {x y : Int32} {a b : Int} (ha : x.toInt = a) (hb : y.toInt = b) : x < y ↔ a < b := by rw [← ha, ← hb]; exact Int32.lt_iff_toInt_lt
theorem c_le {x y : Int32} {a b : Int} (ha : x.toInt = a) (hb : y.toInt = b) : x ≤ y ↔ a ≤ b := by rw [← ha, ← hb]; exact Int32.le_iff_toInt_le
theorem q_icmp_eq (hx : p.tables.exec = Jvm.exec) (hb0 : c.code = cc) {x y : Int32} {a b : Int} (ha : x.toInt = a) (hb : y.toInt = b) {off : Int} {tgt : Nat} (hdg : decode cc pc = .ok (.if_icmp .eq off, 3)) (ht : (pc : Int) + off = (tgt : Int)) (kt : a = b → W p l e R s m args below meth c H locs cells slots Q (F0 m tgt ls rest)) (kf : a ≠ b → W p l e R s m args below meth c H locs cells slots Q (F0 m (pc + 3) ls rest)) : W p l e R s m args below meth c H locs cells slots Q (F0 m pc ls (.int y :: .int x :: rest)) :=
  lv_icmp_eq hx hb0 hdg ht (fun h => kt ((c_eq ha hb).mp h)) (fun h => kf (fun q => h ((c_eq ha hb).mpr q)))
theorem q_icmp_ne (hx : p.tables.exec = Jvm.exec) (hb0 : c.code = cc) {x y : Int32} {a b : Int} (ha : x.toInt = a) (hb : y.toInt = b) {off : Int} {tgt : Nat} (hdg : decode cc pc = .ok (.if_icmp .ne off, 3)) (ht : (pc : Int) + off = (tgt : Int)) (kt : a ≠ b → W p l e R s m args below meth c H locs cells slots Q (F0 m tgt ls rest)) (kf : a = b → W p l e R s m args below meth c H locs cells slots Q (F0 m (pc + 3) ls rest)) : W p l e R s m args below meth c H locs cells slots Q (F0 m pc ls (.int y :: .int x :: rest)) :=
  lv_icmp_ne hx hb0 hdg ht (fun h => kt (fun q => h ((c_eq ha hb).mpr q))) (fun h => kf ((c_eq ha hb).mp h))
theorem q_icmp_lt (hx : p.tables.exec = Jvm.exec) (hb0 : c.code = cc) {x y : Int32} {a b : Int} (ha : x.toInt = a) (hb : y.toInt = b) {off : Int} {tgt : Nat} (hdg : decode cc pc = .ok (.if_icmp .lt off, 3)) (ht : (pc : Int) + off = (tgt : Int)) (kt : a < b → W p l e R s m args below meth c H locs cells slots Q (F0 m tgt ls rest)) (kf : b ≤ a → W p l e R s m args below meth c H locs cells slots Q (F0 m (pc + 3) ls rest)) : W p l e R s m args below meth c H locs cells slots Q (F0 m pc ls (.int y :: .int x :: rest)) :=
  lv_icmp_lt hx hb0 hdg ht (fun h => kt ((c_lt ha hb).mp h)) (fun h => kf (Int.not_lt.mp (fun q => h ((c_lt ha hb).mpr q))))
theorem q_icmp_ge (hx : p.tables.exec = Jvm.exec) (hb0 : c.code = cc) {x y : Int32} {a b : Int} (ha : x.toInt = a) (hb : y.toInt = b) {off : Int} {tgt : Nat} (hdg : decode cc pc = .ok (.if_icmp .ge off, 3)) (ht : (pc : Int) + off = (tgt : Int)) (kt : b ≤ a → W p l e R s m args below meth c H locs cells slots Q (F0 m tgt ls rest)) (kf : a < b → W p l e R s m args below meth c H locs cells slots Q (F0 m (pc + 3) ls rest)) : W p l e R s m args below meth c H locs cells slots Q (F0 m pc ls (.int y :: .int x :: rest)) :=
  lv_icmp_ge hx hb0 hdg ht (fun h => kt ((c_le hb ha).mp h)) (fun h => kf (Int.not_le.mp (fun q => h ((c_le hb ha).mpr q))))
theorem q_icmp_gt (hx : p.tables.exec = Jvm.exec) (hb0 : c.code = cc) {x y : Int32} {a b : Int} (ha : x.toInt = a) (hb : y.toInt = b) {off : Int} {tgt : Nat} (hdg : decode cc pc = .ok (.if_icmp .gt off, 3)) (ht : (pc : Int) + off = (tgt : Int)) (kt : b < a → W p l e R s m args below meth c H locs cells slots Q (F0 m tgt ls rest)) (kf : a ≤ b → W p l e R s m args below meth c H locs cells slots Q (F0 m (pc + 3) ls rest)) : W p l e R s m args below meth c H locs cells slots Q (F0 m pc ls (.int y :: .int x :: rest)) :=
  lv_icmp_gt hx hb0 hdg ht (fun h => kt ((c_lt hb ha).mp h)) (fun h => kf (Int.not_lt.mp (fun q => h ((c_lt hb ha).mpr q))))
theorem q_icmp_le (hx : p.tables.exec = Jvm.exec) (hb0 : c.code = cc) {x y : Int32} {a b : Int} (ha : x.toInt = a) (hb : y.toInt = b) {off : Int} {tgt : Nat} (hdg : decode cc pc = .ok (.if_icmp .le off, 3)) (ht : (pc : Int) + off = (tgt : Int)) (kt : a ≤ b → W p l e R s m args below meth c H locs cells slots Q (F0 m tgt ls rest)) (kf : b < a → W p l e R s m args below meth c H locs cells slots Q (F0 m (pc + 3) ls rest)) : W p l e R s m args below meth c H locs cells slots Q (F0 m pc ls (.int y :: .int x :: rest)) :=
  lv_icmp_le hx hb0 hdg ht (fun h => kt ((c_le ha hb).mp h)) (fun h => kf (Int.not_le.mp (fun q => h ((c_le ha hb).mpr q))))
theorem q_if_eq (hx : p.tables.exec = Jvm.exec) (hb0 : c.code = cc) {x : Int32} {a : Int} (ha : x.toInt = a) {off : Int} {tgt : Nat} (hdg : decode cc pc = .ok (.ifCond .eq off, 3)) (ht : (pc : Int) + off = (tgt : Int)) (kt : a = 0 → W p l e R s m args below meth c H locs cells slots Q (F0 m tgt ls rest)) (kf : a ≠ 0 → W p l e R s m args below meth c H locs cells slots Q (F0 m (pc + 3) ls rest)) : W p l e R s m args below meth c H locs cells slots Q (F0 m pc ls (.int x :: rest)) :=
  have hb : (0 : Int32).toInt = 0 := by decide
  lv_if_eq hx hb0 hdg ht (fun h => kt ((c_eq ha hb).mp h)) (fun h => kf (fun q => h ((c_eq ha hb).mpr q)))
theorem q_if_ne (hx : p.tables.exec = Jvm.exec) (hb0 : c.code = cc) {x : Int32} {a : Int} (ha : x.toInt = a) {off : Int} {tgt : Nat} (hdg : decode cc pc = .ok (.ifCond .ne off, 3)) (ht : (pc : Int) + off = (tgt : Int)) (kt : a ≠ 0 → W p l e R s m args below meth c H locs cells slots Q (F0 m tgt ls rest)) (kf : a = 0 → W p l e R s m args below meth c H locs cells slots Q (F0 m (pc + 3) ls rest)) : W p l e R s m args below meth c H locs cells slots Q (F0 m pc ls (.int x :: rest)) :=
  have hb : (0 : Int32).toInt = 0 := by decide
  lv_if_ne hx hb0 hdg ht (fun h => kt (fun q => h ((c_eq ha hb).mpr q))) (fun h => kf ((c_eq ha hb).mp h))
theorem q_if_lt (hx : p.tables.exec = Jvm.exec) (hb0 : c.code = cc) {x : Int32} {a : Int} (ha : x.toInt = a) {off : Int} {tgt : Nat} (hdg : decode cc pc = .ok (.ifCond .lt off, 3)) (ht : (pc : Int) + off = (tgt : Int)) (kt : a < 0 → W p l e R s m args below meth c H locs cells slots Q (F0 m tgt ls rest)) (kf : 0 ≤ a → W p l e R s m args below meth c H locs cells slots Q (F0 m (pc + 3) ls rest)) : W p l e R s m args below meth c H locs cells slots Q (F0 m pc ls (.int x :: rest)) :=
  have hb : (0 : Int32).toInt = 0 := by decide
  lv_if_lt hx hb0 hdg ht (fun h => kt ((c_lt ha hb).mp h)) (fun h => kf (Int.not_lt.mp (fun q => h ((c_lt ha hb).mpr q))))
theorem q_if_ge (hx : p.tables.exec = Jvm.exec) (hb0 : c.code = cc) {x : Int32} {a : Int} (ha : x.toInt = a) {off : Int} {tgt : Nat} (hdg : decode cc pc = .ok (.ifCond .ge off, 3)) (ht : (pc : Int) + off = (tgt : Int)) (kt : 0 ≤ a → W p l e R s m args below meth c H locs cells slots Q (F0 m tgt ls rest)) (kf : a < 0 → W p l e R s m args below meth c H locs cells slots Q (F0 m (pc + 3) ls rest)) : W p l e R s m args below meth c H locs cells slots Q (F0 m pc ls (.int x :: rest)) :=
  have hb : (0 : Int32).toInt = 0 := by decide
  lv_if_ge hx hb0 hdg ht (fun h => kt ((c_le hb ha).mp h)) (fun h => kf (Int.not_le.mp (fun q => h ((c_le hb ha).mpr q))))
theorem q_if_gt (hx : p.tables.exec = Jvm.exec) (hb0 : c.code = cc) {x : Int32} {a : Int} (ha : x.toInt = a) {off : Int} {tgt : Nat} (hdg : decode cc pc = .ok (.ifCond .gt off, 3)) (ht : (pc : Int) + off = (tgt : Int)) (kt : 0 < a → W p l e R s m args below meth c H locs cells slots Q (F0 m tgt ls rest)) (kf : a ≤ 0 → W p l e R s m args below meth c H locs cells slots Q (F0 m (pc + 3) ls rest)) : W p l e R s m args below meth c H locs cells slots Q (F0 m pc ls (.int x :: rest)) :=
  have hb : (0 : Int32).toInt = 0 := by decide
  lv_if_gt hx hb0 hdg ht (fun h => kt ((c_lt hb ha).mp h)) (fun h => kf (Int.not_lt.mp (fun q => h ((c_lt hb ha).mpr q))))
theorem q_if_le (hx : p.tables.exec = Jvm.exec) (hb0 : c.code = cc) {x : Int32} {a : Int} (ha : x.toInt = a) {off : Int} {tgt : Nat} (hdg : decode cc pc = .ok (.ifCond .le off, 3)) (ht : (pc : Int) + off = (tgt : Int)) (kt : a ≤ 0 → W p l e R s m args below meth c H locs cells slots Q (F0 m tgt ls rest)) (kf : 0 < a → W p l e R s m args below meth c H locs cells slots Q (F0 m (pc + 3) ls rest)) : W p l e R s m args below meth c H locs cells slots Q (F0 m pc ls (.int x :: rest)) :=
  have hb : (0 : Int32).toInt = 0 := by decide
  lv_if_le hx hb0 hdg ht (fun h => kt ((c_le ha hb).mp h)) (fun h => kf (Int.not_le.mp (fun q => h ((c_le ha hb).mpr q))))
theorem lgz_eq {x y : Int64} {a b : Int} (ha : x.toInt = a) (hb : y.toInt = b) (h : (if y.toInt < x.toInt then 1 else if x.toInt = y.toInt then 0 else -1 : Int) = 0) : a = b := by
  rw [ha, hb] at h
  by_cases h1 : b < a
  · rw [if_pos h1] at h; omega
  · rw [if_neg h1] at h
    by_cases h2 : a = b
    · rw [if_pos h2] at h; omega
    · rw [if_neg h2] at h; omega
theorem lgz_ne {x y : Int64} {a b : Int} (ha : x.toInt = a) (hb : y.toInt = b) (h : (if y.toInt < x.toInt then 1 else if x.toInt = y.toInt then 0 else -1 : Int) ≠ 0) : a ≠ b := by
  rw [ha, hb] at h
  by_cases h1 : b < a
  · rw [if_pos h1] at h; omega
  · rw [if_neg h1] at h
    by_cases h2 : a = b
    · rw [if_pos h2] at h; omega
    · rw [if_neg h2] at h; omega
theorem lgz_lt {x y : Int64} {a b : Int} (ha : x.toInt = a) (hb : y.toInt = b) (h : (if y.toInt < x.toInt then 1 else if x.toInt = y.toInt then 0 else -1 : Int) < 0) : a < b := by
  rw [ha, hb] at h
  by_cases h1 : b < a
  · rw [if_pos h1] at h; omega
  · rw [if_neg h1] at h
    by_cases h2 : a = b
    · rw [if_pos h2] at h; omega
    · rw [if_neg h2] at h; omega
theorem lgz_ge {x y : Int64} {a b : Int} (ha : x.toInt = a) (hb : y.toInt = b) (h : 0 ≤ (if y.toInt < x.toInt then 1 else if x.toInt = y.toInt then 0 else -1 : Int)) : b ≤ a := by
  rw [ha, hb] at h
  by_cases h1 : b < a
  · rw [if_pos h1] at h; omega
  · rw [if_neg h1] at h
    by_cases h2 : a = b
    · rw [if_pos h2] at h; omega
    · rw [if_neg h2] at h; omega
theorem lgz_gt {x y : Int64} {a b : Int} (ha : x.toInt = a) (hb : y.toInt = b) (h : 0 < (if y.toInt < x.toInt then 1 else if x.toInt = y.toInt then 0 else -1 : Int)) : b < a := by
  rw [ha, hb] at h
  by_cases h1 : b < a
  · rw [if_pos h1] at h; omega
  · rw [if_neg h1] at h
    by_cases h2 : a = b
    · rw [if_pos h2] at h; omega
    · rw [if_neg h2] at h; omega
theorem lgz_le {x y : Int64} {a b : Int} (ha : x.toInt = a) (hb : y.toInt = b) (h : (if y.toInt < x.toInt then 1 else if x.toInt = y.toInt then 0 else -1 : Int) ≤ 0) : a ≤ b := by
  rw [ha, hb] at h
  by_cases h1 : b < a
  · rw [if_pos h1] at h; omega
  · rw [if_neg h1] at h
    by_cases h2 : a = b
    · rw [if_pos h2] at h; omega
    · rw [if_neg h2] at h; omega
theorem q_lcmp_eq (hx : p.tables.exec = Jvm.exec) (hb0 : c.code = cc) {x y : Int64} {a b : Int} (ha : x.toInt = a) (hb : y.toInt = b) {off : Int} {tgt : Nat} (hdl : decode cc pc = .ok (.lcmp, 1)) (hdg : decode cc (pc + 1) = .ok (.ifCond .eq off, 3)) (ht : ((pc + 1 : Nat) : Int) + off = (tgt : Int)) (kt : a = b → W p l e R s m args below meth c H locs cells slots Q (F0 m tgt ls rest)) (kf : a ≠ b → W p l e R s m args below meth c H locs cells slots Q (F0 m (pc + 1 + 3) ls rest)) : W p l e R s m args below meth c H locs cells slots Q (F0 m pc ls (.long y :: .long x :: rest)) := by
  refine W.lcmp hx hb0 hdl (q_if_eq hx hb0 (lgc x y) hdg ht (fun h => kt (lgz_eq ha hb h)) (fun h => kf (lgz_ne ha hb h)))
theorem q_lcmp_ne (hx : p.tables.exec = Jvm.exec) (hb0 : c.code = cc) {x y : Int64} {a b : Int} (ha : x.toInt = a) (hb : y.toInt = b) {off : Int} {tgt : Nat} (hdl : decode cc pc = .ok (.lcmp, 1)) (hdg : decode cc (pc + 1) = .ok (.ifCond .ne off, 3)) (ht : ((pc + 1 : Nat) : Int) + off = (tgt : Int)) (kt : a ≠ b → W p l e R s m args below meth c H locs cells slots Q (F0 m tgt ls rest)) (kf : a = b → W p l e R s m args below meth c H locs cells slots Q (F0 m (pc + 1 + 3) ls rest)) : W p l e R s m args below meth c H locs cells slots Q (F0 m pc ls (.long y :: .long x :: rest)) := by
  refine W.lcmp hx hb0 hdl (q_if_ne hx hb0 (lgc x y) hdg ht (fun h => kt (lgz_ne ha hb h)) (fun h => kf (lgz_eq ha hb h)))
theorem q_lcmp_lt (hx : p.tables.exec = Jvm.exec) (hb0 : c.code = cc) {x y : Int64} {a b : Int} (ha : x.toInt = a) (hb : y.toInt = b) {off : Int} {tgt : Nat} (hdl : decode cc pc = .ok (.lcmp, 1)) (hdg : decode cc (pc + 1) = .ok (.ifCond .lt off, 3)) (ht : ((pc + 1 : Nat) : Int) + off = (tgt : Int)) (kt : a < b → W p l e R s m args below meth c H locs cells slots Q (F0 m tgt ls rest)) (kf : b ≤ a → W p l e R s m args below meth c H locs cells slots Q (F0 m (pc + 1 + 3) ls rest)) : W p l e R s m args below meth c H locs cells slots Q (F0 m pc ls (.long y :: .long x :: rest)) := by
  refine W.lcmp hx hb0 hdl (q_if_lt hx hb0 (lgc x y) hdg ht (fun h => kt (lgz_lt ha hb h)) (fun h => kf (lgz_ge ha hb h)))
theorem q_lcmp_ge (hx : p.tables.exec = Jvm.exec) (hb0 : c.code = cc) {x y : Int64} {a b : Int} (ha : x.toInt = a) (hb : y.toInt = b) {off : Int} {tgt : Nat} (hdl : decode cc pc = .ok (.lcmp, 1)) (hdg : decode cc (pc + 1) = .ok (.ifCond .ge off, 3)) (ht : ((pc + 1 : Nat) : Int) + off = (tgt : Int)) (kt : b ≤ a → W p l e R s m args below meth c H locs cells slots Q (F0 m tgt ls rest)) (kf : a < b → W p l e R s m args below meth c H locs cells slots Q (F0 m (pc + 1 + 3) ls rest)) : W p l e R s m args below meth c H locs cells slots Q (F0 m pc ls (.long y :: .long x :: rest)) := by
  refine W.lcmp hx hb0 hdl (q_if_ge hx hb0 (lgc x y) hdg ht (fun h => kt (lgz_ge ha hb h)) (fun h => kf (lgz_lt ha hb h)))
theorem q_lcmp_gt (hx : p.tables.exec = Jvm.exec) (hb0 : c.code = cc) {x y : Int64} {a b : Int} (ha : x.toInt = a) (hb : y.toInt = b) {off : Int} {tgt : Nat} (hdl : decode cc pc = .ok (.lcmp, 1)) (hdg : decode cc (pc + 1) = .ok (.ifCond .gt off, 3)) (ht : ((pc + 1 : Nat) : Int) + off = (tgt : Int)) (kt : b < a → W p l e R s m args below meth c H locs cells slots Q (F0 m tgt ls rest)) (kf : a ≤ b → W p l e R s m args below meth c H locs cells slots Q (F0 m (pc + 1 + 3) ls rest)) : W p l e R s m args below meth c H locs cells slots Q (F0 m pc ls (.long y :: .long x :: rest)) := by
  refine W.lcmp hx hb0 hdl (q_if_gt hx hb0 (lgc x y) hdg ht (fun h => kt (lgz_gt ha hb h)) (fun h => kf (lgz_le ha hb h)))
theorem q_lcmp_le (hx : p.tables.exec = Jvm.exec) (hb0 : c.code = cc) {x y : Int64} {a b : Int} (ha : x.toInt = a) (hb : y.toInt = b) {off : Int} {tgt : Nat} (hdl : decode cc pc = .ok (.lcmp, 1)) (hdg : decode cc (pc + 1) = .ok (.ifCond .le off, 3)) (ht : ((pc + 1 : Nat) : Int) + off = (tgt : Int)) (kt : a ≤ b → W p l e R s m args below meth c H locs cells slots Q (F0 m tgt ls rest)) (kf : b < a → W p l e R s m args below meth c H locs cells slots Q (F0 m (pc + 1 + 3) ls rest)) : W p l e R s m args below meth c H locs cells slots Q (F0 m pc ls (.long y :: .long x :: rest)) := by
  refine W.lcmp hx hb0 hdl (q_if_le hx hb0 (lgc x y) hdg ht (fun h => kt (lgz_le ha hb h)) (fun h => kf (lgz_gt ha hb h)))
/-- locals that hold a reference or null -/
theorem q_alq_n (hx : p.tables.exec = Jvm.exec) (hb : c.code = cc) {k : Fin 4} {i : Nat} {o : Option Nat} (hdg : decode cc pc = .ok (.aload_n k, 1)) (hi : (k : Nat) = i) (hl : ls[i]? = some (.val (va_rf o))) (kk : W p l e R s m args below meth c H locs cells slots Q (F0 m (pc + 1) ls (va_rf o :: rest))) : W p l e R s m args below meth c H locs cells slots Q (F0 m pc ls rest) := by
  cases o with
  | none => exact lv_aload_nN hx hb hdg hi hl kk
  | some q => exact lv_aload_n hx hb hdg hi hl kk
theorem q_alq (hx : p.tables.exec = Jvm.exec) (hb : c.code = cc) {i : Nat} {o : Option Nat} (hdg : decode cc pc = .ok (.aload i, 2)) (hl : ls[i]? = some (.val (va_rf o))) (kk : W p l e R s m args below meth c H locs cells slots Q (F0 m (pc + 2) ls (va_rf o :: rest))) : W p l e R s m args below meth c H locs cells slots Q (F0 m pc ls rest) := by
  cases o with
  | none => exact lv_aloadN hx hb hdg hl kk
  | some q => exact lv_aload hx hb hdg hl kk
theorem q_asq_n (hx : p.tables.exec = Jvm.exec) (hb : c.code = cc) {k : Fin 4} {i nL : Nat} {o : Option Nat} {lv lv' : List (Nat × Value)} (hdg : decode cc pc = .ok (.astore_n k, 1)) (hi : (k : Nat) = i) (h : lv_has ls nL lv) (hn : i < nL) (hl : (i, va_rf o) :: lv.filter (fun q => !(q.1 == i) && !(q.1 + 1 == i && q.2.category == 2)) = lv')
    (kk : ∀ ls' : Array Slot, lv_has ls' nL lv' → W p l e R s m args below meth c H locs cells slots Q (F0 m (pc + 1) ls' rest)) : W p l e R s m args below meth c H locs cells slots Q (F0 m pc ls (va_rf o :: rest)) := by
  cases o with
  | none => exact lv_astore_nN hx hb hdg hi h hn hl kk
  | some q => exact lv_astore_n hx hb hdg hi h hn hl kk
theorem cat_rf (o : Option Nat) : (va_rf o).category = 1 := by cases o <;> rfl
/-- statics -/
theorem q_word (E : Ev p s m args meth c cc mL own ret X Γ H0) (hS : va_S (AΓ Γ) H0 H locs) {i index : Nat} (hi : i < 29) (hl : Cond.fieldLink own index "SnowForts$Word" (wdN i) "LSnowForts$Word;" ∈ GW) (hdg : decode cc pc = .ok (.getstatic index, 3))
    (kk : Γ (wad X i) = some 12 → W p l e R s m args below meth c H locs cells slots Q (F0 m (pc + 3) ls (.ref (wad X i) :: rest))) : W p l e R s m args below meth c H locs cells slots Q (F0 m pc ls rest) := by
  obtain ⟨hx, hb, hml, hown, hts, ⟨hH, -, -, -, tR, tD, tA, -, -, -, -, h5, -⟩, -⟩ := E
  subst hH
  exact va_gets hx hb (h5 i hi).1 hS hown (hts _ hl) (fun _ h => h) hdg (kk (h5 i hi).2)
end FRB
section FRC
variable {p : Program} {l : Launch} {e : Env} {s : State} {m : MethodId} {args : Array Value} {below : List Frame} {meth : Method} {c : Code} {H H0 : Heap} {locs : List Loc} {Q : State → Prop}
variable {cc : ByteArray} {pc mL lv lv1 mL1 n index ci r : Nat} {own C : String} {ret ret1 : Option FieldType} {ls : Array Slot} {st rest As : List Value} {X : xW} {Γ : Nat → Option Nat} {y : MethodName} {by1 : ByteArray} {b : Nat}
def CWB (y : MethodName) (b : ByteArray) (mL : Nat) (ret : Option FieldType) (n : Nat) : Prop := Cond.code y b mL ret ∈ GW ∧ Cond.initialized y.cls ∈ GW ∧ (y.cls ≠ "java/lang/invoke/MethodHandle" ∧ y.cls ≠ "java/lang/invoke/VarHandle") ∧ (parseMethodDescriptor y.desc).map (fun d => d.parameters.length) = some n
theorem len_of {y : MethodName} {n : Nat} (h : (parseMethodDescriptor y.desc).map (fun d => d.parameters.length) = some n) : ∀ sig, parseMethodDescriptor y.desc = some sig → n = sig.parameters.length := by
  intro sig hs
  rw [hs] at h
  exact (Option.some.inj h).symm
theorem pay_all (E : Ev p s m args meth c cc mL own ret X Γ H0) {y : MethodName} {b : ByteArray} {mL1 : Nat} {ret1 : Option FieldType} (h : Cond.code y b mL1 ret1 ∈ GW) : ∀ w ∈ (Cond.code y b mL1 ret1 :: GW), ∀ (a' : Array Value) (U : State), s.WarmedH U.vm → w.before a' U = true :=
  pay_in (big := GW) (ws := Cond.code y b mL1 ret1 :: GW) E.2.2.2.2.1 (fun w hw => by
    rcases List.mem_cons.mp hw with rfl | hw
    · exact GW_good _ h
    · exact GW_good w hw)
theorem q_cB (E : Ev p s m args meth c cc mL own ret X Γ H0) (hw : CWB y by1 mL1 ret1 n) (hl : Cond.methodLink own index y ∈ GW) (hlv : lv1 + 1 ≤ lv ∧ 8 + (mL1 + 11) + 48 * lv1 ≤ 48 * lv) : CallB (rmL lv) s args own index y by1 mL1 ret1 (Cond.code y by1 mL1 ret1 :: GW) (rmL lv1) 0 0 n :=
  have hts := E.2.2.2.2.1
  ⟨rfl, rfl, hlv.1, hlv.2, pay_all E hw.1, List.mem_cons_self, hts _ hw.1, hts _ hw.2.1, hw.2.2.1, len_of hw.2.2.2, hts _ hl⟩
theorem q_pre (E : Ev p s m args meth c cc mL own ret X Γ H0) (hS : va_S (AΓ Γ) H0 H locs) (av : List Value) : ∀ U : State, U.heap = H → s.WarmedH U.vm → va_Pc av (Gd X Γ H) av.toArray U := fun U hU hW => ⟨rfl, E.2.2.2.2.2.1.go hS hU hW⟩
theorem q_recv (E : Ev p s m args meth c cc mL own ret X Γ H0) (hC : Conf X Γ H) (hb : Γ b = some r) {fts : List xT} {T : u_T} {N : Nat} (hr : kO r = some (ci, fts) ∧ vwCl[ci]? = some (C, T, N)) : ∃ cellB : Cell, H[b]? = some cellB ∧ cellB.vm.isStatics = false ∧ s.vm.findClass C = some cellB.cls := by
  have h := hC b r hb
  unfold okc at h
  rw [hr.1] at h
  obtain ⟨cell, h1, h2, h3, -⟩ := h
  exact ⟨cell, h1, by rw [h3]; rfl, by rw [h2]; exact (E.2.2.2.2.2.1.2.1.1 ci _ hr.2).2.1⟩
theorem q_fix (E : Ev p s m args meth c cc mL own ret X Γ H0) : CallFix p m c cc mL s args GW own := ⟨E.1, E.2.1, E.2.2.1, E.2.2.2.1, E.2.2.2.2.1⟩
theorem q_runV {Qc : Array Value → State → Outcome → State → Prop} (E : Ev p s m args meth c cc mL own ret X Γ H0) (hC : Conf X Γ H) (hS : va_S (AΓ Γ) H0 H locs) (hM : Ctr l X Γ y by1 mL1 ret1 lv1 (.ref b :: As) H Qc) (hw : CWB y by1 mL1 ret1 n) (hl : Cond.methodLink own index y ∈ GW ∧ Cond.instanceMethod y ∈ GW ∧ Cond.selects C y y ∈ GW) (hb : Γ b = some r) {fts : List xT} {T : u_T} {N : Nat} (hr : kO r = some (ci, fts) ∧ vwCl[ci]? = some (C, T, N))
    (hn : As.length = n) (hsz : ls.size = mL) (hst : st = As.reverse ++ .ref b :: rest) (hcat : (rest.map fun v => v.category).sum ≤ 8) (hlv : lv1 + 1 ≤ lv ∧ 8 + (mL1 + 11) + 48 * lv1 ≤ 48 * lv) (hdg : decode cc pc = .ok (.invokevirtual index, 3)) :
    va_Run p l e (rmL lv) s m args below meth c H locs 0 0 0 0 (F0 m pc ls st) rest (Qc (Value.ref b :: As).toArray) (AΓ Γ) :=
  va_runV (As := As) (rest := rest) (q_fix E) hM ⟨q_cB E hw hl.1 hlv, E.2.2.2.2.1 _ hl.2.1, E.2.2.2.2.1 _ hl.2.2⟩ ⟨blind, q_recv E hC hb hr, q_pre E hS _⟩ rfl hn hsz hst (lv_room hcat) hdg ⟨Nat.zero_le _, Nat.zero_le _⟩
theorem q_runS {Qc : Array Value → State → Outcome → State → Prop} (E : Ev p s m args meth c cc mL own ret X Γ H0) (hS : va_S (AΓ Γ) H0 H locs) (hM : Ctr l X Γ y by1 mL1 ret1 lv1 As H Qc) (hw : CWB y by1 mL1 ret1 n) (hl : Cond.methodLink own index y ∈ GW ∧ Cond.static y ∈ GW)
    (hn : As.length = n) (hsz : ls.size = mL) (hst : st = As.reverse ++ rest) (hcat : (rest.map fun v => v.category).sum ≤ 8) (hlv : lv1 + 1 ≤ lv ∧ 8 + (mL1 + 11) + 48 * lv1 ≤ 48 * lv) (hdg : decode cc pc = .ok (.invokestatic index, 3)) :
    va_Run p l e (rmL lv) s m args below meth c H locs 0 0 0 0 (F0 m pc ls st) rest (Qc As.toArray) (AΓ Γ) :=
  va_runS (As := As) (rest := rest) (q_fix E) hM ⟨q_cB E hw hl.1 hlv, E.2.2.2.2.1 _ hl.2⟩ ⟨blind, q_pre E hS _⟩ rfl hn hsz hst (lv_room hcat) hdg ⟨Nat.zero_le _, Nat.zero_le _⟩
theorem q_runSN {Qc : Array Value → State → Outcome → State → Prop} {host : String} (E : Ev p s m args meth c cc mL own ret X Γ H0) (hS : va_S (AΓ Γ) H0 H locs) (hM : Ctr l X Γ y by1 mL1 ret1 lv1 As H Qc) (hw : CWB y by1 mL1 ret1 n) (hl : (own, index, y, host) ∈ nwL ∧ Cond.static y ∈ GW)
    (hn : As.length = n) (hsz : ls.size = mL) (hst : st = As.reverse ++ rest) (hcat : (rest.map fun v => v.category).sum ≤ 8) (hlv : lv1 + 1 ≤ lv ∧ 8 + (mL1 + 11) + 48 * lv1 ≤ 48 * lv) (hdg : decode cc pc = .ok (.invokestatic index, 3)) :
    va_Run p l e (rmL lv) s m args below meth c H locs 0 0 0 0 (F0 m pc ls st) rest (Qc As.toArray) (AΓ Γ) :=
  have hts := E.2.2.2.2.1
  va_runSN (As := As) (rest := rest) (host := host) (q_fix E) hM ⟨⟨⟨rfl, rfl, hlv.1, hlv.2, pay_all E hw.1, List.mem_cons_self⟩, hts _ hw.1, hts _ hw.2.1, hw.2.2.1, len_of hw.2.2.2, va_Nw.use rfl (E.2.2.2.2.2.1.2.2.2.1 _ hl.1)⟩, hts _ hl.2, trivial⟩ ⟨blind, q_pre E hS _⟩ rfl hn hsz hst (lv_room hcat) hdg ⟨Nat.zero_le _, Nat.zero_le _⟩
theorem q_goI {a : Array Value} {post : Int32 → Heap → Prop} (hr : va_Run p l e (rmL lv) s m args below meth c H locs 0 0 0 0 (F0 m pc ls st) rest (QI X Γ post a) (AΓ Γ)) (hS : va_S (AΓ Γ) H0 H locs)
    (kk : ∀ (v : Int32) (H1 : Heap) (locs1 : List Loc), post v H1 → Conf X Γ H1 → va_S (AΓ Γ) H0 H1 locs1 → W p l e (rmL lv) s m args below meth c H1 locs1 0 0 Q (F0 m (pc + 3) ls (.int v :: rest))) : W p l e (rmL lv) s m args below meth c H locs 0 0 Q (F0 m pc ls st) :=
  va_calli hr hS (fun _ _ h => h) (fun _ h => h) fun v u t H1 locs1 ht hvm hp hB hz hk hS1 => by
    obtain ⟨hB1, hB2⟩ := hB
    have hu : u = H1 := hB1.symm.trans ht
    subst hu
    exact kk v u locs1 hp hB2 hS1
theorem q_goJ {a : Array Value} {post : Int64 → Heap → Prop} (hr : va_Run p l e (rmL lv) s m args below meth c H locs 0 0 0 0 (F0 m pc ls st) rest (QJ X Γ post a) (AΓ Γ)) (hS : va_S (AΓ Γ) H0 H locs)
    (kk : ∀ (v : Int64) (H1 : Heap) (locs1 : List Loc), post v H1 → Conf X Γ H1 → va_S (AΓ Γ) H0 H1 locs1 → W p l e (rmL lv) s m args below meth c H1 locs1 0 0 Q (F0 m (pc + 3) ls (.long v :: rest))) : W p l e (rmL lv) s m args below meth c H locs 0 0 Q (F0 m pc ls st) :=
  va_calll hr hS (fun _ _ h => h) (fun _ h => h) fun v u t H1 locs1 ht hvm hp hB hz hk hS1 => by
    obtain ⟨hB1, hB2⟩ := hB
    have hu : u = H1 := hB1.symm.trans ht
    subst hu
    exact kk v u locs1 hp hB2 hS1
theorem q_goV {a : Array Value} {post : Heap → Prop} (hr : va_Run p l e (rmL lv) s m args below meth c H locs 0 0 0 0 (F0 m pc ls st) rest (QV X Γ post a) (AΓ Γ)) (hS : va_S (AΓ Γ) H0 H locs)
    (kk : ∀ (H1 : Heap) (locs1 : List Loc), post H1 → Conf X Γ H1 → va_S (AΓ Γ) H0 H1 locs1 → W p l e (rmL lv) s m args below meth c H1 locs1 0 0 Q (F0 m (pc + 3) ls rest)) : W p l e (rmL lv) s m args below meth c H locs 0 0 Q (F0 m pc ls st) :=
  va_callv hr hS (fun _ _ h => h) (fun _ h => h) fun u t H1 locs1 ht hvm hp hB hz hk hS1 => by
    obtain ⟨hB1, hB2⟩ := hB
    have hu : u = H1 := hB1.symm.trans ht
    subst hu
    exact kk u locs1 hp hB2 hS1
theorem q_goQ {a : Array Value} {post : Option Nat → Heap → Prop} (hr : va_Run p l e (rmL lv) s m args below meth c H locs 0 0 0 0 (F0 m pc ls st) rest (QQ X Γ post a) (AΓ Γ)) (hS : va_S (AΓ Γ) H0 H locs)
    (kk : ∀ (o : Option Nat) (H1 : Heap) (locs1 : List Loc), post o H1 → Conf X Γ H1 → va_S (AΓ Γ) H0 H1 locs1 → W p l e (rmL lv) s m args below meth c H1 locs1 0 0 Q (F0 m (pc + 3) ls (va_rf o :: rest))) : W p l e (rmL lv) s m args below meth c H locs 0 0 Q (F0 m pc ls st) := by
  intro T hT X'
  obtain ⟨v, st₀, t, T', L, h0, X2, hL, e1, e2, ⟨⟨o, H1, hv, hp, ht, hC1⟩, hz, hk⟩, stp⟩ := hr T hT X'
  cases hv
  rw [h0] at hz hk
  have hH1 : T'.heap = H1 := e1.trans ht
  subst hH1
  obtain ⟨t2, a1, b1⟩ := kk o T'.heap (locs ++ L) hp hC1
    ⟨Nat.le_trans hS.1 (by rw [e1]; exact hz), fun q h1 h2 => by rw [e1, hk q (Nat.lt_of_lt_of_le h1 hS.1) h2]; exact hS.2.1 q h1 h2, fun q hq => by
      rcases List.mem_append.mp hq with h | h
      · exact hS.2.2 q h
      · exact hL q h⟩ T' rfl X2
  exact ⟨t2, stp t2 a1, b1⟩
end FRC
section FRE
variable {l : Launch} {X : xW} {Γ : Nat → Option Nat} {y : MethodName} {b : ByteArray} {mL lv : Nat} {av : List Value} {H0 : Heap} {own : String}
theorem q_enter {ret : Option FieldType} {Q : Array Value → State → Outcome → State → Prop} (hy : plainName y.cls = true) (hown : y.cls = own) (hlen : (lg_sl av).length ≤ mL)
    (body : ∀ (p : Program) (e : Env) (s : State) (m : MethodId) (below : List Frame) (meth : Method) (c : Code) (ls : Array Slot), Ev p s m av.toArray meth c b mL own ret X Γ H0 → lv_has ls mL (lv_args 0 av) → W p l e (rmL lv) s m av.toArray below meth c H0 [] 0 0 (MQ below Q av.toArray s 0 0 (AΓ Γ)) (F0 m 0 ls [])) : Ctr l X Γ y b mL ret lv av H0 Q := by
  refine Met.ofW (cc := b) (maxL := mL) (ret := ret) hy rfl ?_
  intro p e s m args below meth c s₁ B hml hv
  obtain ⟨rfl, hG⟩ := hv
  have hh : s.heap = H0 := hG.1
  have hl := lv_entry av hlen
  rw [lg_entry_eq, hh]
  exact body p e s m below meth c _ ⟨B.exec, B.bytes, hml, hown ▸ findClass_of_methodNamed B.named, fun w hw => atoms_spec (ws := Cond.code y b mL ret :: GW) B.pre w (List.mem_cons_of_mem _ hw), hG, B.notSynchronized, B.returns⟩ hl
theorem va_S.F0 {A : Nat → Prop} {s t : State} {H H0 : Heap} {locs : List Loc} (h0 : s.heap = H0) (h : va_S A H0 H locs) (ht : t.heap = H) : va_F A s t := by
  subst h0; exact h.F ht
abbrev Wz (l : Launch) (lv : Nat) (p : Program) (e : Env) (s : State) (m : MethodId) (args : Array Value) (below : List Frame) (meth : Method) (c : Code) (Qz : State → Prop) (H : Heap) (locs : List Loc) (g : JFrame) : Prop := W p l e (rmL lv) s m args below meth c H locs 0 0 Qz g
theorem q_enterI {post : Int32 → Heap → Prop} (hy : plainName y.cls = true) (hown : y.cls = own) (hlen : (lg_sl av).length ≤ mL)
    (body : ∀ (p : Program) (e : Env) (s : State) (m : MethodId) (args : Array Value) (below : List Frame) (meth : Method) (c : Code) (ls : Array Slot) (Qz : State → Prop), Ev p s m args meth c b mL own (some .int) X Γ H0 → lv_has ls mL (lv_args 0 av) →
      (∀ (v : Int32) (H1 : Heap) (locs1 : List Loc) (pc : Nat) (ls1 : Array Slot), decode b pc = .ok (.ireturn, 1) → post v H1 → Conf X Γ H1 → va_S (AΓ Γ) H0 H1 locs1 → W p l e (rmL lv) s m args below meth c H1 locs1 0 0 Qz (F0 m pc ls1 [.int v])) →
      va_S (AΓ Γ) H0 H0 [] → W p l e (rmL lv) s m args below meth c H0 [] 0 0 Qz (F0 m 0 ls [])) : Ctr l X Γ y b mL (some .int) lv av H0 (QI X Γ post) :=
  q_enter hy hown hlen fun p e s m below meth c ls E hl => body p e s m _ below meth c ls _ E hl
    (fun v H1 locs1 pc ls1 hd hp hC hS => W.iret E.1 E.2.1 E.2.2.2.2.2.2.2 (fun t ht hW => ⟨⟨v, H1, rfl, hp, ht, hC⟩, hS.F0 E.2.2.2.2.2.1.1 ht⟩) hS.2.2 hd E.2.2.2.2.2.2.1) va_S.rf
theorem q_enterZ {post : Int32 → Heap → Prop} (hy : plainName y.cls = true) (hown : y.cls = own) (hlen : (lg_sl av).length ≤ mL)
    (body : ∀ (p : Program) (e : Env) (s : State) (m : MethodId) (args : Array Value) (below : List Frame) (meth : Method) (c : Code) (ls : Array Slot) (Qz : State → Prop), Ev p s m args meth c b mL own (some .boolean) X Γ H0 → lv_has ls mL (lv_args 0 av) →
      (∀ (v : Int32) (H1 : Heap) (locs1 : List Loc) (pc : Nat) (ls1 : Array Slot), decode b pc = .ok (.ireturn, 1) → (v = 0 ∨ v = 1) → post v H1 → Conf X Γ H1 → va_S (AΓ Γ) H0 H1 locs1 → W p l e (rmL lv) s m args below meth c H1 locs1 0 0 Qz (F0 m pc ls1 [.int v])) →
      va_S (AΓ Γ) H0 H0 [] → W p l e (rmL lv) s m args below meth c H0 [] 0 0 Qz (F0 m 0 ls [])) : Ctr l X Γ y b mL (some .boolean) lv av H0 (QI X Γ post) :=
  q_enter hy hown hlen fun p e s m below meth c ls E hl => body p e s m _ below meth c ls _ E hl
    (fun v H1 locs1 pc ls1 hd hz hp hC hS => W.zret E.1 E.2.1 E.2.2.2.2.2.2.2 (z_of hz) (fun t ht hW => ⟨⟨v, H1, rfl, hp, ht, hC⟩, hS.F0 E.2.2.2.2.2.1.1 ht⟩) hS.2.2 hd E.2.2.2.2.2.2.1) va_S.rf
theorem q_enterJ {post : Int64 → Heap → Prop} (hy : plainName y.cls = true) (hown : y.cls = own) (hlen : (lg_sl av).length ≤ mL)
    (body : ∀ (p : Program) (e : Env) (s : State) (m : MethodId) (args : Array Value) (below : List Frame) (meth : Method) (c : Code) (ls : Array Slot) (Qz : State → Prop), Ev p s m args meth c b mL own (some .long) X Γ H0 → lv_has ls mL (lv_args 0 av) →
      (∀ (v : Int64) (H1 : Heap) (locs1 : List Loc) (pc : Nat) (ls1 : Array Slot), decode b pc = .ok (.lreturn, 1) → post v H1 → Conf X Γ H1 → va_S (AΓ Γ) H0 H1 locs1 → W p l e (rmL lv) s m args below meth c H1 locs1 0 0 Qz (F0 m pc ls1 [.long v])) →
      va_S (AΓ Γ) H0 H0 [] → W p l e (rmL lv) s m args below meth c H0 [] 0 0 Qz (F0 m 0 ls [])) : Ctr l X Γ y b mL (some .long) lv av H0 (QJ X Γ post) :=
  q_enter hy hown hlen fun p e s m below meth c ls E hl => body p e s m _ below meth c ls _ E hl
    (fun v H1 locs1 pc ls1 hd hp hC hS => W.lret E.1 E.2.1 E.2.2.2.2.2.2.2 (fun t ht hW => ⟨⟨v, H1, rfl, hp, ht, hC⟩, hS.F0 E.2.2.2.2.2.1.1 ht⟩) hS.2.2 hd E.2.2.2.2.2.2.1) va_S.rf
theorem q_enterV {post : Heap → Prop} (hy : plainName y.cls = true) (hown : y.cls = own) (hlen : (lg_sl av).length ≤ mL)
    (body : ∀ (p : Program) (e : Env) (s : State) (m : MethodId) (args : Array Value) (below : List Frame) (meth : Method) (c : Code) (ls : Array Slot) (Qz : State → Prop), Ev p s m args meth c b mL own none X Γ H0 → lv_has ls mL (lv_args 0 av) →
      (∀ (H1 : Heap) (locs1 : List Loc) (pc : Nat) (ls1 : Array Slot), decode b pc = .ok (.return_, 1) → post H1 → Conf X Γ H1 → va_S (AΓ Γ) H0 H1 locs1 → W p l e (rmL lv) s m args below meth c H1 locs1 0 0 Qz (F0 m pc ls1 [])) →
      va_S (AΓ Γ) H0 H0 [] → W p l e (rmL lv) s m args below meth c H0 [] 0 0 Qz (F0 m 0 ls [])) : Ctr l X Γ y b mL none lv av H0 (QV X Γ post) :=
  q_enter hy hown hlen fun p e s m below meth c ls E hl => body p e s m _ below meth c ls _ E hl
    (fun H1 locs1 pc ls1 hd hp hC hS => W.vret E.1 E.2.1 E.2.2.2.2.2.2.2 (fun t ht hW => ⟨⟨H1, rfl, hp, ht, hC⟩, hS.F0 E.2.2.2.2.2.1.1 ht⟩) hS.2.2 hd E.2.2.2.2.2.2.1) va_S.rf
theorem q_enterQ {C : String} {post : Option Nat → Heap → Prop} (hy : plainName y.cls = true) (hown : y.cls = own) (hlen : (lg_sl av).length ≤ mL)
    (body : ∀ (p : Program) (e : Env) (s : State) (m : MethodId) (args : Array Value) (below : List Frame) (meth : Method) (c : Code) (ls : Array Slot) (Qz : State → Prop), Ev p s m args meth c b mL own (some (.object C)) X Γ H0 → lv_has ls mL (lv_args 0 av) →
      (∀ (o : Option Nat) (H1 : Heap) (locs1 : List Loc) (pc : Nat) (ls1 : Array Slot), decode b pc = .ok (.areturn, 1) → post o H1 → Conf X Γ H1 → va_S (AΓ Γ) H0 H1 locs1 → W p l e (rmL lv) s m args below meth c H1 locs1 0 0 Qz (F0 m pc ls1 [va_rf o])) →
      va_S (AΓ Γ) H0 H0 [] → W p l e (rmL lv) s m args below meth c H0 [] 0 0 Qz (F0 m 0 ls [])) : Ctr l X Γ y b mL (some (.object C)) lv av H0 (QQ X Γ post) :=
  q_enter hy hown hlen fun p e s m below meth c ls E hl => body p e s m _ below meth c ls _ E hl
    (fun o H1 locs1 pc ls1 hd hp hC hS => W.aret E.1 E.2.1 E.2.2.2.2.2.2.2 (Or.inl ⟨_, rfl⟩) (by cases o with | none => exact Or.inl rfl | some q => exact Or.inr ⟨q, rfl⟩) (fun t ht hW => ⟨⟨o, H1, rfl, hp, ht, hC⟩, hS.F0 E.2.2.2.2.2.1.1 ht⟩) hS.2.2 hd E.2.2.2.2.2.2.1) va_S.rf
end FRE
section FRP
variable {p : Program} {s : State} {m : MethodId} {args : Array Value} {meth : Method} {c : Code} {H H0 H1 Hs : Heap} {cc : ByteArray} {mL : Nat} {own : String} {ret : Option FieldType} {X : xW} {Γ : Nat → Option Nat}
theorem Kp.upO (E : Ev p s m args meth c cc mL own ret X Γ H0) {gs : List Nat} {a r ci k index : Nat} {ft : xT} {ty : FieldType} {v : Value} (ha : Γ a = some r) (hf : FP own index r ci k ft ty) (hp : (gs.any fun g => gF g r k) = false) (hU : Up H H1 a (X.1.2 ci k) v) (h : Kp X Γ gs Hs H) : Kp X Γ gs Hs H1 := by
  intro a' r' ha' j hj
  rw [← h a' r' ha' j hj]
  refine hU.2 a' j fun hh => ?_
  obtain ⟨rfl, rfl⟩ := hh
  have hrr : r' = r := Option.some.inj (ha'.symm.trans ha)
  subst hrr
  obtain ⟨fts, C, T, N, hr, hk, hc, hkN, hlen, -⟩ := hf
  unfold pr at hj
  rcases hj with ⟨h1, -⟩ | ⟨h1, -⟩ | ⟨h1, -⟩ | hj
  · subst h1; cases hr
  · subst h1; cases hr
  · subst h1; cases hr
  · rw [hr] at hj
    obtain ⟨k', h1, h2, h3⟩ := hj
    by_cases hkk : k' = k
    · subst hkk; rw [hp] at h2; cases h2
    · exact E.2.2.2.2.2.1.2.2.1 ci _ hc k k' hkN (hlen ▸ h1) (fun q => hkk q.symm) h3
theorem pr_arr {gs : List Nat} {r j : Nat} (hr : kO r = none) (hp : (gs.any fun g => gF g r 0) = false) (h64 : r = 64 → (gs.contains 10 = true → ¬ dpc j) ∧ (gs.contains 16 = true → ¬ dpu j) ∧ (gs.contains 17 = true → ¬ dpn j)) : ¬ pr X gs r j := by
  intro hj
  rcases hj with ⟨h1, h2, h3⟩ | ⟨h1, h2, h3⟩ | ⟨h1, h2, h3⟩ | hj
  · exact (h64 h1).1 h2 h3
  · exact (h64 h1).2.1 h2 h3
  · exact (h64 h1).2.2 h2 h3
  · rw [hr] at hj
    simp only at hj
    rw [hp] at hj
    cases hj
theorem Kp.upD {gs : List Nat} {a r : Nat} {j : Nat} {v : Value} (ha : Γ a = some r) (hr : kO r = none) (hp : (gs.any fun g => gF g r 0) = false) (h64 : r = 64 → (gs.contains 10 = true → ¬ dpc j) ∧ (gs.contains 16 = true → ¬ dpu j) ∧ (gs.contains 17 = true → ¬ dpn j)) (hU : Up H H1 a j v) (h : Kp X Γ gs Hs H) : Kp X Γ gs Hs H1 := by
  intro a' r' ha' j' hj
  rw [← h a' r' ha' j' hj]
  refine hU.2 a' j' fun hh => ?_
  obtain ⟨rfl, rfl⟩ := hh
  have hrr : r' = r := Option.some.inj (ha'.symm.trans ha)
  subst hrr
  exact pr_arr hr hp h64 hj
theorem Kp.upA {gs : List Nat} {a r : Nat} {j : Nat} {v : Value} (ha : Γ a = some r) (hr : kO r = none) (h64 : r ≠ 64) (hp : (gs.any fun g => gF g r 0) = false) (hU : Up H H1 a j v) (h : Kp X Γ gs Hs H) : Kp X Γ gs Hs H1 := Kp.upD ha hr hp (fun h => absurd h h64) hU h
theorem up_I {H H1 : Heap} {a j : Nat} {v : Int32} (h : Up H H1 a j (.int v)) : sI H1 a j = v := by simp [sI, h.1]
theorem up_J {H H1 : Heap} {a j : Nat} {v : Int64} (h : Up H H1 a j (.long v)) : sJ H1 a j = v := by simp [sJ, h.1]
theorem up_R {H H1 : Heap} {a j q : Nat} (h : Up H H1 a j (.ref q)) : sR H1 a j = some q := by simp [sR, h.1]
theorem up_nI {H H1 : Heap} {a j a' j' : Nat} {v : Value} (h : Up H H1 a j v) (hne : ¬ (a' = a ∧ j' = j)) : sI H1 a' j' = sI H a' j' := by simp [sI, h.2 a' j' hne]
theorem up_nJ {H H1 : Heap} {a j a' j' : Nat} {v : Value} (h : Up H H1 a j v) (hne : ¬ (a' = a ∧ j' = j)) : sJ H1 a' j' = sJ H a' j' := by simp [sJ, h.2 a' j' hne]
theorem up_nR {H H1 : Heap} {a j a' j' : Nat} {v : Value} (h : Up H H1 a j v) (hne : ¬ (a' = a ∧ j' = j)) : sR H1 a' j' = sR H a' j' := by simp [sR, h.2 a' j' hne]
/-- two fields of one class lie apart -/
theorem fapart (E : Ev p s m args meth c cc mL own ret X Γ H0) (ci k k' : Nat) {C : String} {T : u_T} {N : Nat} (hc : vwCl[ci]? = some (C, T, N)) (h1 : k < N) (h2 : k' < N) (hne : k ≠ k') : X.1.2 ci k ≠ X.1.2 ci k' := E.2.2.2.2.2.1.2.2.1 ci _ hc k k' h1 h2 hne
end FRP

section FRX
variable {p : Program} {l : Launch} {e : Env} {s : State} {m : MethodId} {args : Array Value} {below : List Frame} {meth : Method} {c : Code} {H H0 H1 Hs : Heap} {locs : List Loc} {Q : State → Prop}
variable {cc : ByteArray} {pc mL lv index : Nat} {own : String} {ret : Option FieldType} {ls : Array Slot} {st rest : List Value} {X : xW} {Γ : Nat → Option Nat}
theorem q_goIp {a : Array Value} {R1 : Int32 → Prop} (hr : va_Run p l e (rmL lv) s m args below meth c H locs 0 0 0 0 (F0 m pc ls st) rest (QI X Γ (fun v H1 => H1 = H ∧ R1 v) a) (AΓ Γ)) (hS : va_S (AΓ Γ) H0 H locs)
    (kk : ∀ (v : Int32) (locs1 : List Loc), R1 v → va_S (AΓ Γ) H0 H locs1 → W p l e (rmL lv) s m args below meth c H locs1 0 0 Q (F0 m (pc + 3) ls (.int v :: rest))) : W p l e (rmL lv) s m args below meth c H locs 0 0 Q (F0 m pc ls st) :=
  q_goI hr hS fun v H1 locs1 hp _ hS1 => by
    obtain ⟨rfl, h2⟩ := hp
    exact kk v locs1 h2 hS1
theorem q_goJp {a : Array Value} {R1 : Int64 → Prop} (hr : va_Run p l e (rmL lv) s m args below meth c H locs 0 0 0 0 (F0 m pc ls st) rest (QJ X Γ (fun v H1 => H1 = H ∧ R1 v) a) (AΓ Γ)) (hS : va_S (AΓ Γ) H0 H locs)
    (kk : ∀ (v : Int64) (locs1 : List Loc), R1 v → va_S (AΓ Γ) H0 H locs1 → W p l e (rmL lv) s m args below meth c H locs1 0 0 Q (F0 m (pc + 3) ls (.long v :: rest))) : W p l e (rmL lv) s m args below meth c H locs 0 0 Q (F0 m pc ls st) :=
  q_goJ hr hS fun v H1 locs1 hp _ hS1 => by
    obtain ⟨rfl, h2⟩ := hp
    exact kk v locs1 h2 hS1
theorem q_goQp {a : Array Value} {R1 : Option Nat → Prop} (hr : va_Run p l e (rmL lv) s m args below meth c H locs 0 0 0 0 (F0 m pc ls st) rest (QQ X Γ (fun v H1 => H1 = H ∧ R1 v) a) (AΓ Γ)) (hS : va_S (AΓ Γ) H0 H locs)
    (kk : ∀ (v : Option Nat) (locs1 : List Loc), R1 v → va_S (AΓ Γ) H0 H locs1 → W p l e (rmL lv) s m args below meth c H locs1 0 0 Q (F0 m (pc + 3) ls (va_rf v :: rest))) : W p l e (rmL lv) s m args below meth c H locs 0 0 Q (F0 m pc ls st) :=
  q_goQ hr hS fun v H1 locs1 hp _ hS1 => by
    obtain ⟨rfl, h2⟩ := hp
    exact kk v locs1 h2 hS1
theorem q_goVp {a : Array Value} (hr : va_Run p l e (rmL lv) s m args below meth c H locs 0 0 0 0 (F0 m pc ls st) rest (QV X Γ (fun H1 => H1 = H) a) (AΓ Γ)) (hS : va_S (AΓ Γ) H0 H locs)
    (kk : ∀ (locs1 : List Loc), va_S (AΓ Γ) H0 H locs1 → W p l e (rmL lv) s m args below meth c H locs1 0 0 Q (F0 m (pc + 3) ls rest)) : W p l e (rmL lv) s m args below meth c H locs 0 0 Q (F0 m pc ls st) :=
  q_goV hr hS fun H1 locs1 hp _ hS1 => by
    obtain rfl := hp
    exact kk locs1 hS1
theorem ne_k {a a' r r' j j' : Nat} (g' : Γ a' = some r') (g : Γ a = some r) (h : r' ≠ r) : ¬ (a' = a ∧ j' = j) := fun q => by
  obtain ⟨rfl, -⟩ := q
  exact h (Option.some.inj (g'.symm.trans g))
theorem ne_f (E : Ev p s m args meth c cc mL own ret X Γ H0) {a a' : Nat} (ci k' k : Nat) {C : String} {T : u_T} {N : Nat} (hc : vwCl[ci]? = some (C, T, N)) (h1 : k' < N) (h2 : k < N) (hne : k' ≠ k) : ¬ (a' = a ∧ X.1.2 ci k' = X.1.2 ci k) := fun q => fapart E ci k' k hc h1 h2 hne q.2
theorem q_mmin (E : Ev p s m args meth c cc mL own ret X Γ H0) (hsz : ls.size = mL) (hl : Cond.methodLink own index Lib.Math.min.name ∈ GW) (hw : Cond.static Lib.Math.min.name ∈ GW ∧ Cond.initialized "java/lang/Math" ∈ GW ∧ Cond.code Lib.Math.min.name Lib.Math.min.code 2 (some .int) ∈ GW) {x y : Int32} {a b : Int} (ha : x.toInt = a) (hb : y.toInt = b) (hlv : 1 ≤ lv) (hcat : (rest.map fun v => v.category).sum ≤ 8) (hdg : decode cc pc = .ok (.invokestatic index, 3))
    (kk : ∀ v : Int32, v.toInt ≤ a → v.toInt ≤ b → (v.toInt = a ∨ v.toInt = b) → W p l e (rmL lv) s m args below meth c H locs 0 0 Q (F0 m (pc + 3) ls (.int v :: rest))) : W p l e (rmL lv) s m args below meth c H locs 0 0 Q (F0 m pc ls (.int y :: .int x :: rest)) := by
  have hts := E.2.2.2.2.1
  have h := i_min (z := if y < x then y else x) rfl ha hb
  exact va_mmin E.1 E.2.1 (E.2.2.1.trans hsz.symm) E.2.2.2.1 (hts _ hl) (hts _ hw.1) (hts _ hw.2.1) (hts _ hw.2.2) hlv (by show _ + 13 ≤ 48 * lv; omega) (Nat.zero_le _) (Nat.zero_le _) hdg (kk _ h.1 h.2.1 h.2.2)
theorem q_mmax (E : Ev p s m args meth c cc mL own ret X Γ H0) (hsz : ls.size = mL) (hl : Cond.methodLink own index Lib.Math.max.name ∈ GW) (hw : Cond.static Lib.Math.max.name ∈ GW ∧ Cond.initialized "java/lang/Math" ∈ GW ∧ Cond.code Lib.Math.max.name Lib.Math.max.code 2 (some .int) ∈ GW) {x y : Int32} {a b : Int} (ha : x.toInt = a) (hb : y.toInt = b) (hlv : 1 ≤ lv) (hcat : (rest.map fun v => v.category).sum ≤ 8) (hdg : decode cc pc = .ok (.invokestatic index, 3))
    (kk : ∀ v : Int32, a ≤ v.toInt → b ≤ v.toInt → (v.toInt = a ∨ v.toInt = b) → W p l e (rmL lv) s m args below meth c H locs 0 0 Q (F0 m (pc + 3) ls (.int v :: rest))) : W p l e (rmL lv) s m args below meth c H locs 0 0 Q (F0 m pc ls (.int y :: .int x :: rest)) := by
  have hts := E.2.2.2.2.1
  have h := i_max (z := if x < y then y else x) rfl ha hb
  exact va_mmax E.1 E.2.1 (E.2.2.1.trans hsz.symm) E.2.2.2.1 (hts _ hl) (hts _ hw.1) (hts _ hw.2.1) (hts _ hw.2.2) hlv (by show _ + 13 ≤ 48 * lv; omega) (Nat.zero_le _) (Nat.zero_le _) hdg (kk _ h.1 h.2.1 h.2.2)
theorem q_mabs (E : Ev p s m args meth c cc mL own ret X Γ H0) (hsz : ls.size = mL) (hl : Cond.methodLink own index Lib.Math.abs.name ∈ GW) (hw : Cond.static Lib.Math.abs.name ∈ GW ∧ Cond.initialized "java/lang/Math" ∈ GW ∧ Cond.code Lib.Math.abs.name Lib.Math.abs.code 1 (some .int) ∈ GW) {x : Int32} (hlv : 1 ≤ lv) (hcat : (rest.map fun v => v.category).sum ≤ 8) (hdg : decode cc pc = .ok (.invokestatic index, 3))
    (kk : ∀ v : Int32, W p l e (rmL lv) s m args below meth c H locs 0 0 Q (F0 m (pc + 3) ls (.int v :: rest))) : W p l e (rmL lv) s m args below meth c H locs 0 0 Q (F0 m pc ls (.int x :: rest)) := by
  have hts := E.2.2.2.2.1
  exact va_mabs E.1 E.2.1 (E.2.2.1.trans hsz.symm) E.2.2.2.1 (hts _ hl) (hts _ hw.1) (hts _ hw.2.1) (hts _ hw.2.2) hlv (by show _ + 13 ≤ 48 * lv; omega) (Nat.zero_le _) (Nat.zero_le _) hdg (kk _)
/-- the constants' rows -/
theorem q_stRIGHT (E : Ev p s m args meth c cc mL own ret X Γ H0) (hS : va_S (AΓ Γ) H0 H locs) (hl : Cond.fieldLink own index "SnowForts$Walk" "RIGHT" "[I" ∈ GW) (hdg : decode cc pc = .ok (.getstatic index, 3))
    (kk : ∀ q : Nat, va_T .int q 4 fRIGHT (AΓ Γ) s s.heap → W p l e (rmL lv) s m args below meth c H locs 0 0 Q (F0 m (pc + 3) ls (.ref q :: rest))) : W p l e (rmL lv) s m args below meth c H locs 0 0 Q (F0 m pc ls rest) := by
  obtain ⟨hx, hb, hml, hown, hts, ⟨hH, -, -, -, tR, tD, tA, h1, h2, -⟩, -⟩ := E
  subst hH
  exact va_gets hx hb h1 hS hown (hts _ hl) (fun _ h => h) hdg (kk _ h2)
theorem q_stDOWN (E : Ev p s m args meth c cc mL own ret X Γ H0) (hS : va_S (AΓ Γ) H0 H locs) (hl : Cond.fieldLink own index "SnowForts$Walk" "DOWN" "[I" ∈ GW) (hdg : decode cc pc = .ok (.getstatic index, 3))
    (kk : ∀ q : Nat, va_T .int q 4 fDOWN (AΓ Γ) s s.heap → W p l e (rmL lv) s m args below meth c H locs 0 0 Q (F0 m (pc + 3) ls (.ref q :: rest))) : W p l e (rmL lv) s m args below meth c H locs 0 0 Q (F0 m pc ls rest) := by
  obtain ⟨hx, hb, hml, hown, hts, ⟨hH, -, -, -, tR, tD, tA, -, -, h1, h2, -⟩, -⟩ := E
  subst hH
  exact va_gets hx hb h1 hS hown (hts _ hl) (fun _ h => h) hdg (kk _ h2)
theorem q_ldRIGHT (E : Ev p s m args meth c cc mL own ret X Γ H0) (hS : va_S (AΓ Γ) H0 H locs) {q : Nat} (hT : va_T .int q 4 fRIGHT (AΓ Γ) s s.heap) {i : Int32} {a : Int} (ha : i.toInt = a) (h0 : 0 ≤ a) (h1 : a < 4) (hdg : decode cc pc = .ok (.iaload, 1))
    (kk : ∀ v : Int32, -1 ≤ v.toInt → v.toInt ≤ 1 → v.toInt = rR a → W p l e (rmL lv) s m args below meth c H locs 0 0 Q (F0 m (pc + 1) ls (.int v :: rest))) : W p l e (rmL lv) s m args below meth c H locs 0 0 Q (F0 m pc ls (.int i :: .ref q :: rest)) := by
  obtain ⟨hx, hb, hml, hown, hts, ⟨hH, -⟩, -⟩ := E
  subst hH
  have hf : ∃ v : Int32, fRIGHT i.toNatClampNeg = .int v ∧ -1 ≤ v.toInt ∧ v.toInt ≤ 1 ∧ v.toInt = rR a := by
    rw [i_ix ha]
    rcases (show a = 0 ∨ a = 1 ∨ a = 2 ∨ a = 3 by omega) with rfl | rfl | rfl | rfl <;> exact ⟨_, rfl, by decide, by decide, by decide⟩
  obtain ⟨v, hv, b1, b2, b3⟩ := hf
  exact va_ti hx hb hT hS (i_in ha h0 h1) hv hdg (kk v b1 b2 b3)
theorem q_ldDOWN (E : Ev p s m args meth c cc mL own ret X Γ H0) (hS : va_S (AΓ Γ) H0 H locs) {q : Nat} (hT : va_T .int q 4 fDOWN (AΓ Γ) s s.heap) {i : Int32} {a : Int} (ha : i.toInt = a) (h0 : 0 ≤ a) (h1 : a < 4) (hdg : decode cc pc = .ok (.iaload, 1))
    (kk : ∀ v : Int32, -1 ≤ v.toInt → v.toInt ≤ 1 → v.toInt = rD a → W p l e (rmL lv) s m args below meth c H locs 0 0 Q (F0 m (pc + 1) ls (.int v :: rest))) : W p l e (rmL lv) s m args below meth c H locs 0 0 Q (F0 m pc ls (.int i :: .ref q :: rest)) := by
  obtain ⟨hx, hb, hml, hown, hts, ⟨hH, -⟩, -⟩ := E
  subst hH
  have hf : ∃ v : Int32, fDOWN i.toNatClampNeg = .int v ∧ -1 ≤ v.toInt ∧ v.toInt ≤ 1 ∧ v.toInt = rD a := by
    rw [i_ix ha]
    rcases (show a = 0 ∨ a = 1 ∨ a = 2 ∨ a = 3 by omega) with rfl | rfl | rfl | rfl <;> exact ⟨_, rfl, by decide, by decide, by decide⟩
  obtain ⟨v, hv, b1, b2, b3⟩ := hf
  exact va_ti hx hb hT hS (i_in ha h0 h1) hv hdg (kk v b1 b2 b3)
def TAll (X : xW) (Γ : Nat → Option Nat) (s : State) (q : Nat) : Prop := va_T (.object "SnowForts$Word") q 29 (fun i => .ref (wad X i)) (AΓ Γ) s s.heap ∧ ∀ i, i < 29 → Γ (wad X i) = some 12
theorem q_stALL (E : Ev p s m args meth c cc mL own ret X Γ H0) (hS : va_S (AΓ Γ) H0 H locs) (hl : Cond.fieldLink own index "SnowForts$Word" "ALL" "[LSnowForts$Word;" ∈ GW) (hdg : decode cc pc = .ok (.getstatic index, 3))
    (kk : ∀ q : Nat, TAll X Γ s q → W p l e (rmL lv) s m args below meth c H locs 0 0 Q (F0 m (pc + 3) ls (.ref q :: rest))) : W p l e (rmL lv) s m args below meth c H locs 0 0 Q (F0 m pc ls rest) := by
  obtain ⟨hx, hb, hml, hown, hts, ⟨hH, -, -, -, tR, tD, tA, -, -, -, -, h5, h1, h2, -⟩, -⟩ := E
  subst hH
  exact va_gets hx hb h1 hS hown (hts _ hl) (fun _ h => h) hdg (kk _ ⟨h2, fun i hi => (h5 i hi).2⟩)
theorem q_lenALL (E : Ev p s m args meth c cc mL own ret X Γ H0) (hS : va_S (AΓ Γ) H0 H locs) {q : Nat} (hT : TAll X Γ s q) (hdg : decode cc pc = .ok (.arraylength, 1))
    (kk : W p l e (rmL lv) s m args below meth c H locs 0 0 Q (F0 m (pc + 1) ls (.int 29 :: rest))) : W p l e (rmL lv) s m args below meth c H locs 0 0 Q (F0 m pc ls (.ref q :: rest)) := by
  obtain ⟨hx, hb, hml, hown, hts, ⟨hH, -⟩, -⟩ := E
  subst hH
  obtain ⟨⟨cell, h1, h2, h3, h4, h5, h6, h7⟩, -⟩ := hT
  exact W.alen hx hb (by rw [hS.2.1 q (Array.getElem?_eq_some_iff.mp h1).1 h7]; exact h1) h2 (by rw [h5]; rfl) rfl rfl hdg kk
theorem q_ldALL (E : Ev p s m args meth c cc mL own ret X Γ H0) (hS : va_S (AΓ Γ) H0 H locs) {q : Nat} (hT : TAll X Γ s q) {i : Int32} {a : Int} (ha : i.toInt = a) (h0 : 0 ≤ a) (h29 : a < 29) (hdg : decode cc pc = .ok (.aaload, 1))
    (kk : Γ (wad X a.toNat) = some 12 → W p l e (rmL lv) s m args below meth c H locs 0 0 Q (F0 m (pc + 1) ls (.ref (wad X a.toNat) :: rest))) : W p l e (rmL lv) s m args below meth c H locs 0 0 Q (F0 m pc ls (.int i :: .ref q :: rest)) := by
  obtain ⟨hx, hb, hml, hown, hts, ⟨hH, -⟩, -⟩ := E
  subst hH
  obtain ⟨h1, h2⟩ := hT
  refine vb_tq hx hb h1 hS (i_in ha h0 h29) rfl hdg ?_
  rw [i_ix ha]
  exact kk (h2 _ (by omega))
theorem q_letters (E : Ev p s m args meth c cc mL own ret X Γ H0) (hS : va_S (AΓ Γ) H0 H locs) {w : Nat} (hw : Γ w = some 12) (hl : Cond.fieldLink own index "SnowForts$Word" "letters" "J" ∈ GW) (hdg : decode cc pc = .ok (.getfield index, 3))
    (kk : ∀ (j : Nat), j < 29 → w = wad X j → W p l e (rmL lv) s m args below meth c H locs 0 0 Q (F0 m (pc + 3) ls (.long (kwN j) :: rest))) : W p l e (rmL lv) s m args below meth c H locs 0 0 Q (F0 m pc ls (.ref w :: rest)) := by
  obtain ⟨hx, hb, hml, hown, hts, ⟨hH, -, -, -, tR, tD, tA, -, -, -, -, -, -, -, h8, h9, -⟩, -⟩ := E
  subst hH
  obtain ⟨i, hi, rfl⟩ := (h8 w hw).2
  exact va_getX (v := fun i => .long (kwN i)) hx hb h9 hi hS hown (hts _ hl) (fun _ h => h) hdg (kk i hi rfl)
/-- the same word just if the letters are the same -/
theorem wad_inj (E : Ev p s m args meth c cc mL own ret X Γ H0) {i j : Nat} (hi : i < 29) (hj : j < 29) (h : wad X i = wad X j) : kwN i = kwN j := by
  obtain ⟨-, -, -, -, -, ⟨-, -, -, -, tR, tD, tA, -, -, -, -, -, -, -, -, h9, -⟩, -⟩ := E
  obtain ⟨cf, k, fi, f, cell, a1, a2, a3, a4, a5, a6⟩ := h9 i hi
  obtain ⟨cf', k', fi', f', cell', b1, b2, b3, b4, b5, b6⟩ := h9 j hj
  have e1 := Option.some.inj (a1.symm.trans b1)
  have ef : f = f' := congrArg (fun q => q.2.2.2) e1
  have ec := Option.some.inj (a3.symm.trans ((congrArg (fun q => H0[q]?) h).trans b3))
  subst ef
  subst ec
  have e5 := Option.some.inj (a5.symm.trans b5)
  exact Value.long.inj e5
/-- System.arraycopy between rows of one type -/
def Cp (H H1 : Heap) (a : Nat) : Prop := ∀ q, q ≠ a → ∀ j, sv H1 q j = sv H q j
/-- what stands there then -/
def Cpc (H H1 : Heap) (a0 a1 : Nat) (a b d : Int) (n1 : Nat) : Prop := ∀ j : Nat, j < n1 → sv H1 a1 j = if b ≤ (j : Int) ∧ (j : Int) < b + d then sv H a0 (a + ((j : Int) - b)).toNat else sv H a1 j
theorem Conf.cp {a r t n : Nat} {F : Nat → xT} {z : Nat → Value} (hC : Conf X Γ H) (ha : Γ a = some r) (hr : kO r = none) (hA : kA r = some (t, n, F)) (hz : ∀ j, j < n → tv Γ (F j) (z j)) (h1 : H1[a]? = some (arrV (X.2 t) n z)) (h2 : ∀ q, q ≠ a → H1[q]? = H[q]?) : Conf X Γ H1 := by
  intro a' r' h'
  by_cases hq : a' = a
  · subst hq
    have hrr : r' = r := Option.some.inj (h'.symm.trans ha)
    subst hrr
    unfold okc
    rw [hr]
    simp only [hA]
    exact ⟨z, h1, hz⟩
  · exact (hC a' r' h').kept (h2 a' hq)
theorem q_copyT {t : Nat} {ty : FieldType} {ft : xT} (E : Ev p s m args meth c cc mL own ret X Γ H0) (hsz : ls.size = mL) (hl : Cond.methodLink own index arraycopyName ∈ GW) (hw : Cond.native arraycopyName ∈ GW ∧ Cond.static arraycopyName ∈ GW ∧ Cond.initialized "java/lang/System" ∈ GW) (hC : Conf X Γ H) (hS : va_S (AΓ Γ) H0 H locs) {a0 a1 r0 r1 n0 n1 : Nat} (g0 : Γ a0 = some r0) (g1 : Γ a1 = some r1) (hw1 : r1 ≠ 12) (hr0 : kO r0 = none) (hr1 : kO r1 = none) {Fa Fb : Nat → xT} (hA0 : kA r0 = some (t, n0, Fa)) (hA1 : kA r1 = some (t, n1, Fb)) (hF0 : ∀ j, Fa j = ft) (hF1 : ∀ j, Fb j = ft) (ht : (xty X)[t]? = some (X.2 t, ty)) (hprim : refKind ty = false)
    (hfit : ∀ v, tv Γ ft v → fits ty v = true ∧ ((∃ i, v = .int i) ∨ ∃ i, v = .long i)) {sp dp n : Int32} {a b d : Int} (ha : sp.toInt = a) (hb : dp.toInt = b) (hd : n.toInt = d) (h1 : 0 ≤ a) (h2 : 0 ≤ b) (h3 : 0 ≤ d) (h4 : a + d ≤ n0) (h5 : b + d ≤ n1) (hlv : 1 ≤ lv) (hcat : (rest.map fun v => v.category).sum ≤ 8) (hdg : decode cc pc = .ok (.invokestatic index, 3))
    (kk : ∀ (H1 : Heap) (locs1 : List Loc), Conf X Γ H1 → va_S (AΓ Γ) H0 H1 locs1 → Cp H H1 a1 ∧ Cpc H H1 a0 a1 a b d n1 → W p l e (rmL lv) s m args below meth c H1 locs1 0 0 Q (F0 m (pc + 3) ls rest)) : W p l e (rmL lv) s m args below meth c H locs 0 0 Q (F0 m pc ls (.int n :: .int dp :: .ref a1 :: .int sp :: .ref a0 :: rest)) := by
  have hz : ∀ (z : Int32) (q : Int), z.toInt = q → 0 ≤ q → z.toInt = (z.toNatClampNeg : Int) := fun z q e1 e2 => by
    show z.toInt = ((z.toInt.toNat : Nat) : Int)
    omega
  have hnn : ∀ (z : Int32) (q : Int), z.toInt = q → 0 ≤ q → ¬ z < 0 := fun z q e1 e2 h => by
    have h := (c_lt e1 (show (0 : Int32).toInt = 0 by decide)).mp h
    omega
  have s1 := hz sp a ha h1
  have s2 := hz dp b hb h2
  have s3 := hz n d hd h3
  obtain ⟨z0, k1, k2, k3⟩ := q_arr E hC g0 hr0 hA0 ht
  obtain ⟨z1, k4, k5, k6⟩ := q_arr E hC g1 hr1 hA1 ht
  obtain ⟨-, kc0, hk0, cm0, hkk0⟩ := k3
  obtain ⟨-, kc1, hk1, cm1, hkk1⟩ := k6
  have hts := E.2.2.2.2.1
  have hlt : sp.toNatClampNeg + n.toNatClampNeg ≤ n0 := by omega
  intro T hT X'
  obtain ⟨vm', X2, step⟩ := X'.arraycopy E.1 E.2.2.2.1 (hts _ hl) (hts _ hw.1) (hts _ hw.2.1) (hts _ hw.2.2) (src := a0) (dst := a1) (cs := arrV (X.2 t) n0 z0) (cd := arrV (X.2 t) n1 z1) (srcPos := sp) (destPos := dp) (n := n) (by rw [hT]; exact k1) (by rw [hT]; exact k4)
    (fun _ h => by cases h) (fun _ h => by cases h) (fun h => by cases h) (fun h => by cases h) hk0 hk1 hkk0 hkk1 (by simp [hprim]) (hnn sp a ha h1) (hnn dp b hb h2) (hnn n d hd h3)
    (by rw [s1, s3, arrV_size]; omega) (by rw [s2, s3, arrV_size]; omega)
    (fun vm₁ _ i hi => by
      have e : (arrV (X.2 t) n0 z0).slots.getD (sp.toNatClampNeg + i) .null = z0 (sp.toNatClampNeg + i) := by
        rw [Array.getD_eq_getD_getElem?, arrV_read _ _ (by omega)]
        rfl
      obtain ⟨f1, f2⟩ := hfit _ (hF0 _ ▸ k2 (sp.toNatClampNeg + i) (by omega))
      rw [e]
      rcases f2 with ⟨v, hv⟩ | ⟨v, hv⟩ <;> rw [hv] at f1 ⊢ <;> exact ⟨f1, trivial⟩)
    (g := F0 m pc ls (.int n :: .int dp :: .ref a1 :: .int sp :: .ref a0 :: rest)) rfl (by rw [E.2.2.1]; exact hsz) (rest := rest) rfl (by rw [E.2.1]; exact hdg) hlv (by
      show 2 * 0 + _ + _ ≤ 48 * lv
      have : nativeFrameWords "java/lang/System" "arraycopy" 5 + 11 ≤ 40 := by decide
      omega)
  have e1 : copied (arrV (X.2 t) n0 z0) (arrV (X.2 t) n1 z1) sp dp n = arrV (X.2 t) n1 (va_cpy z0 z1 sp.toNatClampNeg dp.toNatClampNeg n.toNatClampNeg) := va_copied (fun z => z) _ _ z0 z1 hlt
  rw [e1] at X2 step
  have hl1 : a1 < H.size := (Array.getElem?_eq_some_iff.mp k4).1
  have hheap : ((T.setVm vm').setCell a1 (arrV (X.2 t) n1 (va_cpy z0 z1 sp.toNatClampNeg dp.toNatClampNeg n.toNatClampNeg))).heap = H.setIfInBounds a1 (arrV (X.2 t) n1 (va_cpy z0 z1 sp.toNatClampNeg dp.toNatClampNeg n.toNatClampNeg)) := by rw [← hT]; rfl
  have oq : ∀ q, q ≠ a1 → (H.setIfInBounds a1 (arrV (X.2 t) n1 (va_cpy z0 z1 sp.toNatClampNeg dp.toNatClampNeg n.toNatClampNeg)))[q]? = H[q]? := fun q hq => by simp [Array.getElem?_setIfInBounds, Ne.symm hq]
  have hz1 : ∀ j, j < n1 → tv Γ (Fb j) (va_cpy z0 z1 sp.toNatClampNeg dp.toNatClampNeg n.toNatClampNeg j) := fun j hj => by
    unfold va_cpy
    split
    · rw [hF1]; exact hF0 _ ▸ k2 _ (by omega)
    · exact k5 _ hj
  have hcc : Cpc H (H.setIfInBounds a1 (arrV (X.2 t) n1 (va_cpy z0 z1 sp.toNatClampNeg dp.toNatClampNeg n.toNatClampNeg))) a0 a1 a b d n1 := fun j hj => by
    have e5 : (H.setIfInBounds a1 (arrV (X.2 t) n1 (va_cpy z0 z1 sp.toNatClampNeg dp.toNatClampNeg n.toNatClampNeg)))[a1]? = some (arrV (X.2 t) n1 (va_cpy z0 z1 sp.toNatClampNeg dp.toNatClampNeg n.toNatClampNeg)) := by simp [Array.getElem?_setIfInBounds, hl1]
    have e6 : ∀ (G : Heap) (q k N : Nat) (z : Nat → Value), G[q]? = some (arrV (X.2 t) N z) → k < N → sv G q k = some (z k) := fun G q k N z g1 g2 => by
      unfold sv
      rw [g1, Option.bind_some, arrV_read _ _ g2]
    rw [e6 _ _ _ _ _ e5 hj, e6 _ _ _ _ _ k4 hj]
    unfold va_cpy
    split
    · rename_i hh
      rw [if_pos (by omega), e6 _ _ _ _ _ k1 (by omega)]
      congr 2
      omega
    · rename_i hh
      rw [if_neg (by omega)]
  obtain ⟨t2, a2, b2⟩ := kk _ _ (hC.cp g1 hr1 hA1 hz1 (by simp [Array.getElem?_setIfInBounds, hl1]) oq) ⟨by simp; exact hS.1, fun q q1 q2 => by
      rw [oq q (fun e => q2 (by rw [e]; exact ⟨r1, g1, hw1⟩))]
      exact hS.2.1 q q1 q2, fun q hq => by
      rcases List.mem_append.mp hq with h | h
      · exact hS.2.2 q h
      · obtain ⟨z, -, hz⟩ := List.mem_map.mp h
        rw [← hz]
        exact ⟨r1, g1, hw1⟩⟩ ⟨fun q hq j => by simp only [sv, oq q hq], hcc⟩ _ hheap X2
  exact ⟨t2, step t2 a2, b2⟩
theorem q_copyI (E : Ev p s m args meth c cc mL own ret X Γ H0) (hsz : ls.size = mL) (hl : Cond.methodLink own index arraycopyName ∈ GW) (hw : Cond.native arraycopyName ∈ GW ∧ Cond.static arraycopyName ∈ GW ∧ Cond.initialized "java/lang/System" ∈ GW) (hC : Conf X Γ H) (hS : va_S (AΓ Γ) H0 H locs) {a0 a1 r0 r1 n0 n1 : Nat} (g0 : Γ a0 = some r0) (g1 : Γ a1 = some r1) (hw1 : r1 ≠ 12) (hr0 : kO r0 = none) (hr1 : kO r1 = none) {lo hi : Int} {Fa Fb : Nat → xT} (hA0 : kA r0 = some (1, n0, Fa)) (hA1 : kA r1 = some (1, n1, Fb)) (hF0 : ∀ j, Fa j = (0, lo, hi)) (hF1 : ∀ j, Fb j = (0, lo, hi))
    {sp dp n : Int32} {a b d : Int} (ha : sp.toInt = a) (hb : dp.toInt = b) (hd : n.toInt = d) (h1 : 0 ≤ a) (h2 : 0 ≤ b) (h3 : 0 ≤ d) (h4 : a + d ≤ n0) (h5 : b + d ≤ n1) (hlv : 1 ≤ lv) (hcat : (rest.map fun v => v.category).sum ≤ 8) (hdg : decode cc pc = .ok (.invokestatic index, 3))
    (kk : ∀ (H1 : Heap) (locs1 : List Loc), Conf X Γ H1 → va_S (AΓ Γ) H0 H1 locs1 → Cp H H1 a1 ∧ Cpc H H1 a0 a1 a b d n1 → W p l e (rmL lv) s m args below meth c H1 locs1 0 0 Q (F0 m (pc + 3) ls rest)) : W p l e (rmL lv) s m args below meth c H locs 0 0 Q (F0 m pc ls (.int n :: .int dp :: .ref a1 :: .int sp :: .ref a0 :: rest)) :=
  q_copyT E hsz hl hw hC hS g0 g1 hw1 hr0 hr1 hA0 hA1 hF0 hF1 (ty := .int) rfl rfl (fun v hv => by obtain ⟨i, rfl, -⟩ := hv; exact ⟨rfl, Or.inl ⟨i, rfl⟩⟩) ha hb hd h1 h2 h3 h4 h5 hlv hcat hdg kk
theorem q_copyJ (E : Ev p s m args meth c cc mL own ret X Γ H0) (hsz : ls.size = mL) (hl : Cond.methodLink own index arraycopyName ∈ GW) (hw : Cond.native arraycopyName ∈ GW ∧ Cond.static arraycopyName ∈ GW ∧ Cond.initialized "java/lang/System" ∈ GW) (hC : Conf X Γ H) (hS : va_S (AΓ Γ) H0 H locs) {a0 a1 r0 r1 n0 n1 : Nat} (g0 : Γ a0 = some r0) (g1 : Γ a1 = some r1) (hw1 : r1 ≠ 12) (hr0 : kO r0 = none) (hr1 : kO r1 = none) {lo hi : Int} {Fa Fb : Nat → xT} (hA0 : kA r0 = some (2, n0, Fa)) (hA1 : kA r1 = some (2, n1, Fb)) (hF0 : ∀ j, Fa j = (1, lo, hi)) (hF1 : ∀ j, Fb j = (1, lo, hi))
    {sp dp n : Int32} {a b d : Int} (ha : sp.toInt = a) (hb : dp.toInt = b) (hd : n.toInt = d) (h1 : 0 ≤ a) (h2 : 0 ≤ b) (h3 : 0 ≤ d) (h4 : a + d ≤ n0) (h5 : b + d ≤ n1) (hlv : 1 ≤ lv) (hcat : (rest.map fun v => v.category).sum ≤ 8) (hdg : decode cc pc = .ok (.invokestatic index, 3))
    (kk : ∀ (H1 : Heap) (locs1 : List Loc), Conf X Γ H1 → va_S (AΓ Γ) H0 H1 locs1 → Cp H H1 a1 ∧ Cpc H H1 a0 a1 a b d n1 → W p l e (rmL lv) s m args below meth c H1 locs1 0 0 Q (F0 m (pc + 3) ls rest)) : W p l e (rmL lv) s m args below meth c H locs 0 0 Q (F0 m pc ls (.int n :: .int dp :: .ref a1 :: .int sp :: .ref a0 :: rest)) :=
  q_copyT E hsz hl hw hC hS g0 g1 hw1 hr0 hr1 hA0 hA1 hF0 hF1 (ty := .long) rfl rfl (fun v hv => by obtain ⟨i, rfl⟩ := hv; exact ⟨rfl, Or.inr ⟨i, rfl⟩⟩) ha hb hd h1 h2 h3 h4 h5 hlv hcat hdg kk
theorem Kp.upC {gs : List Nat} {a r : Nat} (ha : Γ a = some r) (hr : kO r = none) (h64 : r ≠ 64) (hp : (gs.any fun g => gF g r 0) = false) (hU : Cp H H1 a) (h : Kp X Γ gs Hs H) : Kp X Γ gs Hs H1 := by
  intro a' r' ha' j' hj
  rw [← h a' r' ha' j' hj]
  by_cases hq : a' = a
  · subst hq
    have hrr : r' = r := Option.some.inj (ha'.symm.trans ha)
    subst hrr
    exact absurd hj (pr_arr hr hp (fun h => absurd h h64))
  · exact hU a' hq j'
end FRX
theorem i_or01 {x y z : Int32} {a b : Int} (e : z = x ||| y) (ha : x.toInt = a) (hb : y.toInt = b) (h1 : 0 ≤ a) (h2 : a ≤ 1) (h3 : 0 ≤ b) (h4 : b ≤ 1) : 0 ≤ z.toInt ∧ z.toInt ≤ 1 := by
  have hx : x = 0 ∨ x = 1 := by
    rcases (show a = 0 ∨ a = 1 by omega) with h | h
    · exact Or.inl (Int32.toInt_inj.mp (by rw [ha, h]; decide))
    · exact Or.inr (Int32.toInt_inj.mp (by rw [ha, h]; decide))
  have hy : y = 0 ∨ y = 1 := by
    rcases (show b = 0 ∨ b = 1 by omega) with h | h
    · exact Or.inl (Int32.toInt_inj.mp (by rw [hb, h]; decide))
    · exact Or.inr (Int32.toInt_inj.mp (by rw [hb, h]; decide))
  rw [e]
  rcases hx with rfl | rfl <;> rcases hy with rfl | rfl <;> decide
theorem i_or2 {x y z : Int32} {a b : Int} (e : z = x ||| y) (ha : x.toInt = a) (hb : y.toInt = b) (h1 : 0 ≤ a) (h2 : a ≤ 1) (h3 : 0 ≤ b) (h4 : b ≤ 1) : (b = 0 → z.toInt = a) ∧ (b = 1 → z.toInt = 1) := by
  have hx : (a = 0 ∧ x = 0) ∨ (a = 1 ∧ x = 1) := by
    rcases (show a = 0 ∨ a = 1 by omega) with h | h
    · exact Or.inl ⟨h, Int32.toInt_inj.mp (by rw [ha, h]; decide)⟩
    · exact Or.inr ⟨h, Int32.toInt_inj.mp (by rw [ha, h]; decide)⟩
  have hy : (b = 0 ∧ y = 0) ∨ (b = 1 ∧ y = 1) := by
    rcases (show b = 0 ∨ b = 1 by omega) with h | h
    · exact Or.inl ⟨h, Int32.toInt_inj.mp (by rw [hb, h]; decide)⟩
    · exact Or.inr ⟨h, Int32.toInt_inj.mp (by rw [hb, h]; decide)⟩
  rcases hx with ⟨k1, k2⟩ | ⟨k1, k2⟩ <;> rcases hy with ⟨k3, k4⟩ | ⟨k3, k4⟩ <;> rw [e, k2, k4, k1, k3] <;> decide
theorem i_or0 {x y z : Int32} {a b : Int} (e : z = x ||| y) (ha : x.toInt = a) (hb : y.toInt = b) (h1 : 0 ≤ a) (h2 : a ≤ 1) (h3 : 0 ≤ b) (h4 : b ≤ 1) : z.toInt = 0 → a = 0 ∧ b = 0 := by
  intro hz
  have hx : (a = 0 ∧ x = 0) ∨ (a = 1 ∧ x = 1) := by
    rcases (show a = 0 ∨ a = 1 by omega) with h | h
    · exact Or.inl ⟨h, Int32.toInt_inj.mp (by rw [ha, h]; decide)⟩
    · exact Or.inr ⟨h, Int32.toInt_inj.mp (by rw [ha, h]; decide)⟩
  have hy : (b = 0 ∧ y = 0) ∨ (b = 1 ∧ y = 1) := by
    rcases (show b = 0 ∨ b = 1 by omega) with h | h
    · exact Or.inl ⟨h, Int32.toInt_inj.mp (by rw [hb, h]; decide)⟩
    · exact Or.inr ⟨h, Int32.toInt_inj.mp (by rw [hb, h]; decide)⟩
  rcases hx with ⟨k1, k2⟩ | ⟨k1, k2⟩ <;> rcases hy with ⟨k3, k4⟩ | ⟨k3, k4⟩ <;> rw [e, k2, k4] at hz
  · exact ⟨k1, k3⟩
  · exact absurd hz (by decide)
  · exact absurd hz (by decide)
  · exact absurd hz (by decide)
theorem z01 {x : Int32} {a : Int} (ha : x.toInt = a) (h1 : 0 ≤ a) (h2 : a ≤ 1) : x = 0 ∨ x = 1 := by
  rcases (show a = 0 ∨ a = 1 by omega) with h | h
  · exact Or.inl (Int32.toInt_inj.mp (by rw [ha, h]; decide))
  · exact Or.inr (Int32.toInt_inj.mp (by rw [ha, h]; decide))
section FRY
variable {p : Program} {l : Launch} {e : Env} {R : Room} {s : State} {m : MethodId} {args : Array Value} {below : List Frame} {meth : Method} {c : Code} {H H1 : Heap} {locs : List Loc} {Q : State → Prop} {cc : ByteArray} {pc cells slots : Nat} {ls : Array Slot} {rest : List Value} {X : xW} {Γ : Nat → Option Nat}
theorem q_ifnonnull {o : Option Nat} (hx : p.tables.exec = Jvm.exec) (hb : c.code = cc) {off : Int} {tgt : Nat} (hdg : decode cc pc = .ok (.ifnonnull off, 3)) (ht : (pc : Int) + off = (tgt : Int)) (kt : o ≠ none → W p l e R s m args below meth c H locs cells slots Q (F0 m tgt ls rest)) (kf : o = none → W p l e R s m args below meth c H locs cells slots Q (F0 m (pc + 3) ls rest)) : W p l e R s m args below meth c H locs cells slots Q (F0 m pc ls (va_rf o :: rest)) := by
  cases o with
  | none => exact lv_ifnonnullN hx hb hdg (kf rfl)
  | some q => exact lv_ifnonnull hx hb hdg ht (kt (fun h => by cases h))
theorem kp_I {gs : List Nat} (h : Kp X Γ gs H H1) {a r ci k : Nat} {fts : List xT} (g : Γ a = some r) (hr : kO r = some (ci, fts)) (hk : k < fts.length) (hp : (gs.any fun g => gF g r k) = true) : sI H1 a (X.1.2 ci k) = sI H a (X.1.2 ci k) := by
  have h2 := h a r g (X.1.2 ci k) (by unfold pr; rw [hr]; exact Or.inr (Or.inr (Or.inr ⟨k, hk, hp, rfl⟩)))
  simp [sI, h2]
end FRY
theorem l_mul {x y z : Int64} {a b : Int} (e : z = x * y) (ha : x.toInt = a) (hb : y.toInt = b) (h1 : -9223372036854775808 ≤ a * b) (h2 : a * b ≤ 9223372036854775807) : z.toInt = a * b := by
  rw [e, Int64.toInt_mul, ha, hb]; exact bm64 h1 h2
theorem l_remB {x y z : Int64} {a b : Int} (e : z = x - x / y * y) (ha : x.toInt = a) (hb : y.toInt = b) (h0 : b ≠ 0) : z.toInt.natAbs < b.natAbs := by
  by_cases h1 : b = -1
  · have e2 : x / y * y = x := by
      apply Int64.toInt_inj.mp
      rw [Int64.toInt_mul, Int64.toInt_div, hb, ha, h1]
      rw [Int.bmod_mul_bmod]
      have : a.tdiv (-1) * -1 = a := by
        rw [Int.tdiv_neg, Int.tdiv_one]; omega
      rw [this, ← ha]
      exact bm64 (l_rng x).1 (l_rng x).2
    rw [e, e2, Int64.toInt_sub, h1]
    simp
  · have r1 := l_rng x
    rw [ha] at r1
    have hd : (x / y).toInt = a.tdiv b := by
      rw [Int64.toInt_div_of_ne_right, ha, hb]
      intro q
      rw [q] at hb
      exact h1 (by rw [← hb]; decide)
    have k0 := Int.tmod_add_mul_tdiv a b
    have k1 : (a.tmod b).natAbs < b.natAbs := by
      rw [Int.natAbs_tmod]
      exact Nat.mod_lt _ (by omega)
    have k4 : 0 ≤ a → 0 ≤ a.tmod b := fun h => Int.tmod_nonneg b h
    have k5 : a ≤ 0 → a.tmod b ≤ 0 := fun h => by
      have := Int.tmod_nonneg b (show 0 ≤ -a by omega)
      rw [Int.neg_tmod] at this
      omega
    have hm2 : a.tdiv b * b = a - a.tmod b := by rw [Int.mul_comm]; omega
    have k6 : (0 ≤ a → a.tmod b ≤ a) ∧ (a ≤ 0 → a ≤ a.tmod b) := by
      have : (a.tmod b).natAbs ≤ a.natAbs := by
        rw [Int.natAbs_tmod]
        exact Nat.mod_le _ _
      constructor
      · intro h; have := k4 h; omega
      · intro h; have := k5 h; omega
    have hm : (x / y * y).toInt = a - a.tmod b := by
      rw [← hm2]
      exact l_mul rfl hd hb (by rw [hm2]; rcases Int.le_total 0 a with h | h <;> have := k4 <;> have := k5 <;> omega) (by rw [hm2]; rcases Int.le_total 0 a with h | h <;> have := k4 <;> have := k5 <;> omega)
    have := l_sub e ha hm (by omega) (by omega)
    omega
theorem i_mulB {x y z : Int32} {a b : Int} (e : z = x * y) (ha : x.toInt = a) (hb : y.toInt = b) (h1 : 1 ≤ a) (h2 : a ≤ 1000) (h3 : 1 ≤ b) (h4 : b ≤ 1000) : 1 ≤ z.toInt ∧ z.toInt ≤ 1000000 := by
  have k1 : 1 * 1 ≤ a * b := Int.mul_le_mul h1 h3 (by omega) (by omega)
  have k2 : a * b ≤ 1000 * 1000 := Int.mul_le_mul h2 h4 (by omega) (by omega)
  have := i_mul e ha hb (by omega) (by omega)
  omega

theorem rg_90_0 {a : Int} (h1 : 0 ≤ a) (h2 : a ≤ 19) : cF90 a.toNat = (0, 0, 127) := by
  unfold cF90
  rw [if_pos (by omega)]
theorem rl_90_0 {Γ : Nat → Option Nat} {a : Int} {x : Int32} (hx : x.toInt = a) (h1 : 0 ≤ a) (h2 : a ≤ 19) : ∀ v, tv Γ (cF90 x.toNatClampNeg) v → tv Γ (0, 0, 127) v := by
  rw [i_ix hx, rg_90_0 h1 h2]
  exact fun _ h => h
theorem rs_90_0 {Γ : Nat → Option Nat} {a : Int} {x : Int32} {v : Value} (hx : x.toInt = a) (h1 : 0 ≤ a) (h2 : a ≤ 19) (h : tv Γ (0, 0, 127) v) : tv Γ (cF90 x.toNatClampNeg) v := by
  rw [i_ix hx, rg_90_0 h1 h2]
  exact h
theorem rg_90_1 {a : Int} (h1 : 20 ≤ a) (h2 : a ≤ 20) : cF90 a.toNat = (0, 0, 20) := by
  unfold cF90
  rw [if_neg (by omega)]
  rw [if_pos (by omega)]
theorem rl_90_1 {Γ : Nat → Option Nat} {a : Int} {x : Int32} (hx : x.toInt = a) (h1 : 20 ≤ a) (h2 : a ≤ 20) : ∀ v, tv Γ (cF90 x.toNatClampNeg) v → tv Γ (0, 0, 20) v := by
  rw [i_ix hx, rg_90_1 h1 h2]
  exact fun _ h => h
theorem rs_90_1 {Γ : Nat → Option Nat} {a : Int} {x : Int32} {v : Value} (hx : x.toInt = a) (h1 : 20 ≤ a) (h2 : a ≤ 20) (h : tv Γ (0, 0, 20) v) : tv Γ (cF90 x.toNatClampNeg) v := by
  rw [i_ix hx, rg_90_1 h1 h2]
  exact h
theorem rg_90_2 {a : Int} (h1 : 21 ≤ a) (h2 : a ≤ 21) : cF90 a.toNat = (0, 0, 900) := by
  unfold cF90
  rw [if_neg (by omega)]
  rw [if_neg (by omega)]
  rw [if_pos (by omega)]
theorem rl_90_2 {Γ : Nat → Option Nat} {a : Int} {x : Int32} (hx : x.toInt = a) (h1 : 21 ≤ a) (h2 : a ≤ 21) : ∀ v, tv Γ (cF90 x.toNatClampNeg) v → tv Γ (0, 0, 900) v := by
  rw [i_ix hx, rg_90_2 h1 h2]
  exact fun _ h => h
theorem rs_90_2 {Γ : Nat → Option Nat} {a : Int} {x : Int32} {v : Value} (hx : x.toInt = a) (h1 : 21 ≤ a) (h2 : a ≤ 21) (h : tv Γ (0, 0, 900) v) : tv Γ (cF90 x.toNatClampNeg) v := by
  rw [i_ix hx, rg_90_2 h1 h2]
  exact h
theorem rg_90_3 {a : Int} (h1 : 22 ≤ a) (h2 : a ≤ 22) : cF90 a.toNat = (0, 0, 0) := by
  unfold cF90
  rw [if_neg (by omega)]
  rw [if_neg (by omega)]
  rw [if_neg (by omega)]
  rw [if_pos (by omega)]
theorem rl_90_3 {Γ : Nat → Option Nat} {a : Int} {x : Int32} (hx : x.toInt = a) (h1 : 22 ≤ a) (h2 : a ≤ 22) : ∀ v, tv Γ (cF90 x.toNatClampNeg) v → tv Γ (0, 0, 0) v := by
  rw [i_ix hx, rg_90_3 h1 h2]
  exact fun _ h => h
theorem rs_90_3 {Γ : Nat → Option Nat} {a : Int} {x : Int32} {v : Value} (hx : x.toInt = a) (h1 : 22 ≤ a) (h2 : a ≤ 22) (h : tv Γ (0, 0, 0) v) : tv Γ (cF90 x.toNatClampNeg) v := by
  rw [i_ix hx, rg_90_3 h1 h2]
  exact h
theorem rg_90_4 {a : Int} (h1 : 23 ≤ a) (h2 : a ≤ 23) : cF90 a.toNat = (0, -2147483648, 2147483647) := by
  unfold cF90
  rw [if_neg (by omega)]
  rw [if_neg (by omega)]
  rw [if_neg (by omega)]
  rw [if_neg (by omega)]
theorem rl_90_4 {Γ : Nat → Option Nat} {a : Int} {x : Int32} (hx : x.toInt = a) (h1 : 23 ≤ a) (h2 : a ≤ 23) : ∀ v, tv Γ (cF90 x.toNatClampNeg) v → tv Γ (0, -2147483648, 2147483647) v := by
  rw [i_ix hx, rg_90_4 h1 h2]
  exact fun _ h => h
theorem rs_90_4 {Γ : Nat → Option Nat} {a : Int} {x : Int32} {v : Value} (hx : x.toInt = a) (h1 : 23 ≤ a) (h2 : a ≤ 23) (h : tv Γ (0, -2147483648, 2147483647) v) : tv Γ (cF90 x.toNatClampNeg) v := by
  rw [i_ix hx, rg_90_4 h1 h2]
  exact h
theorem rg_91_0 {a : Int} (h1 : 0 ≤ a) (h2 : a ≤ 0) : cF91 a.toNat = (0, 0, 4) := by
  unfold cF91
  rw [if_pos (by omega)]
theorem rl_91_0 {Γ : Nat → Option Nat} {a : Int} {x : Int32} (hx : x.toInt = a) (h1 : 0 ≤ a) (h2 : a ≤ 0) : ∀ v, tv Γ (cF91 x.toNatClampNeg) v → tv Γ (0, 0, 4) v := by
  rw [i_ix hx, rg_91_0 h1 h2]
  exact fun _ h => h
theorem rs_91_0 {Γ : Nat → Option Nat} {a : Int} {x : Int32} {v : Value} (hx : x.toInt = a) (h1 : 0 ≤ a) (h2 : a ≤ 0) (h : tv Γ (0, 0, 4) v) : tv Γ (cF91 x.toNatClampNeg) v := by
  rw [i_ix hx, rg_91_0 h1 h2]
  exact h
theorem rg_91_1 {a : Int} (h1 : 1 ≤ a) (h2 : a ≤ 1) : cF91 a.toNat = (0, 0, 3) := by
  unfold cF91
  rw [if_neg (by omega)]
  rw [if_pos (by omega)]
theorem rl_91_1 {Γ : Nat → Option Nat} {a : Int} {x : Int32} (hx : x.toInt = a) (h1 : 1 ≤ a) (h2 : a ≤ 1) : ∀ v, tv Γ (cF91 x.toNatClampNeg) v → tv Γ (0, 0, 3) v := by
  rw [i_ix hx, rg_91_1 h1 h2]
  exact fun _ h => h
theorem rs_91_1 {Γ : Nat → Option Nat} {a : Int} {x : Int32} {v : Value} (hx : x.toInt = a) (h1 : 1 ≤ a) (h2 : a ≤ 1) (h : tv Γ (0, 0, 3) v) : tv Γ (cF91 x.toNatClampNeg) v := by
  rw [i_ix hx, rg_91_1 h1 h2]
  exact h
theorem rg_91_2 {a : Int} (h1 : 2 ≤ a) (h2 : a ≤ 2) : cF91 a.toNat = (0, 0, 2) := by
  unfold cF91
  rw [if_neg (by omega)]
  rw [if_neg (by omega)]
  rw [if_pos (by omega)]
theorem rl_91_2 {Γ : Nat → Option Nat} {a : Int} {x : Int32} (hx : x.toInt = a) (h1 : 2 ≤ a) (h2 : a ≤ 2) : ∀ v, tv Γ (cF91 x.toNatClampNeg) v → tv Γ (0, 0, 2) v := by
  rw [i_ix hx, rg_91_2 h1 h2]
  exact fun _ h => h
theorem rs_91_2 {Γ : Nat → Option Nat} {a : Int} {x : Int32} {v : Value} (hx : x.toInt = a) (h1 : 2 ≤ a) (h2 : a ≤ 2) (h : tv Γ (0, 0, 2) v) : tv Γ (cF91 x.toNatClampNeg) v := by
  rw [i_ix hx, rg_91_2 h1 h2]
  exact h
theorem rg_91_3 {a : Int} (h1 : 3 ≤ a) (h2 : a ≤ 4) : cF91 a.toNat = (0, 0, 40) := by
  unfold cF91
  rw [if_neg (by omega)]
  rw [if_neg (by omega)]
  rw [if_neg (by omega)]
  rw [if_pos (by omega)]
theorem rl_91_3 {Γ : Nat → Option Nat} {a : Int} {x : Int32} (hx : x.toInt = a) (h1 : 3 ≤ a) (h2 : a ≤ 4) : ∀ v, tv Γ (cF91 x.toNatClampNeg) v → tv Γ (0, 0, 40) v := by
  rw [i_ix hx, rg_91_3 h1 h2]
  exact fun _ h => h
theorem rs_91_3 {Γ : Nat → Option Nat} {a : Int} {x : Int32} {v : Value} (hx : x.toInt = a) (h1 : 3 ≤ a) (h2 : a ≤ 4) (h : tv Γ (0, 0, 40) v) : tv Γ (cF91 x.toNatClampNeg) v := by
  rw [i_ix hx, rg_91_3 h1 h2]
  exact h
theorem rg_91_4 {a : Int} (h1 : 5 ≤ a) (h2 : a ≤ 5) : cF91 a.toNat = (0, 0, 15) := by
  unfold cF91
  rw [if_neg (by omega)]
  rw [if_neg (by omega)]
  rw [if_neg (by omega)]
  rw [if_neg (by omega)]
  rw [if_pos (by omega)]
theorem rl_91_4 {Γ : Nat → Option Nat} {a : Int} {x : Int32} (hx : x.toInt = a) (h1 : 5 ≤ a) (h2 : a ≤ 5) : ∀ v, tv Γ (cF91 x.toNatClampNeg) v → tv Γ (0, 0, 15) v := by
  rw [i_ix hx, rg_91_4 h1 h2]
  exact fun _ h => h
theorem rs_91_4 {Γ : Nat → Option Nat} {a : Int} {x : Int32} {v : Value} (hx : x.toInt = a) (h1 : 5 ≤ a) (h2 : a ≤ 5) (h : tv Γ (0, 0, 15) v) : tv Γ (cF91 x.toNatClampNeg) v := by
  rw [i_ix hx, rg_91_4 h1 h2]
  exact h
theorem rg_91_5 {a : Int} (h1 : 6 ≤ a) (h2 : a ≤ 6) : cF91 a.toNat = (0, 0, 7) := by
  unfold cF91
  rw [if_neg (by omega)]
  rw [if_neg (by omega)]
  rw [if_neg (by omega)]
  rw [if_neg (by omega)]
  rw [if_neg (by omega)]
  rw [if_pos (by omega)]
theorem rl_91_5 {Γ : Nat → Option Nat} {a : Int} {x : Int32} (hx : x.toInt = a) (h1 : 6 ≤ a) (h2 : a ≤ 6) : ∀ v, tv Γ (cF91 x.toNatClampNeg) v → tv Γ (0, 0, 7) v := by
  rw [i_ix hx, rg_91_5 h1 h2]
  exact fun _ h => h
theorem rs_91_5 {Γ : Nat → Option Nat} {a : Int} {x : Int32} {v : Value} (hx : x.toInt = a) (h1 : 6 ≤ a) (h2 : a ≤ 6) (h : tv Γ (0, 0, 7) v) : tv Γ (cF91 x.toNatClampNeg) v := by
  rw [i_ix hx, rg_91_5 h1 h2]
  exact h
theorem rg_91_6 {a : Int} (h1 : 7 ≤ a) (h2 : a ≤ 7) : cF91 a.toNat = (0, 0, 15) := by
  unfold cF91
  rw [if_neg (by omega)]
  rw [if_neg (by omega)]
  rw [if_neg (by omega)]
  rw [if_neg (by omega)]
  rw [if_neg (by omega)]
  rw [if_neg (by omega)]
  rw [if_pos (by omega)]
theorem rl_91_6 {Γ : Nat → Option Nat} {a : Int} {x : Int32} (hx : x.toInt = a) (h1 : 7 ≤ a) (h2 : a ≤ 7) : ∀ v, tv Γ (cF91 x.toNatClampNeg) v → tv Γ (0, 0, 15) v := by
  rw [i_ix hx, rg_91_6 h1 h2]
  exact fun _ h => h
theorem rs_91_6 {Γ : Nat → Option Nat} {a : Int} {x : Int32} {v : Value} (hx : x.toInt = a) (h1 : 7 ≤ a) (h2 : a ≤ 7) (h : tv Γ (0, 0, 15) v) : tv Γ (cF91 x.toNatClampNeg) v := by
  rw [i_ix hx, rg_91_6 h1 h2]
  exact h
theorem rg_91_7 {a : Int} (h1 : 8 ≤ a) (h2 : a ≤ 8) : cF91 a.toNat = (0, -2147483648, 2147483647) := by
  unfold cF91
  rw [if_neg (by omega)]
  rw [if_neg (by omega)]
  rw [if_neg (by omega)]
  rw [if_neg (by omega)]
  rw [if_neg (by omega)]
  rw [if_neg (by omega)]
  rw [if_neg (by omega)]
  rw [if_pos (by omega)]
theorem rl_91_7 {Γ : Nat → Option Nat} {a : Int} {x : Int32} (hx : x.toInt = a) (h1 : 8 ≤ a) (h2 : a ≤ 8) : ∀ v, tv Γ (cF91 x.toNatClampNeg) v → tv Γ (0, -2147483648, 2147483647) v := by
  rw [i_ix hx, rg_91_7 h1 h2]
  exact fun _ h => h
theorem rs_91_7 {Γ : Nat → Option Nat} {a : Int} {x : Int32} {v : Value} (hx : x.toInt = a) (h1 : 8 ≤ a) (h2 : a ≤ 8) (h : tv Γ (0, -2147483648, 2147483647) v) : tv Γ (cF91 x.toNatClampNeg) v := by
  rw [i_ix hx, rg_91_7 h1 h2]
  exact h
theorem rg_91_8 {a : Int} (h1 : 9 ≤ a) (h2 : a ≤ 9) : cF91 a.toNat = (0, 0, 3) := by
  unfold cF91
  rw [if_neg (by omega)]
  rw [if_neg (by omega)]
  rw [if_neg (by omega)]
  rw [if_neg (by omega)]
  rw [if_neg (by omega)]
  rw [if_neg (by omega)]
  rw [if_neg (by omega)]
  rw [if_neg (by omega)]
  rw [if_pos (by omega)]
theorem rl_91_8 {Γ : Nat → Option Nat} {a : Int} {x : Int32} (hx : x.toInt = a) (h1 : 9 ≤ a) (h2 : a ≤ 9) : ∀ v, tv Γ (cF91 x.toNatClampNeg) v → tv Γ (0, 0, 3) v := by
  rw [i_ix hx, rg_91_8 h1 h2]
  exact fun _ h => h
theorem rs_91_8 {Γ : Nat → Option Nat} {a : Int} {x : Int32} {v : Value} (hx : x.toInt = a) (h1 : 9 ≤ a) (h2 : a ≤ 9) (h : tv Γ (0, 0, 3) v) : tv Γ (cF91 x.toNatClampNeg) v := by
  rw [i_ix hx, rg_91_8 h1 h2]
  exact h
theorem rg_91_9 {a : Int} (h1 : 10 ≤ a) (h2 : a ≤ 45) : cF91 a.toNat = (0, 0, 24) := by
  unfold cF91
  rw [if_neg (by omega)]
  rw [if_neg (by omega)]
  rw [if_neg (by omega)]
  rw [if_neg (by omega)]
  rw [if_neg (by omega)]
  rw [if_neg (by omega)]
  rw [if_neg (by omega)]
  rw [if_neg (by omega)]
  rw [if_neg (by omega)]
  rw [if_pos (by omega)]
theorem rl_91_9 {Γ : Nat → Option Nat} {a : Int} {x : Int32} (hx : x.toInt = a) (h1 : 10 ≤ a) (h2 : a ≤ 45) : ∀ v, tv Γ (cF91 x.toNatClampNeg) v → tv Γ (0, 0, 24) v := by
  rw [i_ix hx, rg_91_9 h1 h2]
  exact fun _ h => h
theorem rs_91_9 {Γ : Nat → Option Nat} {a : Int} {x : Int32} {v : Value} (hx : x.toInt = a) (h1 : 10 ≤ a) (h2 : a ≤ 45) (h : tv Γ (0, 0, 24) v) : tv Γ (cF91 x.toNatClampNeg) v := by
  rw [i_ix hx, rg_91_9 h1 h2]
  exact h
theorem rg_91_10 {a : Int} (h1 : 46 ≤ a) (h2 : a ≤ 81) : cF91 a.toNat = (0, 0, 24) := by
  unfold cF91
  rw [if_neg (by omega)]
  rw [if_neg (by omega)]
  rw [if_neg (by omega)]
  rw [if_neg (by omega)]
  rw [if_neg (by omega)]
  rw [if_neg (by omega)]
  rw [if_neg (by omega)]
  rw [if_neg (by omega)]
  rw [if_neg (by omega)]
  rw [if_neg (by omega)]
  rw [if_pos (by omega)]
theorem rl_91_10 {Γ : Nat → Option Nat} {a : Int} {x : Int32} (hx : x.toInt = a) (h1 : 46 ≤ a) (h2 : a ≤ 81) : ∀ v, tv Γ (cF91 x.toNatClampNeg) v → tv Γ (0, 0, 24) v := by
  rw [i_ix hx, rg_91_10 h1 h2]
  exact fun _ h => h
theorem rs_91_10 {Γ : Nat → Option Nat} {a : Int} {x : Int32} {v : Value} (hx : x.toInt = a) (h1 : 46 ≤ a) (h2 : a ≤ 81) (h : tv Γ (0, 0, 24) v) : tv Γ (cF91 x.toNatClampNeg) v := by
  rw [i_ix hx, rg_91_10 h1 h2]
  exact h
theorem rg_91_11 {a : Int} (h1 : 82 ≤ a) (h2 : a ≤ 117) : cF91 a.toNat = (0, 0, 9) := by
  unfold cF91
  rw [if_neg (by omega)]
  rw [if_neg (by omega)]
  rw [if_neg (by omega)]
  rw [if_neg (by omega)]
  rw [if_neg (by omega)]
  rw [if_neg (by omega)]
  rw [if_neg (by omega)]
  rw [if_neg (by omega)]
  rw [if_neg (by omega)]
  rw [if_neg (by omega)]
  rw [if_neg (by omega)]
  rw [if_pos (by omega)]
theorem rl_91_11 {Γ : Nat → Option Nat} {a : Int} {x : Int32} (hx : x.toInt = a) (h1 : 82 ≤ a) (h2 : a ≤ 117) : ∀ v, tv Γ (cF91 x.toNatClampNeg) v → tv Γ (0, 0, 9) v := by
  rw [i_ix hx, rg_91_11 h1 h2]
  exact fun _ h => h
theorem rs_91_11 {Γ : Nat → Option Nat} {a : Int} {x : Int32} {v : Value} (hx : x.toInt = a) (h1 : 82 ≤ a) (h2 : a ≤ 117) (h : tv Γ (0, 0, 9) v) : tv Γ (cF91 x.toNatClampNeg) v := by
  rw [i_ix hx, rg_91_11 h1 h2]
  exact h
theorem rg_91_12 {a : Int} (h1 : 118 ≤ a) (h2 : a ≤ 119) : cF91 a.toNat = (0, -2147483648, 2147483647) := by
  unfold cF91
  rw [if_neg (by omega)]
  rw [if_neg (by omega)]
  rw [if_neg (by omega)]
  rw [if_neg (by omega)]
  rw [if_neg (by omega)]
  rw [if_neg (by omega)]
  rw [if_neg (by omega)]
  rw [if_neg (by omega)]
  rw [if_neg (by omega)]
  rw [if_neg (by omega)]
  rw [if_neg (by omega)]
  rw [if_neg (by omega)]
theorem rl_91_12 {Γ : Nat → Option Nat} {a : Int} {x : Int32} (hx : x.toInt = a) (h1 : 118 ≤ a) (h2 : a ≤ 119) : ∀ v, tv Γ (cF91 x.toNatClampNeg) v → tv Γ (0, -2147483648, 2147483647) v := by
  rw [i_ix hx, rg_91_12 h1 h2]
  exact fun _ h => h
theorem rs_91_12 {Γ : Nat → Option Nat} {a : Int} {x : Int32} {v : Value} (hx : x.toInt = a) (h1 : 118 ≤ a) (h2 : a ≤ 119) (h : tv Γ (0, -2147483648, 2147483647) v) : tv Γ (cF91 x.toNatClampNeg) v := by
  rw [i_ix hx, rg_91_12 h1 h2]
  exact h
theorem nek {Γ : Nat → Option Nat} {a a2 r r2 : Nat} (g2 : Γ a2 = some r2) (g : Γ a = some r) (h : r2 ≠ r) : a2 ≠ a := fun q => h (Option.some.inj (g2.symm.trans (q ▸ g)))
