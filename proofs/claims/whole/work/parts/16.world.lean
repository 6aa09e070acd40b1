/-! the cells of class and reference, by their ids -/
def csK_0 : List (Nat × Nat × Nat) := [(23, 0, 7), (24, 0, 4), (25, 0, 5), (26, 1, 6), (27, 1, 6), (28, 1, 6), (29, 1, 6), (30, 1, 6), (31, 1, 24), (32, 0, 2), (33, 1, 6), (34, 1, 6), (35, 0, 2), (36, 1, 10), (37, 1, 10), (38, 0, 2), (39, 1, 8), (40, 1, 8), (41, 0, 4), (42, 0, 5), (43, 1, 6), (44, 1, 6), (45, 1, 6), (46, 1, 6), (47, 1, 6), (48, 1, 24), (49, 0, 2), (50, 1, 6), (51, 1, 6), (52, 0, 2), (53, 1, 10), (54, 1, 10), (55, 0, 2), (56, 1, 8), (57, 1, 8), (58, 0, 5), (59, 1, 6), (60, 1, 6), (61, 1, 6), (62, 1, 6)]
def csK_1 : List (Nat × Nat × Nat) := [(63, 1, 6), (64, 1, 24), (65, 0, 3), (66, 2, 100), (67, 1, 100), (68, 0, 0), (69, 1, 20), (70, 0, 6), (71, 1, 6), (72, 1, 6), (73, 5, 6), (74, 4, 60), (75, 4, 60), (76, 4, 60), (77, 4, 60), (78, 4, 60), (79, 4, 60), (80, 0, 8), (81, 1, 6), (82, 1, 6), (83, 1, 6), (84, 1, 6), (85, 1, 6), (86, 1, 24), (87, 1, 100), (88, 1, 6), (89, 1, 60), (90, 1, 60), (91, 1, 60), (92, 1, 60), (93, 1, 600), (94, 1, 101), (95, 1, 14), (96, 3, 100), (97, 1, 6), (98, 1, 6), (99, 1, 6), (100, 1, 6), (101, 1, 6), (102, 1, 10)]
def csK_2 : List (Nat × Nat × Nat) := [(103, 1, 10), (104, 1, 8), (105, 1, 8), (106, 1, 6), (107, 1, 6), (108, 1, 6), (109, 1, 6), (110, 1, 6), (111, 1, 24), (112, 1, 6), (113, 1, 6), (114, 1, 10), (115, 1, 10), (116, 1, 8), (117, 1, 8), (118, 1, 20), (119, 1, 6), (120, 1, 6), (121, 4, 360), (122, 4, 60)]
def csK : List (Nat × Nat × Nat) := csK_0 ++ (csK_1 ++ (csK_2))
def csR_0 : List (Nat × Nat × Nat) := [(25, 0, 26), (25, 1, 27), (25, 2, 28), (25, 3, 29), (25, 4, 30), (25, 5, 31), (24, 0, 25), (32, 0, 33), (32, 1, 34), (24, 1, 32), (35, 0, 36), (35, 1, 37), (24, 2, 35), (38, 0, 39), (38, 1, 40), (24, 3, 38), (23, 0, 24), (42, 0, 43), (42, 1, 44), (42, 2, 45), (42, 3, 46), (42, 4, 47), (42, 5, 48), (41, 0, 42), (49, 0, 50), (49, 1, 51), (41, 1, 49), (52, 0, 53), (52, 1, 54), (41, 2, 52), (55, 0, 56), (55, 1, 57), (41, 3, 55), (23, 1, 41), (23, 3, 25), (58, 0, 59), (58, 1, 60), (58, 2, 61), (58, 3, 62), (58, 4, 63)]
def csR_1 : List (Nat × Nat × Nat) := [(58, 5, 64), (23, 4, 58), (65, 0, 66), (65, 4, 67), (23, 5, 65), (68, 0, 69), (23, 7, 68), (70, 0, 71), (70, 1, 72), (70, 2, 73), (73, 0, 74), (73, 1, 75), (73, 2, 76), (73, 3, 77), (73, 4, 78), (73, 5, 79), (23, 8, 70), (80, 5, 81), (80, 6, 82), (80, 7, 83), (80, 8, 84), (80, 9, 85), (80, 10, 86), (80, 16, 87), (80, 17, 88), (80, 18, 89), (80, 19, 90), (80, 20, 91), (80, 21, 92), (80, 22, 93), (80, 23, 94), (80, 27, 95), (80, 28, 96), (80, 34, 97), (80, 35, 98), (80, 36, 99), (80, 38, 100), (80, 39, 101), (80, 42, 102), (80, 43, 103)]
def csR_2 : List (Nat × Nat × Nat) := [(80, 44, 104), (80, 45, 105), (80, 56, 106), (80, 57, 107), (80, 58, 108), (80, 59, 109), (80, 60, 110), (80, 61, 111), (80, 62, 112), (80, 63, 113), (80, 64, 114), (80, 65, 115), (80, 66, 116), (80, 67, 117), (80, 69, 118), (80, 70, 119), (80, 71, 120), (80, 72, 121), (80, 73, 122)]
def csR : List (Nat × Nat × Nat) := csR_0 ++ (csR_1 ++ (csR_2))
def CS (h : hp_T) : Prop := (∀ q ∈ csK, ck h q.1 q.2.1 q.2.2) ∧ ∀ q ∈ csR, h_r h q.1 q.2.1 = some q.2.2
theorem kc_23 {h : hp_T} (C : CS h) : ck h 23 0 7 := C.1 (23, 0, 7) (List.mem_of_getElem? (i := 0) rfl)
theorem kc_24 {h : hp_T} (C : CS h) : ck h 24 0 4 := C.1 (24, 0, 4) (List.mem_of_getElem? (i := 1) rfl)
theorem kc_25 {h : hp_T} (C : CS h) : ck h 25 0 5 := C.1 (25, 0, 5) (List.mem_of_getElem? (i := 2) rfl)
theorem kc_26 {h : hp_T} (C : CS h) : ck h 26 1 6 := C.1 (26, 1, 6) (List.mem_of_getElem? (i := 3) rfl)
theorem kc_27 {h : hp_T} (C : CS h) : ck h 27 1 6 := C.1 (27, 1, 6) (List.mem_of_getElem? (i := 4) rfl)
theorem kc_28 {h : hp_T} (C : CS h) : ck h 28 1 6 := C.1 (28, 1, 6) (List.mem_of_getElem? (i := 5) rfl)
theorem kc_29 {h : hp_T} (C : CS h) : ck h 29 1 6 := C.1 (29, 1, 6) (List.mem_of_getElem? (i := 6) rfl)
theorem kc_30 {h : hp_T} (C : CS h) : ck h 30 1 6 := C.1 (30, 1, 6) (List.mem_of_getElem? (i := 7) rfl)
theorem kc_31 {h : hp_T} (C : CS h) : ck h 31 1 24 := C.1 (31, 1, 24) (List.mem_of_getElem? (i := 8) rfl)
theorem kc_32 {h : hp_T} (C : CS h) : ck h 32 0 2 := C.1 (32, 0, 2) (List.mem_of_getElem? (i := 9) rfl)
theorem kc_33 {h : hp_T} (C : CS h) : ck h 33 1 6 := C.1 (33, 1, 6) (List.mem_of_getElem? (i := 10) rfl)
theorem kc_34 {h : hp_T} (C : CS h) : ck h 34 1 6 := C.1 (34, 1, 6) (List.mem_of_getElem? (i := 11) rfl)
theorem kc_35 {h : hp_T} (C : CS h) : ck h 35 0 2 := C.1 (35, 0, 2) (List.mem_of_getElem? (i := 12) rfl)
theorem kc_36 {h : hp_T} (C : CS h) : ck h 36 1 10 := C.1 (36, 1, 10) (List.mem_of_getElem? (i := 13) rfl)
theorem kc_37 {h : hp_T} (C : CS h) : ck h 37 1 10 := C.1 (37, 1, 10) (List.mem_of_getElem? (i := 14) rfl)
theorem kc_38 {h : hp_T} (C : CS h) : ck h 38 0 2 := C.1 (38, 0, 2) (List.mem_of_getElem? (i := 15) rfl)
theorem kc_39 {h : hp_T} (C : CS h) : ck h 39 1 8 := C.1 (39, 1, 8) (List.mem_of_getElem? (i := 16) rfl)
theorem kc_40 {h : hp_T} (C : CS h) : ck h 40 1 8 := C.1 (40, 1, 8) (List.mem_of_getElem? (i := 17) rfl)
theorem kc_41 {h : hp_T} (C : CS h) : ck h 41 0 4 := C.1 (41, 0, 4) (List.mem_of_getElem? (i := 18) rfl)
theorem kc_42 {h : hp_T} (C : CS h) : ck h 42 0 5 := C.1 (42, 0, 5) (List.mem_of_getElem? (i := 19) rfl)
theorem kc_43 {h : hp_T} (C : CS h) : ck h 43 1 6 := C.1 (43, 1, 6) (List.mem_of_getElem? (i := 20) rfl)
theorem kc_44 {h : hp_T} (C : CS h) : ck h 44 1 6 := C.1 (44, 1, 6) (List.mem_of_getElem? (i := 21) rfl)
theorem kc_45 {h : hp_T} (C : CS h) : ck h 45 1 6 := C.1 (45, 1, 6) (List.mem_of_getElem? (i := 22) rfl)
theorem kc_46 {h : hp_T} (C : CS h) : ck h 46 1 6 := C.1 (46, 1, 6) (List.mem_of_getElem? (i := 23) rfl)
theorem kc_47 {h : hp_T} (C : CS h) : ck h 47 1 6 := C.1 (47, 1, 6) (List.mem_of_getElem? (i := 24) rfl)
theorem kc_48 {h : hp_T} (C : CS h) : ck h 48 1 24 := C.1 (48, 1, 24) (List.mem_of_getElem? (i := 25) rfl)
theorem kc_49 {h : hp_T} (C : CS h) : ck h 49 0 2 := C.1 (49, 0, 2) (List.mem_of_getElem? (i := 26) rfl)
theorem kc_50 {h : hp_T} (C : CS h) : ck h 50 1 6 := C.1 (50, 1, 6) (List.mem_of_getElem? (i := 27) rfl)
theorem kc_51 {h : hp_T} (C : CS h) : ck h 51 1 6 := C.1 (51, 1, 6) (List.mem_of_getElem? (i := 28) rfl)
theorem kc_52 {h : hp_T} (C : CS h) : ck h 52 0 2 := C.1 (52, 0, 2) (List.mem_of_getElem? (i := 29) rfl)
theorem kc_53 {h : hp_T} (C : CS h) : ck h 53 1 10 := C.1 (53, 1, 10) (List.mem_of_getElem? (i := 30) rfl)
theorem kc_54 {h : hp_T} (C : CS h) : ck h 54 1 10 := C.1 (54, 1, 10) (List.mem_of_getElem? (i := 31) rfl)
theorem kc_55 {h : hp_T} (C : CS h) : ck h 55 0 2 := C.1 (55, 0, 2) (List.mem_of_getElem? (i := 32) rfl)
theorem kc_56 {h : hp_T} (C : CS h) : ck h 56 1 8 := C.1 (56, 1, 8) (List.mem_of_getElem? (i := 33) rfl)
theorem kc_57 {h : hp_T} (C : CS h) : ck h 57 1 8 := C.1 (57, 1, 8) (List.mem_of_getElem? (i := 34) rfl)
theorem kc_58 {h : hp_T} (C : CS h) : ck h 58 0 5 := C.1 (58, 0, 5) (List.mem_of_getElem? (i := 35) rfl)
theorem kc_59 {h : hp_T} (C : CS h) : ck h 59 1 6 := C.1 (59, 1, 6) (List.mem_of_getElem? (i := 36) rfl)
theorem kc_60 {h : hp_T} (C : CS h) : ck h 60 1 6 := C.1 (60, 1, 6) (List.mem_of_getElem? (i := 37) rfl)
theorem kc_61 {h : hp_T} (C : CS h) : ck h 61 1 6 := C.1 (61, 1, 6) (List.mem_of_getElem? (i := 38) rfl)
theorem kc_62 {h : hp_T} (C : CS h) : ck h 62 1 6 := C.1 (62, 1, 6) (List.mem_of_getElem? (i := 39) rfl)
theorem kc_63 {h : hp_T} (C : CS h) : ck h 63 1 6 := C.1 (63, 1, 6) (List.mem_of_getElem? (i := 40) rfl)
theorem kc_64 {h : hp_T} (C : CS h) : ck h 64 1 24 := C.1 (64, 1, 24) (List.mem_of_getElem? (i := 41) rfl)
theorem kc_65 {h : hp_T} (C : CS h) : ck h 65 0 3 := C.1 (65, 0, 3) (List.mem_of_getElem? (i := 42) rfl)
theorem kc_66 {h : hp_T} (C : CS h) : ck h 66 2 100 := C.1 (66, 2, 100) (List.mem_of_getElem? (i := 43) rfl)
theorem kc_67 {h : hp_T} (C : CS h) : ck h 67 1 100 := C.1 (67, 1, 100) (List.mem_of_getElem? (i := 44) rfl)
theorem kc_68 {h : hp_T} (C : CS h) : ck h 68 0 0 := C.1 (68, 0, 0) (List.mem_of_getElem? (i := 45) rfl)
theorem kc_69 {h : hp_T} (C : CS h) : ck h 69 1 20 := C.1 (69, 1, 20) (List.mem_of_getElem? (i := 46) rfl)
theorem kc_70 {h : hp_T} (C : CS h) : ck h 70 0 6 := C.1 (70, 0, 6) (List.mem_of_getElem? (i := 47) rfl)
theorem kc_71 {h : hp_T} (C : CS h) : ck h 71 1 6 := C.1 (71, 1, 6) (List.mem_of_getElem? (i := 48) rfl)
theorem kc_72 {h : hp_T} (C : CS h) : ck h 72 1 6 := C.1 (72, 1, 6) (List.mem_of_getElem? (i := 49) rfl)
theorem kc_73 {h : hp_T} (C : CS h) : ck h 73 5 6 := C.1 (73, 5, 6) (List.mem_of_getElem? (i := 50) rfl)
theorem kc_74 {h : hp_T} (C : CS h) : ck h 74 4 60 := C.1 (74, 4, 60) (List.mem_of_getElem? (i := 51) rfl)
theorem kc_75 {h : hp_T} (C : CS h) : ck h 75 4 60 := C.1 (75, 4, 60) (List.mem_of_getElem? (i := 52) rfl)
theorem kc_76 {h : hp_T} (C : CS h) : ck h 76 4 60 := C.1 (76, 4, 60) (List.mem_of_getElem? (i := 53) rfl)
theorem kc_77 {h : hp_T} (C : CS h) : ck h 77 4 60 := C.1 (77, 4, 60) (List.mem_of_getElem? (i := 54) rfl)
theorem kc_78 {h : hp_T} (C : CS h) : ck h 78 4 60 := C.1 (78, 4, 60) (List.mem_of_getElem? (i := 55) rfl)
theorem kc_79 {h : hp_T} (C : CS h) : ck h 79 4 60 := C.1 (79, 4, 60) (List.mem_of_getElem? (i := 56) rfl)
theorem kc_80 {h : hp_T} (C : CS h) : ck h 80 0 8 := C.1 (80, 0, 8) (List.mem_of_getElem? (i := 57) rfl)
theorem kc_81 {h : hp_T} (C : CS h) : ck h 81 1 6 := C.1 (81, 1, 6) (List.mem_of_getElem? (i := 58) rfl)
theorem kc_82 {h : hp_T} (C : CS h) : ck h 82 1 6 := C.1 (82, 1, 6) (List.mem_of_getElem? (i := 59) rfl)
theorem kc_83 {h : hp_T} (C : CS h) : ck h 83 1 6 := C.1 (83, 1, 6) (List.mem_of_getElem? (i := 60) rfl)
theorem kc_84 {h : hp_T} (C : CS h) : ck h 84 1 6 := C.1 (84, 1, 6) (List.mem_of_getElem? (i := 61) rfl)
theorem kc_85 {h : hp_T} (C : CS h) : ck h 85 1 6 := C.1 (85, 1, 6) (List.mem_of_getElem? (i := 62) rfl)
theorem kc_86 {h : hp_T} (C : CS h) : ck h 86 1 24 := C.1 (86, 1, 24) (List.mem_of_getElem? (i := 63) rfl)
theorem kc_87 {h : hp_T} (C : CS h) : ck h 87 1 100 := C.1 (87, 1, 100) (List.mem_of_getElem? (i := 64) rfl)
theorem kc_88 {h : hp_T} (C : CS h) : ck h 88 1 6 := C.1 (88, 1, 6) (List.mem_of_getElem? (i := 65) rfl)
theorem kc_89 {h : hp_T} (C : CS h) : ck h 89 1 60 := C.1 (89, 1, 60) (List.mem_of_getElem? (i := 66) rfl)
theorem kc_90 {h : hp_T} (C : CS h) : ck h 90 1 60 := C.1 (90, 1, 60) (List.mem_of_getElem? (i := 67) rfl)
theorem kc_91 {h : hp_T} (C : CS h) : ck h 91 1 60 := C.1 (91, 1, 60) (List.mem_of_getElem? (i := 68) rfl)
theorem kc_92 {h : hp_T} (C : CS h) : ck h 92 1 60 := C.1 (92, 1, 60) (List.mem_of_getElem? (i := 69) rfl)
theorem kc_93 {h : hp_T} (C : CS h) : ck h 93 1 600 := C.1 (93, 1, 600) (List.mem_of_getElem? (i := 70) rfl)
theorem kc_94 {h : hp_T} (C : CS h) : ck h 94 1 101 := C.1 (94, 1, 101) (List.mem_of_getElem? (i := 71) rfl)
theorem kc_95 {h : hp_T} (C : CS h) : ck h 95 1 14 := C.1 (95, 1, 14) (List.mem_of_getElem? (i := 72) rfl)
theorem kc_96 {h : hp_T} (C : CS h) : ck h 96 3 100 := C.1 (96, 3, 100) (List.mem_of_getElem? (i := 73) rfl)
theorem kc_97 {h : hp_T} (C : CS h) : ck h 97 1 6 := C.1 (97, 1, 6) (List.mem_of_getElem? (i := 74) rfl)
theorem kc_98 {h : hp_T} (C : CS h) : ck h 98 1 6 := C.1 (98, 1, 6) (List.mem_of_getElem? (i := 75) rfl)
theorem kc_99 {h : hp_T} (C : CS h) : ck h 99 1 6 := C.1 (99, 1, 6) (List.mem_of_getElem? (i := 76) rfl)
theorem kc_100 {h : hp_T} (C : CS h) : ck h 100 1 6 := C.1 (100, 1, 6) (List.mem_of_getElem? (i := 77) rfl)
theorem kc_101 {h : hp_T} (C : CS h) : ck h 101 1 6 := C.1 (101, 1, 6) (List.mem_of_getElem? (i := 78) rfl)
theorem kc_102 {h : hp_T} (C : CS h) : ck h 102 1 10 := C.1 (102, 1, 10) (List.mem_of_getElem? (i := 79) rfl)
theorem kc_103 {h : hp_T} (C : CS h) : ck h 103 1 10 := C.1 (103, 1, 10) (List.mem_of_getElem? (i := 80) rfl)
theorem kc_104 {h : hp_T} (C : CS h) : ck h 104 1 8 := C.1 (104, 1, 8) (List.mem_of_getElem? (i := 81) rfl)
theorem kc_105 {h : hp_T} (C : CS h) : ck h 105 1 8 := C.1 (105, 1, 8) (List.mem_of_getElem? (i := 82) rfl)
theorem kc_106 {h : hp_T} (C : CS h) : ck h 106 1 6 := C.1 (106, 1, 6) (List.mem_of_getElem? (i := 83) rfl)
theorem kc_107 {h : hp_T} (C : CS h) : ck h 107 1 6 := C.1 (107, 1, 6) (List.mem_of_getElem? (i := 84) rfl)
theorem kc_108 {h : hp_T} (C : CS h) : ck h 108 1 6 := C.1 (108, 1, 6) (List.mem_of_getElem? (i := 85) rfl)
theorem kc_109 {h : hp_T} (C : CS h) : ck h 109 1 6 := C.1 (109, 1, 6) (List.mem_of_getElem? (i := 86) rfl)
theorem kc_110 {h : hp_T} (C : CS h) : ck h 110 1 6 := C.1 (110, 1, 6) (List.mem_of_getElem? (i := 87) rfl)
theorem kc_111 {h : hp_T} (C : CS h) : ck h 111 1 24 := C.1 (111, 1, 24) (List.mem_of_getElem? (i := 88) rfl)
theorem kc_112 {h : hp_T} (C : CS h) : ck h 112 1 6 := C.1 (112, 1, 6) (List.mem_of_getElem? (i := 89) rfl)
theorem kc_113 {h : hp_T} (C : CS h) : ck h 113 1 6 := C.1 (113, 1, 6) (List.mem_of_getElem? (i := 90) rfl)
theorem kc_114 {h : hp_T} (C : CS h) : ck h 114 1 10 := C.1 (114, 1, 10) (List.mem_of_getElem? (i := 91) rfl)
theorem kc_115 {h : hp_T} (C : CS h) : ck h 115 1 10 := C.1 (115, 1, 10) (List.mem_of_getElem? (i := 92) rfl)
theorem kc_116 {h : hp_T} (C : CS h) : ck h 116 1 8 := C.1 (116, 1, 8) (List.mem_of_getElem? (i := 93) rfl)
theorem kc_117 {h : hp_T} (C : CS h) : ck h 117 1 8 := C.1 (117, 1, 8) (List.mem_of_getElem? (i := 94) rfl)
theorem kc_118 {h : hp_T} (C : CS h) : ck h 118 1 20 := C.1 (118, 1, 20) (List.mem_of_getElem? (i := 95) rfl)
theorem kc_119 {h : hp_T} (C : CS h) : ck h 119 1 6 := C.1 (119, 1, 6) (List.mem_of_getElem? (i := 96) rfl)
theorem kc_120 {h : hp_T} (C : CS h) : ck h 120 1 6 := C.1 (120, 1, 6) (List.mem_of_getElem? (i := 97) rfl)
theorem kc_121 {h : hp_T} (C : CS h) : ck h 121 4 360 := C.1 (121, 4, 360) (List.mem_of_getElem? (i := 98) rfl)
theorem kc_122 {h : hp_T} (C : CS h) : ck h 122 4 60 := C.1 (122, 4, 60) (List.mem_of_getElem? (i := 99) rfl)
theorem rc_25_0 {h : hp_T} (C : CS h) : h_r h 25 0 = some 26 := C.2 (25, 0, 26) (List.mem_of_getElem? (i := 0) rfl)
theorem rc_25_1 {h : hp_T} (C : CS h) : h_r h 25 1 = some 27 := C.2 (25, 1, 27) (List.mem_of_getElem? (i := 1) rfl)
theorem rc_25_2 {h : hp_T} (C : CS h) : h_r h 25 2 = some 28 := C.2 (25, 2, 28) (List.mem_of_getElem? (i := 2) rfl)
theorem rc_25_3 {h : hp_T} (C : CS h) : h_r h 25 3 = some 29 := C.2 (25, 3, 29) (List.mem_of_getElem? (i := 3) rfl)
theorem rc_25_4 {h : hp_T} (C : CS h) : h_r h 25 4 = some 30 := C.2 (25, 4, 30) (List.mem_of_getElem? (i := 4) rfl)
theorem rc_25_5 {h : hp_T} (C : CS h) : h_r h 25 5 = some 31 := C.2 (25, 5, 31) (List.mem_of_getElem? (i := 5) rfl)
theorem rc_24_0 {h : hp_T} (C : CS h) : h_r h 24 0 = some 25 := C.2 (24, 0, 25) (List.mem_of_getElem? (i := 6) rfl)
theorem rc_32_0 {h : hp_T} (C : CS h) : h_r h 32 0 = some 33 := C.2 (32, 0, 33) (List.mem_of_getElem? (i := 7) rfl)
theorem rc_32_1 {h : hp_T} (C : CS h) : h_r h 32 1 = some 34 := C.2 (32, 1, 34) (List.mem_of_getElem? (i := 8) rfl)
theorem rc_24_1 {h : hp_T} (C : CS h) : h_r h 24 1 = some 32 := C.2 (24, 1, 32) (List.mem_of_getElem? (i := 9) rfl)
theorem rc_35_0 {h : hp_T} (C : CS h) : h_r h 35 0 = some 36 := C.2 (35, 0, 36) (List.mem_of_getElem? (i := 10) rfl)
theorem rc_35_1 {h : hp_T} (C : CS h) : h_r h 35 1 = some 37 := C.2 (35, 1, 37) (List.mem_of_getElem? (i := 11) rfl)
theorem rc_24_2 {h : hp_T} (C : CS h) : h_r h 24 2 = some 35 := C.2 (24, 2, 35) (List.mem_of_getElem? (i := 12) rfl)
theorem rc_38_0 {h : hp_T} (C : CS h) : h_r h 38 0 = some 39 := C.2 (38, 0, 39) (List.mem_of_getElem? (i := 13) rfl)
theorem rc_38_1 {h : hp_T} (C : CS h) : h_r h 38 1 = some 40 := C.2 (38, 1, 40) (List.mem_of_getElem? (i := 14) rfl)
theorem rc_24_3 {h : hp_T} (C : CS h) : h_r h 24 3 = some 38 := C.2 (24, 3, 38) (List.mem_of_getElem? (i := 15) rfl)
theorem rc_23_0 {h : hp_T} (C : CS h) : h_r h 23 0 = some 24 := C.2 (23, 0, 24) (List.mem_of_getElem? (i := 16) rfl)
theorem rc_42_0 {h : hp_T} (C : CS h) : h_r h 42 0 = some 43 := C.2 (42, 0, 43) (List.mem_of_getElem? (i := 17) rfl)
theorem rc_42_1 {h : hp_T} (C : CS h) : h_r h 42 1 = some 44 := C.2 (42, 1, 44) (List.mem_of_getElem? (i := 18) rfl)
theorem rc_42_2 {h : hp_T} (C : CS h) : h_r h 42 2 = some 45 := C.2 (42, 2, 45) (List.mem_of_getElem? (i := 19) rfl)
theorem rc_42_3 {h : hp_T} (C : CS h) : h_r h 42 3 = some 46 := C.2 (42, 3, 46) (List.mem_of_getElem? (i := 20) rfl)
theorem rc_42_4 {h : hp_T} (C : CS h) : h_r h 42 4 = some 47 := C.2 (42, 4, 47) (List.mem_of_getElem? (i := 21) rfl)
theorem rc_42_5 {h : hp_T} (C : CS h) : h_r h 42 5 = some 48 := C.2 (42, 5, 48) (List.mem_of_getElem? (i := 22) rfl)
theorem rc_41_0 {h : hp_T} (C : CS h) : h_r h 41 0 = some 42 := C.2 (41, 0, 42) (List.mem_of_getElem? (i := 23) rfl)
theorem rc_49_0 {h : hp_T} (C : CS h) : h_r h 49 0 = some 50 := C.2 (49, 0, 50) (List.mem_of_getElem? (i := 24) rfl)
theorem rc_49_1 {h : hp_T} (C : CS h) : h_r h 49 1 = some 51 := C.2 (49, 1, 51) (List.mem_of_getElem? (i := 25) rfl)
theorem rc_41_1 {h : hp_T} (C : CS h) : h_r h 41 1 = some 49 := C.2 (41, 1, 49) (List.mem_of_getElem? (i := 26) rfl)
theorem rc_52_0 {h : hp_T} (C : CS h) : h_r h 52 0 = some 53 := C.2 (52, 0, 53) (List.mem_of_getElem? (i := 27) rfl)
theorem rc_52_1 {h : hp_T} (C : CS h) : h_r h 52 1 = some 54 := C.2 (52, 1, 54) (List.mem_of_getElem? (i := 28) rfl)
theorem rc_41_2 {h : hp_T} (C : CS h) : h_r h 41 2 = some 52 := C.2 (41, 2, 52) (List.mem_of_getElem? (i := 29) rfl)
theorem rc_55_0 {h : hp_T} (C : CS h) : h_r h 55 0 = some 56 := C.2 (55, 0, 56) (List.mem_of_getElem? (i := 30) rfl)
theorem rc_55_1 {h : hp_T} (C : CS h) : h_r h 55 1 = some 57 := C.2 (55, 1, 57) (List.mem_of_getElem? (i := 31) rfl)
theorem rc_41_3 {h : hp_T} (C : CS h) : h_r h 41 3 = some 55 := C.2 (41, 3, 55) (List.mem_of_getElem? (i := 32) rfl)
theorem rc_23_1 {h : hp_T} (C : CS h) : h_r h 23 1 = some 41 := C.2 (23, 1, 41) (List.mem_of_getElem? (i := 33) rfl)
theorem rc_23_3 {h : hp_T} (C : CS h) : h_r h 23 3 = some 25 := C.2 (23, 3, 25) (List.mem_of_getElem? (i := 34) rfl)
theorem rc_58_0 {h : hp_T} (C : CS h) : h_r h 58 0 = some 59 := C.2 (58, 0, 59) (List.mem_of_getElem? (i := 35) rfl)
theorem rc_58_1 {h : hp_T} (C : CS h) : h_r h 58 1 = some 60 := C.2 (58, 1, 60) (List.mem_of_getElem? (i := 36) rfl)
theorem rc_58_2 {h : hp_T} (C : CS h) : h_r h 58 2 = some 61 := C.2 (58, 2, 61) (List.mem_of_getElem? (i := 37) rfl)
theorem rc_58_3 {h : hp_T} (C : CS h) : h_r h 58 3 = some 62 := C.2 (58, 3, 62) (List.mem_of_getElem? (i := 38) rfl)
theorem rc_58_4 {h : hp_T} (C : CS h) : h_r h 58 4 = some 63 := C.2 (58, 4, 63) (List.mem_of_getElem? (i := 39) rfl)
theorem rc_58_5 {h : hp_T} (C : CS h) : h_r h 58 5 = some 64 := C.2 (58, 5, 64) (List.mem_of_getElem? (i := 40) rfl)
theorem rc_23_4 {h : hp_T} (C : CS h) : h_r h 23 4 = some 58 := C.2 (23, 4, 58) (List.mem_of_getElem? (i := 41) rfl)
theorem rc_65_0 {h : hp_T} (C : CS h) : h_r h 65 0 = some 66 := C.2 (65, 0, 66) (List.mem_of_getElem? (i := 42) rfl)
theorem rc_65_4 {h : hp_T} (C : CS h) : h_r h 65 4 = some 67 := C.2 (65, 4, 67) (List.mem_of_getElem? (i := 43) rfl)
theorem rc_23_5 {h : hp_T} (C : CS h) : h_r h 23 5 = some 65 := C.2 (23, 5, 65) (List.mem_of_getElem? (i := 44) rfl)
theorem rc_68_0 {h : hp_T} (C : CS h) : h_r h 68 0 = some 69 := C.2 (68, 0, 69) (List.mem_of_getElem? (i := 45) rfl)
theorem rc_23_7 {h : hp_T} (C : CS h) : h_r h 23 7 = some 68 := C.2 (23, 7, 68) (List.mem_of_getElem? (i := 46) rfl)
theorem rc_70_0 {h : hp_T} (C : CS h) : h_r h 70 0 = some 71 := C.2 (70, 0, 71) (List.mem_of_getElem? (i := 47) rfl)
theorem rc_70_1 {h : hp_T} (C : CS h) : h_r h 70 1 = some 72 := C.2 (70, 1, 72) (List.mem_of_getElem? (i := 48) rfl)
theorem rc_70_2 {h : hp_T} (C : CS h) : h_r h 70 2 = some 73 := C.2 (70, 2, 73) (List.mem_of_getElem? (i := 49) rfl)
theorem rc_73_0 {h : hp_T} (C : CS h) : h_r h 73 0 = some 74 := C.2 (73, 0, 74) (List.mem_of_getElem? (i := 50) rfl)
theorem rc_73_1 {h : hp_T} (C : CS h) : h_r h 73 1 = some 75 := C.2 (73, 1, 75) (List.mem_of_getElem? (i := 51) rfl)
theorem rc_73_2 {h : hp_T} (C : CS h) : h_r h 73 2 = some 76 := C.2 (73, 2, 76) (List.mem_of_getElem? (i := 52) rfl)
theorem rc_73_3 {h : hp_T} (C : CS h) : h_r h 73 3 = some 77 := C.2 (73, 3, 77) (List.mem_of_getElem? (i := 53) rfl)
theorem rc_73_4 {h : hp_T} (C : CS h) : h_r h 73 4 = some 78 := C.2 (73, 4, 78) (List.mem_of_getElem? (i := 54) rfl)
theorem rc_73_5 {h : hp_T} (C : CS h) : h_r h 73 5 = some 79 := C.2 (73, 5, 79) (List.mem_of_getElem? (i := 55) rfl)
theorem rc_23_8 {h : hp_T} (C : CS h) : h_r h 23 8 = some 70 := C.2 (23, 8, 70) (List.mem_of_getElem? (i := 56) rfl)
theorem rc_80_5 {h : hp_T} (C : CS h) : h_r h 80 5 = some 81 := C.2 (80, 5, 81) (List.mem_of_getElem? (i := 57) rfl)
theorem rc_80_6 {h : hp_T} (C : CS h) : h_r h 80 6 = some 82 := C.2 (80, 6, 82) (List.mem_of_getElem? (i := 58) rfl)
theorem rc_80_7 {h : hp_T} (C : CS h) : h_r h 80 7 = some 83 := C.2 (80, 7, 83) (List.mem_of_getElem? (i := 59) rfl)
theorem rc_80_8 {h : hp_T} (C : CS h) : h_r h 80 8 = some 84 := C.2 (80, 8, 84) (List.mem_of_getElem? (i := 60) rfl)
theorem rc_80_9 {h : hp_T} (C : CS h) : h_r h 80 9 = some 85 := C.2 (80, 9, 85) (List.mem_of_getElem? (i := 61) rfl)
theorem rc_80_10 {h : hp_T} (C : CS h) : h_r h 80 10 = some 86 := C.2 (80, 10, 86) (List.mem_of_getElem? (i := 62) rfl)
theorem rc_80_16 {h : hp_T} (C : CS h) : h_r h 80 16 = some 87 := C.2 (80, 16, 87) (List.mem_of_getElem? (i := 63) rfl)
theorem rc_80_17 {h : hp_T} (C : CS h) : h_r h 80 17 = some 88 := C.2 (80, 17, 88) (List.mem_of_getElem? (i := 64) rfl)
theorem rc_80_18 {h : hp_T} (C : CS h) : h_r h 80 18 = some 89 := C.2 (80, 18, 89) (List.mem_of_getElem? (i := 65) rfl)
theorem rc_80_19 {h : hp_T} (C : CS h) : h_r h 80 19 = some 90 := C.2 (80, 19, 90) (List.mem_of_getElem? (i := 66) rfl)
theorem rc_80_20 {h : hp_T} (C : CS h) : h_r h 80 20 = some 91 := C.2 (80, 20, 91) (List.mem_of_getElem? (i := 67) rfl)
theorem rc_80_21 {h : hp_T} (C : CS h) : h_r h 80 21 = some 92 := C.2 (80, 21, 92) (List.mem_of_getElem? (i := 68) rfl)
theorem rc_80_22 {h : hp_T} (C : CS h) : h_r h 80 22 = some 93 := C.2 (80, 22, 93) (List.mem_of_getElem? (i := 69) rfl)
theorem rc_80_23 {h : hp_T} (C : CS h) : h_r h 80 23 = some 94 := C.2 (80, 23, 94) (List.mem_of_getElem? (i := 70) rfl)
theorem rc_80_27 {h : hp_T} (C : CS h) : h_r h 80 27 = some 95 := C.2 (80, 27, 95) (List.mem_of_getElem? (i := 71) rfl)
theorem rc_80_28 {h : hp_T} (C : CS h) : h_r h 80 28 = some 96 := C.2 (80, 28, 96) (List.mem_of_getElem? (i := 72) rfl)
theorem rc_80_34 {h : hp_T} (C : CS h) : h_r h 80 34 = some 97 := C.2 (80, 34, 97) (List.mem_of_getElem? (i := 73) rfl)
theorem rc_80_35 {h : hp_T} (C : CS h) : h_r h 80 35 = some 98 := C.2 (80, 35, 98) (List.mem_of_getElem? (i := 74) rfl)
theorem rc_80_36 {h : hp_T} (C : CS h) : h_r h 80 36 = some 99 := C.2 (80, 36, 99) (List.mem_of_getElem? (i := 75) rfl)
theorem rc_80_38 {h : hp_T} (C : CS h) : h_r h 80 38 = some 100 := C.2 (80, 38, 100) (List.mem_of_getElem? (i := 76) rfl)
theorem rc_80_39 {h : hp_T} (C : CS h) : h_r h 80 39 = some 101 := C.2 (80, 39, 101) (List.mem_of_getElem? (i := 77) rfl)
theorem rc_80_42 {h : hp_T} (C : CS h) : h_r h 80 42 = some 102 := C.2 (80, 42, 102) (List.mem_of_getElem? (i := 78) rfl)
theorem rc_80_43 {h : hp_T} (C : CS h) : h_r h 80 43 = some 103 := C.2 (80, 43, 103) (List.mem_of_getElem? (i := 79) rfl)
theorem rc_80_44 {h : hp_T} (C : CS h) : h_r h 80 44 = some 104 := C.2 (80, 44, 104) (List.mem_of_getElem? (i := 80) rfl)
theorem rc_80_45 {h : hp_T} (C : CS h) : h_r h 80 45 = some 105 := C.2 (80, 45, 105) (List.mem_of_getElem? (i := 81) rfl)
theorem rc_80_56 {h : hp_T} (C : CS h) : h_r h 80 56 = some 106 := C.2 (80, 56, 106) (List.mem_of_getElem? (i := 82) rfl)
theorem rc_80_57 {h : hp_T} (C : CS h) : h_r h 80 57 = some 107 := C.2 (80, 57, 107) (List.mem_of_getElem? (i := 83) rfl)
theorem rc_80_58 {h : hp_T} (C : CS h) : h_r h 80 58 = some 108 := C.2 (80, 58, 108) (List.mem_of_getElem? (i := 84) rfl)
theorem rc_80_59 {h : hp_T} (C : CS h) : h_r h 80 59 = some 109 := C.2 (80, 59, 109) (List.mem_of_getElem? (i := 85) rfl)
theorem rc_80_60 {h : hp_T} (C : CS h) : h_r h 80 60 = some 110 := C.2 (80, 60, 110) (List.mem_of_getElem? (i := 86) rfl)
theorem rc_80_61 {h : hp_T} (C : CS h) : h_r h 80 61 = some 111 := C.2 (80, 61, 111) (List.mem_of_getElem? (i := 87) rfl)
theorem rc_80_62 {h : hp_T} (C : CS h) : h_r h 80 62 = some 112 := C.2 (80, 62, 112) (List.mem_of_getElem? (i := 88) rfl)
theorem rc_80_63 {h : hp_T} (C : CS h) : h_r h 80 63 = some 113 := C.2 (80, 63, 113) (List.mem_of_getElem? (i := 89) rfl)
theorem rc_80_64 {h : hp_T} (C : CS h) : h_r h 80 64 = some 114 := C.2 (80, 64, 114) (List.mem_of_getElem? (i := 90) rfl)
theorem rc_80_65 {h : hp_T} (C : CS h) : h_r h 80 65 = some 115 := C.2 (80, 65, 115) (List.mem_of_getElem? (i := 91) rfl)
theorem rc_80_66 {h : hp_T} (C : CS h) : h_r h 80 66 = some 116 := C.2 (80, 66, 116) (List.mem_of_getElem? (i := 92) rfl)
theorem rc_80_67 {h : hp_T} (C : CS h) : h_r h 80 67 = some 117 := C.2 (80, 67, 117) (List.mem_of_getElem? (i := 93) rfl)
theorem rc_80_69 {h : hp_T} (C : CS h) : h_r h 80 69 = some 118 := C.2 (80, 69, 118) (List.mem_of_getElem? (i := 94) rfl)
theorem rc_80_70 {h : hp_T} (C : CS h) : h_r h 80 70 = some 119 := C.2 (80, 70, 119) (List.mem_of_getElem? (i := 95) rfl)
theorem rc_80_71 {h : hp_T} (C : CS h) : h_r h 80 71 = some 120 := C.2 (80, 71, 120) (List.mem_of_getElem? (i := 96) rfl)
theorem rc_80_72 {h : hp_T} (C : CS h) : h_r h 80 72 = some 121 := C.2 (80, 72, 121) (List.mem_of_getElem? (i := 97) rfl)
theorem rc_80_73 {h : hp_T} (C : CS h) : h_r h 80 73 = some 122 := C.2 (80, 73, 122) (List.mem_of_getElem? (i := 98) rfl)
theorem st_25 {h : hp_T} (C : CS h) : St h 25 := ⟨kc_25 C, ⟨rc_25_0 C, rc_25_1 C, rc_25_2 C, rc_25_3 C, rc_25_4 C, rc_25_5 C⟩, ⟨kc_26 C, kc_27 C, kc_28 C, kc_29 C, kc_30 C, kc_31 C⟩⟩
theorem st_42 {h : hp_T} (C : CS h) : St h 42 := ⟨kc_42 C, ⟨rc_42_0 C, rc_42_1 C, rc_42_2 C, rc_42_3 C, rc_42_4 C, rc_42_5 C⟩, ⟨kc_43 C, kc_44 C, kc_45 C, kc_46 C, kc_47 C, kc_48 C⟩⟩
theorem st_58 {h : hp_T} (C : CS h) : St h 58 := ⟨kc_58 C, ⟨rc_58_0 C, rc_58_1 C, rc_58_2 C, rc_58_3 C, rc_58_4 C, rc_58_5 C⟩, ⟨kc_59 C, kc_60 C, kc_61 C, kc_62 C, kc_63 C, kc_64 C⟩⟩
theorem pr_32 {h : hp_T} (C : CS h) : Pr h 32 6 := ⟨kc_32 C, rc_32_0 C, rc_32_1 C, kc_33 C, kc_34 C⟩
theorem pr_35 {h : hp_T} (C : CS h) : Pr h 35 10 := ⟨kc_35 C, rc_35_0 C, rc_35_1 C, kc_36 C, kc_37 C⟩
theorem pr_38 {h : hp_T} (C : CS h) : Pr h 38 8 := ⟨kc_38 C, rc_38_0 C, rc_38_1 C, kc_39 C, kc_40 C⟩
theorem pr_49 {h : hp_T} (C : CS h) : Pr h 49 6 := ⟨kc_49 C, rc_49_0 C, rc_49_1 C, kc_50 C, kc_51 C⟩
theorem pr_52 {h : hp_T} (C : CS h) : Pr h 52 10 := ⟨kc_52 C, rc_52_0 C, rc_52_1 C, kc_53 C, kc_54 C⟩
theorem pr_55 {h : hp_T} (C : CS h) : Pr h 55 8 := ⟨kc_55 C, rc_55_0 C, rc_55_1 C, kc_56 C, kc_57 C⟩
theorem csR_ne : ∀ q ∈ csR, ¬ ((q.1 = 25 ∨ q.1 = 42 ∨ q.1 = 58) ∧ q.2.1 = 11) := by decide +kernel
theorem CS.sev {h : hp_T} (C : CS h) {t : Nat} (ht : t = 25 ∨ t = 42 ∨ t = 58) (r : Option Nat) : CS (_root_.Jvm.Pilot.CLastAtPumpLaw_law_r4897_fbdc39.sev h t r) := by
  refine ⟨C.1, fun q hq => ?_⟩
  have h1 := C.2 q hq
  have h2 := csR_ne q hq
  show (if q.1 = t then va_up (h_r h t) 11 r else h_r h q.1) q.2.1 = _
  split
  · rename_i e
    subst e
    unfold va_up
    rw [if_neg (fun z => h2 ⟨ht, z⟩)]
    exact h1
  · exact h1
/-- rows of two numbers: their view -/
def PrS (M : Mem) (b c : Nat) (M1 : Mem) : Prop := M1 (b + 1) = M (c + 1) ∧ M1 (b + 2) = M (c + 2) ∧ M1 b 2 = M c 2
def ZP (M : Mem) (b n : Nat) : Prop := ∀ i, n ≤ i → M (b + 1) i = 0 ∧ M (b + 2) i = 0
set_option maxRecDepth 10000 in
set_option maxHeartbeats 4000000 in
theorem e_sc_image : ∀ (d : Nat) {h : hp_T} {M : Mem} {r : Option Nat} (C : CS h) (hr : h_r h 25 11 = r) (h19 : ∀ e, r = some e → 23 ≤ e) (hz : ZV (Sv M 42)) (hz2 : ZV (Sv M 25)) (z0 : ZP M 49 6) (y0 : ZP M 32 6) (z1 : ZP M 52 10) (y1 : ZP M 35 10) (z2 : ZP M 55 8) (y2 : ZP M 38 8), Ex (d + 2) nX4_become [.ref 41, .ref 24] (wi h M) 0 0 (fun v2 h2 => ∃ M1 : Mem, v2 = none ∧ h2 = wi (sev h 42 r) M1 ∧ Sv M1 42 = Sv M 25 ∧ PrS M 49 32 M1 ∧ PrS M 52 35 M1 ∧ PrS M 55 38 M1 ∧ ∀ b, ¬ (42 ≤ b ∧ b ≤ 48) → ¬ (49 ≤ b ∧ b ≤ 57) → M1 b = M b) := by
  intro d h M r C hr h19 hz hz2 z0 y0 z1 y1 z2 y2
  refine Ex.of mm_X4_become (Nat.le_of_ble_eq_true rfl) fun w κ X hk hnm => ?_
  refine r_aload_n (pc := 0) X dX4_become_0 rfl ?_
  refine r_getr (pc := 1) X dX4_become_1 tf_4_12 rfl (kc_41 C) (rc_41_0 C) ?_
  refine r_aload_n (pc := 4) X dX4_become_4 rfl ?_
  refine r_getr (pc := 5) X dX4_become_5 tf_4_12 rfl (kc_24 C) (rc_24_0 C) ?_
  refine r_c0_1G (pc := 8) X rfl dX4_become_8 tc_4_33 mm_X5_become (kc_42 C) rfl rfl (e_become (d + 0) (st_42 C) (st_25 C) hr (by omega) h19 hz hz2) (Nat.le_of_ble_eq_true rfl) (fun v8 g8 q8 => ?_)
  obtain ⟨M0, rfl, rfl, e0, f0⟩ := q8
  have C := C.sev (t := 42) (by omega) r
  show GG w κ (8 + 3) _ [] (wi (sev h 42 r) M0)
  refine r_aload_n (pc := 11) X dX4_become_11 rfl ?_
  refine r_getr (pc := 12) X dX4_become_12 tf_4_23 rfl (kc_41 C) (rc_41_1 C) ?_
  refine r_aload_n (pc := 15) X dX4_become_15 rfl ?_
  refine r_getr (pc := 16) X dX4_become_16 tf_4_23 rfl (kc_24 C) (rc_24_1 C) ?_
  refine r_c0_1VW (pc := 19) X rfl dX4_become_19 tc_4_37 mm_X2_become (kc_49 C) rfl rfl (e_pbecome d (pr_49 C) (pr_32 C) (by omega) (by omega)) (Nat.le_of_ble_eq_true rfl) (fun M19 q19 => ?_)
  subst q19
  refine r_aload_n (pc := 22) X dX4_become_22 rfl ?_
  refine r_getr (pc := 23) X dX4_become_23 tf_4_27 rfl (kc_41 C) (rc_41_2 C) ?_
  refine r_aload_n (pc := 26) X dX4_become_26 rfl ?_
  refine r_getr (pc := 27) X dX4_become_27 tf_4_27 rfl (kc_24 C) (rc_24_2 C) ?_
  refine r_c0_1VW (pc := 30) X rfl dX4_become_30 tc_4_37 mm_X2_become (kc_52 C) rfl rfl (e_pbecome d (pr_52 C) (pr_35 C) (by omega) (by omega)) (Nat.le_of_ble_eq_true rfl) (fun M30 q30 => ?_)
  subst q30
  refine r_aload_n (pc := 33) X dX4_become_33 rfl ?_
  refine r_getr (pc := 34) X dX4_become_34 tf_4_30 rfl (kc_41 C) (rc_41_3 C) ?_
  refine r_aload_n (pc := 37) X dX4_become_37 rfl ?_
  refine r_getr (pc := 38) X dX4_become_38 tf_4_30 rfl (kc_24 C) (rc_24_3 C) ?_
  refine r_c0_1VW (pc := 41) X rfl dX4_become_41 tc_4_37 mm_X2_become (kc_55 C) rfl rfl (e_pbecome d (pr_55 C) (pr_38 C) (by omega) (by omega)) (Nat.le_of_ble_eq_true rfl) (fun M41 q41 => ?_)
  subst q41
  refine r_vret (pc := 44) X dX4_become_44 rfl ?_
  refine ⟨⟨_, rfl, rfl, ?_, ?_, ?_, ?_, fun b h1 h2 => ?_⟩, rfl⟩
  · rw [← e0]
    refine Sv_same (fun f hf => ?_)
    simp (disch := omega) only [mU_ne]
  · refine ⟨?_, ?_, ?_⟩
    · simp (disch := omega) only [mU_ne, mU_eq, Nat.reduceAdd]
      rw [f0 _ (by omega), f0 _ (by omega)]
      exact va_cpy0 (fun i hi => (z0 i hi).1) (fun i hi => (y0 i hi).1)
    · simp (disch := omega) only [mU_ne, mU_eq, Nat.reduceAdd]
      rw [f0 _ (by omega), f0 _ (by omega)]
      exact va_cpy0 (fun i hi => (z0 i hi).2) (fun i hi => (y0 i hi).2)
    · simp (disch := omega) only [mU_ne, mU_eq, Nat.reduceAdd]
      simp only [upd, if_true]
      rw [f0 _ (by omega)]
  · refine ⟨?_, ?_, ?_⟩
    · simp (disch := omega) only [mU_ne, mU_eq, Nat.reduceAdd]
      rw [f0 _ (by omega), f0 _ (by omega)]
      exact va_cpy0 (fun i hi => (z1 i hi).1) (fun i hi => (y1 i hi).1)
    · simp (disch := omega) only [mU_ne, mU_eq, Nat.reduceAdd]
      rw [f0 _ (by omega), f0 _ (by omega)]
      exact va_cpy0 (fun i hi => (z1 i hi).2) (fun i hi => (y1 i hi).2)
    · simp (disch := omega) only [mU_ne, mU_eq, Nat.reduceAdd]
      simp only [upd, if_true]
      rw [f0 _ (by omega)]
  · refine ⟨?_, ?_, ?_⟩
    · simp (disch := omega) only [mU_ne, mU_eq, Nat.reduceAdd]
      rw [f0 _ (by omega), f0 _ (by omega)]
      exact va_cpy0 (fun i hi => (z2 i hi).1) (fun i hi => (y2 i hi).1)
    · simp (disch := omega) only [mU_ne, mU_eq, Nat.reduceAdd]
      rw [f0 _ (by omega), f0 _ (by omega)]
      exact va_cpy0 (fun i hi => (z2 i hi).2) (fun i hi => (y2 i hi).2)
    · simp (disch := omega) only [mU_ne, mU_eq, Nat.reduceAdd]
      simp only [upd, if_true]
      rw [f0 _ (by omega)]
  · simp (disch := omega) only [mU_ne]
    exact f0 b (by omega)
set_option maxRecDepth 10000 in
set_option maxHeartbeats 4000000 in
theorem e_sc_undo : ∀ (d : Nat) {h : hp_T} {M : Mem} {r : Option Nat} (C : CS h) (hr : h_r h 42 11 = r) (h19 : ∀ e, r = some e → 23 ≤ e) (hz : ZV (Sv M 25)) (hz2 : ZV (Sv M 42)) (z0 : ZP M 32 6) (y0 : ZP M 49 6) (z1 : ZP M 35 10) (y1 : ZP M 52 10) (z2 : ZP M 38 8) (y2 : ZP M 55 8), Ex (d + 2) nX4_become [.ref 24, .ref 41] (wi h M) 0 0 (fun v2 h2 => ∃ M1 : Mem, v2 = none ∧ h2 = wi (sev h 25 r) M1 ∧ Sv M1 25 = Sv M 42 ∧ PrS M 32 49 M1 ∧ PrS M 35 52 M1 ∧ PrS M 38 55 M1 ∧ ∀ b, ¬ (25 ≤ b ∧ b ≤ 31) → ¬ (32 ≤ b ∧ b ≤ 40) → M1 b = M b) := by
  intro d h M r C hr h19 hz hz2 z0 y0 z1 y1 z2 y2
  refine Ex.of mm_X4_become (Nat.le_of_ble_eq_true rfl) fun w κ X hk hnm => ?_
  refine r_aload_n (pc := 0) X dX4_become_0 rfl ?_
  refine r_getr (pc := 1) X dX4_become_1 tf_4_12 rfl (kc_24 C) (rc_24_0 C) ?_
  refine r_aload_n (pc := 4) X dX4_become_4 rfl ?_
  refine r_getr (pc := 5) X dX4_become_5 tf_4_12 rfl (kc_41 C) (rc_41_0 C) ?_
  refine r_c0_1G (pc := 8) X rfl dX4_become_8 tc_4_33 mm_X5_become (kc_25 C) rfl rfl (e_become (d + 0) (st_25 C) (st_42 C) hr (by omega) h19 hz hz2) (Nat.le_of_ble_eq_true rfl) (fun v8 g8 q8 => ?_)
  obtain ⟨M0, rfl, rfl, e0, f0⟩ := q8
  have C := C.sev (t := 25) (by omega) r
  show GG w κ (8 + 3) _ [] (wi (sev h 25 r) M0)
  refine r_aload_n (pc := 11) X dX4_become_11 rfl ?_
  refine r_getr (pc := 12) X dX4_become_12 tf_4_23 rfl (kc_24 C) (rc_24_1 C) ?_
  refine r_aload_n (pc := 15) X dX4_become_15 rfl ?_
  refine r_getr (pc := 16) X dX4_become_16 tf_4_23 rfl (kc_41 C) (rc_41_1 C) ?_
  refine r_c0_1VW (pc := 19) X rfl dX4_become_19 tc_4_37 mm_X2_become (kc_32 C) rfl rfl (e_pbecome d (pr_32 C) (pr_49 C) (by omega) (by omega)) (Nat.le_of_ble_eq_true rfl) (fun M19 q19 => ?_)
  subst q19
  refine r_aload_n (pc := 22) X dX4_become_22 rfl ?_
  refine r_getr (pc := 23) X dX4_become_23 tf_4_27 rfl (kc_24 C) (rc_24_2 C) ?_
  refine r_aload_n (pc := 26) X dX4_become_26 rfl ?_
  refine r_getr (pc := 27) X dX4_become_27 tf_4_27 rfl (kc_41 C) (rc_41_2 C) ?_
  refine r_c0_1VW (pc := 30) X rfl dX4_become_30 tc_4_37 mm_X2_become (kc_35 C) rfl rfl (e_pbecome d (pr_35 C) (pr_52 C) (by omega) (by omega)) (Nat.le_of_ble_eq_true rfl) (fun M30 q30 => ?_)
  subst q30
  refine r_aload_n (pc := 33) X dX4_become_33 rfl ?_
  refine r_getr (pc := 34) X dX4_become_34 tf_4_30 rfl (kc_24 C) (rc_24_3 C) ?_
  refine r_aload_n (pc := 37) X dX4_become_37 rfl ?_
  refine r_getr (pc := 38) X dX4_become_38 tf_4_30 rfl (kc_41 C) (rc_41_3 C) ?_
  refine r_c0_1VW (pc := 41) X rfl dX4_become_41 tc_4_37 mm_X2_become (kc_38 C) rfl rfl (e_pbecome d (pr_38 C) (pr_55 C) (by omega) (by omega)) (Nat.le_of_ble_eq_true rfl) (fun M41 q41 => ?_)
  subst q41
  refine r_vret (pc := 44) X dX4_become_44 rfl ?_
  refine ⟨⟨_, rfl, rfl, ?_, ?_, ?_, ?_, fun b h1 h2 => ?_⟩, rfl⟩
  · rw [← e0]
    refine Sv_same (fun f hf => ?_)
    simp (disch := omega) only [mU_ne]
  · refine ⟨?_, ?_, ?_⟩
    · simp (disch := omega) only [mU_ne, mU_eq, Nat.reduceAdd]
      rw [f0 _ (by omega), f0 _ (by omega)]
      exact va_cpy0 (fun i hi => (z0 i hi).1) (fun i hi => (y0 i hi).1)
    · simp (disch := omega) only [mU_ne, mU_eq, Nat.reduceAdd]
      rw [f0 _ (by omega), f0 _ (by omega)]
      exact va_cpy0 (fun i hi => (z0 i hi).2) (fun i hi => (y0 i hi).2)
    · simp (disch := omega) only [mU_ne, mU_eq, Nat.reduceAdd]
      simp only [upd, if_true]
      rw [f0 _ (by omega)]
  · refine ⟨?_, ?_, ?_⟩
    · simp (disch := omega) only [mU_ne, mU_eq, Nat.reduceAdd]
      rw [f0 _ (by omega), f0 _ (by omega)]
      exact va_cpy0 (fun i hi => (z1 i hi).1) (fun i hi => (y1 i hi).1)
    · simp (disch := omega) only [mU_ne, mU_eq, Nat.reduceAdd]
      rw [f0 _ (by omega), f0 _ (by omega)]
      exact va_cpy0 (fun i hi => (z1 i hi).2) (fun i hi => (y1 i hi).2)
    · simp (disch := omega) only [mU_ne, mU_eq, Nat.reduceAdd]
      simp only [upd, if_true]
      rw [f0 _ (by omega)]
  · refine ⟨?_, ?_, ?_⟩
    · simp (disch := omega) only [mU_ne, mU_eq, Nat.reduceAdd]
      rw [f0 _ (by omega), f0 _ (by omega)]
      exact va_cpy0 (fun i hi => (z2 i hi).1) (fun i hi => (y2 i hi).1)
    · simp (disch := omega) only [mU_ne, mU_eq, Nat.reduceAdd]
      rw [f0 _ (by omega), f0 _ (by omega)]
      exact va_cpy0 (fun i hi => (z2 i hi).2) (fun i hi => (y2 i hi).2)
    · simp (disch := omega) only [mU_ne, mU_eq, Nat.reduceAdd]
      simp only [upd, if_true]
      rw [f0 _ (by omega)]
  · simp (disch := omega) only [mU_ne]
    exact f0 b (by omega)
