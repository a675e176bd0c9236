def lawC0 : List (Nat × Instr) := [(0, .new 7), (3, .dup), (4, .invokespecial 9), (7, .astore_n 1), (8, .new 10), (11, .dup), (12, .invokespecial 12), (15, .astore_n 2), (16, .iconst 0), (17, .istore_n 3), (18, .iload_n 3), (19, .aload_n 0), (20, .arraylength), (21, .iconst 5), (22, .isub), (23, .if_icmp .gt 917), (26, .aload_n 0), (27, .iload_n 3), (28, .iaload), (29, .bipush 31), (31, .iand), (32, .tableswitch 902 0 27 #[128, 151, 164, 177, 200, 233, 266, 289, 312, 345, 378, 421, 444, 457, 490, 533, 556, 579, 612, 645, 698, 731, 774, 807, 820, 833, 856, 879]), (160, .aload_n 1), (161, .aload_n 0), (162, .iload_n 3), (163, .iconst 1), (164, .iadd), (165, .iaload), (166, .invokevirtual 13), (169, .aload_n 2), (170, .aload_n 0), (171, .iload_n 3), (172, .iconst 1), (173, .iadd), (174, .iaload), (175, .invokevirtual 17), (178, .if_icmp .eq 756), (181, .iconst 0), (182, .ireturn), (183, .aload_n 1)]
set_option maxRecDepth 100000 in
theorem lawC0_ok : (lawC0.all fun r => ab_okI code r) = true := by decide +kernel
def lawC1 : List (Nat × Instr) := [(184, .invokevirtual 18), (187, .aload_n 2), (188, .invokevirtual 22), (191, .if_icmp .eq 743), (194, .iconst 0), (195, .ireturn), (196, .aload_n 1), (197, .invokevirtual 23), (200, .aload_n 2), (201, .invokevirtual 26), (204, .if_icmp .eq 730), (207, .iconst 0), (208, .ireturn), (209, .aload_n 1), (210, .aload_n 0), (211, .iload_n 3), (212, .iconst 1), (213, .iadd), (214, .iaload), (215, .invokevirtual 27), (218, .aload_n 2), (219, .aload_n 0), (220, .iload_n 3), (221, .iconst 1), (222, .iadd), (223, .iaload), (224, .invokevirtual 30), (227, .if_icmp .eq 707), (230, .iconst 0), (231, .ireturn), (232, .aload_n 1), (233, .aload_n 0), (234, .iload_n 3), (235, .iconst 1), (236, .iadd), (237, .iaload), (238, .aload_n 0), (239, .iload_n 3), (240, .iconst 2), (241, .iadd)]
set_option maxRecDepth 100000 in
theorem lawC1_ok : (lawC1.all fun r => ab_okI code r) = true := by decide +kernel
def lawC2 : List (Nat × Instr) := [(242, .iaload), (243, .invokevirtual 31), (246, .aload_n 2), (247, .aload_n 0), (248, .iload_n 3), (249, .iconst 1), (250, .iadd), (251, .iaload), (252, .aload_n 0), (253, .iload_n 3), (254, .iconst 2), (255, .iadd), (256, .iaload), (257, .invokevirtual 35), (260, .if_icmp .eq 674), (263, .iconst 0), (264, .ireturn), (265, .aload_n 1), (266, .aload_n 0), (267, .iload_n 3), (268, .iconst 1), (269, .iadd), (270, .iaload), (271, .aload_n 0), (272, .iload_n 3), (273, .iconst 2), (274, .iadd), (275, .iaload), (276, .invokevirtual 36), (279, .aload_n 2), (280, .aload_n 0), (281, .iload_n 3), (282, .iconst 1), (283, .iadd), (284, .iaload), (285, .aload_n 0), (286, .iload_n 3), (287, .iconst 2), (288, .iadd), (289, .iaload)]
set_option maxRecDepth 100000 in
theorem lawC2_ok : (lawC2.all fun r => ab_okI code r) = true := by decide +kernel
def lawC3 : List (Nat × Instr) := [(290, .invokevirtual 39), (293, .if_icmp .eq 641), (296, .iconst 0), (297, .ireturn), (298, .aload_n 1), (299, .aload_n 0), (300, .iload_n 3), (301, .iconst 1), (302, .iadd), (303, .iaload), (304, .invokevirtual 40), (307, .aload_n 2), (308, .aload_n 0), (309, .iload_n 3), (310, .iconst 1), (311, .iadd), (312, .iaload), (313, .invokevirtual 43), (316, .if_icmp .eq 618), (319, .iconst 0), (320, .ireturn), (321, .aload_n 1), (322, .aload_n 0), (323, .iload_n 3), (324, .iconst 1), (325, .iadd), (326, .iaload), (327, .invokevirtual 44), (330, .aload_n 2), (331, .aload_n 0), (332, .iload_n 3), (333, .iconst 1), (334, .iadd), (335, .iaload), (336, .invokevirtual 47), (339, .if_icmp .eq 595), (342, .iconst 0), (343, .ireturn), (344, .aload_n 1), (345, .aload_n 0)]
set_option maxRecDepth 100000 in
theorem lawC3_ok : (lawC3.all fun r => ab_okI code r) = true := by decide +kernel
def lawC4 : List (Nat × Instr) := [(346, .iload_n 3), (347, .iconst 1), (348, .iadd), (349, .iaload), (350, .aload_n 0), (351, .iload_n 3), (352, .iconst 2), (353, .iadd), (354, .iaload), (355, .invokevirtual 48), (358, .aload_n 2), (359, .aload_n 0), (360, .iload_n 3), (361, .iconst 1), (362, .iadd), (363, .iaload), (364, .aload_n 0), (365, .iload_n 3), (366, .iconst 2), (367, .iadd), (368, .iaload), (369, .invokevirtual 51), (372, .if_icmp .eq 562), (375, .iconst 0), (376, .ireturn), (377, .aload_n 1), (378, .aload_n 0), (379, .iload_n 3), (380, .iconst 1), (381, .iadd), (382, .iaload), (383, .aload_n 0), (384, .iload_n 3), (385, .iconst 2), (386, .iadd), (387, .iaload), (388, .invokevirtual 52), (391, .aload_n 2), (392, .aload_n 0), (393, .iload_n 3)]
set_option maxRecDepth 100000 in
theorem lawC4_ok : (lawC4.all fun r => ab_okI code r) = true := by decide +kernel
def lawC5 : List (Nat × Instr) := [(394, .iconst 1), (395, .iadd), (396, .iaload), (397, .aload_n 0), (398, .iload_n 3), (399, .iconst 2), (400, .iadd), (401, .iaload), (402, .invokevirtual 55), (405, .if_icmp .eq 529), (408, .iconst 0), (409, .ireturn), (410, .aload_n 1), (411, .aload_n 0), (412, .iload_n 3), (413, .iconst 1), (414, .iadd), (415, .iaload), (416, .aload_n 0), (417, .iload_n 3), (418, .iconst 2), (419, .iadd), (420, .iaload), (421, .aload_n 0), (422, .iload_n 3), (423, .iconst 3), (424, .iadd), (425, .iaload), (426, .invokevirtual 56), (429, .aload_n 2), (430, .aload_n 0), (431, .iload_n 3), (432, .iconst 1), (433, .iadd), (434, .iaload), (435, .aload_n 0), (436, .iload_n 3), (437, .iconst 2), (438, .iadd), (439, .iaload)]
set_option maxRecDepth 100000 in
theorem lawC5_ok : (lawC5.all fun r => ab_okI code r) = true := by decide +kernel
def lawC6 : List (Nat × Instr) := [(440, .aload_n 0), (441, .iload_n 3), (442, .iconst 3), (443, .iadd), (444, .iaload), (445, .invokevirtual 60), (448, .if_icmp .eq 486), (451, .iconst 0), (452, .ireturn), (453, .aload_n 1), (454, .aload_n 0), (455, .iload_n 3), (456, .iconst 1), (457, .iadd), (458, .iaload), (459, .invokevirtual 61), (462, .aload_n 2), (463, .aload_n 0), (464, .iload_n 3), (465, .iconst 1), (466, .iadd), (467, .iaload), (468, .invokevirtual 64), (471, .if_icmp .eq 463), (474, .iconst 0), (475, .ireturn), (476, .aload_n 1), (477, .invokevirtual 65), (480, .aload_n 2), (481, .invokevirtual 68), (484, .if_icmp .eq 450), (487, .iconst 0), (488, .ireturn), (489, .aload_n 1), (490, .aload_n 0), (491, .iload_n 3), (492, .iconst 1), (493, .iadd), (494, .iaload), (495, .aload_n 0)]
set_option maxRecDepth 100000 in
theorem lawC6_ok : (lawC6.all fun r => ab_okI code r) = true := by decide +kernel
def lawC7 : List (Nat × Instr) := [(496, .iload_n 3), (497, .iconst 2), (498, .iadd), (499, .iaload), (500, .invokevirtual 69), (503, .aload_n 2), (504, .aload_n 0), (505, .iload_n 3), (506, .iconst 1), (507, .iadd), (508, .iaload), (509, .aload_n 0), (510, .iload_n 3), (511, .iconst 2), (512, .iadd), (513, .iaload), (514, .invokevirtual 72), (517, .if_icmp .eq 417), (520, .iconst 0), (521, .ireturn), (522, .aload_n 1), (523, .aload_n 0), (524, .iload_n 3), (525, .iconst 1), (526, .iadd), (527, .iaload), (528, .aload_n 0), (529, .iload_n 3), (530, .iconst 2), (531, .iadd), (532, .iaload), (533, .aload_n 0), (534, .iload_n 3), (535, .iconst 3), (536, .iadd), (537, .iaload), (538, .invokevirtual 73), (541, .aload_n 2), (542, .aload_n 0), (543, .iload_n 3)]
set_option maxRecDepth 100000 in
theorem lawC7_ok : (lawC7.all fun r => ab_okI code r) = true := by decide +kernel
def lawC8 : List (Nat × Instr) := [(544, .iconst 1), (545, .iadd), (546, .iaload), (547, .aload_n 0), (548, .iload_n 3), (549, .iconst 2), (550, .iadd), (551, .iaload), (552, .aload_n 0), (553, .iload_n 3), (554, .iconst 3), (555, .iadd), (556, .iaload), (557, .invokevirtual 76), (560, .if_icmp .eq 374), (563, .iconst 0), (564, .ireturn), (565, .aload_n 1), (566, .aload_n 0), (567, .iload_n 3), (568, .iconst 1), (569, .iadd), (570, .iaload), (571, .invokevirtual 77), (574, .aload_n 2), (575, .aload_n 0), (576, .iload_n 3), (577, .iconst 1), (578, .iadd), (579, .iaload), (580, .invokevirtual 80), (583, .if_icmp .eq 351), (586, .iconst 0), (587, .ireturn), (588, .aload_n 1), (589, .aload_n 0), (590, .iload_n 3), (591, .iconst 1), (592, .iadd), (593, .iaload)]
set_option maxRecDepth 100000 in
theorem lawC8_ok : (lawC8.all fun r => ab_okI code r) = true := by decide +kernel
def lawC9 : List (Nat × Instr) := [(594, .invokevirtual 81), (597, .aload_n 2), (598, .aload_n 0), (599, .iload_n 3), (600, .iconst 1), (601, .iadd), (602, .iaload), (603, .invokevirtual 84), (606, .if_icmp .eq 328), (609, .iconst 0), (610, .ireturn), (611, .aload_n 1), (612, .aload_n 0), (613, .iload_n 3), (614, .iconst 1), (615, .iadd), (616, .iaload), (617, .aload_n 0), (618, .iload_n 3), (619, .iconst 2), (620, .iadd), (621, .iaload), (622, .invokevirtual 85), (625, .aload_n 2), (626, .aload_n 0), (627, .iload_n 3), (628, .iconst 1), (629, .iadd), (630, .iaload), (631, .aload_n 0), (632, .iload_n 3), (633, .iconst 2), (634, .iadd), (635, .iaload), (636, .invokevirtual 88), (639, .if_icmp .eq 295), (642, .iconst 0), (643, .ireturn), (644, .aload_n 1), (645, .aload_n 0)]
set_option maxRecDepth 100000 in
theorem lawC9_ok : (lawC9.all fun r => ab_okI code r) = true := by decide +kernel
def lawC10 : List (Nat × Instr) := [(646, .iload_n 3), (647, .iconst 1), (648, .iadd), (649, .iaload), (650, .aload_n 0), (651, .iload_n 3), (652, .iconst 2), (653, .iadd), (654, .iaload), (655, .invokevirtual 89), (658, .aload_n 2), (659, .aload_n 0), (660, .iload_n 3), (661, .iconst 1), (662, .iadd), (663, .iaload), (664, .aload_n 0), (665, .iload_n 3), (666, .iconst 2), (667, .iadd), (668, .iaload), (669, .invokevirtual 92), (672, .if_icmp .eq 262), (675, .iconst 0), (676, .ireturn), (677, .aload_n 1), (678, .aload_n 0), (679, .iload_n 3), (680, .iconst 1), (681, .iadd), (682, .iaload), (683, .aload_n 0), (684, .iload_n 3), (685, .iconst 2), (686, .iadd), (687, .iaload), (688, .aload_n 0), (689, .iload_n 3), (690, .iconst 3), (691, .iadd)]
set_option maxRecDepth 100000 in
theorem lawC10_ok : (lawC10.all fun r => ab_okI code r) = true := by decide +kernel
def lawC11 : List (Nat × Instr) := [(692, .iaload), (693, .aload_n 0), (694, .iload_n 3), (695, .iconst 4), (696, .iadd), (697, .iaload), (698, .invokevirtual 93), (701, .aload_n 2), (702, .aload_n 0), (703, .iload_n 3), (704, .iconst 1), (705, .iadd), (706, .iaload), (707, .aload_n 0), (708, .iload_n 3), (709, .iconst 2), (710, .iadd), (711, .iaload), (712, .aload_n 0), (713, .iload_n 3), (714, .iconst 3), (715, .iadd), (716, .iaload), (717, .aload_n 0), (718, .iload_n 3), (719, .iconst 4), (720, .iadd), (721, .iaload), (722, .invokevirtual 97), (725, .if_icmp .eq 209), (728, .iconst 0), (729, .ireturn), (730, .aload_n 1), (731, .aload_n 0), (732, .iload_n 3), (733, .iconst 1), (734, .iadd), (735, .iaload), (736, .aload_n 0), (737, .iload_n 3)]
set_option maxRecDepth 100000 in
theorem lawC11_ok : (lawC11.all fun r => ab_okI code r) = true := by decide +kernel
def lawC12 : List (Nat × Instr) := [(738, .iconst 2), (739, .iadd), (740, .iaload), (741, .invokevirtual 98), (744, .aload_n 2), (745, .aload_n 0), (746, .iload_n 3), (747, .iconst 1), (748, .iadd), (749, .iaload), (750, .aload_n 0), (751, .iload_n 3), (752, .iconst 2), (753, .iadd), (754, .iaload), (755, .invokevirtual 101), (758, .if_icmp .eq 176), (761, .iconst 0), (762, .ireturn), (763, .aload_n 1), (764, .aload_n 0), (765, .iload_n 3), (766, .iconst 1), (767, .iadd), (768, .iaload), (769, .aload_n 0), (770, .iload_n 3), (771, .iconst 2), (772, .iadd), (773, .iaload), (774, .aload_n 0), (775, .iload_n 3), (776, .iconst 3), (777, .iadd), (778, .iaload), (779, .invokevirtual 102), (782, .aload_n 2), (783, .aload_n 0), (784, .iload_n 3), (785, .iconst 1)]
set_option maxRecDepth 100000 in
theorem lawC12_ok : (lawC12.all fun r => ab_okI code r) = true := by decide +kernel
def lawC13 : List (Nat × Instr) := [(786, .iadd), (787, .iaload), (788, .aload_n 0), (789, .iload_n 3), (790, .iconst 2), (791, .iadd), (792, .iaload), (793, .aload_n 0), (794, .iload_n 3), (795, .iconst 3), (796, .iadd), (797, .iaload), (798, .invokevirtual 105), (801, .if_icmp .eq 133), (804, .iconst 0), (805, .ireturn), (806, .aload_n 1), (807, .aload_n 0), (808, .iload_n 3), (809, .iconst 1), (810, .iadd), (811, .iaload), (812, .aload_n 0), (813, .iload_n 3), (814, .iconst 2), (815, .iadd), (816, .iaload), (817, .invokevirtual 106), (820, .aload_n 2), (821, .aload_n 0), (822, .iload_n 3), (823, .iconst 1), (824, .iadd), (825, .iaload), (826, .aload_n 0), (827, .iload_n 3), (828, .iconst 2), (829, .iadd), (830, .iaload), (831, .invokevirtual 109)]
set_option maxRecDepth 100000 in
theorem lawC13_ok : (lawC13.all fun r => ab_okI code r) = true := by decide +kernel
def lawC14 : List (Nat × Instr) := [(834, .if_icmp .eq 100), (837, .iconst 0), (838, .ireturn), (839, .aload_n 1), (840, .invokevirtual 110), (843, .aload_n 2), (844, .invokevirtual 113), (847, .if_icmp .eq 87), (850, .iconst 0), (851, .ireturn), (852, .aload_n 1), (853, .invokevirtual 114), (856, .aload_n 2), (857, .invokevirtual 117), (860, .if_icmp .eq 74), (863, .iconst 0), (864, .ireturn), (865, .aload_n 1), (866, .aload_n 0), (867, .iload_n 3), (868, .iconst 1), (869, .iadd), (870, .iaload), (871, .invokevirtual 118), (874, .aload_n 2), (875, .aload_n 0), (876, .iload_n 3), (877, .iconst 1), (878, .iadd), (879, .iaload), (880, .invokevirtual 121), (883, .if_icmp .eq 51), (886, .iconst 0), (887, .ireturn), (888, .aload_n 1), (889, .aload_n 0), (890, .iload_n 3), (891, .iconst 1), (892, .iadd), (893, .iaload)]
set_option maxRecDepth 100000 in
theorem lawC14_ok : (lawC14.all fun r => ab_okI code r) = true := by decide +kernel
def lawC15 : List (Nat × Instr) := [(894, .invokevirtual 122), (897, .aload_n 2), (898, .aload_n 0), (899, .iload_n 3), (900, .iconst 1), (901, .iadd), (902, .iaload), (903, .invokevirtual 125), (906, .if_icmp .eq 28), (909, .iconst 0), (910, .ireturn), (911, .aload_n 1), (912, .aload_n 0), (913, .iload_n 3), (914, .iconst 1), (915, .iadd), (916, .iaload), (917, .invokevirtual 126), (920, .aload_n 2), (921, .aload_n 0), (922, .iload_n 3), (923, .iconst 1), (924, .iadd), (925, .iaload), (926, .invokevirtual 129), (929, .if_icmp .eq 5), (932, .iconst 0), (933, .ireturn), (934, .iinc 3 5), (937, .goto (-919)), (940, .iconst 1), (941, .ireturn)]
set_option maxRecDepth 100000 in
theorem lawC15_ok : (lawC15.all fun r => ab_okI code r) = true := by decide +kernel
def lawCs : List (List (Nat × Instr)) := [lawC0, lawC1, lawC2, lawC3, lawC4, lawC5, lawC6, lawC7, lawC8, lawC9, lawC10, lawC11, lawC12, lawC13, lawC14, lawC15]
theorem lawCs_ok : ∀ c ∈ lawCs, (c.all fun r => ab_okI code r) = true := List.forall_mem_cons.mpr ⟨lawC0_ok, List.forall_mem_cons.mpr ⟨lawC1_ok, List.forall_mem_cons.mpr ⟨lawC2_ok, List.forall_mem_cons.mpr ⟨lawC3_ok, List.forall_mem_cons.mpr ⟨lawC4_ok, List.forall_mem_cons.mpr ⟨lawC5_ok, List.forall_mem_cons.mpr ⟨lawC6_ok, List.forall_mem_cons.mpr ⟨lawC7_ok, List.forall_mem_cons.mpr ⟨lawC8_ok, List.forall_mem_cons.mpr ⟨lawC9_ok, List.forall_mem_cons.mpr ⟨lawC10_ok, List.forall_mem_cons.mpr ⟨lawC11_ok, List.forall_mem_cons.mpr ⟨lawC12_ok, List.forall_mem_cons.mpr ⟨lawC13_ok, List.forall_mem_cons.mpr ⟨lawC14_ok, List.forall_mem_cons.mpr ⟨lawC15_ok, fun _ h => absurd h List.not_mem_nil⟩⟩⟩⟩⟩⟩⟩⟩⟩⟩⟩⟩⟩⟩⟩⟩
theorem dL {pc : Nat} {ins : Instr} (j : Nat) (n : Nat) (h : (lawCs.getD j []).find? (fun r => r.1 == pc) = some (pc, ins)) (hn : ab_len ins = n + 1) : decode code pc = .ok (ins, n + 1) := by
  have hm := List.mem_of_find?_eq_some h
  have hc : (lawCs.getD j []).all (fun r => ab_okI code r) = true := by
    rw [List.getD_eq_getElem?_getD] at hm ⊢
    cases hj : lawCs[j]? with
    | none => rfl
    | some c => exact lawCs_ok c (List.mem_of_getElem? hj)
  have h2 := List.all_eq_true.mp hc _ hm
  unfold ab_okI at h2
  dsimp only at h2
  cases hd : decode code pc with
  | error e => rw [hd] at h2; cases h2
  | ok q =>
    obtain ⟨i, l⟩ := q
    rw [hd] at h2
    simp only [Bool.and_eq_true, decide_eq_true_eq, Bool.or_eq_true, beq_iff_eq] at h2
    obtain ⟨h3, h4⟩ := h2
    subst h3
    rcases h4 with h4 | h4
    · omega
    · rw [h4, hn]
theorem dl_0 : decode code 0 = .ok (.new 7, 3) := dL 0 2 (by decide +kernel) rfl
theorem dl_3 : decode code 3 = .ok (.dup, 1) := dL 0 0 (by decide +kernel) rfl
theorem dl_4 : decode code 4 = .ok (.invokespecial 9, 3) := dL 0 2 (by decide +kernel) rfl
theorem dl_7 : decode code 7 = .ok (.astore_n 1, 1) := dL 0 0 (by decide +kernel) rfl
theorem dl_8 : decode code 8 = .ok (.new 10, 3) := dL 0 2 (by decide +kernel) rfl
theorem dl_11 : decode code 11 = .ok (.dup, 1) := dL 0 0 (by decide +kernel) rfl
theorem dl_12 : decode code 12 = .ok (.invokespecial 12, 3) := dL 0 2 (by decide +kernel) rfl
theorem dl_15 : decode code 15 = .ok (.astore_n 2, 1) := dL 0 0 (by decide +kernel) rfl
theorem dl_16 : decode code 16 = .ok (.iconst 0, 1) := dL 0 0 (by decide +kernel) rfl
theorem dl_17 : decode code 17 = .ok (.istore_n 3, 1) := dL 0 0 (by decide +kernel) rfl
theorem dl_18 : decode code 18 = .ok (.iload_n 3, 1) := dL 0 0 (by decide +kernel) rfl
theorem dl_19 : decode code 19 = .ok (.aload_n 0, 1) := dL 0 0 (by decide +kernel) rfl
theorem dl_20 : decode code 20 = .ok (.arraylength, 1) := dL 0 0 (by decide +kernel) rfl
theorem dl_21 : decode code 21 = .ok (.iconst 5, 1) := dL 0 0 (by decide +kernel) rfl
theorem dl_22 : decode code 22 = .ok (.isub, 1) := dL 0 0 (by decide +kernel) rfl
theorem dl_23 : decode code 23 = .ok (.if_icmp .gt 917, 3) := dL 0 2 (by decide +kernel) rfl
theorem dl_26 : decode code 26 = .ok (.aload_n 0, 1) := dL 0 0 (by decide +kernel) rfl
theorem dl_27 : decode code 27 = .ok (.iload_n 3, 1) := dL 0 0 (by decide +kernel) rfl
theorem dl_28 : decode code 28 = .ok (.iaload, 1) := dL 0 0 (by decide +kernel) rfl
theorem dl_29 : decode code 29 = .ok (.bipush 31, 2) := dL 0 1 (by decide +kernel) rfl
theorem dl_31 : decode code 31 = .ok (.iand, 1) := dL 0 0 (by decide +kernel) rfl
theorem dl_32 : decode code 32 = .ok (.tableswitch 902 0 27 #[128, 151, 164, 177, 200, 233, 266, 289, 312, 345, 378, 421, 444, 457, 490, 533, 556, 579, 612, 645, 698, 731, 774, 807, 820, 833, 856, 879], 128) := by decide +kernel
theorem dl_160 : decode code 160 = .ok (.aload_n 1, 1) := dL 0 0 (by decide +kernel) rfl
theorem dl_161 : decode code 161 = .ok (.aload_n 0, 1) := dL 0 0 (by decide +kernel) rfl
theorem dl_162 : decode code 162 = .ok (.iload_n 3, 1) := dL 0 0 (by decide +kernel) rfl
theorem dl_163 : decode code 163 = .ok (.iconst 1, 1) := dL 0 0 (by decide +kernel) rfl
theorem dl_164 : decode code 164 = .ok (.iadd, 1) := dL 0 0 (by decide +kernel) rfl
theorem dl_165 : decode code 165 = .ok (.iaload, 1) := dL 0 0 (by decide +kernel) rfl
theorem dl_166 : decode code 166 = .ok (.invokevirtual 13, 3) := dL 0 2 (by decide +kernel) rfl
theorem dl_169 : decode code 169 = .ok (.aload_n 2, 1) := dL 0 0 (by decide +kernel) rfl
theorem dl_170 : decode code 170 = .ok (.aload_n 0, 1) := dL 0 0 (by decide +kernel) rfl
theorem dl_171 : decode code 171 = .ok (.iload_n 3, 1) := dL 0 0 (by decide +kernel) rfl
theorem dl_172 : decode code 172 = .ok (.iconst 1, 1) := dL 0 0 (by decide +kernel) rfl
theorem dl_173 : decode code 173 = .ok (.iadd, 1) := dL 0 0 (by decide +kernel) rfl
theorem dl_174 : decode code 174 = .ok (.iaload, 1) := dL 0 0 (by decide +kernel) rfl
theorem dl_175 : decode code 175 = .ok (.invokevirtual 17, 3) := dL 0 2 (by decide +kernel) rfl
theorem dl_178 : decode code 178 = .ok (.if_icmp .eq 756, 3) := dL 0 2 (by decide +kernel) rfl
theorem dl_181 : decode code 181 = .ok (.iconst 0, 1) := dL 0 0 (by decide +kernel) rfl
theorem dl_182 : decode code 182 = .ok (.ireturn, 1) := dL 0 0 (by decide +kernel) rfl
theorem dl_183 : decode code 183 = .ok (.aload_n 1, 1) := dL 0 0 (by decide +kernel) rfl
theorem dl_184 : decode code 184 = .ok (.invokevirtual 18, 3) := dL 1 2 (by decide +kernel) rfl
theorem dl_187 : decode code 187 = .ok (.aload_n 2, 1) := dL 1 0 (by decide +kernel) rfl
theorem dl_188 : decode code 188 = .ok (.invokevirtual 22, 3) := dL 1 2 (by decide +kernel) rfl
theorem dl_191 : decode code 191 = .ok (.if_icmp .eq 743, 3) := dL 1 2 (by decide +kernel) rfl
theorem dl_194 : decode code 194 = .ok (.iconst 0, 1) := dL 1 0 (by decide +kernel) rfl
theorem dl_195 : decode code 195 = .ok (.ireturn, 1) := dL 1 0 (by decide +kernel) rfl
theorem dl_196 : decode code 196 = .ok (.aload_n 1, 1) := dL 1 0 (by decide +kernel) rfl
theorem dl_197 : decode code 197 = .ok (.invokevirtual 23, 3) := dL 1 2 (by decide +kernel) rfl
theorem dl_200 : decode code 200 = .ok (.aload_n 2, 1) := dL 1 0 (by decide +kernel) rfl
theorem dl_201 : decode code 201 = .ok (.invokevirtual 26, 3) := dL 1 2 (by decide +kernel) rfl
theorem dl_204 : decode code 204 = .ok (.if_icmp .eq 730, 3) := dL 1 2 (by decide +kernel) rfl
theorem dl_207 : decode code 207 = .ok (.iconst 0, 1) := dL 1 0 (by decide +kernel) rfl
theorem dl_208 : decode code 208 = .ok (.ireturn, 1) := dL 1 0 (by decide +kernel) rfl
theorem dl_209 : decode code 209 = .ok (.aload_n 1, 1) := dL 1 0 (by decide +kernel) rfl
theorem dl_210 : decode code 210 = .ok (.aload_n 0, 1) := dL 1 0 (by decide +kernel) rfl
theorem dl_211 : decode code 211 = .ok (.iload_n 3, 1) := dL 1 0 (by decide +kernel) rfl
theorem dl_212 : decode code 212 = .ok (.iconst 1, 1) := dL 1 0 (by decide +kernel) rfl
theorem dl_213 : decode code 213 = .ok (.iadd, 1) := dL 1 0 (by decide +kernel) rfl
theorem dl_214 : decode code 214 = .ok (.iaload, 1) := dL 1 0 (by decide +kernel) rfl
theorem dl_215 : decode code 215 = .ok (.invokevirtual 27, 3) := dL 1 2 (by decide +kernel) rfl
theorem dl_218 : decode code 218 = .ok (.aload_n 2, 1) := dL 1 0 (by decide +kernel) rfl
theorem dl_219 : decode code 219 = .ok (.aload_n 0, 1) := dL 1 0 (by decide +kernel) rfl
theorem dl_220 : decode code 220 = .ok (.iload_n 3, 1) := dL 1 0 (by decide +kernel) rfl
theorem dl_221 : decode code 221 = .ok (.iconst 1, 1) := dL 1 0 (by decide +kernel) rfl
theorem dl_222 : decode code 222 = .ok (.iadd, 1) := dL 1 0 (by decide +kernel) rfl
theorem dl_223 : decode code 223 = .ok (.iaload, 1) := dL 1 0 (by decide +kernel) rfl
theorem dl_224 : decode code 224 = .ok (.invokevirtual 30, 3) := dL 1 2 (by decide +kernel) rfl
theorem dl_227 : decode code 227 = .ok (.if_icmp .eq 707, 3) := dL 1 2 (by decide +kernel) rfl
theorem dl_230 : decode code 230 = .ok (.iconst 0, 1) := dL 1 0 (by decide +kernel) rfl
theorem dl_231 : decode code 231 = .ok (.ireturn, 1) := dL 1 0 (by decide +kernel) rfl
theorem dl_232 : decode code 232 = .ok (.aload_n 1, 1) := dL 1 0 (by decide +kernel) rfl
theorem dl_233 : decode code 233 = .ok (.aload_n 0, 1) := dL 1 0 (by decide +kernel) rfl
theorem dl_234 : decode code 234 = .ok (.iload_n 3, 1) := dL 1 0 (by decide +kernel) rfl
theorem dl_235 : decode code 235 = .ok (.iconst 1, 1) := dL 1 0 (by decide +kernel) rfl
theorem dl_236 : decode code 236 = .ok (.iadd, 1) := dL 1 0 (by decide +kernel) rfl
theorem dl_237 : decode code 237 = .ok (.iaload, 1) := dL 1 0 (by decide +kernel) rfl
theorem dl_238 : decode code 238 = .ok (.aload_n 0, 1) := dL 1 0 (by decide +kernel) rfl
theorem dl_239 : decode code 239 = .ok (.iload_n 3, 1) := dL 1 0 (by decide +kernel) rfl
theorem dl_240 : decode code 240 = .ok (.iconst 2, 1) := dL 1 0 (by decide +kernel) rfl
theorem dl_241 : decode code 241 = .ok (.iadd, 1) := dL 1 0 (by decide +kernel) rfl
theorem dl_242 : decode code 242 = .ok (.iaload, 1) := dL 2 0 (by decide +kernel) rfl
theorem dl_243 : decode code 243 = .ok (.invokevirtual 31, 3) := dL 2 2 (by decide +kernel) rfl
theorem dl_246 : decode code 246 = .ok (.aload_n 2, 1) := dL 2 0 (by decide +kernel) rfl
theorem dl_247 : decode code 247 = .ok (.aload_n 0, 1) := dL 2 0 (by decide +kernel) rfl
theorem dl_248 : decode code 248 = .ok (.iload_n 3, 1) := dL 2 0 (by decide +kernel) rfl
theorem dl_249 : decode code 249 = .ok (.iconst 1, 1) := dL 2 0 (by decide +kernel) rfl
theorem dl_250 : decode code 250 = .ok (.iadd, 1) := dL 2 0 (by decide +kernel) rfl
theorem dl_251 : decode code 251 = .ok (.iaload, 1) := dL 2 0 (by decide +kernel) rfl
theorem dl_252 : decode code 252 = .ok (.aload_n 0, 1) := dL 2 0 (by decide +kernel) rfl
theorem dl_253 : decode code 253 = .ok (.iload_n 3, 1) := dL 2 0 (by decide +kernel) rfl
theorem dl_254 : decode code 254 = .ok (.iconst 2, 1) := dL 2 0 (by decide +kernel) rfl
theorem dl_255 : decode code 255 = .ok (.iadd, 1) := dL 2 0 (by decide +kernel) rfl
theorem dl_256 : decode code 256 = .ok (.iaload, 1) := dL 2 0 (by decide +kernel) rfl
theorem dl_257 : decode code 257 = .ok (.invokevirtual 35, 3) := dL 2 2 (by decide +kernel) rfl
theorem dl_260 : decode code 260 = .ok (.if_icmp .eq 674, 3) := dL 2 2 (by decide +kernel) rfl
theorem dl_263 : decode code 263 = .ok (.iconst 0, 1) := dL 2 0 (by decide +kernel) rfl
theorem dl_264 : decode code 264 = .ok (.ireturn, 1) := dL 2 0 (by decide +kernel) rfl
theorem dl_265 : decode code 265 = .ok (.aload_n 1, 1) := dL 2 0 (by decide +kernel) rfl
theorem dl_266 : decode code 266 = .ok (.aload_n 0, 1) := dL 2 0 (by decide +kernel) rfl
theorem dl_267 : decode code 267 = .ok (.iload_n 3, 1) := dL 2 0 (by decide +kernel) rfl
theorem dl_268 : decode code 268 = .ok (.iconst 1, 1) := dL 2 0 (by decide +kernel) rfl
theorem dl_269 : decode code 269 = .ok (.iadd, 1) := dL 2 0 (by decide +kernel) rfl
theorem dl_270 : decode code 270 = .ok (.iaload, 1) := dL 2 0 (by decide +kernel) rfl
theorem dl_271 : decode code 271 = .ok (.aload_n 0, 1) := dL 2 0 (by decide +kernel) rfl
theorem dl_272 : decode code 272 = .ok (.iload_n 3, 1) := dL 2 0 (by decide +kernel) rfl
theorem dl_273 : decode code 273 = .ok (.iconst 2, 1) := dL 2 0 (by decide +kernel) rfl
theorem dl_274 : decode code 274 = .ok (.iadd, 1) := dL 2 0 (by decide +kernel) rfl
theorem dl_275 : decode code 275 = .ok (.iaload, 1) := dL 2 0 (by decide +kernel) rfl
theorem dl_276 : decode code 276 = .ok (.invokevirtual 36, 3) := dL 2 2 (by decide +kernel) rfl
theorem dl_279 : decode code 279 = .ok (.aload_n 2, 1) := dL 2 0 (by decide +kernel) rfl
theorem dl_280 : decode code 280 = .ok (.aload_n 0, 1) := dL 2 0 (by decide +kernel) rfl
theorem dl_281 : decode code 281 = .ok (.iload_n 3, 1) := dL 2 0 (by decide +kernel) rfl
theorem dl_282 : decode code 282 = .ok (.iconst 1, 1) := dL 2 0 (by decide +kernel) rfl
theorem dl_283 : decode code 283 = .ok (.iadd, 1) := dL 2 0 (by decide +kernel) rfl
theorem dl_284 : decode code 284 = .ok (.iaload, 1) := dL 2 0 (by decide +kernel) rfl
theorem dl_285 : decode code 285 = .ok (.aload_n 0, 1) := dL 2 0 (by decide +kernel) rfl
theorem dl_286 : decode code 286 = .ok (.iload_n 3, 1) := dL 2 0 (by decide +kernel) rfl
theorem dl_287 : decode code 287 = .ok (.iconst 2, 1) := dL 2 0 (by decide +kernel) rfl
theorem dl_288 : decode code 288 = .ok (.iadd, 1) := dL 2 0 (by decide +kernel) rfl
theorem dl_289 : decode code 289 = .ok (.iaload, 1) := dL 2 0 (by decide +kernel) rfl
theorem dl_290 : decode code 290 = .ok (.invokevirtual 39, 3) := dL 3 2 (by decide +kernel) rfl
theorem dl_293 : decode code 293 = .ok (.if_icmp .eq 641, 3) := dL 3 2 (by decide +kernel) rfl
theorem dl_296 : decode code 296 = .ok (.iconst 0, 1) := dL 3 0 (by decide +kernel) rfl
theorem dl_297 : decode code 297 = .ok (.ireturn, 1) := dL 3 0 (by decide +kernel) rfl
theorem dl_298 : decode code 298 = .ok (.aload_n 1, 1) := dL 3 0 (by decide +kernel) rfl
theorem dl_299 : decode code 299 = .ok (.aload_n 0, 1) := dL 3 0 (by decide +kernel) rfl
theorem dl_300 : decode code 300 = .ok (.iload_n 3, 1) := dL 3 0 (by decide +kernel) rfl
theorem dl_301 : decode code 301 = .ok (.iconst 1, 1) := dL 3 0 (by decide +kernel) rfl
theorem dl_302 : decode code 302 = .ok (.iadd, 1) := dL 3 0 (by decide +kernel) rfl
theorem dl_303 : decode code 303 = .ok (.iaload, 1) := dL 3 0 (by decide +kernel) rfl
theorem dl_304 : decode code 304 = .ok (.invokevirtual 40, 3) := dL 3 2 (by decide +kernel) rfl
theorem dl_307 : decode code 307 = .ok (.aload_n 2, 1) := dL 3 0 (by decide +kernel) rfl
theorem dl_308 : decode code 308 = .ok (.aload_n 0, 1) := dL 3 0 (by decide +kernel) rfl
theorem dl_309 : decode code 309 = .ok (.iload_n 3, 1) := dL 3 0 (by decide +kernel) rfl
theorem dl_310 : decode code 310 = .ok (.iconst 1, 1) := dL 3 0 (by decide +kernel) rfl
theorem dl_311 : decode code 311 = .ok (.iadd, 1) := dL 3 0 (by decide +kernel) rfl
theorem dl_312 : decode code 312 = .ok (.iaload, 1) := dL 3 0 (by decide +kernel) rfl
theorem dl_313 : decode code 313 = .ok (.invokevirtual 43, 3) := dL 3 2 (by decide +kernel) rfl
theorem dl_316 : decode code 316 = .ok (.if_icmp .eq 618, 3) := dL 3 2 (by decide +kernel) rfl
theorem dl_319 : decode code 319 = .ok (.iconst 0, 1) := dL 3 0 (by decide +kernel) rfl
theorem dl_320 : decode code 320 = .ok (.ireturn, 1) := dL 3 0 (by decide +kernel) rfl
theorem dl_321 : decode code 321 = .ok (.aload_n 1, 1) := dL 3 0 (by decide +kernel) rfl
theorem dl_322 : decode code 322 = .ok (.aload_n 0, 1) := dL 3 0 (by decide +kernel) rfl
theorem dl_323 : decode code 323 = .ok (.iload_n 3, 1) := dL 3 0 (by decide +kernel) rfl
theorem dl_324 : decode code 324 = .ok (.iconst 1, 1) := dL 3 0 (by decide +kernel) rfl
theorem dl_325 : decode code 325 = .ok (.iadd, 1) := dL 3 0 (by decide +kernel) rfl
theorem dl_326 : decode code 326 = .ok (.iaload, 1) := dL 3 0 (by decide +kernel) rfl
theorem dl_327 : decode code 327 = .ok (.invokevirtual 44, 3) := dL 3 2 (by decide +kernel) rfl
theorem dl_330 : decode code 330 = .ok (.aload_n 2, 1) := dL 3 0 (by decide +kernel) rfl
theorem dl_331 : decode code 331 = .ok (.aload_n 0, 1) := dL 3 0 (by decide +kernel) rfl
theorem dl_332 : decode code 332 = .ok (.iload_n 3, 1) := dL 3 0 (by decide +kernel) rfl
theorem dl_333 : decode code 333 = .ok (.iconst 1, 1) := dL 3 0 (by decide +kernel) rfl
theorem dl_334 : decode code 334 = .ok (.iadd, 1) := dL 3 0 (by decide +kernel) rfl
theorem dl_335 : decode code 335 = .ok (.iaload, 1) := dL 3 0 (by decide +kernel) rfl
theorem dl_336 : decode code 336 = .ok (.invokevirtual 47, 3) := dL 3 2 (by decide +kernel) rfl
theorem dl_339 : decode code 339 = .ok (.if_icmp .eq 595, 3) := dL 3 2 (by decide +kernel) rfl
theorem dl_342 : decode code 342 = .ok (.iconst 0, 1) := dL 3 0 (by decide +kernel) rfl
theorem dl_343 : decode code 343 = .ok (.ireturn, 1) := dL 3 0 (by decide +kernel) rfl
theorem dl_344 : decode code 344 = .ok (.aload_n 1, 1) := dL 3 0 (by decide +kernel) rfl
theorem dl_345 : decode code 345 = .ok (.aload_n 0, 1) := dL 3 0 (by decide +kernel) rfl
theorem dl_346 : decode code 346 = .ok (.iload_n 3, 1) := dL 4 0 (by decide +kernel) rfl
theorem dl_347 : decode code 347 = .ok (.iconst 1, 1) := dL 4 0 (by decide +kernel) rfl
theorem dl_348 : decode code 348 = .ok (.iadd, 1) := dL 4 0 (by decide +kernel) rfl
theorem dl_349 : decode code 349 = .ok (.iaload, 1) := dL 4 0 (by decide +kernel) rfl
theorem dl_350 : decode code 350 = .ok (.aload_n 0, 1) := dL 4 0 (by decide +kernel) rfl
theorem dl_351 : decode code 351 = .ok (.iload_n 3, 1) := dL 4 0 (by decide +kernel) rfl
theorem dl_352 : decode code 352 = .ok (.iconst 2, 1) := dL 4 0 (by decide +kernel) rfl
theorem dl_353 : decode code 353 = .ok (.iadd, 1) := dL 4 0 (by decide +kernel) rfl
theorem dl_354 : decode code 354 = .ok (.iaload, 1) := dL 4 0 (by decide +kernel) rfl
theorem dl_355 : decode code 355 = .ok (.invokevirtual 48, 3) := dL 4 2 (by decide +kernel) rfl
theorem dl_358 : decode code 358 = .ok (.aload_n 2, 1) := dL 4 0 (by decide +kernel) rfl
theorem dl_359 : decode code 359 = .ok (.aload_n 0, 1) := dL 4 0 (by decide +kernel) rfl
theorem dl_360 : decode code 360 = .ok (.iload_n 3, 1) := dL 4 0 (by decide +kernel) rfl
theorem dl_361 : decode code 361 = .ok (.iconst 1, 1) := dL 4 0 (by decide +kernel) rfl
theorem dl_362 : decode code 362 = .ok (.iadd, 1) := dL 4 0 (by decide +kernel) rfl
theorem dl_363 : decode code 363 = .ok (.iaload, 1) := dL 4 0 (by decide +kernel) rfl
theorem dl_364 : decode code 364 = .ok (.aload_n 0, 1) := dL 4 0 (by decide +kernel) rfl
theorem dl_365 : decode code 365 = .ok (.iload_n 3, 1) := dL 4 0 (by decide +kernel) rfl
theorem dl_366 : decode code 366 = .ok (.iconst 2, 1) := dL 4 0 (by decide +kernel) rfl
theorem dl_367 : decode code 367 = .ok (.iadd, 1) := dL 4 0 (by decide +kernel) rfl
theorem dl_368 : decode code 368 = .ok (.iaload, 1) := dL 4 0 (by decide +kernel) rfl
theorem dl_369 : decode code 369 = .ok (.invokevirtual 51, 3) := dL 4 2 (by decide +kernel) rfl
theorem dl_372 : decode code 372 = .ok (.if_icmp .eq 562, 3) := dL 4 2 (by decide +kernel) rfl
theorem dl_375 : decode code 375 = .ok (.iconst 0, 1) := dL 4 0 (by decide +kernel) rfl
theorem dl_376 : decode code 376 = .ok (.ireturn, 1) := dL 4 0 (by decide +kernel) rfl
theorem dl_377 : decode code 377 = .ok (.aload_n 1, 1) := dL 4 0 (by decide +kernel) rfl
theorem dl_378 : decode code 378 = .ok (.aload_n 0, 1) := dL 4 0 (by decide +kernel) rfl
theorem dl_379 : decode code 379 = .ok (.iload_n 3, 1) := dL 4 0 (by decide +kernel) rfl
theorem dl_380 : decode code 380 = .ok (.iconst 1, 1) := dL 4 0 (by decide +kernel) rfl
theorem dl_381 : decode code 381 = .ok (.iadd, 1) := dL 4 0 (by decide +kernel) rfl
theorem dl_382 : decode code 382 = .ok (.iaload, 1) := dL 4 0 (by decide +kernel) rfl
theorem dl_383 : decode code 383 = .ok (.aload_n 0, 1) := dL 4 0 (by decide +kernel) rfl
theorem dl_384 : decode code 384 = .ok (.iload_n 3, 1) := dL 4 0 (by decide +kernel) rfl
theorem dl_385 : decode code 385 = .ok (.iconst 2, 1) := dL 4 0 (by decide +kernel) rfl
theorem dl_386 : decode code 386 = .ok (.iadd, 1) := dL 4 0 (by decide +kernel) rfl
theorem dl_387 : decode code 387 = .ok (.iaload, 1) := dL 4 0 (by decide +kernel) rfl
theorem dl_388 : decode code 388 = .ok (.invokevirtual 52, 3) := dL 4 2 (by decide +kernel) rfl
theorem dl_391 : decode code 391 = .ok (.aload_n 2, 1) := dL 4 0 (by decide +kernel) rfl
theorem dl_392 : decode code 392 = .ok (.aload_n 0, 1) := dL 4 0 (by decide +kernel) rfl
theorem dl_393 : decode code 393 = .ok (.iload_n 3, 1) := dL 4 0 (by decide +kernel) rfl
theorem dl_394 : decode code 394 = .ok (.iconst 1, 1) := dL 5 0 (by decide +kernel) rfl
theorem dl_395 : decode code 395 = .ok (.iadd, 1) := dL 5 0 (by decide +kernel) rfl
theorem dl_396 : decode code 396 = .ok (.iaload, 1) := dL 5 0 (by decide +kernel) rfl
theorem dl_397 : decode code 397 = .ok (.aload_n 0, 1) := dL 5 0 (by decide +kernel) rfl
theorem dl_398 : decode code 398 = .ok (.iload_n 3, 1) := dL 5 0 (by decide +kernel) rfl
theorem dl_399 : decode code 399 = .ok (.iconst 2, 1) := dL 5 0 (by decide +kernel) rfl
theorem dl_400 : decode code 400 = .ok (.iadd, 1) := dL 5 0 (by decide +kernel) rfl
theorem dl_401 : decode code 401 = .ok (.iaload, 1) := dL 5 0 (by decide +kernel) rfl
theorem dl_402 : decode code 402 = .ok (.invokevirtual 55, 3) := dL 5 2 (by decide +kernel) rfl
theorem dl_405 : decode code 405 = .ok (.if_icmp .eq 529, 3) := dL 5 2 (by decide +kernel) rfl
theorem dl_408 : decode code 408 = .ok (.iconst 0, 1) := dL 5 0 (by decide +kernel) rfl
theorem dl_409 : decode code 409 = .ok (.ireturn, 1) := dL 5 0 (by decide +kernel) rfl
theorem dl_410 : decode code 410 = .ok (.aload_n 1, 1) := dL 5 0 (by decide +kernel) rfl
theorem dl_411 : decode code 411 = .ok (.aload_n 0, 1) := dL 5 0 (by decide +kernel) rfl
theorem dl_412 : decode code 412 = .ok (.iload_n 3, 1) := dL 5 0 (by decide +kernel) rfl
theorem dl_413 : decode code 413 = .ok (.iconst 1, 1) := dL 5 0 (by decide +kernel) rfl
theorem dl_414 : decode code 414 = .ok (.iadd, 1) := dL 5 0 (by decide +kernel) rfl
theorem dl_415 : decode code 415 = .ok (.iaload, 1) := dL 5 0 (by decide +kernel) rfl
theorem dl_416 : decode code 416 = .ok (.aload_n 0, 1) := dL 5 0 (by decide +kernel) rfl
theorem dl_417 : decode code 417 = .ok (.iload_n 3, 1) := dL 5 0 (by decide +kernel) rfl
theorem dl_418 : decode code 418 = .ok (.iconst 2, 1) := dL 5 0 (by decide +kernel) rfl
theorem dl_419 : decode code 419 = .ok (.iadd, 1) := dL 5 0 (by decide +kernel) rfl
theorem dl_420 : decode code 420 = .ok (.iaload, 1) := dL 5 0 (by decide +kernel) rfl
theorem dl_421 : decode code 421 = .ok (.aload_n 0, 1) := dL 5 0 (by decide +kernel) rfl
theorem dl_422 : decode code 422 = .ok (.iload_n 3, 1) := dL 5 0 (by decide +kernel) rfl
theorem dl_423 : decode code 423 = .ok (.iconst 3, 1) := dL 5 0 (by decide +kernel) rfl
theorem dl_424 : decode code 424 = .ok (.iadd, 1) := dL 5 0 (by decide +kernel) rfl
theorem dl_425 : decode code 425 = .ok (.iaload, 1) := dL 5 0 (by decide +kernel) rfl
theorem dl_426 : decode code 426 = .ok (.invokevirtual 56, 3) := dL 5 2 (by decide +kernel) rfl
theorem dl_429 : decode code 429 = .ok (.aload_n 2, 1) := dL 5 0 (by decide +kernel) rfl
theorem dl_430 : decode code 430 = .ok (.aload_n 0, 1) := dL 5 0 (by decide +kernel) rfl
theorem dl_431 : decode code 431 = .ok (.iload_n 3, 1) := dL 5 0 (by decide +kernel) rfl
theorem dl_432 : decode code 432 = .ok (.iconst 1, 1) := dL 5 0 (by decide +kernel) rfl
theorem dl_433 : decode code 433 = .ok (.iadd, 1) := dL 5 0 (by decide +kernel) rfl
theorem dl_434 : decode code 434 = .ok (.iaload, 1) := dL 5 0 (by decide +kernel) rfl
theorem dl_435 : decode code 435 = .ok (.aload_n 0, 1) := dL 5 0 (by decide +kernel) rfl
theorem dl_436 : decode code 436 = .ok (.iload_n 3, 1) := dL 5 0 (by decide +kernel) rfl
theorem dl_437 : decode code 437 = .ok (.iconst 2, 1) := dL 5 0 (by decide +kernel) rfl
theorem dl_438 : decode code 438 = .ok (.iadd, 1) := dL 5 0 (by decide +kernel) rfl
theorem dl_439 : decode code 439 = .ok (.iaload, 1) := dL 5 0 (by decide +kernel) rfl
theorem dl_440 : decode code 440 = .ok (.aload_n 0, 1) := dL 6 0 (by decide +kernel) rfl
theorem dl_441 : decode code 441 = .ok (.iload_n 3, 1) := dL 6 0 (by decide +kernel) rfl
theorem dl_442 : decode code 442 = .ok (.iconst 3, 1) := dL 6 0 (by decide +kernel) rfl
theorem dl_443 : decode code 443 = .ok (.iadd, 1) := dL 6 0 (by decide +kernel) rfl
theorem dl_444 : decode code 444 = .ok (.iaload, 1) := dL 6 0 (by decide +kernel) rfl
theorem dl_445 : decode code 445 = .ok (.invokevirtual 60, 3) := dL 6 2 (by decide +kernel) rfl
theorem dl_448 : decode code 448 = .ok (.if_icmp .eq 486, 3) := dL 6 2 (by decide +kernel) rfl
theorem dl_451 : decode code 451 = .ok (.iconst 0, 1) := dL 6 0 (by decide +kernel) rfl
theorem dl_452 : decode code 452 = .ok (.ireturn, 1) := dL 6 0 (by decide +kernel) rfl
theorem dl_453 : decode code 453 = .ok (.aload_n 1, 1) := dL 6 0 (by decide +kernel) rfl
theorem dl_454 : decode code 454 = .ok (.aload_n 0, 1) := dL 6 0 (by decide +kernel) rfl
theorem dl_455 : decode code 455 = .ok (.iload_n 3, 1) := dL 6 0 (by decide +kernel) rfl
theorem dl_456 : decode code 456 = .ok (.iconst 1, 1) := dL 6 0 (by decide +kernel) rfl
theorem dl_457 : decode code 457 = .ok (.iadd, 1) := dL 6 0 (by decide +kernel) rfl
theorem dl_458 : decode code 458 = .ok (.iaload, 1) := dL 6 0 (by decide +kernel) rfl
theorem dl_459 : decode code 459 = .ok (.invokevirtual 61, 3) := dL 6 2 (by decide +kernel) rfl
theorem dl_462 : decode code 462 = .ok (.aload_n 2, 1) := dL 6 0 (by decide +kernel) rfl
theorem dl_463 : decode code 463 = .ok (.aload_n 0, 1) := dL 6 0 (by decide +kernel) rfl
theorem dl_464 : decode code 464 = .ok (.iload_n 3, 1) := dL 6 0 (by decide +kernel) rfl
theorem dl_465 : decode code 465 = .ok (.iconst 1, 1) := dL 6 0 (by decide +kernel) rfl
theorem dl_466 : decode code 466 = .ok (.iadd, 1) := dL 6 0 (by decide +kernel) rfl
theorem dl_467 : decode code 467 = .ok (.iaload, 1) := dL 6 0 (by decide +kernel) rfl
theorem dl_468 : decode code 468 = .ok (.invokevirtual 64, 3) := dL 6 2 (by decide +kernel) rfl
theorem dl_471 : decode code 471 = .ok (.if_icmp .eq 463, 3) := dL 6 2 (by decide +kernel) rfl
theorem dl_474 : decode code 474 = .ok (.iconst 0, 1) := dL 6 0 (by decide +kernel) rfl
theorem dl_475 : decode code 475 = .ok (.ireturn, 1) := dL 6 0 (by decide +kernel) rfl
theorem dl_476 : decode code 476 = .ok (.aload_n 1, 1) := dL 6 0 (by decide +kernel) rfl
theorem dl_477 : decode code 477 = .ok (.invokevirtual 65, 3) := dL 6 2 (by decide +kernel) rfl
theorem dl_480 : decode code 480 = .ok (.aload_n 2, 1) := dL 6 0 (by decide +kernel) rfl
theorem dl_481 : decode code 481 = .ok (.invokevirtual 68, 3) := dL 6 2 (by decide +kernel) rfl
theorem dl_484 : decode code 484 = .ok (.if_icmp .eq 450, 3) := dL 6 2 (by decide +kernel) rfl
theorem dl_487 : decode code 487 = .ok (.iconst 0, 1) := dL 6 0 (by decide +kernel) rfl
theorem dl_488 : decode code 488 = .ok (.ireturn, 1) := dL 6 0 (by decide +kernel) rfl
theorem dl_489 : decode code 489 = .ok (.aload_n 1, 1) := dL 6 0 (by decide +kernel) rfl
theorem dl_490 : decode code 490 = .ok (.aload_n 0, 1) := dL 6 0 (by decide +kernel) rfl
theorem dl_491 : decode code 491 = .ok (.iload_n 3, 1) := dL 6 0 (by decide +kernel) rfl
theorem dl_492 : decode code 492 = .ok (.iconst 1, 1) := dL 6 0 (by decide +kernel) rfl
theorem dl_493 : decode code 493 = .ok (.iadd, 1) := dL 6 0 (by decide +kernel) rfl
theorem dl_494 : decode code 494 = .ok (.iaload, 1) := dL 6 0 (by decide +kernel) rfl
theorem dl_495 : decode code 495 = .ok (.aload_n 0, 1) := dL 6 0 (by decide +kernel) rfl
theorem dl_496 : decode code 496 = .ok (.iload_n 3, 1) := dL 7 0 (by decide +kernel) rfl
theorem dl_497 : decode code 497 = .ok (.iconst 2, 1) := dL 7 0 (by decide +kernel) rfl
theorem dl_498 : decode code 498 = .ok (.iadd, 1) := dL 7 0 (by decide +kernel) rfl
theorem dl_499 : decode code 499 = .ok (.iaload, 1) := dL 7 0 (by decide +kernel) rfl
theorem dl_500 : decode code 500 = .ok (.invokevirtual 69, 3) := dL 7 2 (by decide +kernel) rfl
theorem dl_503 : decode code 503 = .ok (.aload_n 2, 1) := dL 7 0 (by decide +kernel) rfl
theorem dl_504 : decode code 504 = .ok (.aload_n 0, 1) := dL 7 0 (by decide +kernel) rfl
theorem dl_505 : decode code 505 = .ok (.iload_n 3, 1) := dL 7 0 (by decide +kernel) rfl
theorem dl_506 : decode code 506 = .ok (.iconst 1, 1) := dL 7 0 (by decide +kernel) rfl
theorem dl_507 : decode code 507 = .ok (.iadd, 1) := dL 7 0 (by decide +kernel) rfl
theorem dl_508 : decode code 508 = .ok (.iaload, 1) := dL 7 0 (by decide +kernel) rfl
theorem dl_509 : decode code 509 = .ok (.aload_n 0, 1) := dL 7 0 (by decide +kernel) rfl
theorem dl_510 : decode code 510 = .ok (.iload_n 3, 1) := dL 7 0 (by decide +kernel) rfl
theorem dl_511 : decode code 511 = .ok (.iconst 2, 1) := dL 7 0 (by decide +kernel) rfl
theorem dl_512 : decode code 512 = .ok (.iadd, 1) := dL 7 0 (by decide +kernel) rfl
theorem dl_513 : decode code 513 = .ok (.iaload, 1) := dL 7 0 (by decide +kernel) rfl
theorem dl_514 : decode code 514 = .ok (.invokevirtual 72, 3) := dL 7 2 (by decide +kernel) rfl
theorem dl_517 : decode code 517 = .ok (.if_icmp .eq 417, 3) := dL 7 2 (by decide +kernel) rfl
theorem dl_520 : decode code 520 = .ok (.iconst 0, 1) := dL 7 0 (by decide +kernel) rfl
theorem dl_521 : decode code 521 = .ok (.ireturn, 1) := dL 7 0 (by decide +kernel) rfl
theorem dl_522 : decode code 522 = .ok (.aload_n 1, 1) := dL 7 0 (by decide +kernel) rfl
theorem dl_523 : decode code 523 = .ok (.aload_n 0, 1) := dL 7 0 (by decide +kernel) rfl
theorem dl_524 : decode code 524 = .ok (.iload_n 3, 1) := dL 7 0 (by decide +kernel) rfl
theorem dl_525 : decode code 525 = .ok (.iconst 1, 1) := dL 7 0 (by decide +kernel) rfl
theorem dl_526 : decode code 526 = .ok (.iadd, 1) := dL 7 0 (by decide +kernel) rfl
theorem dl_527 : decode code 527 = .ok (.iaload, 1) := dL 7 0 (by decide +kernel) rfl
theorem dl_528 : decode code 528 = .ok (.aload_n 0, 1) := dL 7 0 (by decide +kernel) rfl
theorem dl_529 : decode code 529 = .ok (.iload_n 3, 1) := dL 7 0 (by decide +kernel) rfl
theorem dl_530 : decode code 530 = .ok (.iconst 2, 1) := dL 7 0 (by decide +kernel) rfl
theorem dl_531 : decode code 531 = .ok (.iadd, 1) := dL 7 0 (by decide +kernel) rfl
theorem dl_532 : decode code 532 = .ok (.iaload, 1) := dL 7 0 (by decide +kernel) rfl
theorem dl_533 : decode code 533 = .ok (.aload_n 0, 1) := dL 7 0 (by decide +kernel) rfl
theorem dl_534 : decode code 534 = .ok (.iload_n 3, 1) := dL 7 0 (by decide +kernel) rfl
theorem dl_535 : decode code 535 = .ok (.iconst 3, 1) := dL 7 0 (by decide +kernel) rfl
theorem dl_536 : decode code 536 = .ok (.iadd, 1) := dL 7 0 (by decide +kernel) rfl
theorem dl_537 : decode code 537 = .ok (.iaload, 1) := dL 7 0 (by decide +kernel) rfl
theorem dl_538 : decode code 538 = .ok (.invokevirtual 73, 3) := dL 7 2 (by decide +kernel) rfl
theorem dl_541 : decode code 541 = .ok (.aload_n 2, 1) := dL 7 0 (by decide +kernel) rfl
theorem dl_542 : decode code 542 = .ok (.aload_n 0, 1) := dL 7 0 (by decide +kernel) rfl
theorem dl_543 : decode code 543 = .ok (.iload_n 3, 1) := dL 7 0 (by decide +kernel) rfl
theorem dl_544 : decode code 544 = .ok (.iconst 1, 1) := dL 8 0 (by decide +kernel) rfl
theorem dl_545 : decode code 545 = .ok (.iadd, 1) := dL 8 0 (by decide +kernel) rfl
theorem dl_546 : decode code 546 = .ok (.iaload, 1) := dL 8 0 (by decide +kernel) rfl
theorem dl_547 : decode code 547 = .ok (.aload_n 0, 1) := dL 8 0 (by decide +kernel) rfl
theorem dl_548 : decode code 548 = .ok (.iload_n 3, 1) := dL 8 0 (by decide +kernel) rfl
theorem dl_549 : decode code 549 = .ok (.iconst 2, 1) := dL 8 0 (by decide +kernel) rfl
theorem dl_550 : decode code 550 = .ok (.iadd, 1) := dL 8 0 (by decide +kernel) rfl
theorem dl_551 : decode code 551 = .ok (.iaload, 1) := dL 8 0 (by decide +kernel) rfl
theorem dl_552 : decode code 552 = .ok (.aload_n 0, 1) := dL 8 0 (by decide +kernel) rfl
theorem dl_553 : decode code 553 = .ok (.iload_n 3, 1) := dL 8 0 (by decide +kernel) rfl
theorem dl_554 : decode code 554 = .ok (.iconst 3, 1) := dL 8 0 (by decide +kernel) rfl
theorem dl_555 : decode code 555 = .ok (.iadd, 1) := dL 8 0 (by decide +kernel) rfl
theorem dl_556 : decode code 556 = .ok (.iaload, 1) := dL 8 0 (by decide +kernel) rfl
theorem dl_557 : decode code 557 = .ok (.invokevirtual 76, 3) := dL 8 2 (by decide +kernel) rfl
theorem dl_560 : decode code 560 = .ok (.if_icmp .eq 374, 3) := dL 8 2 (by decide +kernel) rfl
theorem dl_563 : decode code 563 = .ok (.iconst 0, 1) := dL 8 0 (by decide +kernel) rfl
theorem dl_564 : decode code 564 = .ok (.ireturn, 1) := dL 8 0 (by decide +kernel) rfl
theorem dl_565 : decode code 565 = .ok (.aload_n 1, 1) := dL 8 0 (by decide +kernel) rfl
theorem dl_566 : decode code 566 = .ok (.aload_n 0, 1) := dL 8 0 (by decide +kernel) rfl
theorem dl_567 : decode code 567 = .ok (.iload_n 3, 1) := dL 8 0 (by decide +kernel) rfl
theorem dl_568 : decode code 568 = .ok (.iconst 1, 1) := dL 8 0 (by decide +kernel) rfl
theorem dl_569 : decode code 569 = .ok (.iadd, 1) := dL 8 0 (by decide +kernel) rfl
theorem dl_570 : decode code 570 = .ok (.iaload, 1) := dL 8 0 (by decide +kernel) rfl
theorem dl_571 : decode code 571 = .ok (.invokevirtual 77, 3) := dL 8 2 (by decide +kernel) rfl
theorem dl_574 : decode code 574 = .ok (.aload_n 2, 1) := dL 8 0 (by decide +kernel) rfl
theorem dl_575 : decode code 575 = .ok (.aload_n 0, 1) := dL 8 0 (by decide +kernel) rfl
theorem dl_576 : decode code 576 = .ok (.iload_n 3, 1) := dL 8 0 (by decide +kernel) rfl
theorem dl_577 : decode code 577 = .ok (.iconst 1, 1) := dL 8 0 (by decide +kernel) rfl
theorem dl_578 : decode code 578 = .ok (.iadd, 1) := dL 8 0 (by decide +kernel) rfl
theorem dl_579 : decode code 579 = .ok (.iaload, 1) := dL 8 0 (by decide +kernel) rfl
theorem dl_580 : decode code 580 = .ok (.invokevirtual 80, 3) := dL 8 2 (by decide +kernel) rfl
theorem dl_583 : decode code 583 = .ok (.if_icmp .eq 351, 3) := dL 8 2 (by decide +kernel) rfl
theorem dl_586 : decode code 586 = .ok (.iconst 0, 1) := dL 8 0 (by decide +kernel) rfl
theorem dl_587 : decode code 587 = .ok (.ireturn, 1) := dL 8 0 (by decide +kernel) rfl
theorem dl_588 : decode code 588 = .ok (.aload_n 1, 1) := dL 8 0 (by decide +kernel) rfl
theorem dl_589 : decode code 589 = .ok (.aload_n 0, 1) := dL 8 0 (by decide +kernel) rfl
theorem dl_590 : decode code 590 = .ok (.iload_n 3, 1) := dL 8 0 (by decide +kernel) rfl
theorem dl_591 : decode code 591 = .ok (.iconst 1, 1) := dL 8 0 (by decide +kernel) rfl
theorem dl_592 : decode code 592 = .ok (.iadd, 1) := dL 8 0 (by decide +kernel) rfl
theorem dl_593 : decode code 593 = .ok (.iaload, 1) := dL 8 0 (by decide +kernel) rfl
theorem dl_594 : decode code 594 = .ok (.invokevirtual 81, 3) := dL 9 2 (by decide +kernel) rfl
theorem dl_597 : decode code 597 = .ok (.aload_n 2, 1) := dL 9 0 (by decide +kernel) rfl
theorem dl_598 : decode code 598 = .ok (.aload_n 0, 1) := dL 9 0 (by decide +kernel) rfl
theorem dl_599 : decode code 599 = .ok (.iload_n 3, 1) := dL 9 0 (by decide +kernel) rfl
theorem dl_600 : decode code 600 = .ok (.iconst 1, 1) := dL 9 0 (by decide +kernel) rfl
theorem dl_601 : decode code 601 = .ok (.iadd, 1) := dL 9 0 (by decide +kernel) rfl
theorem dl_602 : decode code 602 = .ok (.iaload, 1) := dL 9 0 (by decide +kernel) rfl
theorem dl_603 : decode code 603 = .ok (.invokevirtual 84, 3) := dL 9 2 (by decide +kernel) rfl
theorem dl_606 : decode code 606 = .ok (.if_icmp .eq 328, 3) := dL 9 2 (by decide +kernel) rfl
theorem dl_609 : decode code 609 = .ok (.iconst 0, 1) := dL 9 0 (by decide +kernel) rfl
theorem dl_610 : decode code 610 = .ok (.ireturn, 1) := dL 9 0 (by decide +kernel) rfl
theorem dl_611 : decode code 611 = .ok (.aload_n 1, 1) := dL 9 0 (by decide +kernel) rfl
theorem dl_612 : decode code 612 = .ok (.aload_n 0, 1) := dL 9 0 (by decide +kernel) rfl
theorem dl_613 : decode code 613 = .ok (.iload_n 3, 1) := dL 9 0 (by decide +kernel) rfl
theorem dl_614 : decode code 614 = .ok (.iconst 1, 1) := dL 9 0 (by decide +kernel) rfl
theorem dl_615 : decode code 615 = .ok (.iadd, 1) := dL 9 0 (by decide +kernel) rfl
theorem dl_616 : decode code 616 = .ok (.iaload, 1) := dL 9 0 (by decide +kernel) rfl
theorem dl_617 : decode code 617 = .ok (.aload_n 0, 1) := dL 9 0 (by decide +kernel) rfl
theorem dl_618 : decode code 618 = .ok (.iload_n 3, 1) := dL 9 0 (by decide +kernel) rfl
theorem dl_619 : decode code 619 = .ok (.iconst 2, 1) := dL 9 0 (by decide +kernel) rfl
theorem dl_620 : decode code 620 = .ok (.iadd, 1) := dL 9 0 (by decide +kernel) rfl
theorem dl_621 : decode code 621 = .ok (.iaload, 1) := dL 9 0 (by decide +kernel) rfl
theorem dl_622 : decode code 622 = .ok (.invokevirtual 85, 3) := dL 9 2 (by decide +kernel) rfl
theorem dl_625 : decode code 625 = .ok (.aload_n 2, 1) := dL 9 0 (by decide +kernel) rfl
theorem dl_626 : decode code 626 = .ok (.aload_n 0, 1) := dL 9 0 (by decide +kernel) rfl
theorem dl_627 : decode code 627 = .ok (.iload_n 3, 1) := dL 9 0 (by decide +kernel) rfl
theorem dl_628 : decode code 628 = .ok (.iconst 1, 1) := dL 9 0 (by decide +kernel) rfl
theorem dl_629 : decode code 629 = .ok (.iadd, 1) := dL 9 0 (by decide +kernel) rfl
theorem dl_630 : decode code 630 = .ok (.iaload, 1) := dL 9 0 (by decide +kernel) rfl
theorem dl_631 : decode code 631 = .ok (.aload_n 0, 1) := dL 9 0 (by decide +kernel) rfl
theorem dl_632 : decode code 632 = .ok (.iload_n 3, 1) := dL 9 0 (by decide +kernel) rfl
theorem dl_633 : decode code 633 = .ok (.iconst 2, 1) := dL 9 0 (by decide +kernel) rfl
theorem dl_634 : decode code 634 = .ok (.iadd, 1) := dL 9 0 (by decide +kernel) rfl
theorem dl_635 : decode code 635 = .ok (.iaload, 1) := dL 9 0 (by decide +kernel) rfl
theorem dl_636 : decode code 636 = .ok (.invokevirtual 88, 3) := dL 9 2 (by decide +kernel) rfl
theorem dl_639 : decode code 639 = .ok (.if_icmp .eq 295, 3) := dL 9 2 (by decide +kernel) rfl
theorem dl_642 : decode code 642 = .ok (.iconst 0, 1) := dL 9 0 (by decide +kernel) rfl
theorem dl_643 : decode code 643 = .ok (.ireturn, 1) := dL 9 0 (by decide +kernel) rfl
theorem dl_644 : decode code 644 = .ok (.aload_n 1, 1) := dL 9 0 (by decide +kernel) rfl
theorem dl_645 : decode code 645 = .ok (.aload_n 0, 1) := dL 9 0 (by decide +kernel) rfl
theorem dl_646 : decode code 646 = .ok (.iload_n 3, 1) := dL 10 0 (by decide +kernel) rfl
theorem dl_647 : decode code 647 = .ok (.iconst 1, 1) := dL 10 0 (by decide +kernel) rfl
theorem dl_648 : decode code 648 = .ok (.iadd, 1) := dL 10 0 (by decide +kernel) rfl
theorem dl_649 : decode code 649 = .ok (.iaload, 1) := dL 10 0 (by decide +kernel) rfl
theorem dl_650 : decode code 650 = .ok (.aload_n 0, 1) := dL 10 0 (by decide +kernel) rfl
theorem dl_651 : decode code 651 = .ok (.iload_n 3, 1) := dL 10 0 (by decide +kernel) rfl
theorem dl_652 : decode code 652 = .ok (.iconst 2, 1) := dL 10 0 (by decide +kernel) rfl
theorem dl_653 : decode code 653 = .ok (.iadd, 1) := dL 10 0 (by decide +kernel) rfl
theorem dl_654 : decode code 654 = .ok (.iaload, 1) := dL 10 0 (by decide +kernel) rfl
theorem dl_655 : decode code 655 = .ok (.invokevirtual 89, 3) := dL 10 2 (by decide +kernel) rfl
theorem dl_658 : decode code 658 = .ok (.aload_n 2, 1) := dL 10 0 (by decide +kernel) rfl
theorem dl_659 : decode code 659 = .ok (.aload_n 0, 1) := dL 10 0 (by decide +kernel) rfl
theorem dl_660 : decode code 660 = .ok (.iload_n 3, 1) := dL 10 0 (by decide +kernel) rfl
theorem dl_661 : decode code 661 = .ok (.iconst 1, 1) := dL 10 0 (by decide +kernel) rfl
theorem dl_662 : decode code 662 = .ok (.iadd, 1) := dL 10 0 (by decide +kernel) rfl
theorem dl_663 : decode code 663 = .ok (.iaload, 1) := dL 10 0 (by decide +kernel) rfl
theorem dl_664 : decode code 664 = .ok (.aload_n 0, 1) := dL 10 0 (by decide +kernel) rfl
theorem dl_665 : decode code 665 = .ok (.iload_n 3, 1) := dL 10 0 (by decide +kernel) rfl
theorem dl_666 : decode code 666 = .ok (.iconst 2, 1) := dL 10 0 (by decide +kernel) rfl
theorem dl_667 : decode code 667 = .ok (.iadd, 1) := dL 10 0 (by decide +kernel) rfl
theorem dl_668 : decode code 668 = .ok (.iaload, 1) := dL 10 0 (by decide +kernel) rfl
theorem dl_669 : decode code 669 = .ok (.invokevirtual 92, 3) := dL 10 2 (by decide +kernel) rfl
theorem dl_672 : decode code 672 = .ok (.if_icmp .eq 262, 3) := dL 10 2 (by decide +kernel) rfl
theorem dl_675 : decode code 675 = .ok (.iconst 0, 1) := dL 10 0 (by decide +kernel) rfl
theorem dl_676 : decode code 676 = .ok (.ireturn, 1) := dL 10 0 (by decide +kernel) rfl
theorem dl_677 : decode code 677 = .ok (.aload_n 1, 1) := dL 10 0 (by decide +kernel) rfl
theorem dl_678 : decode code 678 = .ok (.aload_n 0, 1) := dL 10 0 (by decide +kernel) rfl
theorem dl_679 : decode code 679 = .ok (.iload_n 3, 1) := dL 10 0 (by decide +kernel) rfl
theorem dl_680 : decode code 680 = .ok (.iconst 1, 1) := dL 10 0 (by decide +kernel) rfl
theorem dl_681 : decode code 681 = .ok (.iadd, 1) := dL 10 0 (by decide +kernel) rfl
theorem dl_682 : decode code 682 = .ok (.iaload, 1) := dL 10 0 (by decide +kernel) rfl
theorem dl_683 : decode code 683 = .ok (.aload_n 0, 1) := dL 10 0 (by decide +kernel) rfl
theorem dl_684 : decode code 684 = .ok (.iload_n 3, 1) := dL 10 0 (by decide +kernel) rfl
theorem dl_685 : decode code 685 = .ok (.iconst 2, 1) := dL 10 0 (by decide +kernel) rfl
theorem dl_686 : decode code 686 = .ok (.iadd, 1) := dL 10 0 (by decide +kernel) rfl
theorem dl_687 : decode code 687 = .ok (.iaload, 1) := dL 10 0 (by decide +kernel) rfl
theorem dl_688 : decode code 688 = .ok (.aload_n 0, 1) := dL 10 0 (by decide +kernel) rfl
theorem dl_689 : decode code 689 = .ok (.iload_n 3, 1) := dL 10 0 (by decide +kernel) rfl
theorem dl_690 : decode code 690 = .ok (.iconst 3, 1) := dL 10 0 (by decide +kernel) rfl
theorem dl_691 : decode code 691 = .ok (.iadd, 1) := dL 10 0 (by decide +kernel) rfl
theorem dl_692 : decode code 692 = .ok (.iaload, 1) := dL 11 0 (by decide +kernel) rfl
theorem dl_693 : decode code 693 = .ok (.aload_n 0, 1) := dL 11 0 (by decide +kernel) rfl
theorem dl_694 : decode code 694 = .ok (.iload_n 3, 1) := dL 11 0 (by decide +kernel) rfl
theorem dl_695 : decode code 695 = .ok (.iconst 4, 1) := dL 11 0 (by decide +kernel) rfl
theorem dl_696 : decode code 696 = .ok (.iadd, 1) := dL 11 0 (by decide +kernel) rfl
theorem dl_697 : decode code 697 = .ok (.iaload, 1) := dL 11 0 (by decide +kernel) rfl
theorem dl_698 : decode code 698 = .ok (.invokevirtual 93, 3) := dL 11 2 (by decide +kernel) rfl
theorem dl_701 : decode code 701 = .ok (.aload_n 2, 1) := dL 11 0 (by decide +kernel) rfl
theorem dl_702 : decode code 702 = .ok (.aload_n 0, 1) := dL 11 0 (by decide +kernel) rfl
theorem dl_703 : decode code 703 = .ok (.iload_n 3, 1) := dL 11 0 (by decide +kernel) rfl
theorem dl_704 : decode code 704 = .ok (.iconst 1, 1) := dL 11 0 (by decide +kernel) rfl
theorem dl_705 : decode code 705 = .ok (.iadd, 1) := dL 11 0 (by decide +kernel) rfl
theorem dl_706 : decode code 706 = .ok (.iaload, 1) := dL 11 0 (by decide +kernel) rfl
theorem dl_707 : decode code 707 = .ok (.aload_n 0, 1) := dL 11 0 (by decide +kernel) rfl
theorem dl_708 : decode code 708 = .ok (.iload_n 3, 1) := dL 11 0 (by decide +kernel) rfl
theorem dl_709 : decode code 709 = .ok (.iconst 2, 1) := dL 11 0 (by decide +kernel) rfl
theorem dl_710 : decode code 710 = .ok (.iadd, 1) := dL 11 0 (by decide +kernel) rfl
theorem dl_711 : decode code 711 = .ok (.iaload, 1) := dL 11 0 (by decide +kernel) rfl
theorem dl_712 : decode code 712 = .ok (.aload_n 0, 1) := dL 11 0 (by decide +kernel) rfl
theorem dl_713 : decode code 713 = .ok (.iload_n 3, 1) := dL 11 0 (by decide +kernel) rfl
theorem dl_714 : decode code 714 = .ok (.iconst 3, 1) := dL 11 0 (by decide +kernel) rfl
theorem dl_715 : decode code 715 = .ok (.iadd, 1) := dL 11 0 (by decide +kernel) rfl
theorem dl_716 : decode code 716 = .ok (.iaload, 1) := dL 11 0 (by decide +kernel) rfl
theorem dl_717 : decode code 717 = .ok (.aload_n 0, 1) := dL 11 0 (by decide +kernel) rfl
theorem dl_718 : decode code 718 = .ok (.iload_n 3, 1) := dL 11 0 (by decide +kernel) rfl
theorem dl_719 : decode code 719 = .ok (.iconst 4, 1) := dL 11 0 (by decide +kernel) rfl
theorem dl_720 : decode code 720 = .ok (.iadd, 1) := dL 11 0 (by decide +kernel) rfl
theorem dl_721 : decode code 721 = .ok (.iaload, 1) := dL 11 0 (by decide +kernel) rfl
theorem dl_722 : decode code 722 = .ok (.invokevirtual 97, 3) := dL 11 2 (by decide +kernel) rfl
theorem dl_725 : decode code 725 = .ok (.if_icmp .eq 209, 3) := dL 11 2 (by decide +kernel) rfl
theorem dl_728 : decode code 728 = .ok (.iconst 0, 1) := dL 11 0 (by decide +kernel) rfl
theorem dl_729 : decode code 729 = .ok (.ireturn, 1) := dL 11 0 (by decide +kernel) rfl
theorem dl_730 : decode code 730 = .ok (.aload_n 1, 1) := dL 11 0 (by decide +kernel) rfl
theorem dl_731 : decode code 731 = .ok (.aload_n 0, 1) := dL 11 0 (by decide +kernel) rfl
theorem dl_732 : decode code 732 = .ok (.iload_n 3, 1) := dL 11 0 (by decide +kernel) rfl
theorem dl_733 : decode code 733 = .ok (.iconst 1, 1) := dL 11 0 (by decide +kernel) rfl
theorem dl_734 : decode code 734 = .ok (.iadd, 1) := dL 11 0 (by decide +kernel) rfl
theorem dl_735 : decode code 735 = .ok (.iaload, 1) := dL 11 0 (by decide +kernel) rfl
theorem dl_736 : decode code 736 = .ok (.aload_n 0, 1) := dL 11 0 (by decide +kernel) rfl
theorem dl_737 : decode code 737 = .ok (.iload_n 3, 1) := dL 11 0 (by decide +kernel) rfl
theorem dl_738 : decode code 738 = .ok (.iconst 2, 1) := dL 12 0 (by decide +kernel) rfl
theorem dl_739 : decode code 739 = .ok (.iadd, 1) := dL 12 0 (by decide +kernel) rfl
theorem dl_740 : decode code 740 = .ok (.iaload, 1) := dL 12 0 (by decide +kernel) rfl
theorem dl_741 : decode code 741 = .ok (.invokevirtual 98, 3) := dL 12 2 (by decide +kernel) rfl
theorem dl_744 : decode code 744 = .ok (.aload_n 2, 1) := dL 12 0 (by decide +kernel) rfl
theorem dl_745 : decode code 745 = .ok (.aload_n 0, 1) := dL 12 0 (by decide +kernel) rfl
theorem dl_746 : decode code 746 = .ok (.iload_n 3, 1) := dL 12 0 (by decide +kernel) rfl
theorem dl_747 : decode code 747 = .ok (.iconst 1, 1) := dL 12 0 (by decide +kernel) rfl
theorem dl_748 : decode code 748 = .ok (.iadd, 1) := dL 12 0 (by decide +kernel) rfl
theorem dl_749 : decode code 749 = .ok (.iaload, 1) := dL 12 0 (by decide +kernel) rfl
theorem dl_750 : decode code 750 = .ok (.aload_n 0, 1) := dL 12 0 (by decide +kernel) rfl
theorem dl_751 : decode code 751 = .ok (.iload_n 3, 1) := dL 12 0 (by decide +kernel) rfl
theorem dl_752 : decode code 752 = .ok (.iconst 2, 1) := dL 12 0 (by decide +kernel) rfl
theorem dl_753 : decode code 753 = .ok (.iadd, 1) := dL 12 0 (by decide +kernel) rfl
theorem dl_754 : decode code 754 = .ok (.iaload, 1) := dL 12 0 (by decide +kernel) rfl
theorem dl_755 : decode code 755 = .ok (.invokevirtual 101, 3) := dL 12 2 (by decide +kernel) rfl
theorem dl_758 : decode code 758 = .ok (.if_icmp .eq 176, 3) := dL 12 2 (by decide +kernel) rfl
theorem dl_761 : decode code 761 = .ok (.iconst 0, 1) := dL 12 0 (by decide +kernel) rfl
theorem dl_762 : decode code 762 = .ok (.ireturn, 1) := dL 12 0 (by decide +kernel) rfl
theorem dl_763 : decode code 763 = .ok (.aload_n 1, 1) := dL 12 0 (by decide +kernel) rfl
theorem dl_764 : decode code 764 = .ok (.aload_n 0, 1) := dL 12 0 (by decide +kernel) rfl
theorem dl_765 : decode code 765 = .ok (.iload_n 3, 1) := dL 12 0 (by decide +kernel) rfl
theorem dl_766 : decode code 766 = .ok (.iconst 1, 1) := dL 12 0 (by decide +kernel) rfl
theorem dl_767 : decode code 767 = .ok (.iadd, 1) := dL 12 0 (by decide +kernel) rfl
theorem dl_768 : decode code 768 = .ok (.iaload, 1) := dL 12 0 (by decide +kernel) rfl
theorem dl_769 : decode code 769 = .ok (.aload_n 0, 1) := dL 12 0 (by decide +kernel) rfl
theorem dl_770 : decode code 770 = .ok (.iload_n 3, 1) := dL 12 0 (by decide +kernel) rfl
theorem dl_771 : decode code 771 = .ok (.iconst 2, 1) := dL 12 0 (by decide +kernel) rfl
theorem dl_772 : decode code 772 = .ok (.iadd, 1) := dL 12 0 (by decide +kernel) rfl
theorem dl_773 : decode code 773 = .ok (.iaload, 1) := dL 12 0 (by decide +kernel) rfl
theorem dl_774 : decode code 774 = .ok (.aload_n 0, 1) := dL 12 0 (by decide +kernel) rfl
theorem dl_775 : decode code 775 = .ok (.iload_n 3, 1) := dL 12 0 (by decide +kernel) rfl
theorem dl_776 : decode code 776 = .ok (.iconst 3, 1) := dL 12 0 (by decide +kernel) rfl
theorem dl_777 : decode code 777 = .ok (.iadd, 1) := dL 12 0 (by decide +kernel) rfl
theorem dl_778 : decode code 778 = .ok (.iaload, 1) := dL 12 0 (by decide +kernel) rfl
theorem dl_779 : decode code 779 = .ok (.invokevirtual 102, 3) := dL 12 2 (by decide +kernel) rfl
theorem dl_782 : decode code 782 = .ok (.aload_n 2, 1) := dL 12 0 (by decide +kernel) rfl
theorem dl_783 : decode code 783 = .ok (.aload_n 0, 1) := dL 12 0 (by decide +kernel) rfl
theorem dl_784 : decode code 784 = .ok (.iload_n 3, 1) := dL 12 0 (by decide +kernel) rfl
theorem dl_785 : decode code 785 = .ok (.iconst 1, 1) := dL 12 0 (by decide +kernel) rfl
theorem dl_786 : decode code 786 = .ok (.iadd, 1) := dL 13 0 (by decide +kernel) rfl
theorem dl_787 : decode code 787 = .ok (.iaload, 1) := dL 13 0 (by decide +kernel) rfl
theorem dl_788 : decode code 788 = .ok (.aload_n 0, 1) := dL 13 0 (by decide +kernel) rfl
theorem dl_789 : decode code 789 = .ok (.iload_n 3, 1) := dL 13 0 (by decide +kernel) rfl
theorem dl_790 : decode code 790 = .ok (.iconst 2, 1) := dL 13 0 (by decide +kernel) rfl
theorem dl_791 : decode code 791 = .ok (.iadd, 1) := dL 13 0 (by decide +kernel) rfl
theorem dl_792 : decode code 792 = .ok (.iaload, 1) := dL 13 0 (by decide +kernel) rfl
theorem dl_793 : decode code 793 = .ok (.aload_n 0, 1) := dL 13 0 (by decide +kernel) rfl
theorem dl_794 : decode code 794 = .ok (.iload_n 3, 1) := dL 13 0 (by decide +kernel) rfl
theorem dl_795 : decode code 795 = .ok (.iconst 3, 1) := dL 13 0 (by decide +kernel) rfl
theorem dl_796 : decode code 796 = .ok (.iadd, 1) := dL 13 0 (by decide +kernel) rfl
theorem dl_797 : decode code 797 = .ok (.iaload, 1) := dL 13 0 (by decide +kernel) rfl
theorem dl_798 : decode code 798 = .ok (.invokevirtual 105, 3) := dL 13 2 (by decide +kernel) rfl
theorem dl_801 : decode code 801 = .ok (.if_icmp .eq 133, 3) := dL 13 2 (by decide +kernel) rfl
theorem dl_804 : decode code 804 = .ok (.iconst 0, 1) := dL 13 0 (by decide +kernel) rfl
theorem dl_805 : decode code 805 = .ok (.ireturn, 1) := dL 13 0 (by decide +kernel) rfl
theorem dl_806 : decode code 806 = .ok (.aload_n 1, 1) := dL 13 0 (by decide +kernel) rfl
theorem dl_807 : decode code 807 = .ok (.aload_n 0, 1) := dL 13 0 (by decide +kernel) rfl
theorem dl_808 : decode code 808 = .ok (.iload_n 3, 1) := dL 13 0 (by decide +kernel) rfl
theorem dl_809 : decode code 809 = .ok (.iconst 1, 1) := dL 13 0 (by decide +kernel) rfl
theorem dl_810 : decode code 810 = .ok (.iadd, 1) := dL 13 0 (by decide +kernel) rfl
theorem dl_811 : decode code 811 = .ok (.iaload, 1) := dL 13 0 (by decide +kernel) rfl
theorem dl_812 : decode code 812 = .ok (.aload_n 0, 1) := dL 13 0 (by decide +kernel) rfl
theorem dl_813 : decode code 813 = .ok (.iload_n 3, 1) := dL 13 0 (by decide +kernel) rfl
theorem dl_814 : decode code 814 = .ok (.iconst 2, 1) := dL 13 0 (by decide +kernel) rfl
theorem dl_815 : decode code 815 = .ok (.iadd, 1) := dL 13 0 (by decide +kernel) rfl
theorem dl_816 : decode code 816 = .ok (.iaload, 1) := dL 13 0 (by decide +kernel) rfl
theorem dl_817 : decode code 817 = .ok (.invokevirtual 106, 3) := dL 13 2 (by decide +kernel) rfl
theorem dl_820 : decode code 820 = .ok (.aload_n 2, 1) := dL 13 0 (by decide +kernel) rfl
theorem dl_821 : decode code 821 = .ok (.aload_n 0, 1) := dL 13 0 (by decide +kernel) rfl
theorem dl_822 : decode code 822 = .ok (.iload_n 3, 1) := dL 13 0 (by decide +kernel) rfl
theorem dl_823 : decode code 823 = .ok (.iconst 1, 1) := dL 13 0 (by decide +kernel) rfl
theorem dl_824 : decode code 824 = .ok (.iadd, 1) := dL 13 0 (by decide +kernel) rfl
theorem dl_825 : decode code 825 = .ok (.iaload, 1) := dL 13 0 (by decide +kernel) rfl
theorem dl_826 : decode code 826 = .ok (.aload_n 0, 1) := dL 13 0 (by decide +kernel) rfl
theorem dl_827 : decode code 827 = .ok (.iload_n 3, 1) := dL 13 0 (by decide +kernel) rfl
theorem dl_828 : decode code 828 = .ok (.iconst 2, 1) := dL 13 0 (by decide +kernel) rfl
theorem dl_829 : decode code 829 = .ok (.iadd, 1) := dL 13 0 (by decide +kernel) rfl
theorem dl_830 : decode code 830 = .ok (.iaload, 1) := dL 13 0 (by decide +kernel) rfl
theorem dl_831 : decode code 831 = .ok (.invokevirtual 109, 3) := dL 13 2 (by decide +kernel) rfl
theorem dl_834 : decode code 834 = .ok (.if_icmp .eq 100, 3) := dL 14 2 (by decide +kernel) rfl
theorem dl_837 : decode code 837 = .ok (.iconst 0, 1) := dL 14 0 (by decide +kernel) rfl
theorem dl_838 : decode code 838 = .ok (.ireturn, 1) := dL 14 0 (by decide +kernel) rfl
theorem dl_839 : decode code 839 = .ok (.aload_n 1, 1) := dL 14 0 (by decide +kernel) rfl
theorem dl_840 : decode code 840 = .ok (.invokevirtual 110, 3) := dL 14 2 (by decide +kernel) rfl
theorem dl_843 : decode code 843 = .ok (.aload_n 2, 1) := dL 14 0 (by decide +kernel) rfl
theorem dl_844 : decode code 844 = .ok (.invokevirtual 113, 3) := dL 14 2 (by decide +kernel) rfl
theorem dl_847 : decode code 847 = .ok (.if_icmp .eq 87, 3) := dL 14 2 (by decide +kernel) rfl
theorem dl_850 : decode code 850 = .ok (.iconst 0, 1) := dL 14 0 (by decide +kernel) rfl
theorem dl_851 : decode code 851 = .ok (.ireturn, 1) := dL 14 0 (by decide +kernel) rfl
theorem dl_852 : decode code 852 = .ok (.aload_n 1, 1) := dL 14 0 (by decide +kernel) rfl
theorem dl_853 : decode code 853 = .ok (.invokevirtual 114, 3) := dL 14 2 (by decide +kernel) rfl
theorem dl_856 : decode code 856 = .ok (.aload_n 2, 1) := dL 14 0 (by decide +kernel) rfl
theorem dl_857 : decode code 857 = .ok (.invokevirtual 117, 3) := dL 14 2 (by decide +kernel) rfl
theorem dl_860 : decode code 860 = .ok (.if_icmp .eq 74, 3) := dL 14 2 (by decide +kernel) rfl
theorem dl_863 : decode code 863 = .ok (.iconst 0, 1) := dL 14 0 (by decide +kernel) rfl
theorem dl_864 : decode code 864 = .ok (.ireturn, 1) := dL 14 0 (by decide +kernel) rfl
theorem dl_865 : decode code 865 = .ok (.aload_n 1, 1) := dL 14 0 (by decide +kernel) rfl
theorem dl_866 : decode code 866 = .ok (.aload_n 0, 1) := dL 14 0 (by decide +kernel) rfl
theorem dl_867 : decode code 867 = .ok (.iload_n 3, 1) := dL 14 0 (by decide +kernel) rfl
theorem dl_868 : decode code 868 = .ok (.iconst 1, 1) := dL 14 0 (by decide +kernel) rfl
theorem dl_869 : decode code 869 = .ok (.iadd, 1) := dL 14 0 (by decide +kernel) rfl
theorem dl_870 : decode code 870 = .ok (.iaload, 1) := dL 14 0 (by decide +kernel) rfl
theorem dl_871 : decode code 871 = .ok (.invokevirtual 118, 3) := dL 14 2 (by decide +kernel) rfl
theorem dl_874 : decode code 874 = .ok (.aload_n 2, 1) := dL 14 0 (by decide +kernel) rfl
theorem dl_875 : decode code 875 = .ok (.aload_n 0, 1) := dL 14 0 (by decide +kernel) rfl
theorem dl_876 : decode code 876 = .ok (.iload_n 3, 1) := dL 14 0 (by decide +kernel) rfl
theorem dl_877 : decode code 877 = .ok (.iconst 1, 1) := dL 14 0 (by decide +kernel) rfl
theorem dl_878 : decode code 878 = .ok (.iadd, 1) := dL 14 0 (by decide +kernel) rfl
theorem dl_879 : decode code 879 = .ok (.iaload, 1) := dL 14 0 (by decide +kernel) rfl
theorem dl_880 : decode code 880 = .ok (.invokevirtual 121, 3) := dL 14 2 (by decide +kernel) rfl
theorem dl_883 : decode code 883 = .ok (.if_icmp .eq 51, 3) := dL 14 2 (by decide +kernel) rfl
theorem dl_886 : decode code 886 = .ok (.iconst 0, 1) := dL 14 0 (by decide +kernel) rfl
theorem dl_887 : decode code 887 = .ok (.ireturn, 1) := dL 14 0 (by decide +kernel) rfl
theorem dl_888 : decode code 888 = .ok (.aload_n 1, 1) := dL 14 0 (by decide +kernel) rfl
theorem dl_889 : decode code 889 = .ok (.aload_n 0, 1) := dL 14 0 (by decide +kernel) rfl
theorem dl_890 : decode code 890 = .ok (.iload_n 3, 1) := dL 14 0 (by decide +kernel) rfl
theorem dl_891 : decode code 891 = .ok (.iconst 1, 1) := dL 14 0 (by decide +kernel) rfl
theorem dl_892 : decode code 892 = .ok (.iadd, 1) := dL 14 0 (by decide +kernel) rfl
theorem dl_893 : decode code 893 = .ok (.iaload, 1) := dL 14 0 (by decide +kernel) rfl
theorem dl_894 : decode code 894 = .ok (.invokevirtual 122, 3) := dL 15 2 (by decide +kernel) rfl
theorem dl_897 : decode code 897 = .ok (.aload_n 2, 1) := dL 15 0 (by decide +kernel) rfl
theorem dl_898 : decode code 898 = .ok (.aload_n 0, 1) := dL 15 0 (by decide +kernel) rfl
theorem dl_899 : decode code 899 = .ok (.iload_n 3, 1) := dL 15 0 (by decide +kernel) rfl
theorem dl_900 : decode code 900 = .ok (.iconst 1, 1) := dL 15 0 (by decide +kernel) rfl
theorem dl_901 : decode code 901 = .ok (.iadd, 1) := dL 15 0 (by decide +kernel) rfl
theorem dl_902 : decode code 902 = .ok (.iaload, 1) := dL 15 0 (by decide +kernel) rfl
theorem dl_903 : decode code 903 = .ok (.invokevirtual 125, 3) := dL 15 2 (by decide +kernel) rfl
theorem dl_906 : decode code 906 = .ok (.if_icmp .eq 28, 3) := dL 15 2 (by decide +kernel) rfl
theorem dl_909 : decode code 909 = .ok (.iconst 0, 1) := dL 15 0 (by decide +kernel) rfl
theorem dl_910 : decode code 910 = .ok (.ireturn, 1) := dL 15 0 (by decide +kernel) rfl
theorem dl_911 : decode code 911 = .ok (.aload_n 1, 1) := dL 15 0 (by decide +kernel) rfl
theorem dl_912 : decode code 912 = .ok (.aload_n 0, 1) := dL 15 0 (by decide +kernel) rfl
theorem dl_913 : decode code 913 = .ok (.iload_n 3, 1) := dL 15 0 (by decide +kernel) rfl
theorem dl_914 : decode code 914 = .ok (.iconst 1, 1) := dL 15 0 (by decide +kernel) rfl
theorem dl_915 : decode code 915 = .ok (.iadd, 1) := dL 15 0 (by decide +kernel) rfl
theorem dl_916 : decode code 916 = .ok (.iaload, 1) := dL 15 0 (by decide +kernel) rfl
theorem dl_917 : decode code 917 = .ok (.invokevirtual 126, 3) := dL 15 2 (by decide +kernel) rfl
theorem dl_920 : decode code 920 = .ok (.aload_n 2, 1) := dL 15 0 (by decide +kernel) rfl
theorem dl_921 : decode code 921 = .ok (.aload_n 0, 1) := dL 15 0 (by decide +kernel) rfl
theorem dl_922 : decode code 922 = .ok (.iload_n 3, 1) := dL 15 0 (by decide +kernel) rfl
theorem dl_923 : decode code 923 = .ok (.iconst 1, 1) := dL 15 0 (by decide +kernel) rfl
theorem dl_924 : decode code 924 = .ok (.iadd, 1) := dL 15 0 (by decide +kernel) rfl
theorem dl_925 : decode code 925 = .ok (.iaload, 1) := dL 15 0 (by decide +kernel) rfl
theorem dl_926 : decode code 926 = .ok (.invokevirtual 129, 3) := dL 15 2 (by decide +kernel) rfl
theorem dl_929 : decode code 929 = .ok (.if_icmp .eq 5, 3) := dL 15 2 (by decide +kernel) rfl
theorem dl_932 : decode code 932 = .ok (.iconst 0, 1) := dL 15 0 (by decide +kernel) rfl
theorem dl_933 : decode code 933 = .ok (.ireturn, 1) := dL 15 0 (by decide +kernel) rfl
theorem dl_934 : decode code 934 = .ok (.iinc 3 5, 3) := dL 15 2 (by decide +kernel) rfl
theorem dl_937 : decode code 937 = .ok (.goto (-919), 3) := dL 15 2 (by decide +kernel) rfl
theorem dl_940 : decode code 940 = .ok (.iconst 1, 1) := dL 15 0 (by decide +kernel) rfl
theorem dl_941 : decode code 941 = .ok (.ireturn, 1) := dL 15 0 (by decide +kernel) rfl
