/-! ===== the law: its table, printed by law.py ===== -/
def tbL_0 : List (Nat × Instr × Nat) := [(16, .iconst 0, 1), (17, .istore_n 3, 1), (18, .iload_n 3, 1), (19, .aload_n 0, 1), (20, .arraylength, 1), (21, .bipush 6, 2), (23, .isub, 1), (24, .if_icmp .gt 1130, 3), (27, .aload_n 0, 1), (28, .iload_n 3, 1), (29, .iaload, 1), (30, .bipush 63, 2), (32, .iand, 1), (33, .tableswitch 1115 0 33 #[151, 184, 227, 250, 263, 276, 289, 322, 345, 368, 401, 424, 457, 490, 513, 546, 579, 592, 615, 628, 681, 714, 747, 760, 773, 807, 830, 873, 896, 949, 992, 1055, 1078, 1101], 151), (184, .aload_n 1, 1), (185, .aload_n 0, 1), (186, .iload_n 3, 1), (187, .iconst 1, 1), (188, .iadd, 1), (189, .iaload, 1), (190, .aload_n 0, 1), (191, .iload_n 3, 1), (192, .iconst 2, 1), (193, .iadd, 1), (194, .iaload, 1), (195, .invokevirtual 13, 3), (198, .aload_n 2, 1), (199, .aload_n 0, 1), (200, .iload_n 3, 1), (201, .iconst 1, 1), (202, .iadd, 1), (203, .iaload, 1), (204, .aload_n 0, 1), (205, .iload_n 3, 1), (206, .iconst 2, 1), (207, .iadd, 1), (208, .iaload, 1), (209, .invokevirtual 17, 3), (212, .if_icmp .eq 936, 3), (215, .iconst 0, 1), (216, .ireturn, 1), (217, .aload_n 1, 1), (218, .aload_n 0, 1), (219, .iload_n 3, 1), (220, .iconst 1, 1), (221, .iadd, 1), (222, .iaload, 1), (223, .aload_n 0, 1)]
theorem hdL_0 : ∀ f ∈ tbL_0, decode code f.1 = .ok (f.2.1, f.2.2) ∧ (en_len f.2.1 = f.2.2 ∨ en_len f.2.1 = 0) := by decide +kernel
def tbL_1 : List (Nat × Instr × Nat) := [(224, .iload_n 3, 1), (225, .iconst 2, 1), (226, .iadd, 1), (227, .iaload, 1), (228, .aload_n 0, 1), (229, .iload_n 3, 1), (230, .iconst 3, 1), (231, .iadd, 1), (232, .iaload, 1), (233, .invokevirtual 18, 3), (236, .aload_n 2, 1), (237, .aload_n 0, 1), (238, .iload_n 3, 1), (239, .iconst 1, 1), (240, .iadd, 1), (241, .iaload, 1), (242, .aload_n 0, 1), (243, .iload_n 3, 1), (244, .iconst 2, 1), (245, .iadd, 1), (246, .iaload, 1), (247, .aload_n 0, 1), (248, .iload_n 3, 1), (249, .iconst 3, 1), (250, .iadd, 1), (251, .iaload, 1), (252, .invokevirtual 22, 3), (255, .if_icmp .eq 893, 3), (258, .iconst 0, 1), (259, .ireturn, 1), (260, .aload_n 1, 1), (261, .aload_n 0, 1), (262, .iload_n 3, 1), (263, .iconst 1, 1), (264, .iadd, 1), (265, .iaload, 1), (266, .invokevirtual 23, 3), (269, .aload_n 2, 1), (270, .aload_n 0, 1), (271, .iload_n 3, 1), (272, .iconst 1, 1), (273, .iadd, 1), (274, .iaload, 1), (275, .invokevirtual 27, 3), (278, .if_icmp .eq 870, 3), (281, .iconst 0, 1), (282, .ireturn, 1), (283, .aload_n 1, 1)]
theorem hdL_1 : ∀ f ∈ tbL_1, decode code f.1 = .ok (f.2.1, f.2.2) ∧ (en_len f.2.1 = f.2.2 ∨ en_len f.2.1 = 0) := by decide +kernel
def tbL_2 : List (Nat × Instr × Nat) := [(284, .invokevirtual 28, 3), (287, .aload_n 2, 1), (288, .invokevirtual 32, 3), (291, .if_icmp .eq 857, 3), (294, .iconst 0, 1), (295, .ireturn, 1), (296, .aload_n 1, 1), (297, .invokevirtual 33, 3), (300, .aload_n 2, 1), (301, .invokevirtual 36, 3), (304, .if_icmp .eq 844, 3), (307, .iconst 0, 1), (308, .ireturn, 1), (309, .aload_n 1, 1), (310, .invokevirtual 37, 3), (313, .aload_n 2, 1), (314, .invokevirtual 40, 3), (317, .if_icmp .eq 831, 3), (320, .iconst 0, 1), (321, .ireturn, 1), (322, .aload_n 1, 1), (323, .aload_n 0, 1), (324, .iload_n 3, 1), (325, .iconst 1, 1), (326, .iadd, 1), (327, .iaload, 1), (328, .aload_n 0, 1), (329, .iload_n 3, 1), (330, .iconst 2, 1), (331, .iadd, 1), (332, .iaload, 1), (333, .invokevirtual 41, 3), (336, .aload_n 2, 1), (337, .aload_n 0, 1), (338, .iload_n 3, 1), (339, .iconst 1, 1), (340, .iadd, 1), (341, .iaload, 1), (342, .aload_n 0, 1), (343, .iload_n 3, 1), (344, .iconst 2, 1), (345, .iadd, 1), (346, .iaload, 1), (347, .invokevirtual 44, 3), (350, .if_icmp .eq 798, 3), (353, .iconst 0, 1), (354, .ireturn, 1), (355, .aload_n 1, 1)]
theorem hdL_2 : ∀ f ∈ tbL_2, decode code f.1 = .ok (f.2.1, f.2.2) ∧ (en_len f.2.1 = f.2.2 ∨ en_len f.2.1 = 0) := by decide +kernel
def tbL_3 : List (Nat × Instr × Nat) := [(356, .aload_n 0, 1), (357, .iload_n 3, 1), (358, .iconst 1, 1), (359, .iadd, 1), (360, .iaload, 1), (361, .invokevirtual 45, 3), (364, .aload_n 2, 1), (365, .aload_n 0, 1), (366, .iload_n 3, 1), (367, .iconst 1, 1), (368, .iadd, 1), (369, .iaload, 1), (370, .invokevirtual 48, 3), (373, .if_icmp .eq 775, 3), (376, .iconst 0, 1), (377, .ireturn, 1), (378, .aload_n 1, 1), (379, .aload_n 0, 1), (380, .iload_n 3, 1), (381, .iconst 1, 1), (382, .iadd, 1), (383, .iaload, 1), (384, .invokevirtual 49, 3), (387, .aload_n 2, 1), (388, .aload_n 0, 1), (389, .iload_n 3, 1), (390, .iconst 1, 1), (391, .iadd, 1), (392, .iaload, 1), (393, .invokevirtual 52, 3), (396, .if_icmp .eq 752, 3), (399, .iconst 0, 1), (400, .ireturn, 1), (401, .aload_n 1, 1), (402, .aload_n 0, 1), (403, .iload_n 3, 1), (404, .iconst 1, 1), (405, .iadd, 1), (406, .iaload, 1), (407, .aload_n 0, 1), (408, .iload_n 3, 1), (409, .iconst 2, 1), (410, .iadd, 1), (411, .iaload, 1), (412, .invokevirtual 53, 3), (415, .aload_n 2, 1), (416, .aload_n 0, 1), (417, .iload_n 3, 1)]
theorem hdL_3 : ∀ f ∈ tbL_3, decode code f.1 = .ok (f.2.1, f.2.2) ∧ (en_len f.2.1 = f.2.2 ∨ en_len f.2.1 = 0) := by decide +kernel
def tbL_4 : List (Nat × Instr × Nat) := [(418, .iconst 1, 1), (419, .iadd, 1), (420, .iaload, 1), (421, .aload_n 0, 1), (422, .iload_n 3, 1), (423, .iconst 2, 1), (424, .iadd, 1), (425, .iaload, 1), (426, .invokevirtual 56, 3), (429, .if_icmp .eq 719, 3), (432, .iconst 0, 1), (433, .ireturn, 1), (434, .aload_n 1, 1), (435, .aload_n 0, 1), (436, .iload_n 3, 1), (437, .iconst 1, 1), (438, .iadd, 1), (439, .iaload, 1), (440, .invokevirtual 57, 3), (443, .aload_n 2, 1), (444, .aload_n 0, 1), (445, .iload_n 3, 1), (446, .iconst 1, 1), (447, .iadd, 1), (448, .iaload, 1), (449, .invokevirtual 60, 3), (452, .if_icmp .eq 696, 3), (455, .iconst 0, 1), (456, .ireturn, 1), (457, .aload_n 1, 1), (458, .aload_n 0, 1), (459, .iload_n 3, 1), (460, .iconst 1, 1), (461, .iadd, 1), (462, .iaload, 1), (463, .aload_n 0, 1), (464, .iload_n 3, 1), (465, .iconst 2, 1), (466, .iadd, 1), (467, .iaload, 1), (468, .invokevirtual 61, 3), (471, .aload_n 2, 1), (472, .aload_n 0, 1), (473, .iload_n 3, 1), (474, .iconst 1, 1), (475, .iadd, 1), (476, .iaload, 1), (477, .aload_n 0, 1)]
theorem hdL_4 : ∀ f ∈ tbL_4, decode code f.1 = .ok (f.2.1, f.2.2) ∧ (en_len f.2.1 = f.2.2 ∨ en_len f.2.1 = 0) := by decide +kernel
def tbL_5 : List (Nat × Instr × Nat) := [(478, .iload_n 3, 1), (479, .iconst 2, 1), (480, .iadd, 1), (481, .iaload, 1), (482, .invokevirtual 64, 3), (485, .if_icmp .eq 663, 3), (488, .iconst 0, 1), (489, .ireturn, 1), (490, .aload_n 1, 1), (491, .aload_n 0, 1), (492, .iload_n 3, 1), (493, .iconst 1, 1), (494, .iadd, 1), (495, .iaload, 1), (496, .aload_n 0, 1), (497, .iload_n 3, 1), (498, .iconst 2, 1), (499, .iadd, 1), (500, .iaload, 1), (501, .invokevirtual 65, 3), (504, .aload_n 2, 1), (505, .aload_n 0, 1), (506, .iload_n 3, 1), (507, .iconst 1, 1), (508, .iadd, 1), (509, .iaload, 1), (510, .aload_n 0, 1), (511, .iload_n 3, 1), (512, .iconst 2, 1), (513, .iadd, 1), (514, .iaload, 1), (515, .invokevirtual 68, 3), (518, .if_icmp .eq 630, 3), (521, .iconst 0, 1), (522, .ireturn, 1), (523, .aload_n 1, 1), (524, .aload_n 0, 1), (525, .iload_n 3, 1), (526, .iconst 1, 1), (527, .iadd, 1), (528, .iaload, 1), (529, .invokevirtual 69, 3), (532, .aload_n 2, 1), (533, .aload_n 0, 1), (534, .iload_n 3, 1), (535, .iconst 1, 1), (536, .iadd, 1), (537, .iaload, 1)]
theorem hdL_5 : ∀ f ∈ tbL_5, decode code f.1 = .ok (f.2.1, f.2.2) ∧ (en_len f.2.1 = f.2.2 ∨ en_len f.2.1 = 0) := by decide +kernel
def tbL_6 : List (Nat × Instr × Nat) := [(538, .invokevirtual 72, 3), (541, .if_icmp .eq 607, 3), (544, .iconst 0, 1), (545, .ireturn, 1), (546, .aload_n 1, 1), (547, .aload_n 0, 1), (548, .iload_n 3, 1), (549, .iconst 1, 1), (550, .iadd, 1), (551, .iaload, 1), (552, .aload_n 0, 1), (553, .iload_n 3, 1), (554, .iconst 2, 1), (555, .iadd, 1), (556, .iaload, 1), (557, .invokevirtual 73, 3), (560, .aload_n 2, 1), (561, .aload_n 0, 1), (562, .iload_n 3, 1), (563, .iconst 1, 1), (564, .iadd, 1), (565, .iaload, 1), (566, .aload_n 0, 1), (567, .iload_n 3, 1), (568, .iconst 2, 1), (569, .iadd, 1), (570, .iaload, 1), (571, .invokevirtual 76, 3), (574, .if_icmp .eq 574, 3), (577, .iconst 0, 1), (578, .ireturn, 1), (579, .aload_n 1, 1), (580, .aload_n 0, 1), (581, .iload_n 3, 1), (582, .iconst 1, 1), (583, .iadd, 1), (584, .iaload, 1), (585, .aload_n 0, 1), (586, .iload_n 3, 1), (587, .iconst 2, 1), (588, .iadd, 1), (589, .iaload, 1), (590, .invokevirtual 77, 3), (593, .aload_n 2, 1), (594, .aload_n 0, 1), (595, .iload_n 3, 1), (596, .iconst 1, 1), (597, .iadd, 1)]
theorem hdL_6 : ∀ f ∈ tbL_6, decode code f.1 = .ok (f.2.1, f.2.2) ∧ (en_len f.2.1 = f.2.2 ∨ en_len f.2.1 = 0) := by decide +kernel
def tbL_7 : List (Nat × Instr × Nat) := [(598, .iaload, 1), (599, .aload_n 0, 1), (600, .iload_n 3, 1), (601, .iconst 2, 1), (602, .iadd, 1), (603, .iaload, 1), (604, .invokevirtual 80, 3), (607, .if_icmp .eq 541, 3), (610, .iconst 0, 1), (611, .ireturn, 1), (612, .aload_n 1, 1), (613, .invokevirtual 81, 3), (616, .aload_n 2, 1), (617, .invokevirtual 84, 3), (620, .if_icmp .eq 528, 3), (623, .iconst 0, 1), (624, .ireturn, 1), (625, .aload_n 1, 1), (626, .aload_n 0, 1), (627, .iload_n 3, 1), (628, .iconst 1, 1), (629, .iadd, 1), (630, .iaload, 1), (631, .invokevirtual 85, 3), (634, .aload_n 2, 1), (635, .aload_n 0, 1), (636, .iload_n 3, 1), (637, .iconst 1, 1), (638, .iadd, 1), (639, .iaload, 1), (640, .invokevirtual 88, 3), (643, .if_icmp .eq 505, 3), (646, .iconst 0, 1), (647, .ireturn, 1), (648, .aload_n 1, 1), (649, .invokevirtual 89, 3), (652, .aload_n 2, 1), (653, .invokevirtual 92, 3), (656, .if_icmp .eq 492, 3), (659, .iconst 0, 1), (660, .ireturn, 1), (661, .aload_n 1, 1), (662, .aload_n 0, 1), (663, .iload_n 3, 1), (664, .iconst 1, 1), (665, .iadd, 1), (666, .iaload, 1), (667, .aload_n 0, 1)]
theorem hdL_7 : ∀ f ∈ tbL_7, decode code f.1 = .ok (f.2.1, f.2.2) ∧ (en_len f.2.1 = f.2.2 ∨ en_len f.2.1 = 0) := by decide +kernel
def tbL_8 : List (Nat × Instr × Nat) := [(668, .iload_n 3, 1), (669, .iconst 2, 1), (670, .iadd, 1), (671, .iaload, 1), (672, .aload_n 0, 1), (673, .iload_n 3, 1), (674, .iconst 3, 1), (675, .iadd, 1), (676, .iaload, 1), (677, .aload_n 0, 1), (678, .iload_n 3, 1), (679, .iconst 4, 1), (680, .iadd, 1), (681, .iaload, 1), (682, .invokevirtual 93, 3), (685, .aload_n 2, 1), (686, .aload_n 0, 1), (687, .iload_n 3, 1), (688, .iconst 1, 1), (689, .iadd, 1), (690, .iaload, 1), (691, .aload_n 0, 1), (692, .iload_n 3, 1), (693, .iconst 2, 1), (694, .iadd, 1), (695, .iaload, 1), (696, .aload_n 0, 1), (697, .iload_n 3, 1), (698, .iconst 3, 1), (699, .iadd, 1), (700, .iaload, 1), (701, .aload_n 0, 1), (702, .iload_n 3, 1), (703, .iconst 4, 1), (704, .iadd, 1), (705, .iaload, 1), (706, .invokevirtual 97, 3), (709, .if_icmp .eq 439, 3), (712, .iconst 0, 1), (713, .ireturn, 1), (714, .aload_n 1, 1), (715, .aload_n 0, 1), (716, .iload_n 3, 1), (717, .iconst 1, 1), (718, .iadd, 1), (719, .iaload, 1), (720, .aload_n 0, 1), (721, .iload_n 3, 1)]
theorem hdL_8 : ∀ f ∈ tbL_8, decode code f.1 = .ok (f.2.1, f.2.2) ∧ (en_len f.2.1 = f.2.2 ∨ en_len f.2.1 = 0) := by decide +kernel
def tbL_9 : List (Nat × Instr × Nat) := [(722, .iconst 2, 1), (723, .iadd, 1), (724, .iaload, 1), (725, .invokevirtual 98, 3), (728, .aload_n 2, 1), (729, .aload_n 0, 1), (730, .iload_n 3, 1), (731, .iconst 1, 1), (732, .iadd, 1), (733, .iaload, 1), (734, .aload_n 0, 1), (735, .iload_n 3, 1), (736, .iconst 2, 1), (737, .iadd, 1), (738, .iaload, 1), (739, .invokevirtual 101, 3), (742, .if_icmp .eq 406, 3), (745, .iconst 0, 1), (746, .ireturn, 1), (747, .aload_n 1, 1), (748, .aload_n 0, 1), (749, .iload_n 3, 1), (750, .iconst 1, 1), (751, .iadd, 1), (752, .iaload, 1), (753, .aload_n 0, 1), (754, .iload_n 3, 1), (755, .iconst 2, 1), (756, .iadd, 1), (757, .iaload, 1), (758, .invokevirtual 102, 3), (761, .aload_n 2, 1), (762, .aload_n 0, 1), (763, .iload_n 3, 1), (764, .iconst 1, 1), (765, .iadd, 1), (766, .iaload, 1), (767, .aload_n 0, 1), (768, .iload_n 3, 1), (769, .iconst 2, 1), (770, .iadd, 1), (771, .iaload, 1), (772, .invokevirtual 105, 3), (775, .if_icmp .eq 373, 3), (778, .iconst 0, 1), (779, .ireturn, 1), (780, .aload_n 1, 1), (781, .invokevirtual 106, 3)]
theorem hdL_9 : ∀ f ∈ tbL_9, decode code f.1 = .ok (f.2.1, f.2.2) ∧ (en_len f.2.1 = f.2.2 ∨ en_len f.2.1 = 0) := by decide +kernel
def tbL_10 : List (Nat × Instr × Nat) := [(784, .aload_n 2, 1), (785, .invokevirtual 109, 3), (788, .if_icmp .eq 360, 3), (791, .iconst 0, 1), (792, .ireturn, 1), (793, .aload_n 1, 1), (794, .invokevirtual 110, 3), (797, .aload_n 2, 1), (798, .invokevirtual 113, 3), (801, .if_icmp .eq 347, 3), (804, .iconst 0, 1), (805, .ireturn, 1), (806, .aload_n 1, 1), (807, .aload_n 0, 1), (808, .iload_n 3, 1), (809, .iconst 1, 1), (810, .iadd, 1), (811, .iaload, 1), (812, .aload_n 0, 1), (813, .iload_n 3, 1), (814, .iconst 2, 1), (815, .iadd, 1), (816, .iaload, 1), (817, .invokevirtual 114, 3), (820, .aload_n 2, 1), (821, .aload_n 0, 1), (822, .iload_n 3, 1), (823, .iconst 1, 1), (824, .iadd, 1), (825, .iaload, 1), (826, .aload_n 0, 1), (827, .iload_n 3, 1), (828, .iconst 2, 1), (829, .iadd, 1), (830, .iaload, 1), (831, .invokevirtual 118, 3), (834, .lcmp, 1), (835, .ifCond .eq 313, 3), (838, .iconst 0, 1), (839, .ireturn, 1), (840, .aload_n 1, 1), (841, .aload_n 0, 1), (842, .iload_n 3, 1), (843, .iconst 1, 1), (844, .iadd, 1), (845, .iaload, 1), (846, .invokevirtual 119, 3), (849, .aload_n 2, 1)]
theorem hdL_10 : ∀ f ∈ tbL_10, decode code f.1 = .ok (f.2.1, f.2.2) ∧ (en_len f.2.1 = f.2.2 ∨ en_len f.2.1 = 0) := by decide +kernel
def tbL_11 : List (Nat × Instr × Nat) := [(850, .aload_n 0, 1), (851, .iload_n 3, 1), (852, .iconst 1, 1), (853, .iadd, 1), (854, .iaload, 1), (855, .invokevirtual 122, 3), (858, .if_icmp .eq 290, 3), (861, .iconst 0, 1), (862, .ireturn, 1), (863, .aload_n 1, 1), (864, .aload_n 0, 1), (865, .iload_n 3, 1), (866, .iconst 1, 1), (867, .iadd, 1), (868, .iaload, 1), (869, .aload_n 0, 1), (870, .iload_n 3, 1), (871, .iconst 2, 1), (872, .iadd, 1), (873, .iaload, 1), (874, .aload_n 0, 1), (875, .iload_n 3, 1), (876, .iconst 3, 1), (877, .iadd, 1), (878, .iaload, 1), (879, .invokevirtual 123, 3), (882, .aload_n 2, 1), (883, .aload_n 0, 1), (884, .iload_n 3, 1), (885, .iconst 1, 1), (886, .iadd, 1), (887, .iaload, 1), (888, .aload_n 0, 1), (889, .iload_n 3, 1), (890, .iconst 2, 1), (891, .iadd, 1), (892, .iaload, 1), (893, .aload_n 0, 1), (894, .iload_n 3, 1), (895, .iconst 3, 1), (896, .iadd, 1), (897, .iaload, 1), (898, .invokevirtual 126, 3), (901, .if_icmp .eq 247, 3), (904, .iconst 0, 1), (905, .ireturn, 1), (906, .aload_n 1, 1), (907, .aload_n 0, 1)]
theorem hdL_11 : ∀ f ∈ tbL_11, decode code f.1 = .ok (f.2.1, f.2.2) ∧ (en_len f.2.1 = f.2.2 ∨ en_len f.2.1 = 0) := by decide +kernel
def tbL_12 : List (Nat × Instr × Nat) := [(908, .iload_n 3, 1), (909, .iconst 1, 1), (910, .iadd, 1), (911, .iaload, 1), (912, .invokevirtual 127, 3), (915, .aload_n 2, 1), (916, .aload_n 0, 1), (917, .iload_n 3, 1), (918, .iconst 1, 1), (919, .iadd, 1), (920, .iaload, 1), (921, .invokevirtual 130, 3), (924, .if_icmp .eq 224, 3), (927, .iconst 0, 1), (928, .ireturn, 1), (929, .aload_n 1, 1), (930, .aload_n 0, 1), (931, .iload_n 3, 1), (932, .iconst 1, 1), (933, .iadd, 1), (934, .iaload, 1), (935, .aload_n 0, 1), (936, .iload_n 3, 1), (937, .iconst 2, 1), (938, .iadd, 1), (939, .iaload, 1), (940, .aload_n 0, 1), (941, .iload_n 3, 1), (942, .iconst 3, 1), (943, .iadd, 1), (944, .iaload, 1), (945, .aload_n 0, 1), (946, .iload_n 3, 1), (947, .iconst 4, 1), (948, .iadd, 1), (949, .iaload, 1), (950, .invokevirtual 131, 3), (953, .aload_n 2, 1), (954, .aload_n 0, 1), (955, .iload_n 3, 1), (956, .iconst 1, 1), (957, .iadd, 1), (958, .iaload, 1), (959, .aload_n 0, 1), (960, .iload_n 3, 1), (961, .iconst 2, 1), (962, .iadd, 1), (963, .iaload, 1)]
theorem hdL_12 : ∀ f ∈ tbL_12, decode code f.1 = .ok (f.2.1, f.2.2) ∧ (en_len f.2.1 = f.2.2 ∨ en_len f.2.1 = 0) := by decide +kernel
def tbL_13 : List (Nat × Instr × Nat) := [(964, .aload_n 0, 1), (965, .iload_n 3, 1), (966, .iconst 3, 1), (967, .iadd, 1), (968, .iaload, 1), (969, .aload_n 0, 1), (970, .iload_n 3, 1), (971, .iconst 4, 1), (972, .iadd, 1), (973, .iaload, 1), (974, .invokevirtual 134, 3), (977, .if_icmp .eq 171, 3), (980, .iconst 0, 1), (981, .ireturn, 1), (982, .aload_n 1, 1), (983, .aload_n 0, 1), (984, .iload_n 3, 1), (985, .iconst 1, 1), (986, .iadd, 1), (987, .iaload, 1), (988, .aload_n 0, 1), (989, .iload_n 3, 1), (990, .iconst 2, 1), (991, .iadd, 1), (992, .iaload, 1), (993, .aload_n 0, 1), (994, .iload_n 3, 1), (995, .iconst 3, 1), (996, .iadd, 1), (997, .iaload, 1), (998, .invokevirtual 135, 3), (1001, .aload_n 2, 1), (1002, .aload_n 0, 1), (1003, .iload_n 3, 1), (1004, .iconst 1, 1), (1005, .iadd, 1), (1006, .iaload, 1), (1007, .aload_n 0, 1), (1008, .iload_n 3, 1), (1009, .iconst 2, 1), (1010, .iadd, 1), (1011, .iaload, 1), (1012, .aload_n 0, 1), (1013, .iload_n 3, 1), (1014, .iconst 3, 1), (1015, .iadd, 1), (1016, .iaload, 1), (1017, .invokevirtual 138, 3)]
theorem hdL_13 : ∀ f ∈ tbL_13, decode code f.1 = .ok (f.2.1, f.2.2) ∧ (en_len f.2.1 = f.2.2 ∨ en_len f.2.1 = 0) := by decide +kernel
def tbL_14 : List (Nat × Instr × Nat) := [(1020, .if_icmp .eq 128, 3), (1023, .iconst 0, 1), (1024, .ireturn, 1), (1025, .aload_n 1, 1), (1026, .aload_n 0, 1), (1027, .iload_n 3, 1), (1028, .iconst 1, 1), (1029, .iadd, 1), (1030, .iaload, 1), (1031, .aload_n 0, 1), (1032, .iload_n 3, 1), (1033, .iconst 2, 1), (1034, .iadd, 1), (1035, .iaload, 1), (1036, .aload_n 0, 1), (1037, .iload_n 3, 1), (1038, .iconst 3, 1), (1039, .iadd, 1), (1040, .iaload, 1), (1041, .aload_n 0, 1), (1042, .iload_n 3, 1), (1043, .iconst 4, 1), (1044, .iadd, 1), (1045, .iaload, 1), (1046, .aload_n 0, 1), (1047, .iload_n 3, 1), (1048, .iconst 5, 1), (1049, .iadd, 1), (1050, .iaload, 1), (1051, .invokevirtual 139, 3), (1054, .aload_n 2, 1), (1055, .aload_n 0, 1), (1056, .iload_n 3, 1), (1057, .iconst 1, 1), (1058, .iadd, 1), (1059, .iaload, 1), (1060, .aload_n 0, 1), (1061, .iload_n 3, 1), (1062, .iconst 2, 1), (1063, .iadd, 1), (1064, .iaload, 1), (1065, .aload_n 0, 1), (1066, .iload_n 3, 1), (1067, .iconst 3, 1), (1068, .iadd, 1), (1069, .iaload, 1), (1070, .aload_n 0, 1), (1071, .iload_n 3, 1)]
theorem hdL_14 : ∀ f ∈ tbL_14, decode code f.1 = .ok (f.2.1, f.2.2) ∧ (en_len f.2.1 = f.2.2 ∨ en_len f.2.1 = 0) := by decide +kernel
def tbL_15 : List (Nat × Instr × Nat) := [(1072, .iconst 4, 1), (1073, .iadd, 1), (1074, .iaload, 1), (1075, .aload_n 0, 1), (1076, .iload_n 3, 1), (1077, .iconst 5, 1), (1078, .iadd, 1), (1079, .iaload, 1), (1080, .invokevirtual 143, 3), (1083, .if_icmp .eq 65, 3), (1086, .iconst 0, 1), (1087, .ireturn, 1), (1088, .aload_n 1, 1), (1089, .aload_n 0, 1), (1090, .iload_n 3, 1), (1091, .iconst 1, 1), (1092, .iadd, 1), (1093, .iaload, 1), (1094, .invokevirtual 144, 3), (1097, .aload_n 2, 1), (1098, .aload_n 0, 1), (1099, .iload_n 3, 1), (1100, .iconst 1, 1), (1101, .iadd, 1), (1102, .iaload, 1), (1103, .invokevirtual 147, 3), (1106, .if_icmp .eq 42, 3), (1109, .iconst 0, 1), (1110, .ireturn, 1), (1111, .aload_n 1, 1), (1112, .aload_n 0, 1), (1113, .iload_n 3, 1), (1114, .iconst 1, 1), (1115, .iadd, 1), (1116, .iaload, 1), (1117, .invokevirtual 148, 3), (1120, .aload_n 2, 1), (1121, .aload_n 0, 1), (1122, .iload_n 3, 1), (1123, .iconst 1, 1), (1124, .iadd, 1), (1125, .iaload, 1), (1126, .invokevirtual 151, 3), (1129, .if_icmp .eq 19, 3), (1132, .iconst 0, 1), (1133, .ireturn, 1), (1134, .aload_n 1, 1), (1135, .invokevirtual 152, 3)]
theorem hdL_15 : ∀ f ∈ tbL_15, decode code f.1 = .ok (f.2.1, f.2.2) ∧ (en_len f.2.1 = f.2.2 ∨ en_len f.2.1 = 0) := by decide +kernel
def tbL_16 : List (Nat × Instr × Nat) := [(1138, .aload_n 2, 1), (1139, .invokevirtual 156, 3), (1142, .lcmp, 1), (1143, .ifCond .eq 5, 3), (1146, .iconst 0, 1), (1147, .ireturn, 1), (1148, .iinc 3 6, 3), (1151, .goto (-1133), 3), (1154, .iconst 1, 1), (1155, .ireturn, 1)]
theorem hdL_16 : ∀ f ∈ tbL_16, decode code f.1 = .ok (f.2.1, f.2.2) ∧ (en_len f.2.1 = f.2.2 ∨ en_len f.2.1 = 0) := by decide +kernel
def tbL : List (Nat × Instr × Nat) := tbL_0 ++ (tbL_1 ++ (tbL_2 ++ (tbL_3 ++ (tbL_4 ++ (tbL_5 ++ (tbL_6 ++ (tbL_7 ++ (tbL_8 ++ (tbL_9 ++ (tbL_10 ++ (tbL_11 ++ (tbL_12 ++ (tbL_13 ++ (tbL_14 ++ (tbL_15 ++ (tbL_16))))))))))))))))
theorem hdL : ∀ f ∈ tbL, decode code f.1 = .ok (f.2.1, f.2.2) ∧ (en_len f.2.1 = f.2.2 ∨ en_len f.2.1 = 0) := List.forall_mem_append.mpr ⟨hdL_0, List.forall_mem_append.mpr ⟨hdL_1, List.forall_mem_append.mpr ⟨hdL_2, List.forall_mem_append.mpr ⟨hdL_3, List.forall_mem_append.mpr ⟨hdL_4, List.forall_mem_append.mpr ⟨hdL_5, List.forall_mem_append.mpr ⟨hdL_6, List.forall_mem_append.mpr ⟨hdL_7, List.forall_mem_append.mpr ⟨hdL_8, List.forall_mem_append.mpr ⟨hdL_9, List.forall_mem_append.mpr ⟨hdL_10, List.forall_mem_append.mpr ⟨hdL_11, List.forall_mem_append.mpr ⟨hdL_12, List.forall_mem_append.mpr ⟨hdL_13, List.forall_mem_append.mpr ⟨hdL_14, List.forall_mem_append.mpr ⟨hdL_15, hdL_16⟩⟩⟩⟩⟩⟩⟩⟩⟩⟩⟩⟩⟩⟩⟩⟩
theorem dcL_16 : (tbL.find? (fun e => e.1 == 16)).map (fun e => e.2) = some (.iconst 0, 1) := by decide +kernel
theorem dcL_17 : (tbL.find? (fun e => e.1 == 17)).map (fun e => e.2) = some (.istore_n 3, 1) := by decide +kernel
theorem dcL_18 : (tbL.find? (fun e => e.1 == 18)).map (fun e => e.2) = some (.iload_n 3, 1) := by decide +kernel
theorem dcL_19 : (tbL.find? (fun e => e.1 == 19)).map (fun e => e.2) = some (.aload_n 0, 1) := by decide +kernel
theorem dcL_20 : (tbL.find? (fun e => e.1 == 20)).map (fun e => e.2) = some (.arraylength, 1) := by decide +kernel
theorem dcL_21 : (tbL.find? (fun e => e.1 == 21)).map (fun e => e.2) = some (.bipush 6, 2) := by decide +kernel
theorem dcL_23 : (tbL.find? (fun e => e.1 == 23)).map (fun e => e.2) = some (.isub, 1) := by decide +kernel
theorem dcL_24 : (tbL.find? (fun e => e.1 == 24)).map (fun e => e.2) = some (.if_icmp .gt 1130, 3) := by decide +kernel
theorem dcL_27 : (tbL.find? (fun e => e.1 == 27)).map (fun e => e.2) = some (.aload_n 0, 1) := by decide +kernel
theorem dcL_28 : (tbL.find? (fun e => e.1 == 28)).map (fun e => e.2) = some (.iload_n 3, 1) := by decide +kernel
theorem dcL_29 : (tbL.find? (fun e => e.1 == 29)).map (fun e => e.2) = some (.iaload, 1) := by decide +kernel
theorem dcL_30 : (tbL.find? (fun e => e.1 == 30)).map (fun e => e.2) = some (.bipush 63, 2) := by decide +kernel
theorem dcL_32 : (tbL.find? (fun e => e.1 == 32)).map (fun e => e.2) = some (.iand, 1) := by decide +kernel
theorem dcL_33 : (tbL.find? (fun e => e.1 == 33)).map (fun e => e.2) = some (.tableswitch 1115 0 33 #[151, 184, 227, 250, 263, 276, 289, 322, 345, 368, 401, 424, 457, 490, 513, 546, 579, 592, 615, 628, 681, 714, 747, 760, 773, 807, 830, 873, 896, 949, 992, 1055, 1078, 1101], 151) := by decide +kernel
theorem dcL_184 : (tbL.find? (fun e => e.1 == 184)).map (fun e => e.2) = some (.aload_n 1, 1) := by decide +kernel
theorem dcL_185 : (tbL.find? (fun e => e.1 == 185)).map (fun e => e.2) = some (.aload_n 0, 1) := by decide +kernel
theorem dcL_186 : (tbL.find? (fun e => e.1 == 186)).map (fun e => e.2) = some (.iload_n 3, 1) := by decide +kernel
theorem dcL_187 : (tbL.find? (fun e => e.1 == 187)).map (fun e => e.2) = some (.iconst 1, 1) := by decide +kernel
theorem dcL_188 : (tbL.find? (fun e => e.1 == 188)).map (fun e => e.2) = some (.iadd, 1) := by decide +kernel
theorem dcL_189 : (tbL.find? (fun e => e.1 == 189)).map (fun e => e.2) = some (.iaload, 1) := by decide +kernel
theorem dcL_190 : (tbL.find? (fun e => e.1 == 190)).map (fun e => e.2) = some (.aload_n 0, 1) := by decide +kernel
theorem dcL_191 : (tbL.find? (fun e => e.1 == 191)).map (fun e => e.2) = some (.iload_n 3, 1) := by decide +kernel
theorem dcL_192 : (tbL.find? (fun e => e.1 == 192)).map (fun e => e.2) = some (.iconst 2, 1) := by decide +kernel
theorem dcL_193 : (tbL.find? (fun e => e.1 == 193)).map (fun e => e.2) = some (.iadd, 1) := by decide +kernel
theorem dcL_194 : (tbL.find? (fun e => e.1 == 194)).map (fun e => e.2) = some (.iaload, 1) := by decide +kernel
theorem dcL_195 : (tbL.find? (fun e => e.1 == 195)).map (fun e => e.2) = some (.invokevirtual 13, 3) := by decide +kernel
theorem dcL_198 : (tbL.find? (fun e => e.1 == 198)).map (fun e => e.2) = some (.aload_n 2, 1) := by decide +kernel
theorem dcL_199 : (tbL.find? (fun e => e.1 == 199)).map (fun e => e.2) = some (.aload_n 0, 1) := by decide +kernel
theorem dcL_200 : (tbL.find? (fun e => e.1 == 200)).map (fun e => e.2) = some (.iload_n 3, 1) := by decide +kernel
theorem dcL_201 : (tbL.find? (fun e => e.1 == 201)).map (fun e => e.2) = some (.iconst 1, 1) := by decide +kernel
theorem dcL_202 : (tbL.find? (fun e => e.1 == 202)).map (fun e => e.2) = some (.iadd, 1) := by decide +kernel
theorem dcL_203 : (tbL.find? (fun e => e.1 == 203)).map (fun e => e.2) = some (.iaload, 1) := by decide +kernel
theorem dcL_204 : (tbL.find? (fun e => e.1 == 204)).map (fun e => e.2) = some (.aload_n 0, 1) := by decide +kernel
theorem dcL_205 : (tbL.find? (fun e => e.1 == 205)).map (fun e => e.2) = some (.iload_n 3, 1) := by decide +kernel
theorem dcL_206 : (tbL.find? (fun e => e.1 == 206)).map (fun e => e.2) = some (.iconst 2, 1) := by decide +kernel
theorem dcL_207 : (tbL.find? (fun e => e.1 == 207)).map (fun e => e.2) = some (.iadd, 1) := by decide +kernel
theorem dcL_208 : (tbL.find? (fun e => e.1 == 208)).map (fun e => e.2) = some (.iaload, 1) := by decide +kernel
theorem dcL_209 : (tbL.find? (fun e => e.1 == 209)).map (fun e => e.2) = some (.invokevirtual 17, 3) := by decide +kernel
theorem dcL_212 : (tbL.find? (fun e => e.1 == 212)).map (fun e => e.2) = some (.if_icmp .eq 936, 3) := by decide +kernel
theorem dcL_215 : (tbL.find? (fun e => e.1 == 215)).map (fun e => e.2) = some (.iconst 0, 1) := by decide +kernel
theorem dcL_216 : (tbL.find? (fun e => e.1 == 216)).map (fun e => e.2) = some (.ireturn, 1) := by decide +kernel
theorem dcL_217 : (tbL.find? (fun e => e.1 == 217)).map (fun e => e.2) = some (.aload_n 1, 1) := by decide +kernel
theorem dcL_218 : (tbL.find? (fun e => e.1 == 218)).map (fun e => e.2) = some (.aload_n 0, 1) := by decide +kernel
theorem dcL_219 : (tbL.find? (fun e => e.1 == 219)).map (fun e => e.2) = some (.iload_n 3, 1) := by decide +kernel
theorem dcL_220 : (tbL.find? (fun e => e.1 == 220)).map (fun e => e.2) = some (.iconst 1, 1) := by decide +kernel
theorem dcL_221 : (tbL.find? (fun e => e.1 == 221)).map (fun e => e.2) = some (.iadd, 1) := by decide +kernel
theorem dcL_222 : (tbL.find? (fun e => e.1 == 222)).map (fun e => e.2) = some (.iaload, 1) := by decide +kernel
theorem dcL_223 : (tbL.find? (fun e => e.1 == 223)).map (fun e => e.2) = some (.aload_n 0, 1) := by decide +kernel
theorem dcL_224 : (tbL.find? (fun e => e.1 == 224)).map (fun e => e.2) = some (.iload_n 3, 1) := by decide +kernel
theorem dcL_225 : (tbL.find? (fun e => e.1 == 225)).map (fun e => e.2) = some (.iconst 2, 1) := by decide +kernel
theorem dcL_226 : (tbL.find? (fun e => e.1 == 226)).map (fun e => e.2) = some (.iadd, 1) := by decide +kernel
theorem dcL_227 : (tbL.find? (fun e => e.1 == 227)).map (fun e => e.2) = some (.iaload, 1) := by decide +kernel
theorem dcL_228 : (tbL.find? (fun e => e.1 == 228)).map (fun e => e.2) = some (.aload_n 0, 1) := by decide +kernel
theorem dcL_229 : (tbL.find? (fun e => e.1 == 229)).map (fun e => e.2) = some (.iload_n 3, 1) := by decide +kernel
theorem dcL_230 : (tbL.find? (fun e => e.1 == 230)).map (fun e => e.2) = some (.iconst 3, 1) := by decide +kernel
theorem dcL_231 : (tbL.find? (fun e => e.1 == 231)).map (fun e => e.2) = some (.iadd, 1) := by decide +kernel
theorem dcL_232 : (tbL.find? (fun e => e.1 == 232)).map (fun e => e.2) = some (.iaload, 1) := by decide +kernel
theorem dcL_233 : (tbL.find? (fun e => e.1 == 233)).map (fun e => e.2) = some (.invokevirtual 18, 3) := by decide +kernel
theorem dcL_236 : (tbL.find? (fun e => e.1 == 236)).map (fun e => e.2) = some (.aload_n 2, 1) := by decide +kernel
theorem dcL_237 : (tbL.find? (fun e => e.1 == 237)).map (fun e => e.2) = some (.aload_n 0, 1) := by decide +kernel
theorem dcL_238 : (tbL.find? (fun e => e.1 == 238)).map (fun e => e.2) = some (.iload_n 3, 1) := by decide +kernel
theorem dcL_239 : (tbL.find? (fun e => e.1 == 239)).map (fun e => e.2) = some (.iconst 1, 1) := by decide +kernel
theorem dcL_240 : (tbL.find? (fun e => e.1 == 240)).map (fun e => e.2) = some (.iadd, 1) := by decide +kernel
theorem dcL_241 : (tbL.find? (fun e => e.1 == 241)).map (fun e => e.2) = some (.iaload, 1) := by decide +kernel
theorem dcL_242 : (tbL.find? (fun e => e.1 == 242)).map (fun e => e.2) = some (.aload_n 0, 1) := by decide +kernel
theorem dcL_243 : (tbL.find? (fun e => e.1 == 243)).map (fun e => e.2) = some (.iload_n 3, 1) := by decide +kernel
theorem dcL_244 : (tbL.find? (fun e => e.1 == 244)).map (fun e => e.2) = some (.iconst 2, 1) := by decide +kernel
theorem dcL_245 : (tbL.find? (fun e => e.1 == 245)).map (fun e => e.2) = some (.iadd, 1) := by decide +kernel
theorem dcL_246 : (tbL.find? (fun e => e.1 == 246)).map (fun e => e.2) = some (.iaload, 1) := by decide +kernel
theorem dcL_247 : (tbL.find? (fun e => e.1 == 247)).map (fun e => e.2) = some (.aload_n 0, 1) := by decide +kernel
theorem dcL_248 : (tbL.find? (fun e => e.1 == 248)).map (fun e => e.2) = some (.iload_n 3, 1) := by decide +kernel
theorem dcL_249 : (tbL.find? (fun e => e.1 == 249)).map (fun e => e.2) = some (.iconst 3, 1) := by decide +kernel
theorem dcL_250 : (tbL.find? (fun e => e.1 == 250)).map (fun e => e.2) = some (.iadd, 1) := by decide +kernel
theorem dcL_251 : (tbL.find? (fun e => e.1 == 251)).map (fun e => e.2) = some (.iaload, 1) := by decide +kernel
theorem dcL_252 : (tbL.find? (fun e => e.1 == 252)).map (fun e => e.2) = some (.invokevirtual 22, 3) := by decide +kernel
theorem dcL_255 : (tbL.find? (fun e => e.1 == 255)).map (fun e => e.2) = some (.if_icmp .eq 893, 3) := by decide +kernel
theorem dcL_258 : (tbL.find? (fun e => e.1 == 258)).map (fun e => e.2) = some (.iconst 0, 1) := by decide +kernel
theorem dcL_259 : (tbL.find? (fun e => e.1 == 259)).map (fun e => e.2) = some (.ireturn, 1) := by decide +kernel
theorem dcL_260 : (tbL.find? (fun e => e.1 == 260)).map (fun e => e.2) = some (.aload_n 1, 1) := by decide +kernel
theorem dcL_261 : (tbL.find? (fun e => e.1 == 261)).map (fun e => e.2) = some (.aload_n 0, 1) := by decide +kernel
theorem dcL_262 : (tbL.find? (fun e => e.1 == 262)).map (fun e => e.2) = some (.iload_n 3, 1) := by decide +kernel
theorem dcL_263 : (tbL.find? (fun e => e.1 == 263)).map (fun e => e.2) = some (.iconst 1, 1) := by decide +kernel
theorem dcL_264 : (tbL.find? (fun e => e.1 == 264)).map (fun e => e.2) = some (.iadd, 1) := by decide +kernel
theorem dcL_265 : (tbL.find? (fun e => e.1 == 265)).map (fun e => e.2) = some (.iaload, 1) := by decide +kernel
theorem dcL_266 : (tbL.find? (fun e => e.1 == 266)).map (fun e => e.2) = some (.invokevirtual 23, 3) := by decide +kernel
theorem dcL_269 : (tbL.find? (fun e => e.1 == 269)).map (fun e => e.2) = some (.aload_n 2, 1) := by decide +kernel
theorem dcL_270 : (tbL.find? (fun e => e.1 == 270)).map (fun e => e.2) = some (.aload_n 0, 1) := by decide +kernel
theorem dcL_271 : (tbL.find? (fun e => e.1 == 271)).map (fun e => e.2) = some (.iload_n 3, 1) := by decide +kernel
theorem dcL_272 : (tbL.find? (fun e => e.1 == 272)).map (fun e => e.2) = some (.iconst 1, 1) := by decide +kernel
theorem dcL_273 : (tbL.find? (fun e => e.1 == 273)).map (fun e => e.2) = some (.iadd, 1) := by decide +kernel
theorem dcL_274 : (tbL.find? (fun e => e.1 == 274)).map (fun e => e.2) = some (.iaload, 1) := by decide +kernel
theorem dcL_275 : (tbL.find? (fun e => e.1 == 275)).map (fun e => e.2) = some (.invokevirtual 27, 3) := by decide +kernel
theorem dcL_278 : (tbL.find? (fun e => e.1 == 278)).map (fun e => e.2) = some (.if_icmp .eq 870, 3) := by decide +kernel
theorem dcL_281 : (tbL.find? (fun e => e.1 == 281)).map (fun e => e.2) = some (.iconst 0, 1) := by decide +kernel
theorem dcL_282 : (tbL.find? (fun e => e.1 == 282)).map (fun e => e.2) = some (.ireturn, 1) := by decide +kernel
theorem dcL_283 : (tbL.find? (fun e => e.1 == 283)).map (fun e => e.2) = some (.aload_n 1, 1) := by decide +kernel
theorem dcL_284 : (tbL.find? (fun e => e.1 == 284)).map (fun e => e.2) = some (.invokevirtual 28, 3) := by decide +kernel
theorem dcL_287 : (tbL.find? (fun e => e.1 == 287)).map (fun e => e.2) = some (.aload_n 2, 1) := by decide +kernel
theorem dcL_288 : (tbL.find? (fun e => e.1 == 288)).map (fun e => e.2) = some (.invokevirtual 32, 3) := by decide +kernel
theorem dcL_291 : (tbL.find? (fun e => e.1 == 291)).map (fun e => e.2) = some (.if_icmp .eq 857, 3) := by decide +kernel
theorem dcL_294 : (tbL.find? (fun e => e.1 == 294)).map (fun e => e.2) = some (.iconst 0, 1) := by decide +kernel
theorem dcL_295 : (tbL.find? (fun e => e.1 == 295)).map (fun e => e.2) = some (.ireturn, 1) := by decide +kernel
theorem dcL_296 : (tbL.find? (fun e => e.1 == 296)).map (fun e => e.2) = some (.aload_n 1, 1) := by decide +kernel
theorem dcL_297 : (tbL.find? (fun e => e.1 == 297)).map (fun e => e.2) = some (.invokevirtual 33, 3) := by decide +kernel
theorem dcL_300 : (tbL.find? (fun e => e.1 == 300)).map (fun e => e.2) = some (.aload_n 2, 1) := by decide +kernel
theorem dcL_301 : (tbL.find? (fun e => e.1 == 301)).map (fun e => e.2) = some (.invokevirtual 36, 3) := by decide +kernel
theorem dcL_304 : (tbL.find? (fun e => e.1 == 304)).map (fun e => e.2) = some (.if_icmp .eq 844, 3) := by decide +kernel
theorem dcL_307 : (tbL.find? (fun e => e.1 == 307)).map (fun e => e.2) = some (.iconst 0, 1) := by decide +kernel
theorem dcL_308 : (tbL.find? (fun e => e.1 == 308)).map (fun e => e.2) = some (.ireturn, 1) := by decide +kernel
theorem dcL_309 : (tbL.find? (fun e => e.1 == 309)).map (fun e => e.2) = some (.aload_n 1, 1) := by decide +kernel
theorem dcL_310 : (tbL.find? (fun e => e.1 == 310)).map (fun e => e.2) = some (.invokevirtual 37, 3) := by decide +kernel
theorem dcL_313 : (tbL.find? (fun e => e.1 == 313)).map (fun e => e.2) = some (.aload_n 2, 1) := by decide +kernel
theorem dcL_314 : (tbL.find? (fun e => e.1 == 314)).map (fun e => e.2) = some (.invokevirtual 40, 3) := by decide +kernel
theorem dcL_317 : (tbL.find? (fun e => e.1 == 317)).map (fun e => e.2) = some (.if_icmp .eq 831, 3) := by decide +kernel
theorem dcL_320 : (tbL.find? (fun e => e.1 == 320)).map (fun e => e.2) = some (.iconst 0, 1) := by decide +kernel
theorem dcL_321 : (tbL.find? (fun e => e.1 == 321)).map (fun e => e.2) = some (.ireturn, 1) := by decide +kernel
theorem dcL_322 : (tbL.find? (fun e => e.1 == 322)).map (fun e => e.2) = some (.aload_n 1, 1) := by decide +kernel
theorem dcL_323 : (tbL.find? (fun e => e.1 == 323)).map (fun e => e.2) = some (.aload_n 0, 1) := by decide +kernel
theorem dcL_324 : (tbL.find? (fun e => e.1 == 324)).map (fun e => e.2) = some (.iload_n 3, 1) := by decide +kernel
theorem dcL_325 : (tbL.find? (fun e => e.1 == 325)).map (fun e => e.2) = some (.iconst 1, 1) := by decide +kernel
theorem dcL_326 : (tbL.find? (fun e => e.1 == 326)).map (fun e => e.2) = some (.iadd, 1) := by decide +kernel
theorem dcL_327 : (tbL.find? (fun e => e.1 == 327)).map (fun e => e.2) = some (.iaload, 1) := by decide +kernel
theorem dcL_328 : (tbL.find? (fun e => e.1 == 328)).map (fun e => e.2) = some (.aload_n 0, 1) := by decide +kernel
theorem dcL_329 : (tbL.find? (fun e => e.1 == 329)).map (fun e => e.2) = some (.iload_n 3, 1) := by decide +kernel
theorem dcL_330 : (tbL.find? (fun e => e.1 == 330)).map (fun e => e.2) = some (.iconst 2, 1) := by decide +kernel
theorem dcL_331 : (tbL.find? (fun e => e.1 == 331)).map (fun e => e.2) = some (.iadd, 1) := by decide +kernel
theorem dcL_332 : (tbL.find? (fun e => e.1 == 332)).map (fun e => e.2) = some (.iaload, 1) := by decide +kernel
theorem dcL_333 : (tbL.find? (fun e => e.1 == 333)).map (fun e => e.2) = some (.invokevirtual 41, 3) := by decide +kernel
theorem dcL_336 : (tbL.find? (fun e => e.1 == 336)).map (fun e => e.2) = some (.aload_n 2, 1) := by decide +kernel
theorem dcL_337 : (tbL.find? (fun e => e.1 == 337)).map (fun e => e.2) = some (.aload_n 0, 1) := by decide +kernel
theorem dcL_338 : (tbL.find? (fun e => e.1 == 338)).map (fun e => e.2) = some (.iload_n 3, 1) := by decide +kernel
theorem dcL_339 : (tbL.find? (fun e => e.1 == 339)).map (fun e => e.2) = some (.iconst 1, 1) := by decide +kernel
theorem dcL_340 : (tbL.find? (fun e => e.1 == 340)).map (fun e => e.2) = some (.iadd, 1) := by decide +kernel
theorem dcL_341 : (tbL.find? (fun e => e.1 == 341)).map (fun e => e.2) = some (.iaload, 1) := by decide +kernel
theorem dcL_342 : (tbL.find? (fun e => e.1 == 342)).map (fun e => e.2) = some (.aload_n 0, 1) := by decide +kernel
theorem dcL_343 : (tbL.find? (fun e => e.1 == 343)).map (fun e => e.2) = some (.iload_n 3, 1) := by decide +kernel
theorem dcL_344 : (tbL.find? (fun e => e.1 == 344)).map (fun e => e.2) = some (.iconst 2, 1) := by decide +kernel
theorem dcL_345 : (tbL.find? (fun e => e.1 == 345)).map (fun e => e.2) = some (.iadd, 1) := by decide +kernel
theorem dcL_346 : (tbL.find? (fun e => e.1 == 346)).map (fun e => e.2) = some (.iaload, 1) := by decide +kernel
theorem dcL_347 : (tbL.find? (fun e => e.1 == 347)).map (fun e => e.2) = some (.invokevirtual 44, 3) := by decide +kernel
theorem dcL_350 : (tbL.find? (fun e => e.1 == 350)).map (fun e => e.2) = some (.if_icmp .eq 798, 3) := by decide +kernel
theorem dcL_353 : (tbL.find? (fun e => e.1 == 353)).map (fun e => e.2) = some (.iconst 0, 1) := by decide +kernel
theorem dcL_354 : (tbL.find? (fun e => e.1 == 354)).map (fun e => e.2) = some (.ireturn, 1) := by decide +kernel
theorem dcL_355 : (tbL.find? (fun e => e.1 == 355)).map (fun e => e.2) = some (.aload_n 1, 1) := by decide +kernel
theorem dcL_356 : (tbL.find? (fun e => e.1 == 356)).map (fun e => e.2) = some (.aload_n 0, 1) := by decide +kernel
theorem dcL_357 : (tbL.find? (fun e => e.1 == 357)).map (fun e => e.2) = some (.iload_n 3, 1) := by decide +kernel
theorem dcL_358 : (tbL.find? (fun e => e.1 == 358)).map (fun e => e.2) = some (.iconst 1, 1) := by decide +kernel
theorem dcL_359 : (tbL.find? (fun e => e.1 == 359)).map (fun e => e.2) = some (.iadd, 1) := by decide +kernel
theorem dcL_360 : (tbL.find? (fun e => e.1 == 360)).map (fun e => e.2) = some (.iaload, 1) := by decide +kernel
theorem dcL_361 : (tbL.find? (fun e => e.1 == 361)).map (fun e => e.2) = some (.invokevirtual 45, 3) := by decide +kernel
theorem dcL_364 : (tbL.find? (fun e => e.1 == 364)).map (fun e => e.2) = some (.aload_n 2, 1) := by decide +kernel
theorem dcL_365 : (tbL.find? (fun e => e.1 == 365)).map (fun e => e.2) = some (.aload_n 0, 1) := by decide +kernel
theorem dcL_366 : (tbL.find? (fun e => e.1 == 366)).map (fun e => e.2) = some (.iload_n 3, 1) := by decide +kernel
theorem dcL_367 : (tbL.find? (fun e => e.1 == 367)).map (fun e => e.2) = some (.iconst 1, 1) := by decide +kernel
theorem dcL_368 : (tbL.find? (fun e => e.1 == 368)).map (fun e => e.2) = some (.iadd, 1) := by decide +kernel
theorem dcL_369 : (tbL.find? (fun e => e.1 == 369)).map (fun e => e.2) = some (.iaload, 1) := by decide +kernel
theorem dcL_370 : (tbL.find? (fun e => e.1 == 370)).map (fun e => e.2) = some (.invokevirtual 48, 3) := by decide +kernel
theorem dcL_373 : (tbL.find? (fun e => e.1 == 373)).map (fun e => e.2) = some (.if_icmp .eq 775, 3) := by decide +kernel
theorem dcL_376 : (tbL.find? (fun e => e.1 == 376)).map (fun e => e.2) = some (.iconst 0, 1) := by decide +kernel
theorem dcL_377 : (tbL.find? (fun e => e.1 == 377)).map (fun e => e.2) = some (.ireturn, 1) := by decide +kernel
theorem dcL_378 : (tbL.find? (fun e => e.1 == 378)).map (fun e => e.2) = some (.aload_n 1, 1) := by decide +kernel
theorem dcL_379 : (tbL.find? (fun e => e.1 == 379)).map (fun e => e.2) = some (.aload_n 0, 1) := by decide +kernel
theorem dcL_380 : (tbL.find? (fun e => e.1 == 380)).map (fun e => e.2) = some (.iload_n 3, 1) := by decide +kernel
theorem dcL_381 : (tbL.find? (fun e => e.1 == 381)).map (fun e => e.2) = some (.iconst 1, 1) := by decide +kernel
theorem dcL_382 : (tbL.find? (fun e => e.1 == 382)).map (fun e => e.2) = some (.iadd, 1) := by decide +kernel
theorem dcL_383 : (tbL.find? (fun e => e.1 == 383)).map (fun e => e.2) = some (.iaload, 1) := by decide +kernel
theorem dcL_384 : (tbL.find? (fun e => e.1 == 384)).map (fun e => e.2) = some (.invokevirtual 49, 3) := by decide +kernel
theorem dcL_387 : (tbL.find? (fun e => e.1 == 387)).map (fun e => e.2) = some (.aload_n 2, 1) := by decide +kernel
theorem dcL_388 : (tbL.find? (fun e => e.1 == 388)).map (fun e => e.2) = some (.aload_n 0, 1) := by decide +kernel
theorem dcL_389 : (tbL.find? (fun e => e.1 == 389)).map (fun e => e.2) = some (.iload_n 3, 1) := by decide +kernel
theorem dcL_390 : (tbL.find? (fun e => e.1 == 390)).map (fun e => e.2) = some (.iconst 1, 1) := by decide +kernel
theorem dcL_391 : (tbL.find? (fun e => e.1 == 391)).map (fun e => e.2) = some (.iadd, 1) := by decide +kernel
theorem dcL_392 : (tbL.find? (fun e => e.1 == 392)).map (fun e => e.2) = some (.iaload, 1) := by decide +kernel
theorem dcL_393 : (tbL.find? (fun e => e.1 == 393)).map (fun e => e.2) = some (.invokevirtual 52, 3) := by decide +kernel
theorem dcL_396 : (tbL.find? (fun e => e.1 == 396)).map (fun e => e.2) = some (.if_icmp .eq 752, 3) := by decide +kernel
theorem dcL_399 : (tbL.find? (fun e => e.1 == 399)).map (fun e => e.2) = some (.iconst 0, 1) := by decide +kernel
theorem dcL_400 : (tbL.find? (fun e => e.1 == 400)).map (fun e => e.2) = some (.ireturn, 1) := by decide +kernel
theorem dcL_401 : (tbL.find? (fun e => e.1 == 401)).map (fun e => e.2) = some (.aload_n 1, 1) := by decide +kernel
theorem dcL_402 : (tbL.find? (fun e => e.1 == 402)).map (fun e => e.2) = some (.aload_n 0, 1) := by decide +kernel
theorem dcL_403 : (tbL.find? (fun e => e.1 == 403)).map (fun e => e.2) = some (.iload_n 3, 1) := by decide +kernel
theorem dcL_404 : (tbL.find? (fun e => e.1 == 404)).map (fun e => e.2) = some (.iconst 1, 1) := by decide +kernel
theorem dcL_405 : (tbL.find? (fun e => e.1 == 405)).map (fun e => e.2) = some (.iadd, 1) := by decide +kernel
theorem dcL_406 : (tbL.find? (fun e => e.1 == 406)).map (fun e => e.2) = some (.iaload, 1) := by decide +kernel
theorem dcL_407 : (tbL.find? (fun e => e.1 == 407)).map (fun e => e.2) = some (.aload_n 0, 1) := by decide +kernel
theorem dcL_408 : (tbL.find? (fun e => e.1 == 408)).map (fun e => e.2) = some (.iload_n 3, 1) := by decide +kernel
theorem dcL_409 : (tbL.find? (fun e => e.1 == 409)).map (fun e => e.2) = some (.iconst 2, 1) := by decide +kernel
theorem dcL_410 : (tbL.find? (fun e => e.1 == 410)).map (fun e => e.2) = some (.iadd, 1) := by decide +kernel
theorem dcL_411 : (tbL.find? (fun e => e.1 == 411)).map (fun e => e.2) = some (.iaload, 1) := by decide +kernel
theorem dcL_412 : (tbL.find? (fun e => e.1 == 412)).map (fun e => e.2) = some (.invokevirtual 53, 3) := by decide +kernel
theorem dcL_415 : (tbL.find? (fun e => e.1 == 415)).map (fun e => e.2) = some (.aload_n 2, 1) := by decide +kernel
theorem dcL_416 : (tbL.find? (fun e => e.1 == 416)).map (fun e => e.2) = some (.aload_n 0, 1) := by decide +kernel
theorem dcL_417 : (tbL.find? (fun e => e.1 == 417)).map (fun e => e.2) = some (.iload_n 3, 1) := by decide +kernel
theorem dcL_418 : (tbL.find? (fun e => e.1 == 418)).map (fun e => e.2) = some (.iconst 1, 1) := by decide +kernel
theorem dcL_419 : (tbL.find? (fun e => e.1 == 419)).map (fun e => e.2) = some (.iadd, 1) := by decide +kernel
theorem dcL_420 : (tbL.find? (fun e => e.1 == 420)).map (fun e => e.2) = some (.iaload, 1) := by decide +kernel
theorem dcL_421 : (tbL.find? (fun e => e.1 == 421)).map (fun e => e.2) = some (.aload_n 0, 1) := by decide +kernel
theorem dcL_422 : (tbL.find? (fun e => e.1 == 422)).map (fun e => e.2) = some (.iload_n 3, 1) := by decide +kernel
theorem dcL_423 : (tbL.find? (fun e => e.1 == 423)).map (fun e => e.2) = some (.iconst 2, 1) := by decide +kernel
theorem dcL_424 : (tbL.find? (fun e => e.1 == 424)).map (fun e => e.2) = some (.iadd, 1) := by decide +kernel
theorem dcL_425 : (tbL.find? (fun e => e.1 == 425)).map (fun e => e.2) = some (.iaload, 1) := by decide +kernel
theorem dcL_426 : (tbL.find? (fun e => e.1 == 426)).map (fun e => e.2) = some (.invokevirtual 56, 3) := by decide +kernel
theorem dcL_429 : (tbL.find? (fun e => e.1 == 429)).map (fun e => e.2) = some (.if_icmp .eq 719, 3) := by decide +kernel
theorem dcL_432 : (tbL.find? (fun e => e.1 == 432)).map (fun e => e.2) = some (.iconst 0, 1) := by decide +kernel
theorem dcL_433 : (tbL.find? (fun e => e.1 == 433)).map (fun e => e.2) = some (.ireturn, 1) := by decide +kernel
theorem dcL_434 : (tbL.find? (fun e => e.1 == 434)).map (fun e => e.2) = some (.aload_n 1, 1) := by decide +kernel
theorem dcL_435 : (tbL.find? (fun e => e.1 == 435)).map (fun e => e.2) = some (.aload_n 0, 1) := by decide +kernel
theorem dcL_436 : (tbL.find? (fun e => e.1 == 436)).map (fun e => e.2) = some (.iload_n 3, 1) := by decide +kernel
theorem dcL_437 : (tbL.find? (fun e => e.1 == 437)).map (fun e => e.2) = some (.iconst 1, 1) := by decide +kernel
theorem dcL_438 : (tbL.find? (fun e => e.1 == 438)).map (fun e => e.2) = some (.iadd, 1) := by decide +kernel
theorem dcL_439 : (tbL.find? (fun e => e.1 == 439)).map (fun e => e.2) = some (.iaload, 1) := by decide +kernel
theorem dcL_440 : (tbL.find? (fun e => e.1 == 440)).map (fun e => e.2) = some (.invokevirtual 57, 3) := by decide +kernel
theorem dcL_443 : (tbL.find? (fun e => e.1 == 443)).map (fun e => e.2) = some (.aload_n 2, 1) := by decide +kernel
theorem dcL_444 : (tbL.find? (fun e => e.1 == 444)).map (fun e => e.2) = some (.aload_n 0, 1) := by decide +kernel
theorem dcL_445 : (tbL.find? (fun e => e.1 == 445)).map (fun e => e.2) = some (.iload_n 3, 1) := by decide +kernel
theorem dcL_446 : (tbL.find? (fun e => e.1 == 446)).map (fun e => e.2) = some (.iconst 1, 1) := by decide +kernel
theorem dcL_447 : (tbL.find? (fun e => e.1 == 447)).map (fun e => e.2) = some (.iadd, 1) := by decide +kernel
theorem dcL_448 : (tbL.find? (fun e => e.1 == 448)).map (fun e => e.2) = some (.iaload, 1) := by decide +kernel
theorem dcL_449 : (tbL.find? (fun e => e.1 == 449)).map (fun e => e.2) = some (.invokevirtual 60, 3) := by decide +kernel
theorem dcL_452 : (tbL.find? (fun e => e.1 == 452)).map (fun e => e.2) = some (.if_icmp .eq 696, 3) := by decide +kernel
theorem dcL_455 : (tbL.find? (fun e => e.1 == 455)).map (fun e => e.2) = some (.iconst 0, 1) := by decide +kernel
theorem dcL_456 : (tbL.find? (fun e => e.1 == 456)).map (fun e => e.2) = some (.ireturn, 1) := by decide +kernel
theorem dcL_457 : (tbL.find? (fun e => e.1 == 457)).map (fun e => e.2) = some (.aload_n 1, 1) := by decide +kernel
theorem dcL_458 : (tbL.find? (fun e => e.1 == 458)).map (fun e => e.2) = some (.aload_n 0, 1) := by decide +kernel
theorem dcL_459 : (tbL.find? (fun e => e.1 == 459)).map (fun e => e.2) = some (.iload_n 3, 1) := by decide +kernel
theorem dcL_460 : (tbL.find? (fun e => e.1 == 460)).map (fun e => e.2) = some (.iconst 1, 1) := by decide +kernel
theorem dcL_461 : (tbL.find? (fun e => e.1 == 461)).map (fun e => e.2) = some (.iadd, 1) := by decide +kernel
theorem dcL_462 : (tbL.find? (fun e => e.1 == 462)).map (fun e => e.2) = some (.iaload, 1) := by decide +kernel
theorem dcL_463 : (tbL.find? (fun e => e.1 == 463)).map (fun e => e.2) = some (.aload_n 0, 1) := by decide +kernel
theorem dcL_464 : (tbL.find? (fun e => e.1 == 464)).map (fun e => e.2) = some (.iload_n 3, 1) := by decide +kernel
theorem dcL_465 : (tbL.find? (fun e => e.1 == 465)).map (fun e => e.2) = some (.iconst 2, 1) := by decide +kernel
theorem dcL_466 : (tbL.find? (fun e => e.1 == 466)).map (fun e => e.2) = some (.iadd, 1) := by decide +kernel
theorem dcL_467 : (tbL.find? (fun e => e.1 == 467)).map (fun e => e.2) = some (.iaload, 1) := by decide +kernel
theorem dcL_468 : (tbL.find? (fun e => e.1 == 468)).map (fun e => e.2) = some (.invokevirtual 61, 3) := by decide +kernel
theorem dcL_471 : (tbL.find? (fun e => e.1 == 471)).map (fun e => e.2) = some (.aload_n 2, 1) := by decide +kernel
theorem dcL_472 : (tbL.find? (fun e => e.1 == 472)).map (fun e => e.2) = some (.aload_n 0, 1) := by decide +kernel
theorem dcL_473 : (tbL.find? (fun e => e.1 == 473)).map (fun e => e.2) = some (.iload_n 3, 1) := by decide +kernel
theorem dcL_474 : (tbL.find? (fun e => e.1 == 474)).map (fun e => e.2) = some (.iconst 1, 1) := by decide +kernel
theorem dcL_475 : (tbL.find? (fun e => e.1 == 475)).map (fun e => e.2) = some (.iadd, 1) := by decide +kernel
theorem dcL_476 : (tbL.find? (fun e => e.1 == 476)).map (fun e => e.2) = some (.iaload, 1) := by decide +kernel
theorem dcL_477 : (tbL.find? (fun e => e.1 == 477)).map (fun e => e.2) = some (.aload_n 0, 1) := by decide +kernel
theorem dcL_478 : (tbL.find? (fun e => e.1 == 478)).map (fun e => e.2) = some (.iload_n 3, 1) := by decide +kernel
theorem dcL_479 : (tbL.find? (fun e => e.1 == 479)).map (fun e => e.2) = some (.iconst 2, 1) := by decide +kernel
theorem dcL_480 : (tbL.find? (fun e => e.1 == 480)).map (fun e => e.2) = some (.iadd, 1) := by decide +kernel
theorem dcL_481 : (tbL.find? (fun e => e.1 == 481)).map (fun e => e.2) = some (.iaload, 1) := by decide +kernel
theorem dcL_482 : (tbL.find? (fun e => e.1 == 482)).map (fun e => e.2) = some (.invokevirtual 64, 3) := by decide +kernel
theorem dcL_485 : (tbL.find? (fun e => e.1 == 485)).map (fun e => e.2) = some (.if_icmp .eq 663, 3) := by decide +kernel
theorem dcL_488 : (tbL.find? (fun e => e.1 == 488)).map (fun e => e.2) = some (.iconst 0, 1) := by decide +kernel
theorem dcL_489 : (tbL.find? (fun e => e.1 == 489)).map (fun e => e.2) = some (.ireturn, 1) := by decide +kernel
theorem dcL_490 : (tbL.find? (fun e => e.1 == 490)).map (fun e => e.2) = some (.aload_n 1, 1) := by decide +kernel
theorem dcL_491 : (tbL.find? (fun e => e.1 == 491)).map (fun e => e.2) = some (.aload_n 0, 1) := by decide +kernel
theorem dcL_492 : (tbL.find? (fun e => e.1 == 492)).map (fun e => e.2) = some (.iload_n 3, 1) := by decide +kernel
theorem dcL_493 : (tbL.find? (fun e => e.1 == 493)).map (fun e => e.2) = some (.iconst 1, 1) := by decide +kernel
theorem dcL_494 : (tbL.find? (fun e => e.1 == 494)).map (fun e => e.2) = some (.iadd, 1) := by decide +kernel
theorem dcL_495 : (tbL.find? (fun e => e.1 == 495)).map (fun e => e.2) = some (.iaload, 1) := by decide +kernel
theorem dcL_496 : (tbL.find? (fun e => e.1 == 496)).map (fun e => e.2) = some (.aload_n 0, 1) := by decide +kernel
theorem dcL_497 : (tbL.find? (fun e => e.1 == 497)).map (fun e => e.2) = some (.iload_n 3, 1) := by decide +kernel
theorem dcL_498 : (tbL.find? (fun e => e.1 == 498)).map (fun e => e.2) = some (.iconst 2, 1) := by decide +kernel
theorem dcL_499 : (tbL.find? (fun e => e.1 == 499)).map (fun e => e.2) = some (.iadd, 1) := by decide +kernel
theorem dcL_500 : (tbL.find? (fun e => e.1 == 500)).map (fun e => e.2) = some (.iaload, 1) := by decide +kernel
theorem dcL_501 : (tbL.find? (fun e => e.1 == 501)).map (fun e => e.2) = some (.invokevirtual 65, 3) := by decide +kernel
theorem dcL_504 : (tbL.find? (fun e => e.1 == 504)).map (fun e => e.2) = some (.aload_n 2, 1) := by decide +kernel
theorem dcL_505 : (tbL.find? (fun e => e.1 == 505)).map (fun e => e.2) = some (.aload_n 0, 1) := by decide +kernel
theorem dcL_506 : (tbL.find? (fun e => e.1 == 506)).map (fun e => e.2) = some (.iload_n 3, 1) := by decide +kernel
theorem dcL_507 : (tbL.find? (fun e => e.1 == 507)).map (fun e => e.2) = some (.iconst 1, 1) := by decide +kernel
theorem dcL_508 : (tbL.find? (fun e => e.1 == 508)).map (fun e => e.2) = some (.iadd, 1) := by decide +kernel
theorem dcL_509 : (tbL.find? (fun e => e.1 == 509)).map (fun e => e.2) = some (.iaload, 1) := by decide +kernel
theorem dcL_510 : (tbL.find? (fun e => e.1 == 510)).map (fun e => e.2) = some (.aload_n 0, 1) := by decide +kernel
theorem dcL_511 : (tbL.find? (fun e => e.1 == 511)).map (fun e => e.2) = some (.iload_n 3, 1) := by decide +kernel
theorem dcL_512 : (tbL.find? (fun e => e.1 == 512)).map (fun e => e.2) = some (.iconst 2, 1) := by decide +kernel
theorem dcL_513 : (tbL.find? (fun e => e.1 == 513)).map (fun e => e.2) = some (.iadd, 1) := by decide +kernel
theorem dcL_514 : (tbL.find? (fun e => e.1 == 514)).map (fun e => e.2) = some (.iaload, 1) := by decide +kernel
theorem dcL_515 : (tbL.find? (fun e => e.1 == 515)).map (fun e => e.2) = some (.invokevirtual 68, 3) := by decide +kernel
theorem dcL_518 : (tbL.find? (fun e => e.1 == 518)).map (fun e => e.2) = some (.if_icmp .eq 630, 3) := by decide +kernel
theorem dcL_521 : (tbL.find? (fun e => e.1 == 521)).map (fun e => e.2) = some (.iconst 0, 1) := by decide +kernel
theorem dcL_522 : (tbL.find? (fun e => e.1 == 522)).map (fun e => e.2) = some (.ireturn, 1) := by decide +kernel
theorem dcL_523 : (tbL.find? (fun e => e.1 == 523)).map (fun e => e.2) = some (.aload_n 1, 1) := by decide +kernel
theorem dcL_524 : (tbL.find? (fun e => e.1 == 524)).map (fun e => e.2) = some (.aload_n 0, 1) := by decide +kernel
theorem dcL_525 : (tbL.find? (fun e => e.1 == 525)).map (fun e => e.2) = some (.iload_n 3, 1) := by decide +kernel
theorem dcL_526 : (tbL.find? (fun e => e.1 == 526)).map (fun e => e.2) = some (.iconst 1, 1) := by decide +kernel
theorem dcL_527 : (tbL.find? (fun e => e.1 == 527)).map (fun e => e.2) = some (.iadd, 1) := by decide +kernel
theorem dcL_528 : (tbL.find? (fun e => e.1 == 528)).map (fun e => e.2) = some (.iaload, 1) := by decide +kernel
theorem dcL_529 : (tbL.find? (fun e => e.1 == 529)).map (fun e => e.2) = some (.invokevirtual 69, 3) := by decide +kernel
theorem dcL_532 : (tbL.find? (fun e => e.1 == 532)).map (fun e => e.2) = some (.aload_n 2, 1) := by decide +kernel
theorem dcL_533 : (tbL.find? (fun e => e.1 == 533)).map (fun e => e.2) = some (.aload_n 0, 1) := by decide +kernel
theorem dcL_534 : (tbL.find? (fun e => e.1 == 534)).map (fun e => e.2) = some (.iload_n 3, 1) := by decide +kernel
theorem dcL_535 : (tbL.find? (fun e => e.1 == 535)).map (fun e => e.2) = some (.iconst 1, 1) := by decide +kernel
theorem dcL_536 : (tbL.find? (fun e => e.1 == 536)).map (fun e => e.2) = some (.iadd, 1) := by decide +kernel
theorem dcL_537 : (tbL.find? (fun e => e.1 == 537)).map (fun e => e.2) = some (.iaload, 1) := by decide +kernel
theorem dcL_538 : (tbL.find? (fun e => e.1 == 538)).map (fun e => e.2) = some (.invokevirtual 72, 3) := by decide +kernel
theorem dcL_541 : (tbL.find? (fun e => e.1 == 541)).map (fun e => e.2) = some (.if_icmp .eq 607, 3) := by decide +kernel
theorem dcL_544 : (tbL.find? (fun e => e.1 == 544)).map (fun e => e.2) = some (.iconst 0, 1) := by decide +kernel
theorem dcL_545 : (tbL.find? (fun e => e.1 == 545)).map (fun e => e.2) = some (.ireturn, 1) := by decide +kernel
theorem dcL_546 : (tbL.find? (fun e => e.1 == 546)).map (fun e => e.2) = some (.aload_n 1, 1) := by decide +kernel
theorem dcL_547 : (tbL.find? (fun e => e.1 == 547)).map (fun e => e.2) = some (.aload_n 0, 1) := by decide +kernel
theorem dcL_548 : (tbL.find? (fun e => e.1 == 548)).map (fun e => e.2) = some (.iload_n 3, 1) := by decide +kernel
theorem dcL_549 : (tbL.find? (fun e => e.1 == 549)).map (fun e => e.2) = some (.iconst 1, 1) := by decide +kernel
theorem dcL_550 : (tbL.find? (fun e => e.1 == 550)).map (fun e => e.2) = some (.iadd, 1) := by decide +kernel
theorem dcL_551 : (tbL.find? (fun e => e.1 == 551)).map (fun e => e.2) = some (.iaload, 1) := by decide +kernel
theorem dcL_552 : (tbL.find? (fun e => e.1 == 552)).map (fun e => e.2) = some (.aload_n 0, 1) := by decide +kernel
theorem dcL_553 : (tbL.find? (fun e => e.1 == 553)).map (fun e => e.2) = some (.iload_n 3, 1) := by decide +kernel
theorem dcL_554 : (tbL.find? (fun e => e.1 == 554)).map (fun e => e.2) = some (.iconst 2, 1) := by decide +kernel
theorem dcL_555 : (tbL.find? (fun e => e.1 == 555)).map (fun e => e.2) = some (.iadd, 1) := by decide +kernel
theorem dcL_556 : (tbL.find? (fun e => e.1 == 556)).map (fun e => e.2) = some (.iaload, 1) := by decide +kernel
theorem dcL_557 : (tbL.find? (fun e => e.1 == 557)).map (fun e => e.2) = some (.invokevirtual 73, 3) := by decide +kernel
theorem dcL_560 : (tbL.find? (fun e => e.1 == 560)).map (fun e => e.2) = some (.aload_n 2, 1) := by decide +kernel
theorem dcL_561 : (tbL.find? (fun e => e.1 == 561)).map (fun e => e.2) = some (.aload_n 0, 1) := by decide +kernel
theorem dcL_562 : (tbL.find? (fun e => e.1 == 562)).map (fun e => e.2) = some (.iload_n 3, 1) := by decide +kernel
theorem dcL_563 : (tbL.find? (fun e => e.1 == 563)).map (fun e => e.2) = some (.iconst 1, 1) := by decide +kernel
theorem dcL_564 : (tbL.find? (fun e => e.1 == 564)).map (fun e => e.2) = some (.iadd, 1) := by decide +kernel
theorem dcL_565 : (tbL.find? (fun e => e.1 == 565)).map (fun e => e.2) = some (.iaload, 1) := by decide +kernel
theorem dcL_566 : (tbL.find? (fun e => e.1 == 566)).map (fun e => e.2) = some (.aload_n 0, 1) := by decide +kernel
theorem dcL_567 : (tbL.find? (fun e => e.1 == 567)).map (fun e => e.2) = some (.iload_n 3, 1) := by decide +kernel
theorem dcL_568 : (tbL.find? (fun e => e.1 == 568)).map (fun e => e.2) = some (.iconst 2, 1) := by decide +kernel
theorem dcL_569 : (tbL.find? (fun e => e.1 == 569)).map (fun e => e.2) = some (.iadd, 1) := by decide +kernel
theorem dcL_570 : (tbL.find? (fun e => e.1 == 570)).map (fun e => e.2) = some (.iaload, 1) := by decide +kernel
theorem dcL_571 : (tbL.find? (fun e => e.1 == 571)).map (fun e => e.2) = some (.invokevirtual 76, 3) := by decide +kernel
theorem dcL_574 : (tbL.find? (fun e => e.1 == 574)).map (fun e => e.2) = some (.if_icmp .eq 574, 3) := by decide +kernel
theorem dcL_577 : (tbL.find? (fun e => e.1 == 577)).map (fun e => e.2) = some (.iconst 0, 1) := by decide +kernel
theorem dcL_578 : (tbL.find? (fun e => e.1 == 578)).map (fun e => e.2) = some (.ireturn, 1) := by decide +kernel
theorem dcL_579 : (tbL.find? (fun e => e.1 == 579)).map (fun e => e.2) = some (.aload_n 1, 1) := by decide +kernel
theorem dcL_580 : (tbL.find? (fun e => e.1 == 580)).map (fun e => e.2) = some (.aload_n 0, 1) := by decide +kernel
theorem dcL_581 : (tbL.find? (fun e => e.1 == 581)).map (fun e => e.2) = some (.iload_n 3, 1) := by decide +kernel
theorem dcL_582 : (tbL.find? (fun e => e.1 == 582)).map (fun e => e.2) = some (.iconst 1, 1) := by decide +kernel
theorem dcL_583 : (tbL.find? (fun e => e.1 == 583)).map (fun e => e.2) = some (.iadd, 1) := by decide +kernel
theorem dcL_584 : (tbL.find? (fun e => e.1 == 584)).map (fun e => e.2) = some (.iaload, 1) := by decide +kernel
theorem dcL_585 : (tbL.find? (fun e => e.1 == 585)).map (fun e => e.2) = some (.aload_n 0, 1) := by decide +kernel
theorem dcL_586 : (tbL.find? (fun e => e.1 == 586)).map (fun e => e.2) = some (.iload_n 3, 1) := by decide +kernel
theorem dcL_587 : (tbL.find? (fun e => e.1 == 587)).map (fun e => e.2) = some (.iconst 2, 1) := by decide +kernel
theorem dcL_588 : (tbL.find? (fun e => e.1 == 588)).map (fun e => e.2) = some (.iadd, 1) := by decide +kernel
theorem dcL_589 : (tbL.find? (fun e => e.1 == 589)).map (fun e => e.2) = some (.iaload, 1) := by decide +kernel
theorem dcL_590 : (tbL.find? (fun e => e.1 == 590)).map (fun e => e.2) = some (.invokevirtual 77, 3) := by decide +kernel
theorem dcL_593 : (tbL.find? (fun e => e.1 == 593)).map (fun e => e.2) = some (.aload_n 2, 1) := by decide +kernel
theorem dcL_594 : (tbL.find? (fun e => e.1 == 594)).map (fun e => e.2) = some (.aload_n 0, 1) := by decide +kernel
theorem dcL_595 : (tbL.find? (fun e => e.1 == 595)).map (fun e => e.2) = some (.iload_n 3, 1) := by decide +kernel
theorem dcL_596 : (tbL.find? (fun e => e.1 == 596)).map (fun e => e.2) = some (.iconst 1, 1) := by decide +kernel
theorem dcL_597 : (tbL.find? (fun e => e.1 == 597)).map (fun e => e.2) = some (.iadd, 1) := by decide +kernel
theorem dcL_598 : (tbL.find? (fun e => e.1 == 598)).map (fun e => e.2) = some (.iaload, 1) := by decide +kernel
theorem dcL_599 : (tbL.find? (fun e => e.1 == 599)).map (fun e => e.2) = some (.aload_n 0, 1) := by decide +kernel
theorem dcL_600 : (tbL.find? (fun e => e.1 == 600)).map (fun e => e.2) = some (.iload_n 3, 1) := by decide +kernel
theorem dcL_601 : (tbL.find? (fun e => e.1 == 601)).map (fun e => e.2) = some (.iconst 2, 1) := by decide +kernel
theorem dcL_602 : (tbL.find? (fun e => e.1 == 602)).map (fun e => e.2) = some (.iadd, 1) := by decide +kernel
theorem dcL_603 : (tbL.find? (fun e => e.1 == 603)).map (fun e => e.2) = some (.iaload, 1) := by decide +kernel
theorem dcL_604 : (tbL.find? (fun e => e.1 == 604)).map (fun e => e.2) = some (.invokevirtual 80, 3) := by decide +kernel
theorem dcL_607 : (tbL.find? (fun e => e.1 == 607)).map (fun e => e.2) = some (.if_icmp .eq 541, 3) := by decide +kernel
theorem dcL_610 : (tbL.find? (fun e => e.1 == 610)).map (fun e => e.2) = some (.iconst 0, 1) := by decide +kernel
theorem dcL_611 : (tbL.find? (fun e => e.1 == 611)).map (fun e => e.2) = some (.ireturn, 1) := by decide +kernel
theorem dcL_612 : (tbL.find? (fun e => e.1 == 612)).map (fun e => e.2) = some (.aload_n 1, 1) := by decide +kernel
theorem dcL_613 : (tbL.find? (fun e => e.1 == 613)).map (fun e => e.2) = some (.invokevirtual 81, 3) := by decide +kernel
theorem dcL_616 : (tbL.find? (fun e => e.1 == 616)).map (fun e => e.2) = some (.aload_n 2, 1) := by decide +kernel
theorem dcL_617 : (tbL.find? (fun e => e.1 == 617)).map (fun e => e.2) = some (.invokevirtual 84, 3) := by decide +kernel
theorem dcL_620 : (tbL.find? (fun e => e.1 == 620)).map (fun e => e.2) = some (.if_icmp .eq 528, 3) := by decide +kernel
theorem dcL_623 : (tbL.find? (fun e => e.1 == 623)).map (fun e => e.2) = some (.iconst 0, 1) := by decide +kernel
theorem dcL_624 : (tbL.find? (fun e => e.1 == 624)).map (fun e => e.2) = some (.ireturn, 1) := by decide +kernel
theorem dcL_625 : (tbL.find? (fun e => e.1 == 625)).map (fun e => e.2) = some (.aload_n 1, 1) := by decide +kernel
theorem dcL_626 : (tbL.find? (fun e => e.1 == 626)).map (fun e => e.2) = some (.aload_n 0, 1) := by decide +kernel
theorem dcL_627 : (tbL.find? (fun e => e.1 == 627)).map (fun e => e.2) = some (.iload_n 3, 1) := by decide +kernel
theorem dcL_628 : (tbL.find? (fun e => e.1 == 628)).map (fun e => e.2) = some (.iconst 1, 1) := by decide +kernel
theorem dcL_629 : (tbL.find? (fun e => e.1 == 629)).map (fun e => e.2) = some (.iadd, 1) := by decide +kernel
theorem dcL_630 : (tbL.find? (fun e => e.1 == 630)).map (fun e => e.2) = some (.iaload, 1) := by decide +kernel
theorem dcL_631 : (tbL.find? (fun e => e.1 == 631)).map (fun e => e.2) = some (.invokevirtual 85, 3) := by decide +kernel
theorem dcL_634 : (tbL.find? (fun e => e.1 == 634)).map (fun e => e.2) = some (.aload_n 2, 1) := by decide +kernel
theorem dcL_635 : (tbL.find? (fun e => e.1 == 635)).map (fun e => e.2) = some (.aload_n 0, 1) := by decide +kernel
theorem dcL_636 : (tbL.find? (fun e => e.1 == 636)).map (fun e => e.2) = some (.iload_n 3, 1) := by decide +kernel
theorem dcL_637 : (tbL.find? (fun e => e.1 == 637)).map (fun e => e.2) = some (.iconst 1, 1) := by decide +kernel
theorem dcL_638 : (tbL.find? (fun e => e.1 == 638)).map (fun e => e.2) = some (.iadd, 1) := by decide +kernel
theorem dcL_639 : (tbL.find? (fun e => e.1 == 639)).map (fun e => e.2) = some (.iaload, 1) := by decide +kernel
theorem dcL_640 : (tbL.find? (fun e => e.1 == 640)).map (fun e => e.2) = some (.invokevirtual 88, 3) := by decide +kernel
theorem dcL_643 : (tbL.find? (fun e => e.1 == 643)).map (fun e => e.2) = some (.if_icmp .eq 505, 3) := by decide +kernel
theorem dcL_646 : (tbL.find? (fun e => e.1 == 646)).map (fun e => e.2) = some (.iconst 0, 1) := by decide +kernel
theorem dcL_647 : (tbL.find? (fun e => e.1 == 647)).map (fun e => e.2) = some (.ireturn, 1) := by decide +kernel
theorem dcL_648 : (tbL.find? (fun e => e.1 == 648)).map (fun e => e.2) = some (.aload_n 1, 1) := by decide +kernel
theorem dcL_649 : (tbL.find? (fun e => e.1 == 649)).map (fun e => e.2) = some (.invokevirtual 89, 3) := by decide +kernel
theorem dcL_652 : (tbL.find? (fun e => e.1 == 652)).map (fun e => e.2) = some (.aload_n 2, 1) := by decide +kernel
theorem dcL_653 : (tbL.find? (fun e => e.1 == 653)).map (fun e => e.2) = some (.invokevirtual 92, 3) := by decide +kernel
theorem dcL_656 : (tbL.find? (fun e => e.1 == 656)).map (fun e => e.2) = some (.if_icmp .eq 492, 3) := by decide +kernel
theorem dcL_659 : (tbL.find? (fun e => e.1 == 659)).map (fun e => e.2) = some (.iconst 0, 1) := by decide +kernel
theorem dcL_660 : (tbL.find? (fun e => e.1 == 660)).map (fun e => e.2) = some (.ireturn, 1) := by decide +kernel
theorem dcL_661 : (tbL.find? (fun e => e.1 == 661)).map (fun e => e.2) = some (.aload_n 1, 1) := by decide +kernel
theorem dcL_662 : (tbL.find? (fun e => e.1 == 662)).map (fun e => e.2) = some (.aload_n 0, 1) := by decide +kernel
theorem dcL_663 : (tbL.find? (fun e => e.1 == 663)).map (fun e => e.2) = some (.iload_n 3, 1) := by decide +kernel
theorem dcL_664 : (tbL.find? (fun e => e.1 == 664)).map (fun e => e.2) = some (.iconst 1, 1) := by decide +kernel
theorem dcL_665 : (tbL.find? (fun e => e.1 == 665)).map (fun e => e.2) = some (.iadd, 1) := by decide +kernel
theorem dcL_666 : (tbL.find? (fun e => e.1 == 666)).map (fun e => e.2) = some (.iaload, 1) := by decide +kernel
theorem dcL_667 : (tbL.find? (fun e => e.1 == 667)).map (fun e => e.2) = some (.aload_n 0, 1) := by decide +kernel
theorem dcL_668 : (tbL.find? (fun e => e.1 == 668)).map (fun e => e.2) = some (.iload_n 3, 1) := by decide +kernel
theorem dcL_669 : (tbL.find? (fun e => e.1 == 669)).map (fun e => e.2) = some (.iconst 2, 1) := by decide +kernel
theorem dcL_670 : (tbL.find? (fun e => e.1 == 670)).map (fun e => e.2) = some (.iadd, 1) := by decide +kernel
theorem dcL_671 : (tbL.find? (fun e => e.1 == 671)).map (fun e => e.2) = some (.iaload, 1) := by decide +kernel
theorem dcL_672 : (tbL.find? (fun e => e.1 == 672)).map (fun e => e.2) = some (.aload_n 0, 1) := by decide +kernel
theorem dcL_673 : (tbL.find? (fun e => e.1 == 673)).map (fun e => e.2) = some (.iload_n 3, 1) := by decide +kernel
theorem dcL_674 : (tbL.find? (fun e => e.1 == 674)).map (fun e => e.2) = some (.iconst 3, 1) := by decide +kernel
theorem dcL_675 : (tbL.find? (fun e => e.1 == 675)).map (fun e => e.2) = some (.iadd, 1) := by decide +kernel
theorem dcL_676 : (tbL.find? (fun e => e.1 == 676)).map (fun e => e.2) = some (.iaload, 1) := by decide +kernel
theorem dcL_677 : (tbL.find? (fun e => e.1 == 677)).map (fun e => e.2) = some (.aload_n 0, 1) := by decide +kernel
theorem dcL_678 : (tbL.find? (fun e => e.1 == 678)).map (fun e => e.2) = some (.iload_n 3, 1) := by decide +kernel
theorem dcL_679 : (tbL.find? (fun e => e.1 == 679)).map (fun e => e.2) = some (.iconst 4, 1) := by decide +kernel
theorem dcL_680 : (tbL.find? (fun e => e.1 == 680)).map (fun e => e.2) = some (.iadd, 1) := by decide +kernel
theorem dcL_681 : (tbL.find? (fun e => e.1 == 681)).map (fun e => e.2) = some (.iaload, 1) := by decide +kernel
theorem dcL_682 : (tbL.find? (fun e => e.1 == 682)).map (fun e => e.2) = some (.invokevirtual 93, 3) := by decide +kernel
theorem dcL_685 : (tbL.find? (fun e => e.1 == 685)).map (fun e => e.2) = some (.aload_n 2, 1) := by decide +kernel
theorem dcL_686 : (tbL.find? (fun e => e.1 == 686)).map (fun e => e.2) = some (.aload_n 0, 1) := by decide +kernel
theorem dcL_687 : (tbL.find? (fun e => e.1 == 687)).map (fun e => e.2) = some (.iload_n 3, 1) := by decide +kernel
theorem dcL_688 : (tbL.find? (fun e => e.1 == 688)).map (fun e => e.2) = some (.iconst 1, 1) := by decide +kernel
theorem dcL_689 : (tbL.find? (fun e => e.1 == 689)).map (fun e => e.2) = some (.iadd, 1) := by decide +kernel
theorem dcL_690 : (tbL.find? (fun e => e.1 == 690)).map (fun e => e.2) = some (.iaload, 1) := by decide +kernel
theorem dcL_691 : (tbL.find? (fun e => e.1 == 691)).map (fun e => e.2) = some (.aload_n 0, 1) := by decide +kernel
theorem dcL_692 : (tbL.find? (fun e => e.1 == 692)).map (fun e => e.2) = some (.iload_n 3, 1) := by decide +kernel
theorem dcL_693 : (tbL.find? (fun e => e.1 == 693)).map (fun e => e.2) = some (.iconst 2, 1) := by decide +kernel
theorem dcL_694 : (tbL.find? (fun e => e.1 == 694)).map (fun e => e.2) = some (.iadd, 1) := by decide +kernel
theorem dcL_695 : (tbL.find? (fun e => e.1 == 695)).map (fun e => e.2) = some (.iaload, 1) := by decide +kernel
theorem dcL_696 : (tbL.find? (fun e => e.1 == 696)).map (fun e => e.2) = some (.aload_n 0, 1) := by decide +kernel
theorem dcL_697 : (tbL.find? (fun e => e.1 == 697)).map (fun e => e.2) = some (.iload_n 3, 1) := by decide +kernel
theorem dcL_698 : (tbL.find? (fun e => e.1 == 698)).map (fun e => e.2) = some (.iconst 3, 1) := by decide +kernel
theorem dcL_699 : (tbL.find? (fun e => e.1 == 699)).map (fun e => e.2) = some (.iadd, 1) := by decide +kernel
theorem dcL_700 : (tbL.find? (fun e => e.1 == 700)).map (fun e => e.2) = some (.iaload, 1) := by decide +kernel
theorem dcL_701 : (tbL.find? (fun e => e.1 == 701)).map (fun e => e.2) = some (.aload_n 0, 1) := by decide +kernel
theorem dcL_702 : (tbL.find? (fun e => e.1 == 702)).map (fun e => e.2) = some (.iload_n 3, 1) := by decide +kernel
theorem dcL_703 : (tbL.find? (fun e => e.1 == 703)).map (fun e => e.2) = some (.iconst 4, 1) := by decide +kernel
theorem dcL_704 : (tbL.find? (fun e => e.1 == 704)).map (fun e => e.2) = some (.iadd, 1) := by decide +kernel
theorem dcL_705 : (tbL.find? (fun e => e.1 == 705)).map (fun e => e.2) = some (.iaload, 1) := by decide +kernel
theorem dcL_706 : (tbL.find? (fun e => e.1 == 706)).map (fun e => e.2) = some (.invokevirtual 97, 3) := by decide +kernel
theorem dcL_709 : (tbL.find? (fun e => e.1 == 709)).map (fun e => e.2) = some (.if_icmp .eq 439, 3) := by decide +kernel
theorem dcL_712 : (tbL.find? (fun e => e.1 == 712)).map (fun e => e.2) = some (.iconst 0, 1) := by decide +kernel
theorem dcL_713 : (tbL.find? (fun e => e.1 == 713)).map (fun e => e.2) = some (.ireturn, 1) := by decide +kernel
theorem dcL_714 : (tbL.find? (fun e => e.1 == 714)).map (fun e => e.2) = some (.aload_n 1, 1) := by decide +kernel
theorem dcL_715 : (tbL.find? (fun e => e.1 == 715)).map (fun e => e.2) = some (.aload_n 0, 1) := by decide +kernel
theorem dcL_716 : (tbL.find? (fun e => e.1 == 716)).map (fun e => e.2) = some (.iload_n 3, 1) := by decide +kernel
theorem dcL_717 : (tbL.find? (fun e => e.1 == 717)).map (fun e => e.2) = some (.iconst 1, 1) := by decide +kernel
theorem dcL_718 : (tbL.find? (fun e => e.1 == 718)).map (fun e => e.2) = some (.iadd, 1) := by decide +kernel
theorem dcL_719 : (tbL.find? (fun e => e.1 == 719)).map (fun e => e.2) = some (.iaload, 1) := by decide +kernel
theorem dcL_720 : (tbL.find? (fun e => e.1 == 720)).map (fun e => e.2) = some (.aload_n 0, 1) := by decide +kernel
theorem dcL_721 : (tbL.find? (fun e => e.1 == 721)).map (fun e => e.2) = some (.iload_n 3, 1) := by decide +kernel
theorem dcL_722 : (tbL.find? (fun e => e.1 == 722)).map (fun e => e.2) = some (.iconst 2, 1) := by decide +kernel
theorem dcL_723 : (tbL.find? (fun e => e.1 == 723)).map (fun e => e.2) = some (.iadd, 1) := by decide +kernel
theorem dcL_724 : (tbL.find? (fun e => e.1 == 724)).map (fun e => e.2) = some (.iaload, 1) := by decide +kernel
theorem dcL_725 : (tbL.find? (fun e => e.1 == 725)).map (fun e => e.2) = some (.invokevirtual 98, 3) := by decide +kernel
theorem dcL_728 : (tbL.find? (fun e => e.1 == 728)).map (fun e => e.2) = some (.aload_n 2, 1) := by decide +kernel
theorem dcL_729 : (tbL.find? (fun e => e.1 == 729)).map (fun e => e.2) = some (.aload_n 0, 1) := by decide +kernel
theorem dcL_730 : (tbL.find? (fun e => e.1 == 730)).map (fun e => e.2) = some (.iload_n 3, 1) := by decide +kernel
theorem dcL_731 : (tbL.find? (fun e => e.1 == 731)).map (fun e => e.2) = some (.iconst 1, 1) := by decide +kernel
theorem dcL_732 : (tbL.find? (fun e => e.1 == 732)).map (fun e => e.2) = some (.iadd, 1) := by decide +kernel
theorem dcL_733 : (tbL.find? (fun e => e.1 == 733)).map (fun e => e.2) = some (.iaload, 1) := by decide +kernel
theorem dcL_734 : (tbL.find? (fun e => e.1 == 734)).map (fun e => e.2) = some (.aload_n 0, 1) := by decide +kernel
theorem dcL_735 : (tbL.find? (fun e => e.1 == 735)).map (fun e => e.2) = some (.iload_n 3, 1) := by decide +kernel
theorem dcL_736 : (tbL.find? (fun e => e.1 == 736)).map (fun e => e.2) = some (.iconst 2, 1) := by decide +kernel
theorem dcL_737 : (tbL.find? (fun e => e.1 == 737)).map (fun e => e.2) = some (.iadd, 1) := by decide +kernel
theorem dcL_738 : (tbL.find? (fun e => e.1 == 738)).map (fun e => e.2) = some (.iaload, 1) := by decide +kernel
theorem dcL_739 : (tbL.find? (fun e => e.1 == 739)).map (fun e => e.2) = some (.invokevirtual 101, 3) := by decide +kernel
theorem dcL_742 : (tbL.find? (fun e => e.1 == 742)).map (fun e => e.2) = some (.if_icmp .eq 406, 3) := by decide +kernel
theorem dcL_745 : (tbL.find? (fun e => e.1 == 745)).map (fun e => e.2) = some (.iconst 0, 1) := by decide +kernel
theorem dcL_746 : (tbL.find? (fun e => e.1 == 746)).map (fun e => e.2) = some (.ireturn, 1) := by decide +kernel
theorem dcL_747 : (tbL.find? (fun e => e.1 == 747)).map (fun e => e.2) = some (.aload_n 1, 1) := by decide +kernel
theorem dcL_748 : (tbL.find? (fun e => e.1 == 748)).map (fun e => e.2) = some (.aload_n 0, 1) := by decide +kernel
theorem dcL_749 : (tbL.find? (fun e => e.1 == 749)).map (fun e => e.2) = some (.iload_n 3, 1) := by decide +kernel
theorem dcL_750 : (tbL.find? (fun e => e.1 == 750)).map (fun e => e.2) = some (.iconst 1, 1) := by decide +kernel
theorem dcL_751 : (tbL.find? (fun e => e.1 == 751)).map (fun e => e.2) = some (.iadd, 1) := by decide +kernel
theorem dcL_752 : (tbL.find? (fun e => e.1 == 752)).map (fun e => e.2) = some (.iaload, 1) := by decide +kernel
theorem dcL_753 : (tbL.find? (fun e => e.1 == 753)).map (fun e => e.2) = some (.aload_n 0, 1) := by decide +kernel
theorem dcL_754 : (tbL.find? (fun e => e.1 == 754)).map (fun e => e.2) = some (.iload_n 3, 1) := by decide +kernel
theorem dcL_755 : (tbL.find? (fun e => e.1 == 755)).map (fun e => e.2) = some (.iconst 2, 1) := by decide +kernel
theorem dcL_756 : (tbL.find? (fun e => e.1 == 756)).map (fun e => e.2) = some (.iadd, 1) := by decide +kernel
theorem dcL_757 : (tbL.find? (fun e => e.1 == 757)).map (fun e => e.2) = some (.iaload, 1) := by decide +kernel
theorem dcL_758 : (tbL.find? (fun e => e.1 == 758)).map (fun e => e.2) = some (.invokevirtual 102, 3) := by decide +kernel
theorem dcL_761 : (tbL.find? (fun e => e.1 == 761)).map (fun e => e.2) = some (.aload_n 2, 1) := by decide +kernel
theorem dcL_762 : (tbL.find? (fun e => e.1 == 762)).map (fun e => e.2) = some (.aload_n 0, 1) := by decide +kernel
theorem dcL_763 : (tbL.find? (fun e => e.1 == 763)).map (fun e => e.2) = some (.iload_n 3, 1) := by decide +kernel
theorem dcL_764 : (tbL.find? (fun e => e.1 == 764)).map (fun e => e.2) = some (.iconst 1, 1) := by decide +kernel
theorem dcL_765 : (tbL.find? (fun e => e.1 == 765)).map (fun e => e.2) = some (.iadd, 1) := by decide +kernel
theorem dcL_766 : (tbL.find? (fun e => e.1 == 766)).map (fun e => e.2) = some (.iaload, 1) := by decide +kernel
theorem dcL_767 : (tbL.find? (fun e => e.1 == 767)).map (fun e => e.2) = some (.aload_n 0, 1) := by decide +kernel
theorem dcL_768 : (tbL.find? (fun e => e.1 == 768)).map (fun e => e.2) = some (.iload_n 3, 1) := by decide +kernel
theorem dcL_769 : (tbL.find? (fun e => e.1 == 769)).map (fun e => e.2) = some (.iconst 2, 1) := by decide +kernel
theorem dcL_770 : (tbL.find? (fun e => e.1 == 770)).map (fun e => e.2) = some (.iadd, 1) := by decide +kernel
theorem dcL_771 : (tbL.find? (fun e => e.1 == 771)).map (fun e => e.2) = some (.iaload, 1) := by decide +kernel
theorem dcL_772 : (tbL.find? (fun e => e.1 == 772)).map (fun e => e.2) = some (.invokevirtual 105, 3) := by decide +kernel
theorem dcL_775 : (tbL.find? (fun e => e.1 == 775)).map (fun e => e.2) = some (.if_icmp .eq 373, 3) := by decide +kernel
theorem dcL_778 : (tbL.find? (fun e => e.1 == 778)).map (fun e => e.2) = some (.iconst 0, 1) := by decide +kernel
theorem dcL_779 : (tbL.find? (fun e => e.1 == 779)).map (fun e => e.2) = some (.ireturn, 1) := by decide +kernel
theorem dcL_780 : (tbL.find? (fun e => e.1 == 780)).map (fun e => e.2) = some (.aload_n 1, 1) := by decide +kernel
theorem dcL_781 : (tbL.find? (fun e => e.1 == 781)).map (fun e => e.2) = some (.invokevirtual 106, 3) := by decide +kernel
theorem dcL_784 : (tbL.find? (fun e => e.1 == 784)).map (fun e => e.2) = some (.aload_n 2, 1) := by decide +kernel
theorem dcL_785 : (tbL.find? (fun e => e.1 == 785)).map (fun e => e.2) = some (.invokevirtual 109, 3) := by decide +kernel
theorem dcL_788 : (tbL.find? (fun e => e.1 == 788)).map (fun e => e.2) = some (.if_icmp .eq 360, 3) := by decide +kernel
theorem dcL_791 : (tbL.find? (fun e => e.1 == 791)).map (fun e => e.2) = some (.iconst 0, 1) := by decide +kernel
theorem dcL_792 : (tbL.find? (fun e => e.1 == 792)).map (fun e => e.2) = some (.ireturn, 1) := by decide +kernel
theorem dcL_793 : (tbL.find? (fun e => e.1 == 793)).map (fun e => e.2) = some (.aload_n 1, 1) := by decide +kernel
theorem dcL_794 : (tbL.find? (fun e => e.1 == 794)).map (fun e => e.2) = some (.invokevirtual 110, 3) := by decide +kernel
theorem dcL_797 : (tbL.find? (fun e => e.1 == 797)).map (fun e => e.2) = some (.aload_n 2, 1) := by decide +kernel
theorem dcL_798 : (tbL.find? (fun e => e.1 == 798)).map (fun e => e.2) = some (.invokevirtual 113, 3) := by decide +kernel
theorem dcL_801 : (tbL.find? (fun e => e.1 == 801)).map (fun e => e.2) = some (.if_icmp .eq 347, 3) := by decide +kernel
theorem dcL_804 : (tbL.find? (fun e => e.1 == 804)).map (fun e => e.2) = some (.iconst 0, 1) := by decide +kernel
theorem dcL_805 : (tbL.find? (fun e => e.1 == 805)).map (fun e => e.2) = some (.ireturn, 1) := by decide +kernel
theorem dcL_806 : (tbL.find? (fun e => e.1 == 806)).map (fun e => e.2) = some (.aload_n 1, 1) := by decide +kernel
theorem dcL_807 : (tbL.find? (fun e => e.1 == 807)).map (fun e => e.2) = some (.aload_n 0, 1) := by decide +kernel
theorem dcL_808 : (tbL.find? (fun e => e.1 == 808)).map (fun e => e.2) = some (.iload_n 3, 1) := by decide +kernel
theorem dcL_809 : (tbL.find? (fun e => e.1 == 809)).map (fun e => e.2) = some (.iconst 1, 1) := by decide +kernel
theorem dcL_810 : (tbL.find? (fun e => e.1 == 810)).map (fun e => e.2) = some (.iadd, 1) := by decide +kernel
theorem dcL_811 : (tbL.find? (fun e => e.1 == 811)).map (fun e => e.2) = some (.iaload, 1) := by decide +kernel
theorem dcL_812 : (tbL.find? (fun e => e.1 == 812)).map (fun e => e.2) = some (.aload_n 0, 1) := by decide +kernel
theorem dcL_813 : (tbL.find? (fun e => e.1 == 813)).map (fun e => e.2) = some (.iload_n 3, 1) := by decide +kernel
theorem dcL_814 : (tbL.find? (fun e => e.1 == 814)).map (fun e => e.2) = some (.iconst 2, 1) := by decide +kernel
theorem dcL_815 : (tbL.find? (fun e => e.1 == 815)).map (fun e => e.2) = some (.iadd, 1) := by decide +kernel
theorem dcL_816 : (tbL.find? (fun e => e.1 == 816)).map (fun e => e.2) = some (.iaload, 1) := by decide +kernel
theorem dcL_817 : (tbL.find? (fun e => e.1 == 817)).map (fun e => e.2) = some (.invokevirtual 114, 3) := by decide +kernel
theorem dcL_820 : (tbL.find? (fun e => e.1 == 820)).map (fun e => e.2) = some (.aload_n 2, 1) := by decide +kernel
theorem dcL_821 : (tbL.find? (fun e => e.1 == 821)).map (fun e => e.2) = some (.aload_n 0, 1) := by decide +kernel
theorem dcL_822 : (tbL.find? (fun e => e.1 == 822)).map (fun e => e.2) = some (.iload_n 3, 1) := by decide +kernel
theorem dcL_823 : (tbL.find? (fun e => e.1 == 823)).map (fun e => e.2) = some (.iconst 1, 1) := by decide +kernel
theorem dcL_824 : (tbL.find? (fun e => e.1 == 824)).map (fun e => e.2) = some (.iadd, 1) := by decide +kernel
theorem dcL_825 : (tbL.find? (fun e => e.1 == 825)).map (fun e => e.2) = some (.iaload, 1) := by decide +kernel
theorem dcL_826 : (tbL.find? (fun e => e.1 == 826)).map (fun e => e.2) = some (.aload_n 0, 1) := by decide +kernel
theorem dcL_827 : (tbL.find? (fun e => e.1 == 827)).map (fun e => e.2) = some (.iload_n 3, 1) := by decide +kernel
theorem dcL_828 : (tbL.find? (fun e => e.1 == 828)).map (fun e => e.2) = some (.iconst 2, 1) := by decide +kernel
theorem dcL_829 : (tbL.find? (fun e => e.1 == 829)).map (fun e => e.2) = some (.iadd, 1) := by decide +kernel
theorem dcL_830 : (tbL.find? (fun e => e.1 == 830)).map (fun e => e.2) = some (.iaload, 1) := by decide +kernel
theorem dcL_831 : (tbL.find? (fun e => e.1 == 831)).map (fun e => e.2) = some (.invokevirtual 118, 3) := by decide +kernel
theorem dcL_834 : (tbL.find? (fun e => e.1 == 834)).map (fun e => e.2) = some (.lcmp, 1) := by decide +kernel
theorem dcL_835 : (tbL.find? (fun e => e.1 == 835)).map (fun e => e.2) = some (.ifCond .eq 313, 3) := by decide +kernel
theorem dcL_838 : (tbL.find? (fun e => e.1 == 838)).map (fun e => e.2) = some (.iconst 0, 1) := by decide +kernel
theorem dcL_839 : (tbL.find? (fun e => e.1 == 839)).map (fun e => e.2) = some (.ireturn, 1) := by decide +kernel
theorem dcL_840 : (tbL.find? (fun e => e.1 == 840)).map (fun e => e.2) = some (.aload_n 1, 1) := by decide +kernel
theorem dcL_841 : (tbL.find? (fun e => e.1 == 841)).map (fun e => e.2) = some (.aload_n 0, 1) := by decide +kernel
theorem dcL_842 : (tbL.find? (fun e => e.1 == 842)).map (fun e => e.2) = some (.iload_n 3, 1) := by decide +kernel
theorem dcL_843 : (tbL.find? (fun e => e.1 == 843)).map (fun e => e.2) = some (.iconst 1, 1) := by decide +kernel
theorem dcL_844 : (tbL.find? (fun e => e.1 == 844)).map (fun e => e.2) = some (.iadd, 1) := by decide +kernel
theorem dcL_845 : (tbL.find? (fun e => e.1 == 845)).map (fun e => e.2) = some (.iaload, 1) := by decide +kernel
theorem dcL_846 : (tbL.find? (fun e => e.1 == 846)).map (fun e => e.2) = some (.invokevirtual 119, 3) := by decide +kernel
theorem dcL_849 : (tbL.find? (fun e => e.1 == 849)).map (fun e => e.2) = some (.aload_n 2, 1) := by decide +kernel
theorem dcL_850 : (tbL.find? (fun e => e.1 == 850)).map (fun e => e.2) = some (.aload_n 0, 1) := by decide +kernel
theorem dcL_851 : (tbL.find? (fun e => e.1 == 851)).map (fun e => e.2) = some (.iload_n 3, 1) := by decide +kernel
theorem dcL_852 : (tbL.find? (fun e => e.1 == 852)).map (fun e => e.2) = some (.iconst 1, 1) := by decide +kernel
theorem dcL_853 : (tbL.find? (fun e => e.1 == 853)).map (fun e => e.2) = some (.iadd, 1) := by decide +kernel
theorem dcL_854 : (tbL.find? (fun e => e.1 == 854)).map (fun e => e.2) = some (.iaload, 1) := by decide +kernel
theorem dcL_855 : (tbL.find? (fun e => e.1 == 855)).map (fun e => e.2) = some (.invokevirtual 122, 3) := by decide +kernel
theorem dcL_858 : (tbL.find? (fun e => e.1 == 858)).map (fun e => e.2) = some (.if_icmp .eq 290, 3) := by decide +kernel
theorem dcL_861 : (tbL.find? (fun e => e.1 == 861)).map (fun e => e.2) = some (.iconst 0, 1) := by decide +kernel
theorem dcL_862 : (tbL.find? (fun e => e.1 == 862)).map (fun e => e.2) = some (.ireturn, 1) := by decide +kernel
theorem dcL_863 : (tbL.find? (fun e => e.1 == 863)).map (fun e => e.2) = some (.aload_n 1, 1) := by decide +kernel
theorem dcL_864 : (tbL.find? (fun e => e.1 == 864)).map (fun e => e.2) = some (.aload_n 0, 1) := by decide +kernel
theorem dcL_865 : (tbL.find? (fun e => e.1 == 865)).map (fun e => e.2) = some (.iload_n 3, 1) := by decide +kernel
theorem dcL_866 : (tbL.find? (fun e => e.1 == 866)).map (fun e => e.2) = some (.iconst 1, 1) := by decide +kernel
theorem dcL_867 : (tbL.find? (fun e => e.1 == 867)).map (fun e => e.2) = some (.iadd, 1) := by decide +kernel
theorem dcL_868 : (tbL.find? (fun e => e.1 == 868)).map (fun e => e.2) = some (.iaload, 1) := by decide +kernel
theorem dcL_869 : (tbL.find? (fun e => e.1 == 869)).map (fun e => e.2) = some (.aload_n 0, 1) := by decide +kernel
theorem dcL_870 : (tbL.find? (fun e => e.1 == 870)).map (fun e => e.2) = some (.iload_n 3, 1) := by decide +kernel
theorem dcL_871 : (tbL.find? (fun e => e.1 == 871)).map (fun e => e.2) = some (.iconst 2, 1) := by decide +kernel
theorem dcL_872 : (tbL.find? (fun e => e.1 == 872)).map (fun e => e.2) = some (.iadd, 1) := by decide +kernel
theorem dcL_873 : (tbL.find? (fun e => e.1 == 873)).map (fun e => e.2) = some (.iaload, 1) := by decide +kernel
theorem dcL_874 : (tbL.find? (fun e => e.1 == 874)).map (fun e => e.2) = some (.aload_n 0, 1) := by decide +kernel
theorem dcL_875 : (tbL.find? (fun e => e.1 == 875)).map (fun e => e.2) = some (.iload_n 3, 1) := by decide +kernel
theorem dcL_876 : (tbL.find? (fun e => e.1 == 876)).map (fun e => e.2) = some (.iconst 3, 1) := by decide +kernel
theorem dcL_877 : (tbL.find? (fun e => e.1 == 877)).map (fun e => e.2) = some (.iadd, 1) := by decide +kernel
theorem dcL_878 : (tbL.find? (fun e => e.1 == 878)).map (fun e => e.2) = some (.iaload, 1) := by decide +kernel
theorem dcL_879 : (tbL.find? (fun e => e.1 == 879)).map (fun e => e.2) = some (.invokevirtual 123, 3) := by decide +kernel
theorem dcL_882 : (tbL.find? (fun e => e.1 == 882)).map (fun e => e.2) = some (.aload_n 2, 1) := by decide +kernel
theorem dcL_883 : (tbL.find? (fun e => e.1 == 883)).map (fun e => e.2) = some (.aload_n 0, 1) := by decide +kernel
theorem dcL_884 : (tbL.find? (fun e => e.1 == 884)).map (fun e => e.2) = some (.iload_n 3, 1) := by decide +kernel
theorem dcL_885 : (tbL.find? (fun e => e.1 == 885)).map (fun e => e.2) = some (.iconst 1, 1) := by decide +kernel
theorem dcL_886 : (tbL.find? (fun e => e.1 == 886)).map (fun e => e.2) = some (.iadd, 1) := by decide +kernel
theorem dcL_887 : (tbL.find? (fun e => e.1 == 887)).map (fun e => e.2) = some (.iaload, 1) := by decide +kernel
theorem dcL_888 : (tbL.find? (fun e => e.1 == 888)).map (fun e => e.2) = some (.aload_n 0, 1) := by decide +kernel
theorem dcL_889 : (tbL.find? (fun e => e.1 == 889)).map (fun e => e.2) = some (.iload_n 3, 1) := by decide +kernel
theorem dcL_890 : (tbL.find? (fun e => e.1 == 890)).map (fun e => e.2) = some (.iconst 2, 1) := by decide +kernel
theorem dcL_891 : (tbL.find? (fun e => e.1 == 891)).map (fun e => e.2) = some (.iadd, 1) := by decide +kernel
theorem dcL_892 : (tbL.find? (fun e => e.1 == 892)).map (fun e => e.2) = some (.iaload, 1) := by decide +kernel
theorem dcL_893 : (tbL.find? (fun e => e.1 == 893)).map (fun e => e.2) = some (.aload_n 0, 1) := by decide +kernel
theorem dcL_894 : (tbL.find? (fun e => e.1 == 894)).map (fun e => e.2) = some (.iload_n 3, 1) := by decide +kernel
theorem dcL_895 : (tbL.find? (fun e => e.1 == 895)).map (fun e => e.2) = some (.iconst 3, 1) := by decide +kernel
theorem dcL_896 : (tbL.find? (fun e => e.1 == 896)).map (fun e => e.2) = some (.iadd, 1) := by decide +kernel
theorem dcL_897 : (tbL.find? (fun e => e.1 == 897)).map (fun e => e.2) = some (.iaload, 1) := by decide +kernel
theorem dcL_898 : (tbL.find? (fun e => e.1 == 898)).map (fun e => e.2) = some (.invokevirtual 126, 3) := by decide +kernel
theorem dcL_901 : (tbL.find? (fun e => e.1 == 901)).map (fun e => e.2) = some (.if_icmp .eq 247, 3) := by decide +kernel
theorem dcL_904 : (tbL.find? (fun e => e.1 == 904)).map (fun e => e.2) = some (.iconst 0, 1) := by decide +kernel
theorem dcL_905 : (tbL.find? (fun e => e.1 == 905)).map (fun e => e.2) = some (.ireturn, 1) := by decide +kernel
theorem dcL_906 : (tbL.find? (fun e => e.1 == 906)).map (fun e => e.2) = some (.aload_n 1, 1) := by decide +kernel
theorem dcL_907 : (tbL.find? (fun e => e.1 == 907)).map (fun e => e.2) = some (.aload_n 0, 1) := by decide +kernel
theorem dcL_908 : (tbL.find? (fun e => e.1 == 908)).map (fun e => e.2) = some (.iload_n 3, 1) := by decide +kernel
theorem dcL_909 : (tbL.find? (fun e => e.1 == 909)).map (fun e => e.2) = some (.iconst 1, 1) := by decide +kernel
theorem dcL_910 : (tbL.find? (fun e => e.1 == 910)).map (fun e => e.2) = some (.iadd, 1) := by decide +kernel
theorem dcL_911 : (tbL.find? (fun e => e.1 == 911)).map (fun e => e.2) = some (.iaload, 1) := by decide +kernel
theorem dcL_912 : (tbL.find? (fun e => e.1 == 912)).map (fun e => e.2) = some (.invokevirtual 127, 3) := by decide +kernel
theorem dcL_915 : (tbL.find? (fun e => e.1 == 915)).map (fun e => e.2) = some (.aload_n 2, 1) := by decide +kernel
theorem dcL_916 : (tbL.find? (fun e => e.1 == 916)).map (fun e => e.2) = some (.aload_n 0, 1) := by decide +kernel
theorem dcL_917 : (tbL.find? (fun e => e.1 == 917)).map (fun e => e.2) = some (.iload_n 3, 1) := by decide +kernel
theorem dcL_918 : (tbL.find? (fun e => e.1 == 918)).map (fun e => e.2) = some (.iconst 1, 1) := by decide +kernel
theorem dcL_919 : (tbL.find? (fun e => e.1 == 919)).map (fun e => e.2) = some (.iadd, 1) := by decide +kernel
theorem dcL_920 : (tbL.find? (fun e => e.1 == 920)).map (fun e => e.2) = some (.iaload, 1) := by decide +kernel
theorem dcL_921 : (tbL.find? (fun e => e.1 == 921)).map (fun e => e.2) = some (.invokevirtual 130, 3) := by decide +kernel
theorem dcL_924 : (tbL.find? (fun e => e.1 == 924)).map (fun e => e.2) = some (.if_icmp .eq 224, 3) := by decide +kernel
theorem dcL_927 : (tbL.find? (fun e => e.1 == 927)).map (fun e => e.2) = some (.iconst 0, 1) := by decide +kernel
theorem dcL_928 : (tbL.find? (fun e => e.1 == 928)).map (fun e => e.2) = some (.ireturn, 1) := by decide +kernel
theorem dcL_929 : (tbL.find? (fun e => e.1 == 929)).map (fun e => e.2) = some (.aload_n 1, 1) := by decide +kernel
theorem dcL_930 : (tbL.find? (fun e => e.1 == 930)).map (fun e => e.2) = some (.aload_n 0, 1) := by decide +kernel
theorem dcL_931 : (tbL.find? (fun e => e.1 == 931)).map (fun e => e.2) = some (.iload_n 3, 1) := by decide +kernel
theorem dcL_932 : (tbL.find? (fun e => e.1 == 932)).map (fun e => e.2) = some (.iconst 1, 1) := by decide +kernel
theorem dcL_933 : (tbL.find? (fun e => e.1 == 933)).map (fun e => e.2) = some (.iadd, 1) := by decide +kernel
theorem dcL_934 : (tbL.find? (fun e => e.1 == 934)).map (fun e => e.2) = some (.iaload, 1) := by decide +kernel
theorem dcL_935 : (tbL.find? (fun e => e.1 == 935)).map (fun e => e.2) = some (.aload_n 0, 1) := by decide +kernel
theorem dcL_936 : (tbL.find? (fun e => e.1 == 936)).map (fun e => e.2) = some (.iload_n 3, 1) := by decide +kernel
theorem dcL_937 : (tbL.find? (fun e => e.1 == 937)).map (fun e => e.2) = some (.iconst 2, 1) := by decide +kernel
theorem dcL_938 : (tbL.find? (fun e => e.1 == 938)).map (fun e => e.2) = some (.iadd, 1) := by decide +kernel
theorem dcL_939 : (tbL.find? (fun e => e.1 == 939)).map (fun e => e.2) = some (.iaload, 1) := by decide +kernel
theorem dcL_940 : (tbL.find? (fun e => e.1 == 940)).map (fun e => e.2) = some (.aload_n 0, 1) := by decide +kernel
theorem dcL_941 : (tbL.find? (fun e => e.1 == 941)).map (fun e => e.2) = some (.iload_n 3, 1) := by decide +kernel
theorem dcL_942 : (tbL.find? (fun e => e.1 == 942)).map (fun e => e.2) = some (.iconst 3, 1) := by decide +kernel
theorem dcL_943 : (tbL.find? (fun e => e.1 == 943)).map (fun e => e.2) = some (.iadd, 1) := by decide +kernel
theorem dcL_944 : (tbL.find? (fun e => e.1 == 944)).map (fun e => e.2) = some (.iaload, 1) := by decide +kernel
theorem dcL_945 : (tbL.find? (fun e => e.1 == 945)).map (fun e => e.2) = some (.aload_n 0, 1) := by decide +kernel
theorem dcL_946 : (tbL.find? (fun e => e.1 == 946)).map (fun e => e.2) = some (.iload_n 3, 1) := by decide +kernel
theorem dcL_947 : (tbL.find? (fun e => e.1 == 947)).map (fun e => e.2) = some (.iconst 4, 1) := by decide +kernel
theorem dcL_948 : (tbL.find? (fun e => e.1 == 948)).map (fun e => e.2) = some (.iadd, 1) := by decide +kernel
theorem dcL_949 : (tbL.find? (fun e => e.1 == 949)).map (fun e => e.2) = some (.iaload, 1) := by decide +kernel
theorem dcL_950 : (tbL.find? (fun e => e.1 == 950)).map (fun e => e.2) = some (.invokevirtual 131, 3) := by decide +kernel
theorem dcL_953 : (tbL.find? (fun e => e.1 == 953)).map (fun e => e.2) = some (.aload_n 2, 1) := by decide +kernel
theorem dcL_954 : (tbL.find? (fun e => e.1 == 954)).map (fun e => e.2) = some (.aload_n 0, 1) := by decide +kernel
theorem dcL_955 : (tbL.find? (fun e => e.1 == 955)).map (fun e => e.2) = some (.iload_n 3, 1) := by decide +kernel
theorem dcL_956 : (tbL.find? (fun e => e.1 == 956)).map (fun e => e.2) = some (.iconst 1, 1) := by decide +kernel
theorem dcL_957 : (tbL.find? (fun e => e.1 == 957)).map (fun e => e.2) = some (.iadd, 1) := by decide +kernel
theorem dcL_958 : (tbL.find? (fun e => e.1 == 958)).map (fun e => e.2) = some (.iaload, 1) := by decide +kernel
theorem dcL_959 : (tbL.find? (fun e => e.1 == 959)).map (fun e => e.2) = some (.aload_n 0, 1) := by decide +kernel
theorem dcL_960 : (tbL.find? (fun e => e.1 == 960)).map (fun e => e.2) = some (.iload_n 3, 1) := by decide +kernel
theorem dcL_961 : (tbL.find? (fun e => e.1 == 961)).map (fun e => e.2) = some (.iconst 2, 1) := by decide +kernel
theorem dcL_962 : (tbL.find? (fun e => e.1 == 962)).map (fun e => e.2) = some (.iadd, 1) := by decide +kernel
theorem dcL_963 : (tbL.find? (fun e => e.1 == 963)).map (fun e => e.2) = some (.iaload, 1) := by decide +kernel
theorem dcL_964 : (tbL.find? (fun e => e.1 == 964)).map (fun e => e.2) = some (.aload_n 0, 1) := by decide +kernel
theorem dcL_965 : (tbL.find? (fun e => e.1 == 965)).map (fun e => e.2) = some (.iload_n 3, 1) := by decide +kernel
theorem dcL_966 : (tbL.find? (fun e => e.1 == 966)).map (fun e => e.2) = some (.iconst 3, 1) := by decide +kernel
theorem dcL_967 : (tbL.find? (fun e => e.1 == 967)).map (fun e => e.2) = some (.iadd, 1) := by decide +kernel
theorem dcL_968 : (tbL.find? (fun e => e.1 == 968)).map (fun e => e.2) = some (.iaload, 1) := by decide +kernel
theorem dcL_969 : (tbL.find? (fun e => e.1 == 969)).map (fun e => e.2) = some (.aload_n 0, 1) := by decide +kernel
theorem dcL_970 : (tbL.find? (fun e => e.1 == 970)).map (fun e => e.2) = some (.iload_n 3, 1) := by decide +kernel
theorem dcL_971 : (tbL.find? (fun e => e.1 == 971)).map (fun e => e.2) = some (.iconst 4, 1) := by decide +kernel
theorem dcL_972 : (tbL.find? (fun e => e.1 == 972)).map (fun e => e.2) = some (.iadd, 1) := by decide +kernel
theorem dcL_973 : (tbL.find? (fun e => e.1 == 973)).map (fun e => e.2) = some (.iaload, 1) := by decide +kernel
theorem dcL_974 : (tbL.find? (fun e => e.1 == 974)).map (fun e => e.2) = some (.invokevirtual 134, 3) := by decide +kernel
theorem dcL_977 : (tbL.find? (fun e => e.1 == 977)).map (fun e => e.2) = some (.if_icmp .eq 171, 3) := by decide +kernel
theorem dcL_980 : (tbL.find? (fun e => e.1 == 980)).map (fun e => e.2) = some (.iconst 0, 1) := by decide +kernel
theorem dcL_981 : (tbL.find? (fun e => e.1 == 981)).map (fun e => e.2) = some (.ireturn, 1) := by decide +kernel
theorem dcL_982 : (tbL.find? (fun e => e.1 == 982)).map (fun e => e.2) = some (.aload_n 1, 1) := by decide +kernel
theorem dcL_983 : (tbL.find? (fun e => e.1 == 983)).map (fun e => e.2) = some (.aload_n 0, 1) := by decide +kernel
theorem dcL_984 : (tbL.find? (fun e => e.1 == 984)).map (fun e => e.2) = some (.iload_n 3, 1) := by decide +kernel
theorem dcL_985 : (tbL.find? (fun e => e.1 == 985)).map (fun e => e.2) = some (.iconst 1, 1) := by decide +kernel
theorem dcL_986 : (tbL.find? (fun e => e.1 == 986)).map (fun e => e.2) = some (.iadd, 1) := by decide +kernel
theorem dcL_987 : (tbL.find? (fun e => e.1 == 987)).map (fun e => e.2) = some (.iaload, 1) := by decide +kernel
theorem dcL_988 : (tbL.find? (fun e => e.1 == 988)).map (fun e => e.2) = some (.aload_n 0, 1) := by decide +kernel
theorem dcL_989 : (tbL.find? (fun e => e.1 == 989)).map (fun e => e.2) = some (.iload_n 3, 1) := by decide +kernel
theorem dcL_990 : (tbL.find? (fun e => e.1 == 990)).map (fun e => e.2) = some (.iconst 2, 1) := by decide +kernel
theorem dcL_991 : (tbL.find? (fun e => e.1 == 991)).map (fun e => e.2) = some (.iadd, 1) := by decide +kernel
theorem dcL_992 : (tbL.find? (fun e => e.1 == 992)).map (fun e => e.2) = some (.iaload, 1) := by decide +kernel
theorem dcL_993 : (tbL.find? (fun e => e.1 == 993)).map (fun e => e.2) = some (.aload_n 0, 1) := by decide +kernel
theorem dcL_994 : (tbL.find? (fun e => e.1 == 994)).map (fun e => e.2) = some (.iload_n 3, 1) := by decide +kernel
theorem dcL_995 : (tbL.find? (fun e => e.1 == 995)).map (fun e => e.2) = some (.iconst 3, 1) := by decide +kernel
theorem dcL_996 : (tbL.find? (fun e => e.1 == 996)).map (fun e => e.2) = some (.iadd, 1) := by decide +kernel
theorem dcL_997 : (tbL.find? (fun e => e.1 == 997)).map (fun e => e.2) = some (.iaload, 1) := by decide +kernel
theorem dcL_998 : (tbL.find? (fun e => e.1 == 998)).map (fun e => e.2) = some (.invokevirtual 135, 3) := by decide +kernel
theorem dcL_1001 : (tbL.find? (fun e => e.1 == 1001)).map (fun e => e.2) = some (.aload_n 2, 1) := by decide +kernel
theorem dcL_1002 : (tbL.find? (fun e => e.1 == 1002)).map (fun e => e.2) = some (.aload_n 0, 1) := by decide +kernel
theorem dcL_1003 : (tbL.find? (fun e => e.1 == 1003)).map (fun e => e.2) = some (.iload_n 3, 1) := by decide +kernel
theorem dcL_1004 : (tbL.find? (fun e => e.1 == 1004)).map (fun e => e.2) = some (.iconst 1, 1) := by decide +kernel
theorem dcL_1005 : (tbL.find? (fun e => e.1 == 1005)).map (fun e => e.2) = some (.iadd, 1) := by decide +kernel
theorem dcL_1006 : (tbL.find? (fun e => e.1 == 1006)).map (fun e => e.2) = some (.iaload, 1) := by decide +kernel
theorem dcL_1007 : (tbL.find? (fun e => e.1 == 1007)).map (fun e => e.2) = some (.aload_n 0, 1) := by decide +kernel
theorem dcL_1008 : (tbL.find? (fun e => e.1 == 1008)).map (fun e => e.2) = some (.iload_n 3, 1) := by decide +kernel
theorem dcL_1009 : (tbL.find? (fun e => e.1 == 1009)).map (fun e => e.2) = some (.iconst 2, 1) := by decide +kernel
theorem dcL_1010 : (tbL.find? (fun e => e.1 == 1010)).map (fun e => e.2) = some (.iadd, 1) := by decide +kernel
theorem dcL_1011 : (tbL.find? (fun e => e.1 == 1011)).map (fun e => e.2) = some (.iaload, 1) := by decide +kernel
theorem dcL_1012 : (tbL.find? (fun e => e.1 == 1012)).map (fun e => e.2) = some (.aload_n 0, 1) := by decide +kernel
theorem dcL_1013 : (tbL.find? (fun e => e.1 == 1013)).map (fun e => e.2) = some (.iload_n 3, 1) := by decide +kernel
theorem dcL_1014 : (tbL.find? (fun e => e.1 == 1014)).map (fun e => e.2) = some (.iconst 3, 1) := by decide +kernel
theorem dcL_1015 : (tbL.find? (fun e => e.1 == 1015)).map (fun e => e.2) = some (.iadd, 1) := by decide +kernel
theorem dcL_1016 : (tbL.find? (fun e => e.1 == 1016)).map (fun e => e.2) = some (.iaload, 1) := by decide +kernel
theorem dcL_1017 : (tbL.find? (fun e => e.1 == 1017)).map (fun e => e.2) = some (.invokevirtual 138, 3) := by decide +kernel
theorem dcL_1020 : (tbL.find? (fun e => e.1 == 1020)).map (fun e => e.2) = some (.if_icmp .eq 128, 3) := by decide +kernel
theorem dcL_1023 : (tbL.find? (fun e => e.1 == 1023)).map (fun e => e.2) = some (.iconst 0, 1) := by decide +kernel
theorem dcL_1024 : (tbL.find? (fun e => e.1 == 1024)).map (fun e => e.2) = some (.ireturn, 1) := by decide +kernel
theorem dcL_1025 : (tbL.find? (fun e => e.1 == 1025)).map (fun e => e.2) = some (.aload_n 1, 1) := by decide +kernel
theorem dcL_1026 : (tbL.find? (fun e => e.1 == 1026)).map (fun e => e.2) = some (.aload_n 0, 1) := by decide +kernel
theorem dcL_1027 : (tbL.find? (fun e => e.1 == 1027)).map (fun e => e.2) = some (.iload_n 3, 1) := by decide +kernel
theorem dcL_1028 : (tbL.find? (fun e => e.1 == 1028)).map (fun e => e.2) = some (.iconst 1, 1) := by decide +kernel
theorem dcL_1029 : (tbL.find? (fun e => e.1 == 1029)).map (fun e => e.2) = some (.iadd, 1) := by decide +kernel
theorem dcL_1030 : (tbL.find? (fun e => e.1 == 1030)).map (fun e => e.2) = some (.iaload, 1) := by decide +kernel
theorem dcL_1031 : (tbL.find? (fun e => e.1 == 1031)).map (fun e => e.2) = some (.aload_n 0, 1) := by decide +kernel
theorem dcL_1032 : (tbL.find? (fun e => e.1 == 1032)).map (fun e => e.2) = some (.iload_n 3, 1) := by decide +kernel
theorem dcL_1033 : (tbL.find? (fun e => e.1 == 1033)).map (fun e => e.2) = some (.iconst 2, 1) := by decide +kernel
theorem dcL_1034 : (tbL.find? (fun e => e.1 == 1034)).map (fun e => e.2) = some (.iadd, 1) := by decide +kernel
theorem dcL_1035 : (tbL.find? (fun e => e.1 == 1035)).map (fun e => e.2) = some (.iaload, 1) := by decide +kernel
theorem dcL_1036 : (tbL.find? (fun e => e.1 == 1036)).map (fun e => e.2) = some (.aload_n 0, 1) := by decide +kernel
theorem dcL_1037 : (tbL.find? (fun e => e.1 == 1037)).map (fun e => e.2) = some (.iload_n 3, 1) := by decide +kernel
theorem dcL_1038 : (tbL.find? (fun e => e.1 == 1038)).map (fun e => e.2) = some (.iconst 3, 1) := by decide +kernel
theorem dcL_1039 : (tbL.find? (fun e => e.1 == 1039)).map (fun e => e.2) = some (.iadd, 1) := by decide +kernel
theorem dcL_1040 : (tbL.find? (fun e => e.1 == 1040)).map (fun e => e.2) = some (.iaload, 1) := by decide +kernel
theorem dcL_1041 : (tbL.find? (fun e => e.1 == 1041)).map (fun e => e.2) = some (.aload_n 0, 1) := by decide +kernel
theorem dcL_1042 : (tbL.find? (fun e => e.1 == 1042)).map (fun e => e.2) = some (.iload_n 3, 1) := by decide +kernel
theorem dcL_1043 : (tbL.find? (fun e => e.1 == 1043)).map (fun e => e.2) = some (.iconst 4, 1) := by decide +kernel
theorem dcL_1044 : (tbL.find? (fun e => e.1 == 1044)).map (fun e => e.2) = some (.iadd, 1) := by decide +kernel
theorem dcL_1045 : (tbL.find? (fun e => e.1 == 1045)).map (fun e => e.2) = some (.iaload, 1) := by decide +kernel
theorem dcL_1046 : (tbL.find? (fun e => e.1 == 1046)).map (fun e => e.2) = some (.aload_n 0, 1) := by decide +kernel
theorem dcL_1047 : (tbL.find? (fun e => e.1 == 1047)).map (fun e => e.2) = some (.iload_n 3, 1) := by decide +kernel
theorem dcL_1048 : (tbL.find? (fun e => e.1 == 1048)).map (fun e => e.2) = some (.iconst 5, 1) := by decide +kernel
theorem dcL_1049 : (tbL.find? (fun e => e.1 == 1049)).map (fun e => e.2) = some (.iadd, 1) := by decide +kernel
theorem dcL_1050 : (tbL.find? (fun e => e.1 == 1050)).map (fun e => e.2) = some (.iaload, 1) := by decide +kernel
theorem dcL_1051 : (tbL.find? (fun e => e.1 == 1051)).map (fun e => e.2) = some (.invokevirtual 139, 3) := by decide +kernel
theorem dcL_1054 : (tbL.find? (fun e => e.1 == 1054)).map (fun e => e.2) = some (.aload_n 2, 1) := by decide +kernel
theorem dcL_1055 : (tbL.find? (fun e => e.1 == 1055)).map (fun e => e.2) = some (.aload_n 0, 1) := by decide +kernel
theorem dcL_1056 : (tbL.find? (fun e => e.1 == 1056)).map (fun e => e.2) = some (.iload_n 3, 1) := by decide +kernel
theorem dcL_1057 : (tbL.find? (fun e => e.1 == 1057)).map (fun e => e.2) = some (.iconst 1, 1) := by decide +kernel
theorem dcL_1058 : (tbL.find? (fun e => e.1 == 1058)).map (fun e => e.2) = some (.iadd, 1) := by decide +kernel
theorem dcL_1059 : (tbL.find? (fun e => e.1 == 1059)).map (fun e => e.2) = some (.iaload, 1) := by decide +kernel
theorem dcL_1060 : (tbL.find? (fun e => e.1 == 1060)).map (fun e => e.2) = some (.aload_n 0, 1) := by decide +kernel
theorem dcL_1061 : (tbL.find? (fun e => e.1 == 1061)).map (fun e => e.2) = some (.iload_n 3, 1) := by decide +kernel
theorem dcL_1062 : (tbL.find? (fun e => e.1 == 1062)).map (fun e => e.2) = some (.iconst 2, 1) := by decide +kernel
theorem dcL_1063 : (tbL.find? (fun e => e.1 == 1063)).map (fun e => e.2) = some (.iadd, 1) := by decide +kernel
theorem dcL_1064 : (tbL.find? (fun e => e.1 == 1064)).map (fun e => e.2) = some (.iaload, 1) := by decide +kernel
theorem dcL_1065 : (tbL.find? (fun e => e.1 == 1065)).map (fun e => e.2) = some (.aload_n 0, 1) := by decide +kernel
theorem dcL_1066 : (tbL.find? (fun e => e.1 == 1066)).map (fun e => e.2) = some (.iload_n 3, 1) := by decide +kernel
theorem dcL_1067 : (tbL.find? (fun e => e.1 == 1067)).map (fun e => e.2) = some (.iconst 3, 1) := by decide +kernel
theorem dcL_1068 : (tbL.find? (fun e => e.1 == 1068)).map (fun e => e.2) = some (.iadd, 1) := by decide +kernel
theorem dcL_1069 : (tbL.find? (fun e => e.1 == 1069)).map (fun e => e.2) = some (.iaload, 1) := by decide +kernel
theorem dcL_1070 : (tbL.find? (fun e => e.1 == 1070)).map (fun e => e.2) = some (.aload_n 0, 1) := by decide +kernel
theorem dcL_1071 : (tbL.find? (fun e => e.1 == 1071)).map (fun e => e.2) = some (.iload_n 3, 1) := by decide +kernel
theorem dcL_1072 : (tbL.find? (fun e => e.1 == 1072)).map (fun e => e.2) = some (.iconst 4, 1) := by decide +kernel
theorem dcL_1073 : (tbL.find? (fun e => e.1 == 1073)).map (fun e => e.2) = some (.iadd, 1) := by decide +kernel
theorem dcL_1074 : (tbL.find? (fun e => e.1 == 1074)).map (fun e => e.2) = some (.iaload, 1) := by decide +kernel
theorem dcL_1075 : (tbL.find? (fun e => e.1 == 1075)).map (fun e => e.2) = some (.aload_n 0, 1) := by decide +kernel
theorem dcL_1076 : (tbL.find? (fun e => e.1 == 1076)).map (fun e => e.2) = some (.iload_n 3, 1) := by decide +kernel
theorem dcL_1077 : (tbL.find? (fun e => e.1 == 1077)).map (fun e => e.2) = some (.iconst 5, 1) := by decide +kernel
theorem dcL_1078 : (tbL.find? (fun e => e.1 == 1078)).map (fun e => e.2) = some (.iadd, 1) := by decide +kernel
theorem dcL_1079 : (tbL.find? (fun e => e.1 == 1079)).map (fun e => e.2) = some (.iaload, 1) := by decide +kernel
theorem dcL_1080 : (tbL.find? (fun e => e.1 == 1080)).map (fun e => e.2) = some (.invokevirtual 143, 3) := by decide +kernel
theorem dcL_1083 : (tbL.find? (fun e => e.1 == 1083)).map (fun e => e.2) = some (.if_icmp .eq 65, 3) := by decide +kernel
theorem dcL_1086 : (tbL.find? (fun e => e.1 == 1086)).map (fun e => e.2) = some (.iconst 0, 1) := by decide +kernel
theorem dcL_1087 : (tbL.find? (fun e => e.1 == 1087)).map (fun e => e.2) = some (.ireturn, 1) := by decide +kernel
theorem dcL_1088 : (tbL.find? (fun e => e.1 == 1088)).map (fun e => e.2) = some (.aload_n 1, 1) := by decide +kernel
theorem dcL_1089 : (tbL.find? (fun e => e.1 == 1089)).map (fun e => e.2) = some (.aload_n 0, 1) := by decide +kernel
theorem dcL_1090 : (tbL.find? (fun e => e.1 == 1090)).map (fun e => e.2) = some (.iload_n 3, 1) := by decide +kernel
theorem dcL_1091 : (tbL.find? (fun e => e.1 == 1091)).map (fun e => e.2) = some (.iconst 1, 1) := by decide +kernel
theorem dcL_1092 : (tbL.find? (fun e => e.1 == 1092)).map (fun e => e.2) = some (.iadd, 1) := by decide +kernel
theorem dcL_1093 : (tbL.find? (fun e => e.1 == 1093)).map (fun e => e.2) = some (.iaload, 1) := by decide +kernel
theorem dcL_1094 : (tbL.find? (fun e => e.1 == 1094)).map (fun e => e.2) = some (.invokevirtual 144, 3) := by decide +kernel
theorem dcL_1097 : (tbL.find? (fun e => e.1 == 1097)).map (fun e => e.2) = some (.aload_n 2, 1) := by decide +kernel
theorem dcL_1098 : (tbL.find? (fun e => e.1 == 1098)).map (fun e => e.2) = some (.aload_n 0, 1) := by decide +kernel
theorem dcL_1099 : (tbL.find? (fun e => e.1 == 1099)).map (fun e => e.2) = some (.iload_n 3, 1) := by decide +kernel
theorem dcL_1100 : (tbL.find? (fun e => e.1 == 1100)).map (fun e => e.2) = some (.iconst 1, 1) := by decide +kernel
theorem dcL_1101 : (tbL.find? (fun e => e.1 == 1101)).map (fun e => e.2) = some (.iadd, 1) := by decide +kernel
theorem dcL_1102 : (tbL.find? (fun e => e.1 == 1102)).map (fun e => e.2) = some (.iaload, 1) := by decide +kernel
theorem dcL_1103 : (tbL.find? (fun e => e.1 == 1103)).map (fun e => e.2) = some (.invokevirtual 147, 3) := by decide +kernel
theorem dcL_1106 : (tbL.find? (fun e => e.1 == 1106)).map (fun e => e.2) = some (.if_icmp .eq 42, 3) := by decide +kernel
theorem dcL_1109 : (tbL.find? (fun e => e.1 == 1109)).map (fun e => e.2) = some (.iconst 0, 1) := by decide +kernel
theorem dcL_1110 : (tbL.find? (fun e => e.1 == 1110)).map (fun e => e.2) = some (.ireturn, 1) := by decide +kernel
theorem dcL_1111 : (tbL.find? (fun e => e.1 == 1111)).map (fun e => e.2) = some (.aload_n 1, 1) := by decide +kernel
theorem dcL_1112 : (tbL.find? (fun e => e.1 == 1112)).map (fun e => e.2) = some (.aload_n 0, 1) := by decide +kernel
theorem dcL_1113 : (tbL.find? (fun e => e.1 == 1113)).map (fun e => e.2) = some (.iload_n 3, 1) := by decide +kernel
theorem dcL_1114 : (tbL.find? (fun e => e.1 == 1114)).map (fun e => e.2) = some (.iconst 1, 1) := by decide +kernel
theorem dcL_1115 : (tbL.find? (fun e => e.1 == 1115)).map (fun e => e.2) = some (.iadd, 1) := by decide +kernel
theorem dcL_1116 : (tbL.find? (fun e => e.1 == 1116)).map (fun e => e.2) = some (.iaload, 1) := by decide +kernel
theorem dcL_1117 : (tbL.find? (fun e => e.1 == 1117)).map (fun e => e.2) = some (.invokevirtual 148, 3) := by decide +kernel
theorem dcL_1120 : (tbL.find? (fun e => e.1 == 1120)).map (fun e => e.2) = some (.aload_n 2, 1) := by decide +kernel
theorem dcL_1121 : (tbL.find? (fun e => e.1 == 1121)).map (fun e => e.2) = some (.aload_n 0, 1) := by decide +kernel
theorem dcL_1122 : (tbL.find? (fun e => e.1 == 1122)).map (fun e => e.2) = some (.iload_n 3, 1) := by decide +kernel
theorem dcL_1123 : (tbL.find? (fun e => e.1 == 1123)).map (fun e => e.2) = some (.iconst 1, 1) := by decide +kernel
theorem dcL_1124 : (tbL.find? (fun e => e.1 == 1124)).map (fun e => e.2) = some (.iadd, 1) := by decide +kernel
theorem dcL_1125 : (tbL.find? (fun e => e.1 == 1125)).map (fun e => e.2) = some (.iaload, 1) := by decide +kernel
theorem dcL_1126 : (tbL.find? (fun e => e.1 == 1126)).map (fun e => e.2) = some (.invokevirtual 151, 3) := by decide +kernel
theorem dcL_1129 : (tbL.find? (fun e => e.1 == 1129)).map (fun e => e.2) = some (.if_icmp .eq 19, 3) := by decide +kernel
theorem dcL_1132 : (tbL.find? (fun e => e.1 == 1132)).map (fun e => e.2) = some (.iconst 0, 1) := by decide +kernel
theorem dcL_1133 : (tbL.find? (fun e => e.1 == 1133)).map (fun e => e.2) = some (.ireturn, 1) := by decide +kernel
theorem dcL_1134 : (tbL.find? (fun e => e.1 == 1134)).map (fun e => e.2) = some (.aload_n 1, 1) := by decide +kernel
theorem dcL_1135 : (tbL.find? (fun e => e.1 == 1135)).map (fun e => e.2) = some (.invokevirtual 152, 3) := by decide +kernel
theorem dcL_1138 : (tbL.find? (fun e => e.1 == 1138)).map (fun e => e.2) = some (.aload_n 2, 1) := by decide +kernel
theorem dcL_1139 : (tbL.find? (fun e => e.1 == 1139)).map (fun e => e.2) = some (.invokevirtual 156, 3) := by decide +kernel
theorem dcL_1142 : (tbL.find? (fun e => e.1 == 1142)).map (fun e => e.2) = some (.lcmp, 1) := by decide +kernel
theorem dcL_1143 : (tbL.find? (fun e => e.1 == 1143)).map (fun e => e.2) = some (.ifCond .eq 5, 3) := by decide +kernel
theorem dcL_1146 : (tbL.find? (fun e => e.1 == 1146)).map (fun e => e.2) = some (.iconst 0, 1) := by decide +kernel
theorem dcL_1147 : (tbL.find? (fun e => e.1 == 1147)).map (fun e => e.2) = some (.ireturn, 1) := by decide +kernel
theorem dcL_1148 : (tbL.find? (fun e => e.1 == 1148)).map (fun e => e.2) = some (.iinc 3 6, 3) := by decide +kernel
theorem dcL_1151 : (tbL.find? (fun e => e.1 == 1151)).map (fun e => e.2) = some (.goto (-1133), 3) := by decide +kernel
theorem dcL_1154 : (tbL.find? (fun e => e.1 == 1154)).map (fun e => e.2) = some (.iconst 1, 1) := by decide +kernel
theorem dcL_1155 : (tbL.find? (fun e => e.1 == 1155)).map (fun e => e.2) = some (.ireturn, 1) := by decide +kernel
noncomputable def clL : List (Nat × Nat × Option Nat × en_S) := [(13, 3, some 5, SX5_record), (17, 3, some 6, SX6_record), (18, 4, some 5, SX5_scratch), (22, 4, some 6, SX6_scratch), (23, 2, some 5, SX5_type), (27, 2, some 6, SX6_type), (28, 1, some 5, SX5_wipe), (32, 1, some 6, SX6_wipe), (33, 1, some 5, SX5_fault), (36, 1, some 6, SX6_fault), (37, 1, some 5, SX5_undo), (40, 1, some 6, SX6_undo), (41, 3, some 5, SX5_set), (44, 3, some 6, SX6_set), (45, 2, some 5, SX5_read), (48, 2, some 6, SX6_read), (49, 2, some 5, SX5_plays), (52, 2, some 6, SX6_plays), (53, 3, some 5, SX5_groove), (56, 3, some 6, SX6_groove), (57, 2, some 5, SX5_loops), (60, 2, some 6, SX6_loops), (61, 3, some 5, SX5_wax), (64, 3, some 6, SX6_wax), (65, 3, some 5, SX5_coin), (68, 3, some 6, SX6_coin), (69, 2, some 5, SX5_at), (72, 2, some 6, SX6_at), (73, 3, some 5, SX5_served), (76, 3, some 6, SX6_served), (77, 3, some 5, SX5_night), (80, 3, some 6, SX6_night), (81, 1, some 5, SX5_best), (84, 1, some 6, SX6_best), (85, 2, some 5, SX5_times), (88, 2, some 6, SX6_times), (89, 1, some 5, SX5_first), (92, 1, some 6, SX6_first), (93, 5, some 5, SX5_ask), (97, 5, some 6, SX6_ask), (98, 3, some 5, SX5_stuck), (101, 3, some 6, SX6_stuck), (102, 3, some 5, SX5_heard), (105, 3, some 6, SX6_heard), (106, 1, some 5, SX5_forget), (109, 1, some 6, SX6_forget), (110, 1, some 5, SX5_laws), (113, 1, some 6, SX6_laws), (114, 3, some 5, SX5_next), (118, 3, some 6, SX6_next), (119, 2, some 5, SX5_since), (122, 2, some 6, SX6_since), (123, 4, some 5, SX5_sheet), (126, 4, some 6, SX6_sheet), (127, 2, some 5, SX5_lose), (130, 2, some 6, SX6_lose), (131, 5, some 5, SX5_lay), (134, 5, some 6, SX6_lay), (135, 4, some 5, SX5_get), (138, 4, some 6, SX6_get), (139, 6, some 5, SX5_copy), (143, 6, some 6, SX6_copy), (144, 2, some 5, SX5_write), (147, 2, some 6, SX6_write), (148, 2, some 5, SX5_count), (151, 2, some 6, SX6_count), (152, 1, some 5, SX5_digest), (156, 1, some 6, SX6_digest)]
/-- the law with its script: L ints xs -/
noncomputable def XL (L : Nat) (xs : Nat → Int32) : en_X := (tbL, [], en_cf clL, [], [], some .boolean, some (L, xs))
theorem ccL_13 : en_cf clL 13 = some (3, some 5, SX5_record) := rfl
theorem ccL_17 : en_cf clL 17 = some (3, some 6, SX6_record) := rfl
theorem ccL_18 : en_cf clL 18 = some (4, some 5, SX5_scratch) := rfl
theorem ccL_22 : en_cf clL 22 = some (4, some 6, SX6_scratch) := rfl
theorem ccL_23 : en_cf clL 23 = some (2, some 5, SX5_type) := rfl
theorem ccL_27 : en_cf clL 27 = some (2, some 6, SX6_type) := rfl
theorem ccL_28 : en_cf clL 28 = some (1, some 5, SX5_wipe) := rfl
theorem ccL_32 : en_cf clL 32 = some (1, some 6, SX6_wipe) := rfl
theorem ccL_33 : en_cf clL 33 = some (1, some 5, SX5_fault) := rfl
theorem ccL_36 : en_cf clL 36 = some (1, some 6, SX6_fault) := rfl
theorem ccL_37 : en_cf clL 37 = some (1, some 5, SX5_undo) := rfl
theorem ccL_40 : en_cf clL 40 = some (1, some 6, SX6_undo) := rfl
theorem ccL_41 : en_cf clL 41 = some (3, some 5, SX5_set) := rfl
theorem ccL_44 : en_cf clL 44 = some (3, some 6, SX6_set) := rfl
theorem ccL_45 : en_cf clL 45 = some (2, some 5, SX5_read) := rfl
theorem ccL_48 : en_cf clL 48 = some (2, some 6, SX6_read) := rfl
theorem ccL_49 : en_cf clL 49 = some (2, some 5, SX5_plays) := rfl
theorem ccL_52 : en_cf clL 52 = some (2, some 6, SX6_plays) := rfl
theorem ccL_53 : en_cf clL 53 = some (3, some 5, SX5_groove) := rfl
theorem ccL_56 : en_cf clL 56 = some (3, some 6, SX6_groove) := rfl
theorem ccL_57 : en_cf clL 57 = some (2, some 5, SX5_loops) := rfl
theorem ccL_60 : en_cf clL 60 = some (2, some 6, SX6_loops) := rfl
theorem ccL_61 : en_cf clL 61 = some (3, some 5, SX5_wax) := rfl
theorem ccL_64 : en_cf clL 64 = some (3, some 6, SX6_wax) := rfl
theorem ccL_65 : en_cf clL 65 = some (3, some 5, SX5_coin) := rfl
theorem ccL_68 : en_cf clL 68 = some (3, some 6, SX6_coin) := rfl
theorem ccL_69 : en_cf clL 69 = some (2, some 5, SX5_at) := rfl
theorem ccL_72 : en_cf clL 72 = some (2, some 6, SX6_at) := rfl
theorem ccL_73 : en_cf clL 73 = some (3, some 5, SX5_served) := rfl
theorem ccL_76 : en_cf clL 76 = some (3, some 6, SX6_served) := rfl
theorem ccL_77 : en_cf clL 77 = some (3, some 5, SX5_night) := rfl
theorem ccL_80 : en_cf clL 80 = some (3, some 6, SX6_night) := rfl
theorem ccL_81 : en_cf clL 81 = some (1, some 5, SX5_best) := rfl
theorem ccL_84 : en_cf clL 84 = some (1, some 6, SX6_best) := rfl
theorem ccL_85 : en_cf clL 85 = some (2, some 5, SX5_times) := rfl
theorem ccL_88 : en_cf clL 88 = some (2, some 6, SX6_times) := rfl
theorem ccL_89 : en_cf clL 89 = some (1, some 5, SX5_first) := rfl
theorem ccL_92 : en_cf clL 92 = some (1, some 6, SX6_first) := rfl
theorem ccL_93 : en_cf clL 93 = some (5, some 5, SX5_ask) := rfl
theorem ccL_97 : en_cf clL 97 = some (5, some 6, SX6_ask) := rfl
theorem ccL_98 : en_cf clL 98 = some (3, some 5, SX5_stuck) := rfl
theorem ccL_101 : en_cf clL 101 = some (3, some 6, SX6_stuck) := rfl
theorem ccL_102 : en_cf clL 102 = some (3, some 5, SX5_heard) := rfl
theorem ccL_105 : en_cf clL 105 = some (3, some 6, SX6_heard) := rfl
theorem ccL_106 : en_cf clL 106 = some (1, some 5, SX5_forget) := rfl
theorem ccL_109 : en_cf clL 109 = some (1, some 6, SX6_forget) := rfl
theorem ccL_110 : en_cf clL 110 = some (1, some 5, SX5_laws) := rfl
theorem ccL_113 : en_cf clL 113 = some (1, some 6, SX6_laws) := rfl
theorem ccL_114 : en_cf clL 114 = some (3, some 5, SX5_next) := rfl
theorem ccL_118 : en_cf clL 118 = some (3, some 6, SX6_next) := rfl
theorem ccL_119 : en_cf clL 119 = some (2, some 5, SX5_since) := rfl
theorem ccL_122 : en_cf clL 122 = some (2, some 6, SX6_since) := rfl
theorem ccL_123 : en_cf clL 123 = some (4, some 5, SX5_sheet) := rfl
theorem ccL_126 : en_cf clL 126 = some (4, some 6, SX6_sheet) := rfl
theorem ccL_127 : en_cf clL 127 = some (2, some 5, SX5_lose) := rfl
theorem ccL_130 : en_cf clL 130 = some (2, some 6, SX6_lose) := rfl
theorem ccL_131 : en_cf clL 131 = some (5, some 5, SX5_lay) := rfl
theorem ccL_134 : en_cf clL 134 = some (5, some 6, SX6_lay) := rfl
theorem ccL_135 : en_cf clL 135 = some (4, some 5, SX5_get) := rfl
theorem ccL_138 : en_cf clL 138 = some (4, some 6, SX6_get) := rfl
theorem ccL_139 : en_cf clL 139 = some (6, some 5, SX5_copy) := rfl
theorem ccL_143 : en_cf clL 143 = some (6, some 6, SX6_copy) := rfl
theorem ccL_144 : en_cf clL 144 = some (2, some 5, SX5_write) := rfl
theorem ccL_147 : en_cf clL 147 = some (2, some 6, SX6_write) := rfl
theorem ccL_148 : en_cf clL 148 = some (2, some 5, SX5_count) := rfl
theorem ccL_151 : en_cf clL 151 = some (2, some 6, SX6_count) := rfl
theorem ccL_152 : en_cf clL 152 = some (1, some 5, SX5_digest) := rfl
theorem ccL_156 : en_cf clL 156 = some (1, some 6, SX6_digest) := rfl
