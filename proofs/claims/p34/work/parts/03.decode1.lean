def dtX7_destroyUnits_1 : List (Nat × Instr × Nat) := [(89, .istore 8, 2), (91, .aload 7, 2), (93, .dup, 1), (94, .getfield 180, 3), (97, .lload 5, 2), (99, .lsub, 1), (100, .putfield 180, 3), (103, .aload_n 0, 1), (104, .getfield 10, 3), (107, .dup, 1), (108, .getfield 297, 3), (111, .lload 5, 2), (113, .ladd, 1), (114, .putfield 297, 3), (117, .aload_n 3, 1), (118, .dup, 1), (119, .getfield 227, 3), (122, .iload 8, 2), (124, .iadd, 1), (125, .putfield 227, 3), (128, .aload_n 3, 1), (129, .dup, 1), (130, .getfield 218, 3), (133, .iload_n 2, 1), (134, .isub, 1), (135, .putfield 218, 3), (138, .iload 8, 2), (140, .ireturn, 1)]
theorem dtX7_destroyUnits_1_ok : ∀ q ∈ dtX7_destroyUnits_1, decode cX7_destroyUnits q.1 = .ok q.2 := by decide +kernel
theorem dX7_destroyUnits_89 : decode cX7_destroyUnits 89 = .ok (.istore 8, 2) := dg dtX7_destroyUnits_1_ok 0 rfl
theorem dX7_destroyUnits_91 : decode cX7_destroyUnits 91 = .ok (.aload 7, 2) := dg dtX7_destroyUnits_1_ok 1 rfl
theorem dX7_destroyUnits_93 : decode cX7_destroyUnits 93 = .ok (.dup, 1) := dg dtX7_destroyUnits_1_ok 2 rfl
theorem dX7_destroyUnits_94 : decode cX7_destroyUnits 94 = .ok (.getfield 180, 3) := dg dtX7_destroyUnits_1_ok 3 rfl
theorem dX7_destroyUnits_97 : decode cX7_destroyUnits 97 = .ok (.lload 5, 2) := dg dtX7_destroyUnits_1_ok 4 rfl
theorem dX7_destroyUnits_99 : decode cX7_destroyUnits 99 = .ok (.lsub, 1) := dg dtX7_destroyUnits_1_ok 5 rfl
theorem dX7_destroyUnits_100 : decode cX7_destroyUnits 100 = .ok (.putfield 180, 3) := dg dtX7_destroyUnits_1_ok 6 rfl
theorem dX7_destroyUnits_103 : decode cX7_destroyUnits 103 = .ok (.aload_n 0, 1) := dg dtX7_destroyUnits_1_ok 7 rfl
theorem dX7_destroyUnits_104 : decode cX7_destroyUnits 104 = .ok (.getfield 10, 3) := dg dtX7_destroyUnits_1_ok 8 rfl
theorem dX7_destroyUnits_107 : decode cX7_destroyUnits 107 = .ok (.dup, 1) := dg dtX7_destroyUnits_1_ok 9 rfl
theorem dX7_destroyUnits_108 : decode cX7_destroyUnits 108 = .ok (.getfield 297, 3) := dg dtX7_destroyUnits_1_ok 10 rfl
theorem dX7_destroyUnits_111 : decode cX7_destroyUnits 111 = .ok (.lload 5, 2) := dg dtX7_destroyUnits_1_ok 11 rfl
theorem dX7_destroyUnits_113 : decode cX7_destroyUnits 113 = .ok (.ladd, 1) := dg dtX7_destroyUnits_1_ok 12 rfl
theorem dX7_destroyUnits_114 : decode cX7_destroyUnits 114 = .ok (.putfield 297, 3) := dg dtX7_destroyUnits_1_ok 13 rfl
theorem dX7_destroyUnits_117 : decode cX7_destroyUnits 117 = .ok (.aload_n 3, 1) := dg dtX7_destroyUnits_1_ok 14 rfl
theorem dX7_destroyUnits_118 : decode cX7_destroyUnits 118 = .ok (.dup, 1) := dg dtX7_destroyUnits_1_ok 15 rfl
theorem dX7_destroyUnits_119 : decode cX7_destroyUnits 119 = .ok (.getfield 227, 3) := dg dtX7_destroyUnits_1_ok 16 rfl
theorem dX7_destroyUnits_122 : decode cX7_destroyUnits 122 = .ok (.iload 8, 2) := dg dtX7_destroyUnits_1_ok 17 rfl
theorem dX7_destroyUnits_124 : decode cX7_destroyUnits 124 = .ok (.iadd, 1) := dg dtX7_destroyUnits_1_ok 18 rfl
theorem dX7_destroyUnits_125 : decode cX7_destroyUnits 125 = .ok (.putfield 227, 3) := dg dtX7_destroyUnits_1_ok 19 rfl
theorem dX7_destroyUnits_128 : decode cX7_destroyUnits 128 = .ok (.aload_n 3, 1) := dg dtX7_destroyUnits_1_ok 20 rfl
theorem dX7_destroyUnits_129 : decode cX7_destroyUnits 129 = .ok (.dup, 1) := dg dtX7_destroyUnits_1_ok 21 rfl
theorem dX7_destroyUnits_130 : decode cX7_destroyUnits 130 = .ok (.getfield 218, 3) := dg dtX7_destroyUnits_1_ok 22 rfl
theorem dX7_destroyUnits_133 : decode cX7_destroyUnits 133 = .ok (.iload_n 2, 1) := dg dtX7_destroyUnits_1_ok 23 rfl
theorem dX7_destroyUnits_134 : decode cX7_destroyUnits 134 = .ok (.isub, 1) := dg dtX7_destroyUnits_1_ok 24 rfl
theorem dX7_destroyUnits_135 : decode cX7_destroyUnits 135 = .ok (.putfield 218, 3) := dg dtX7_destroyUnits_1_ok 25 rfl
theorem dX7_destroyUnits_138 : decode cX7_destroyUnits 138 = .ok (.iload 8, 2) := dg dtX7_destroyUnits_1_ok 26 rfl
theorem dX7_destroyUnits_140 : decode cX7_destroyUnits 140 = .ok (.ireturn, 1) := dg dtX7_destroyUnits_1_ok 27 rfl
def dtX7_giveLot_0 : List (Nat × Instr × Nat) := [(0, .aload_n 0, 1), (1, .getfield 10, 3), (4, .iload_n 1, 1), (5, .invokevirtual 191, 3), (8, .astore_n 3, 1), (9, .aload_n 0, 1), (10, .getfield 10, 3), (13, .iload_n 2, 1), (14, .invokevirtual 61, 3), (17, .astore 4, 2), (19, .aload_n 3, 1), (20, .ifnull 8, 3), (23, .aload 4, 2), (25, .ifnonnull 6, 3), (28, .ldc 65, 2), (30, .ireturn, 1), (31, .aload_n 3, 1), (32, .getfield 195, 3), (35, .istore 5, 2), (37, .iload 5, 2), (39, .iload_n 2, 1), (40, .if_icmp .ne 6, 3), (43, .ldc 71, 2), (45, .ireturn, 1), (46, .aload 4, 2), (48, .getfield 82, 3), (51, .ifCond .le 9, 3), (54, .aload_n 0, 1), (55, .iconst 1, 1), (56, .invokevirtual 99, 3), (59, .ireturn, 1), (60, .aload_n 0, 1), (61, .getfield 10, 3), (64, .getfield 86, 3), (67, .aload 4, 2), (69, .getfield 102, 3), (72, .aload_n 0, 1), (73, .getfield 10, 3), (76, .iload_n 2, 1), (77, .invokevirtual 90, 3), (80, .aload_n 3, 1), (81, .invokevirtual 221, 3), (84, .iadd, 1), (85, .invokevirtual 93, 3), (88, .ifCond .ne 9, 3), (91, .aload_n 0, 1), (92, .iconst 2, 1), (93, .invokevirtual 99, 3)]
theorem dtX7_giveLot_0_ok : ∀ q ∈ dtX7_giveLot_0, decode cX7_giveLot q.1 = .ok q.2 := by decide +kernel
theorem dX7_giveLot_0 : decode cX7_giveLot 0 = .ok (.aload_n 0, 1) := dg dtX7_giveLot_0_ok 0 rfl
theorem dX7_giveLot_1 : decode cX7_giveLot 1 = .ok (.getfield 10, 3) := dg dtX7_giveLot_0_ok 1 rfl
theorem dX7_giveLot_4 : decode cX7_giveLot 4 = .ok (.iload_n 1, 1) := dg dtX7_giveLot_0_ok 2 rfl
theorem dX7_giveLot_5 : decode cX7_giveLot 5 = .ok (.invokevirtual 191, 3) := dg dtX7_giveLot_0_ok 3 rfl
theorem dX7_giveLot_8 : decode cX7_giveLot 8 = .ok (.astore_n 3, 1) := dg dtX7_giveLot_0_ok 4 rfl
theorem dX7_giveLot_9 : decode cX7_giveLot 9 = .ok (.aload_n 0, 1) := dg dtX7_giveLot_0_ok 5 rfl
theorem dX7_giveLot_10 : decode cX7_giveLot 10 = .ok (.getfield 10, 3) := dg dtX7_giveLot_0_ok 6 rfl
theorem dX7_giveLot_13 : decode cX7_giveLot 13 = .ok (.iload_n 2, 1) := dg dtX7_giveLot_0_ok 7 rfl
theorem dX7_giveLot_14 : decode cX7_giveLot 14 = .ok (.invokevirtual 61, 3) := dg dtX7_giveLot_0_ok 8 rfl
theorem dX7_giveLot_17 : decode cX7_giveLot 17 = .ok (.astore 4, 2) := dg dtX7_giveLot_0_ok 9 rfl
theorem dX7_giveLot_19 : decode cX7_giveLot 19 = .ok (.aload_n 3, 1) := dg dtX7_giveLot_0_ok 10 rfl
theorem dX7_giveLot_20 : decode cX7_giveLot 20 = .ok (.ifnull 8, 3) := dg dtX7_giveLot_0_ok 11 rfl
theorem dX7_giveLot_23 : decode cX7_giveLot 23 = .ok (.aload 4, 2) := dg dtX7_giveLot_0_ok 12 rfl
theorem dX7_giveLot_25 : decode cX7_giveLot 25 = .ok (.ifnonnull 6, 3) := dg dtX7_giveLot_0_ok 13 rfl
theorem dX7_giveLot_28 : decode cX7_giveLot 28 = .ok (.ldc 65, 2) := dg dtX7_giveLot_0_ok 14 rfl
theorem dX7_giveLot_30 : decode cX7_giveLot 30 = .ok (.ireturn, 1) := dg dtX7_giveLot_0_ok 15 rfl
theorem dX7_giveLot_31 : decode cX7_giveLot 31 = .ok (.aload_n 3, 1) := dg dtX7_giveLot_0_ok 16 rfl
theorem dX7_giveLot_32 : decode cX7_giveLot 32 = .ok (.getfield 195, 3) := dg dtX7_giveLot_0_ok 17 rfl
theorem dX7_giveLot_35 : decode cX7_giveLot 35 = .ok (.istore 5, 2) := dg dtX7_giveLot_0_ok 18 rfl
theorem dX7_giveLot_37 : decode cX7_giveLot 37 = .ok (.iload 5, 2) := dg dtX7_giveLot_0_ok 19 rfl
theorem dX7_giveLot_39 : decode cX7_giveLot 39 = .ok (.iload_n 2, 1) := dg dtX7_giveLot_0_ok 20 rfl
theorem dX7_giveLot_40 : decode cX7_giveLot 40 = .ok (.if_icmp .ne 6, 3) := dg dtX7_giveLot_0_ok 21 rfl
theorem dX7_giveLot_43 : decode cX7_giveLot 43 = .ok (.ldc 71, 2) := dg dtX7_giveLot_0_ok 22 rfl
theorem dX7_giveLot_45 : decode cX7_giveLot 45 = .ok (.ireturn, 1) := dg dtX7_giveLot_0_ok 23 rfl
theorem dX7_giveLot_46 : decode cX7_giveLot 46 = .ok (.aload 4, 2) := dg dtX7_giveLot_0_ok 24 rfl
theorem dX7_giveLot_48 : decode cX7_giveLot 48 = .ok (.getfield 82, 3) := dg dtX7_giveLot_0_ok 25 rfl
theorem dX7_giveLot_51 : decode cX7_giveLot 51 = .ok (.ifCond .le 9, 3) := dg dtX7_giveLot_0_ok 26 rfl
theorem dX7_giveLot_54 : decode cX7_giveLot 54 = .ok (.aload_n 0, 1) := dg dtX7_giveLot_0_ok 27 rfl
theorem dX7_giveLot_55 : decode cX7_giveLot 55 = .ok (.iconst 1, 1) := dg dtX7_giveLot_0_ok 28 rfl
theorem dX7_giveLot_56 : decode cX7_giveLot 56 = .ok (.invokevirtual 99, 3) := dg dtX7_giveLot_0_ok 29 rfl
theorem dX7_giveLot_59 : decode cX7_giveLot 59 = .ok (.ireturn, 1) := dg dtX7_giveLot_0_ok 30 rfl
theorem dX7_giveLot_60 : decode cX7_giveLot 60 = .ok (.aload_n 0, 1) := dg dtX7_giveLot_0_ok 31 rfl
theorem dX7_giveLot_61 : decode cX7_giveLot 61 = .ok (.getfield 10, 3) := dg dtX7_giveLot_0_ok 32 rfl
theorem dX7_giveLot_64 : decode cX7_giveLot 64 = .ok (.getfield 86, 3) := dg dtX7_giveLot_0_ok 33 rfl
theorem dX7_giveLot_67 : decode cX7_giveLot 67 = .ok (.aload 4, 2) := dg dtX7_giveLot_0_ok 34 rfl
theorem dX7_giveLot_69 : decode cX7_giveLot 69 = .ok (.getfield 102, 3) := dg dtX7_giveLot_0_ok 35 rfl
theorem dX7_giveLot_72 : decode cX7_giveLot 72 = .ok (.aload_n 0, 1) := dg dtX7_giveLot_0_ok 36 rfl
theorem dX7_giveLot_73 : decode cX7_giveLot 73 = .ok (.getfield 10, 3) := dg dtX7_giveLot_0_ok 37 rfl
theorem dX7_giveLot_76 : decode cX7_giveLot 76 = .ok (.iload_n 2, 1) := dg dtX7_giveLot_0_ok 38 rfl
theorem dX7_giveLot_77 : decode cX7_giveLot 77 = .ok (.invokevirtual 90, 3) := dg dtX7_giveLot_0_ok 39 rfl
theorem dX7_giveLot_80 : decode cX7_giveLot 80 = .ok (.aload_n 3, 1) := dg dtX7_giveLot_0_ok 40 rfl
theorem dX7_giveLot_81 : decode cX7_giveLot 81 = .ok (.invokevirtual 221, 3) := dg dtX7_giveLot_0_ok 41 rfl
theorem dX7_giveLot_84 : decode cX7_giveLot 84 = .ok (.iadd, 1) := dg dtX7_giveLot_0_ok 42 rfl
theorem dX7_giveLot_85 : decode cX7_giveLot 85 = .ok (.invokevirtual 93, 3) := dg dtX7_giveLot_0_ok 43 rfl
theorem dX7_giveLot_88 : decode cX7_giveLot 88 = .ok (.ifCond .ne 9, 3) := dg dtX7_giveLot_0_ok 44 rfl
theorem dX7_giveLot_91 : decode cX7_giveLot 91 = .ok (.aload_n 0, 1) := dg dtX7_giveLot_0_ok 45 rfl
theorem dX7_giveLot_92 : decode cX7_giveLot 92 = .ok (.iconst 2, 1) := dg dtX7_giveLot_0_ok 46 rfl
theorem dX7_giveLot_93 : decode cX7_giveLot 93 = .ok (.invokevirtual 99, 3) := dg dtX7_giveLot_0_ok 47 rfl
def dtX7_giveLot_1 : List (Nat × Instr × Nat) := [(96, .ireturn, 1), (97, .aload_n 3, 1), (98, .iload_n 2, 1), (99, .putfield 195, 3), (102, .iload 5, 2), (104, .ireturn, 1)]
theorem dtX7_giveLot_1_ok : ∀ q ∈ dtX7_giveLot_1, decode cX7_giveLot q.1 = .ok q.2 := by decide +kernel
theorem dX7_giveLot_96 : decode cX7_giveLot 96 = .ok (.ireturn, 1) := dg dtX7_giveLot_1_ok 0 rfl
theorem dX7_giveLot_97 : decode cX7_giveLot 97 = .ok (.aload_n 3, 1) := dg dtX7_giveLot_1_ok 1 rfl
theorem dX7_giveLot_98 : decode cX7_giveLot 98 = .ok (.iload_n 2, 1) := dg dtX7_giveLot_1_ok 2 rfl
theorem dX7_giveLot_99 : decode cX7_giveLot 99 = .ok (.putfield 195, 3) := dg dtX7_giveLot_1_ok 3 rfl
theorem dX7_giveLot_102 : decode cX7_giveLot 102 = .ok (.iload 5, 2) := dg dtX7_giveLot_1_ok 4 rfl
theorem dX7_giveLot_104 : decode cX7_giveLot 104 = .ok (.ireturn, 1) := dg dtX7_giveLot_1_ok 5 rfl
def dtX7_passDays_0 : List (Nat × Instr × Nat) := [(0, .iload_n 1, 1), (1, .iconst 1, 1), (2, .bipush 100, 2), (4, .invokestatic 67, 3), (7, .ifCond .eq 6, 3), (10, .ldc 71, 2), (12, .ireturn, 1), (13, .aload_n 0, 1), (14, .getfield 10, 3), (17, .dup, 1), (18, .getfield 265, 3), (21, .iload_n 1, 1), (22, .iadd, 1), (23, .putfield 265, 3), (26, .aload_n 0, 1), (27, .getfield 10, 3), (30, .invokevirtual 327, 3), (33, .aload_n 0, 1), (34, .getfield 10, 3), (37, .invokevirtual 330, 3), (40, .iadd, 1), (41, .ireturn, 1)]
theorem dtX7_passDays_0_ok : ∀ q ∈ dtX7_passDays_0, decode cX7_passDays q.1 = .ok q.2 := by decide +kernel
theorem dX7_passDays_0 : decode cX7_passDays 0 = .ok (.iload_n 1, 1) := dg dtX7_passDays_0_ok 0 rfl
theorem dX7_passDays_1 : decode cX7_passDays 1 = .ok (.iconst 1, 1) := dg dtX7_passDays_0_ok 1 rfl
theorem dX7_passDays_2 : decode cX7_passDays 2 = .ok (.bipush 100, 2) := dg dtX7_passDays_0_ok 2 rfl
theorem dX7_passDays_4 : decode cX7_passDays 4 = .ok (.invokestatic 67, 3) := dg dtX7_passDays_0_ok 3 rfl
theorem dX7_passDays_7 : decode cX7_passDays 7 = .ok (.ifCond .eq 6, 3) := dg dtX7_passDays_0_ok 4 rfl
theorem dX7_passDays_10 : decode cX7_passDays 10 = .ok (.ldc 71, 2) := dg dtX7_passDays_0_ok 5 rfl
theorem dX7_passDays_12 : decode cX7_passDays 12 = .ok (.ireturn, 1) := dg dtX7_passDays_0_ok 6 rfl
theorem dX7_passDays_13 : decode cX7_passDays 13 = .ok (.aload_n 0, 1) := dg dtX7_passDays_0_ok 7 rfl
theorem dX7_passDays_14 : decode cX7_passDays 14 = .ok (.getfield 10, 3) := dg dtX7_passDays_0_ok 8 rfl
theorem dX7_passDays_17 : decode cX7_passDays 17 = .ok (.dup, 1) := dg dtX7_passDays_0_ok 9 rfl
theorem dX7_passDays_18 : decode cX7_passDays 18 = .ok (.getfield 265, 3) := dg dtX7_passDays_0_ok 10 rfl
theorem dX7_passDays_21 : decode cX7_passDays 21 = .ok (.iload_n 1, 1) := dg dtX7_passDays_0_ok 11 rfl
theorem dX7_passDays_22 : decode cX7_passDays 22 = .ok (.iadd, 1) := dg dtX7_passDays_0_ok 12 rfl
theorem dX7_passDays_23 : decode cX7_passDays 23 = .ok (.putfield 265, 3) := dg dtX7_passDays_0_ok 13 rfl
theorem dX7_passDays_26 : decode cX7_passDays 26 = .ok (.aload_n 0, 1) := dg dtX7_passDays_0_ok 14 rfl
theorem dX7_passDays_27 : decode cX7_passDays 27 = .ok (.getfield 10, 3) := dg dtX7_passDays_0_ok 15 rfl
theorem dX7_passDays_30 : decode cX7_passDays 30 = .ok (.invokevirtual 327, 3) := dg dtX7_passDays_0_ok 16 rfl
theorem dX7_passDays_33 : decode cX7_passDays 33 = .ok (.aload_n 0, 1) := dg dtX7_passDays_0_ok 17 rfl
theorem dX7_passDays_34 : decode cX7_passDays 34 = .ok (.getfield 10, 3) := dg dtX7_passDays_0_ok 18 rfl
theorem dX7_passDays_37 : decode cX7_passDays 37 = .ok (.invokevirtual 330, 3) := dg dtX7_passDays_0_ok 19 rfl
theorem dX7_passDays_40 : decode cX7_passDays 40 = .ok (.iadd, 1) := dg dtX7_passDays_0_ok 20 rfl
theorem dX7_passDays_41 : decode cX7_passDays 41 = .ok (.ireturn, 1) := dg dtX7_passDays_0_ok 21 rfl
def dtX7_carryOutOrders_0 : List (Nat × Instr × Nat) := [(0, .iconst 0, 1), (1, .istore_n 1, 1), (2, .aload_n 0, 1), (3, .getfield 34, 3), (6, .invokevirtual 333, 3), (9, .iload_n 1, 1), (10, .bipush 80, 2), (12, .if_icmp .ge 43, 3), (15, .aload_n 0, 1), (16, .getfield 34, 3), (19, .invokevirtual 336, 3), (22, .ifCond .ne 33, 3), (25, .aload_n 0, 1), (26, .getfield 34, 3), (29, .invokevirtual 339, 3), (32, .ifCond .eq 23, 3), (35, .aload_n 0, 1), (36, .invokevirtual 342, 3), (39, .ifCond .lt 16, 3), (42, .iinc 1 1, 3), (45, .aload_n 0, 1), (46, .getfield 34, 3), (49, .invokevirtual 345, 3), (52, .goto (-43), 3), (55, .iload_n 1, 1), (56, .ireturn, 1)]
theorem dtX7_carryOutOrders_0_ok : ∀ q ∈ dtX7_carryOutOrders_0, decode cX7_carryOutOrders q.1 = .ok q.2 := by decide +kernel
theorem dX7_carryOutOrders_0 : decode cX7_carryOutOrders 0 = .ok (.iconst 0, 1) := dg dtX7_carryOutOrders_0_ok 0 rfl
theorem dX7_carryOutOrders_1 : decode cX7_carryOutOrders 1 = .ok (.istore_n 1, 1) := dg dtX7_carryOutOrders_0_ok 1 rfl
theorem dX7_carryOutOrders_2 : decode cX7_carryOutOrders 2 = .ok (.aload_n 0, 1) := dg dtX7_carryOutOrders_0_ok 2 rfl
theorem dX7_carryOutOrders_3 : decode cX7_carryOutOrders 3 = .ok (.getfield 34, 3) := dg dtX7_carryOutOrders_0_ok 3 rfl
theorem dX7_carryOutOrders_6 : decode cX7_carryOutOrders 6 = .ok (.invokevirtual 333, 3) := dg dtX7_carryOutOrders_0_ok 4 rfl
theorem dX7_carryOutOrders_9 : decode cX7_carryOutOrders 9 = .ok (.iload_n 1, 1) := dg dtX7_carryOutOrders_0_ok 5 rfl
theorem dX7_carryOutOrders_10 : decode cX7_carryOutOrders 10 = .ok (.bipush 80, 2) := dg dtX7_carryOutOrders_0_ok 6 rfl
theorem dX7_carryOutOrders_12 : decode cX7_carryOutOrders 12 = .ok (.if_icmp .ge 43, 3) := dg dtX7_carryOutOrders_0_ok 7 rfl
theorem dX7_carryOutOrders_15 : decode cX7_carryOutOrders 15 = .ok (.aload_n 0, 1) := dg dtX7_carryOutOrders_0_ok 8 rfl
theorem dX7_carryOutOrders_16 : decode cX7_carryOutOrders 16 = .ok (.getfield 34, 3) := dg dtX7_carryOutOrders_0_ok 9 rfl
theorem dX7_carryOutOrders_19 : decode cX7_carryOutOrders 19 = .ok (.invokevirtual 336, 3) := dg dtX7_carryOutOrders_0_ok 10 rfl
theorem dX7_carryOutOrders_22 : decode cX7_carryOutOrders 22 = .ok (.ifCond .ne 33, 3) := dg dtX7_carryOutOrders_0_ok 11 rfl
theorem dX7_carryOutOrders_25 : decode cX7_carryOutOrders 25 = .ok (.aload_n 0, 1) := dg dtX7_carryOutOrders_0_ok 12 rfl
theorem dX7_carryOutOrders_26 : decode cX7_carryOutOrders 26 = .ok (.getfield 34, 3) := dg dtX7_carryOutOrders_0_ok 13 rfl
theorem dX7_carryOutOrders_29 : decode cX7_carryOutOrders 29 = .ok (.invokevirtual 339, 3) := dg dtX7_carryOutOrders_0_ok 14 rfl
theorem dX7_carryOutOrders_32 : decode cX7_carryOutOrders 32 = .ok (.ifCond .eq 23, 3) := dg dtX7_carryOutOrders_0_ok 15 rfl
theorem dX7_carryOutOrders_35 : decode cX7_carryOutOrders 35 = .ok (.aload_n 0, 1) := dg dtX7_carryOutOrders_0_ok 16 rfl
theorem dX7_carryOutOrders_36 : decode cX7_carryOutOrders 36 = .ok (.invokevirtual 342, 3) := dg dtX7_carryOutOrders_0_ok 17 rfl
theorem dX7_carryOutOrders_39 : decode cX7_carryOutOrders 39 = .ok (.ifCond .lt 16, 3) := dg dtX7_carryOutOrders_0_ok 18 rfl
theorem dX7_carryOutOrders_42 : decode cX7_carryOutOrders 42 = .ok (.iinc 1 1, 3) := dg dtX7_carryOutOrders_0_ok 19 rfl
theorem dX7_carryOutOrders_45 : decode cX7_carryOutOrders 45 = .ok (.aload_n 0, 1) := dg dtX7_carryOutOrders_0_ok 20 rfl
theorem dX7_carryOutOrders_46 : decode cX7_carryOutOrders 46 = .ok (.getfield 34, 3) := dg dtX7_carryOutOrders_0_ok 21 rfl
theorem dX7_carryOutOrders_49 : decode cX7_carryOutOrders 49 = .ok (.invokevirtual 345, 3) := dg dtX7_carryOutOrders_0_ok 22 rfl
theorem dX7_carryOutOrders_52 : decode cX7_carryOutOrders 52 = .ok (.goto (-43), 3) := dg dtX7_carryOutOrders_0_ok 23 rfl
theorem dX7_carryOutOrders_55 : decode cX7_carryOutOrders 55 = .ok (.iload_n 1, 1) := dg dtX7_carryOutOrders_0_ok 24 rfl
theorem dX7_carryOutOrders_56 : decode cX7_carryOutOrders 56 = .ok (.ireturn, 1) := dg dtX7_carryOutOrders_0_ok 25 rfl
def dtX7_carryOutOrder_0 : List (Nat × Instr × Nat) := [(0, .aload_n 0, 1), (1, .getfield 34, 3), (4, .getfield 348, 3), (7, .astore_n 1, 1), (8, .aload_n 0, 1), (9, .getfield 34, 3), (12, .getfield 351, 3), (15, .tableswitch 121 0 6 #[41, 58, 69, 80, 91, 99, 110], 41), (56, .aload_n 0, 1), (57, .aload_n 1, 1), (58, .iconst 0, 1), (59, .iaload, 1), (60, .aload_n 1, 1), (61, .iconst 1, 1), (62, .iaload, 1), (63, .aload_n 1, 1), (64, .iconst 2, 1), (65, .iaload, 1), (66, .aload_n 1, 1), (67, .iconst 3, 1), (68, .iaload, 1), (69, .invokevirtual 124, 3), (72, .ireturn, 1), (73, .aload_n 0, 1), (74, .aload_n 1, 1), (75, .iconst 0, 1), (76, .iaload, 1), (77, .aload_n 1, 1), (78, .iconst 1, 1), (79, .iaload, 1), (80, .invokevirtual 128, 3), (83, .ireturn, 1), (84, .aload_n 0, 1), (85, .aload_n 1, 1), (86, .iconst 0, 1), (87, .iaload, 1), (88, .aload_n 1, 1), (89, .iconst 1, 1), (90, .iaload, 1), (91, .invokevirtual 132, 3), (94, .ireturn, 1), (95, .aload_n 0, 1), (96, .aload_n 1, 1), (97, .iconst 0, 1), (98, .iaload, 1), (99, .aload_n 1, 1), (100, .iconst 1, 1), (101, .iaload, 1)]
theorem dtX7_carryOutOrder_0_ok : ∀ q ∈ dtX7_carryOutOrder_0, decode cX7_carryOutOrder q.1 = .ok q.2 := by decide +kernel
theorem dX7_carryOutOrder_0 : decode cX7_carryOutOrder 0 = .ok (.aload_n 0, 1) := dg dtX7_carryOutOrder_0_ok 0 rfl
theorem dX7_carryOutOrder_1 : decode cX7_carryOutOrder 1 = .ok (.getfield 34, 3) := dg dtX7_carryOutOrder_0_ok 1 rfl
theorem dX7_carryOutOrder_4 : decode cX7_carryOutOrder 4 = .ok (.getfield 348, 3) := dg dtX7_carryOutOrder_0_ok 2 rfl
theorem dX7_carryOutOrder_7 : decode cX7_carryOutOrder 7 = .ok (.astore_n 1, 1) := dg dtX7_carryOutOrder_0_ok 3 rfl
theorem dX7_carryOutOrder_8 : decode cX7_carryOutOrder 8 = .ok (.aload_n 0, 1) := dg dtX7_carryOutOrder_0_ok 4 rfl
theorem dX7_carryOutOrder_9 : decode cX7_carryOutOrder 9 = .ok (.getfield 34, 3) := dg dtX7_carryOutOrder_0_ok 5 rfl
theorem dX7_carryOutOrder_12 : decode cX7_carryOutOrder 12 = .ok (.getfield 351, 3) := dg dtX7_carryOutOrder_0_ok 6 rfl
theorem dX7_carryOutOrder_15 : decode cX7_carryOutOrder 15 = .ok (.tableswitch 121 0 6 #[41, 58, 69, 80, 91, 99, 110], 41) := dg dtX7_carryOutOrder_0_ok 7 rfl
theorem dX7_carryOutOrder_56 : decode cX7_carryOutOrder 56 = .ok (.aload_n 0, 1) := dg dtX7_carryOutOrder_0_ok 8 rfl
theorem dX7_carryOutOrder_57 : decode cX7_carryOutOrder 57 = .ok (.aload_n 1, 1) := dg dtX7_carryOutOrder_0_ok 9 rfl
theorem dX7_carryOutOrder_58 : decode cX7_carryOutOrder 58 = .ok (.iconst 0, 1) := dg dtX7_carryOutOrder_0_ok 10 rfl
theorem dX7_carryOutOrder_59 : decode cX7_carryOutOrder 59 = .ok (.iaload, 1) := dg dtX7_carryOutOrder_0_ok 11 rfl
theorem dX7_carryOutOrder_60 : decode cX7_carryOutOrder 60 = .ok (.aload_n 1, 1) := dg dtX7_carryOutOrder_0_ok 12 rfl
theorem dX7_carryOutOrder_61 : decode cX7_carryOutOrder 61 = .ok (.iconst 1, 1) := dg dtX7_carryOutOrder_0_ok 13 rfl
theorem dX7_carryOutOrder_62 : decode cX7_carryOutOrder 62 = .ok (.iaload, 1) := dg dtX7_carryOutOrder_0_ok 14 rfl
theorem dX7_carryOutOrder_63 : decode cX7_carryOutOrder 63 = .ok (.aload_n 1, 1) := dg dtX7_carryOutOrder_0_ok 15 rfl
theorem dX7_carryOutOrder_64 : decode cX7_carryOutOrder 64 = .ok (.iconst 2, 1) := dg dtX7_carryOutOrder_0_ok 16 rfl
theorem dX7_carryOutOrder_65 : decode cX7_carryOutOrder 65 = .ok (.iaload, 1) := dg dtX7_carryOutOrder_0_ok 17 rfl
theorem dX7_carryOutOrder_66 : decode cX7_carryOutOrder 66 = .ok (.aload_n 1, 1) := dg dtX7_carryOutOrder_0_ok 18 rfl
theorem dX7_carryOutOrder_67 : decode cX7_carryOutOrder 67 = .ok (.iconst 3, 1) := dg dtX7_carryOutOrder_0_ok 19 rfl
theorem dX7_carryOutOrder_68 : decode cX7_carryOutOrder 68 = .ok (.iaload, 1) := dg dtX7_carryOutOrder_0_ok 20 rfl
theorem dX7_carryOutOrder_69 : decode cX7_carryOutOrder 69 = .ok (.invokevirtual 124, 3) := dg dtX7_carryOutOrder_0_ok 21 rfl
theorem dX7_carryOutOrder_72 : decode cX7_carryOutOrder 72 = .ok (.ireturn, 1) := dg dtX7_carryOutOrder_0_ok 22 rfl
theorem dX7_carryOutOrder_73 : decode cX7_carryOutOrder 73 = .ok (.aload_n 0, 1) := dg dtX7_carryOutOrder_0_ok 23 rfl
theorem dX7_carryOutOrder_74 : decode cX7_carryOutOrder 74 = .ok (.aload_n 1, 1) := dg dtX7_carryOutOrder_0_ok 24 rfl
theorem dX7_carryOutOrder_75 : decode cX7_carryOutOrder 75 = .ok (.iconst 0, 1) := dg dtX7_carryOutOrder_0_ok 25 rfl
theorem dX7_carryOutOrder_76 : decode cX7_carryOutOrder 76 = .ok (.iaload, 1) := dg dtX7_carryOutOrder_0_ok 26 rfl
theorem dX7_carryOutOrder_77 : decode cX7_carryOutOrder 77 = .ok (.aload_n 1, 1) := dg dtX7_carryOutOrder_0_ok 27 rfl
theorem dX7_carryOutOrder_78 : decode cX7_carryOutOrder 78 = .ok (.iconst 1, 1) := dg dtX7_carryOutOrder_0_ok 28 rfl
theorem dX7_carryOutOrder_79 : decode cX7_carryOutOrder 79 = .ok (.iaload, 1) := dg dtX7_carryOutOrder_0_ok 29 rfl
theorem dX7_carryOutOrder_80 : decode cX7_carryOutOrder 80 = .ok (.invokevirtual 128, 3) := dg dtX7_carryOutOrder_0_ok 30 rfl
theorem dX7_carryOutOrder_83 : decode cX7_carryOutOrder 83 = .ok (.ireturn, 1) := dg dtX7_carryOutOrder_0_ok 31 rfl
theorem dX7_carryOutOrder_84 : decode cX7_carryOutOrder 84 = .ok (.aload_n 0, 1) := dg dtX7_carryOutOrder_0_ok 32 rfl
theorem dX7_carryOutOrder_85 : decode cX7_carryOutOrder 85 = .ok (.aload_n 1, 1) := dg dtX7_carryOutOrder_0_ok 33 rfl
theorem dX7_carryOutOrder_86 : decode cX7_carryOutOrder 86 = .ok (.iconst 0, 1) := dg dtX7_carryOutOrder_0_ok 34 rfl
theorem dX7_carryOutOrder_87 : decode cX7_carryOutOrder 87 = .ok (.iaload, 1) := dg dtX7_carryOutOrder_0_ok 35 rfl
theorem dX7_carryOutOrder_88 : decode cX7_carryOutOrder 88 = .ok (.aload_n 1, 1) := dg dtX7_carryOutOrder_0_ok 36 rfl
theorem dX7_carryOutOrder_89 : decode cX7_carryOutOrder 89 = .ok (.iconst 1, 1) := dg dtX7_carryOutOrder_0_ok 37 rfl
theorem dX7_carryOutOrder_90 : decode cX7_carryOutOrder 90 = .ok (.iaload, 1) := dg dtX7_carryOutOrder_0_ok 38 rfl
theorem dX7_carryOutOrder_91 : decode cX7_carryOutOrder 91 = .ok (.invokevirtual 132, 3) := dg dtX7_carryOutOrder_0_ok 39 rfl
theorem dX7_carryOutOrder_94 : decode cX7_carryOutOrder 94 = .ok (.ireturn, 1) := dg dtX7_carryOutOrder_0_ok 40 rfl
theorem dX7_carryOutOrder_95 : decode cX7_carryOutOrder 95 = .ok (.aload_n 0, 1) := dg dtX7_carryOutOrder_0_ok 41 rfl
theorem dX7_carryOutOrder_96 : decode cX7_carryOutOrder 96 = .ok (.aload_n 1, 1) := dg dtX7_carryOutOrder_0_ok 42 rfl
theorem dX7_carryOutOrder_97 : decode cX7_carryOutOrder 97 = .ok (.iconst 0, 1) := dg dtX7_carryOutOrder_0_ok 43 rfl
theorem dX7_carryOutOrder_98 : decode cX7_carryOutOrder 98 = .ok (.iaload, 1) := dg dtX7_carryOutOrder_0_ok 44 rfl
theorem dX7_carryOutOrder_99 : decode cX7_carryOutOrder 99 = .ok (.aload_n 1, 1) := dg dtX7_carryOutOrder_0_ok 45 rfl
theorem dX7_carryOutOrder_100 : decode cX7_carryOutOrder 100 = .ok (.iconst 1, 1) := dg dtX7_carryOutOrder_0_ok 46 rfl
theorem dX7_carryOutOrder_101 : decode cX7_carryOutOrder 101 = .ok (.iaload, 1) := dg dtX7_carryOutOrder_0_ok 47 rfl
def dtX7_carryOutOrder_1 : List (Nat × Instr × Nat) := [(102, .invokevirtual 135, 3), (105, .ireturn, 1), (106, .aload_n 0, 1), (107, .aload_n 1, 1), (108, .iconst 0, 1), (109, .iaload, 1), (110, .invokevirtual 138, 3), (113, .ireturn, 1), (114, .aload_n 0, 1), (115, .aload_n 1, 1), (116, .iconst 0, 1), (117, .iaload, 1), (118, .aload_n 1, 1), (119, .iconst 1, 1), (120, .iaload, 1), (121, .invokevirtual 141, 3), (124, .ireturn, 1), (125, .aload_n 0, 1), (126, .aload_n 1, 1), (127, .iconst 0, 1), (128, .iaload, 1), (129, .aload_n 1, 1), (130, .iconst 1, 1), (131, .iaload, 1), (132, .invokevirtual 144, 3), (135, .ireturn, 1), (136, .aload_n 0, 1), (137, .aload_n 1, 1), (138, .iconst 0, 1), (139, .iaload, 1), (140, .invokevirtual 147, 3), (143, .ireturn, 1)]
theorem dtX7_carryOutOrder_1_ok : ∀ q ∈ dtX7_carryOutOrder_1, decode cX7_carryOutOrder q.1 = .ok q.2 := by decide +kernel
theorem dX7_carryOutOrder_102 : decode cX7_carryOutOrder 102 = .ok (.invokevirtual 135, 3) := dg dtX7_carryOutOrder_1_ok 0 rfl
theorem dX7_carryOutOrder_105 : decode cX7_carryOutOrder 105 = .ok (.ireturn, 1) := dg dtX7_carryOutOrder_1_ok 1 rfl
theorem dX7_carryOutOrder_106 : decode cX7_carryOutOrder 106 = .ok (.aload_n 0, 1) := dg dtX7_carryOutOrder_1_ok 2 rfl
theorem dX7_carryOutOrder_107 : decode cX7_carryOutOrder 107 = .ok (.aload_n 1, 1) := dg dtX7_carryOutOrder_1_ok 3 rfl
theorem dX7_carryOutOrder_108 : decode cX7_carryOutOrder 108 = .ok (.iconst 0, 1) := dg dtX7_carryOutOrder_1_ok 4 rfl
theorem dX7_carryOutOrder_109 : decode cX7_carryOutOrder 109 = .ok (.iaload, 1) := dg dtX7_carryOutOrder_1_ok 5 rfl
theorem dX7_carryOutOrder_110 : decode cX7_carryOutOrder 110 = .ok (.invokevirtual 138, 3) := dg dtX7_carryOutOrder_1_ok 6 rfl
theorem dX7_carryOutOrder_113 : decode cX7_carryOutOrder 113 = .ok (.ireturn, 1) := dg dtX7_carryOutOrder_1_ok 7 rfl
theorem dX7_carryOutOrder_114 : decode cX7_carryOutOrder 114 = .ok (.aload_n 0, 1) := dg dtX7_carryOutOrder_1_ok 8 rfl
theorem dX7_carryOutOrder_115 : decode cX7_carryOutOrder 115 = .ok (.aload_n 1, 1) := dg dtX7_carryOutOrder_1_ok 9 rfl
theorem dX7_carryOutOrder_116 : decode cX7_carryOutOrder 116 = .ok (.iconst 0, 1) := dg dtX7_carryOutOrder_1_ok 10 rfl
theorem dX7_carryOutOrder_117 : decode cX7_carryOutOrder 117 = .ok (.iaload, 1) := dg dtX7_carryOutOrder_1_ok 11 rfl
theorem dX7_carryOutOrder_118 : decode cX7_carryOutOrder 118 = .ok (.aload_n 1, 1) := dg dtX7_carryOutOrder_1_ok 12 rfl
theorem dX7_carryOutOrder_119 : decode cX7_carryOutOrder 119 = .ok (.iconst 1, 1) := dg dtX7_carryOutOrder_1_ok 13 rfl
theorem dX7_carryOutOrder_120 : decode cX7_carryOutOrder 120 = .ok (.iaload, 1) := dg dtX7_carryOutOrder_1_ok 14 rfl
theorem dX7_carryOutOrder_121 : decode cX7_carryOutOrder 121 = .ok (.invokevirtual 141, 3) := dg dtX7_carryOutOrder_1_ok 15 rfl
theorem dX7_carryOutOrder_124 : decode cX7_carryOutOrder 124 = .ok (.ireturn, 1) := dg dtX7_carryOutOrder_1_ok 16 rfl
theorem dX7_carryOutOrder_125 : decode cX7_carryOutOrder 125 = .ok (.aload_n 0, 1) := dg dtX7_carryOutOrder_1_ok 17 rfl
theorem dX7_carryOutOrder_126 : decode cX7_carryOutOrder 126 = .ok (.aload_n 1, 1) := dg dtX7_carryOutOrder_1_ok 18 rfl
theorem dX7_carryOutOrder_127 : decode cX7_carryOutOrder 127 = .ok (.iconst 0, 1) := dg dtX7_carryOutOrder_1_ok 19 rfl
theorem dX7_carryOutOrder_128 : decode cX7_carryOutOrder 128 = .ok (.iaload, 1) := dg dtX7_carryOutOrder_1_ok 20 rfl
theorem dX7_carryOutOrder_129 : decode cX7_carryOutOrder 129 = .ok (.aload_n 1, 1) := dg dtX7_carryOutOrder_1_ok 21 rfl
theorem dX7_carryOutOrder_130 : decode cX7_carryOutOrder 130 = .ok (.iconst 1, 1) := dg dtX7_carryOutOrder_1_ok 22 rfl
theorem dX7_carryOutOrder_131 : decode cX7_carryOutOrder 131 = .ok (.iaload, 1) := dg dtX7_carryOutOrder_1_ok 23 rfl
theorem dX7_carryOutOrder_132 : decode cX7_carryOutOrder 132 = .ok (.invokevirtual 144, 3) := dg dtX7_carryOutOrder_1_ok 24 rfl
theorem dX7_carryOutOrder_135 : decode cX7_carryOutOrder 135 = .ok (.ireturn, 1) := dg dtX7_carryOutOrder_1_ok 25 rfl
theorem dX7_carryOutOrder_136 : decode cX7_carryOutOrder 136 = .ok (.aload_n 0, 1) := dg dtX7_carryOutOrder_1_ok 26 rfl
theorem dX7_carryOutOrder_137 : decode cX7_carryOutOrder 137 = .ok (.aload_n 1, 1) := dg dtX7_carryOutOrder_1_ok 27 rfl
theorem dX7_carryOutOrder_138 : decode cX7_carryOutOrder 138 = .ok (.iconst 0, 1) := dg dtX7_carryOutOrder_1_ok 28 rfl
theorem dX7_carryOutOrder_139 : decode cX7_carryOutOrder 139 = .ok (.iaload, 1) := dg dtX7_carryOutOrder_1_ok 29 rfl
theorem dX7_carryOutOrder_140 : decode cX7_carryOutOrder 140 = .ok (.invokevirtual 147, 3) := dg dtX7_carryOutOrder_1_ok 30 rfl
theorem dX7_carryOutOrder_143 : decode cX7_carryOutOrder 143 = .ok (.ireturn, 1) := dg dtX7_carryOutOrder_1_ok 31 rfl
def dtX7_outside_0 : List (Nat × Instr × Nat) := [(0, .iload_n 0, 1), (1, .iload_n 1, 1), (2, .if_icmp .lt 8, 3), (5, .iload_n 0, 1), (6, .iload_n 2, 1), (7, .if_icmp .le 7, 3), (10, .iconst 1, 1), (11, .goto 4, 3), (14, .iconst 0, 1), (15, .ireturn, 1)]
theorem dtX7_outside_0_ok : ∀ q ∈ dtX7_outside_0, decode cX7_outside q.1 = .ok q.2 := by decide +kernel
theorem dX7_outside_0 : decode cX7_outside 0 = .ok (.iload_n 0, 1) := dg dtX7_outside_0_ok 0 rfl
theorem dX7_outside_1 : decode cX7_outside 1 = .ok (.iload_n 1, 1) := dg dtX7_outside_0_ok 1 rfl
theorem dX7_outside_2 : decode cX7_outside 2 = .ok (.if_icmp .lt 8, 3) := dg dtX7_outside_0_ok 2 rfl
theorem dX7_outside_5 : decode cX7_outside 5 = .ok (.iload_n 0, 1) := dg dtX7_outside_0_ok 3 rfl
theorem dX7_outside_6 : decode cX7_outside 6 = .ok (.iload_n 2, 1) := dg dtX7_outside_0_ok 4 rfl
theorem dX7_outside_7 : decode cX7_outside 7 = .ok (.if_icmp .le 7, 3) := dg dtX7_outside_0_ok 5 rfl
theorem dX7_outside_10 : decode cX7_outside 10 = .ok (.iconst 1, 1) := dg dtX7_outside_0_ok 6 rfl
theorem dX7_outside_11 : decode cX7_outside 11 = .ok (.goto 4, 3) := dg dtX7_outside_0_ok 7 rfl
theorem dX7_outside_14 : decode cX7_outside 14 = .ok (.iconst 0, 1) := dg dtX7_outside_0_ok 8 rfl
theorem dX7_outside_15 : decode cX7_outside 15 = .ok (.ireturn, 1) := dg dtX7_outside_0_ok 9 rfl
def dtX7_refuse_0 : List (Nat × Instr × Nat) := [(0, .aload_n 0, 1), (1, .iload_n 1, 1), (2, .putfield 45, 3), (5, .ldc_w 354, 3), (8, .ireturn, 1)]
theorem dtX7_refuse_0_ok : ∀ q ∈ dtX7_refuse_0, decode cX7_refuse q.1 = .ok q.2 := by decide +kernel
theorem dX7_refuse_0 : decode cX7_refuse 0 = .ok (.aload_n 0, 1) := dg dtX7_refuse_0_ok 0 rfl
theorem dX7_refuse_1 : decode cX7_refuse 1 = .ok (.iload_n 1, 1) := dg dtX7_refuse_0_ok 1 rfl
theorem dX7_refuse_2 : decode cX7_refuse 2 = .ok (.putfield 45, 3) := dg dtX7_refuse_0_ok 2 rfl
theorem dX7_refuse_5 : decode cX7_refuse 5 = .ok (.ldc_w 354, 3) := dg dtX7_refuse_0_ok 3 rfl
theorem dX7_refuse_8 : decode cX7_refuse 8 = .ok (.ireturn, 1) := dg dtX7_refuse_0_ok 4 rfl
def dtX7_finishAct_0 : List (Nat × Instr × Nat) := [(0, .iload_n 1, 1), (1, .ifCond .lt 10, 3), (4, .aload_n 0, 1), (5, .getfield 19, 3), (8, .invokevirtual 355, 3), (11, .iload_n 1, 1), (12, .ireturn, 1)]
theorem dtX7_finishAct_0_ok : ∀ q ∈ dtX7_finishAct_0, decode cX7_finishAct q.1 = .ok q.2 := by decide +kernel
theorem dX7_finishAct_0 : decode cX7_finishAct 0 = .ok (.iload_n 1, 1) := dg dtX7_finishAct_0_ok 0 rfl
theorem dX7_finishAct_1 : decode cX7_finishAct 1 = .ok (.ifCond .lt 10, 3) := dg dtX7_finishAct_0_ok 1 rfl
theorem dX7_finishAct_4 : decode cX7_finishAct 4 = .ok (.aload_n 0, 1) := dg dtX7_finishAct_0_ok 2 rfl
theorem dX7_finishAct_5 : decode cX7_finishAct 5 = .ok (.getfield 19, 3) := dg dtX7_finishAct_0_ok 3 rfl
theorem dX7_finishAct_8 : decode cX7_finishAct 8 = .ok (.invokevirtual 355, 3) := dg dtX7_finishAct_0_ok 4 rfl
theorem dX7_finishAct_11 : decode cX7_finishAct 11 = .ok (.iload_n 1, 1) := dg dtX7_finishAct_0_ok 5 rfl
theorem dX7_finishAct_12 : decode cX7_finishAct 12 = .ok (.ireturn, 1) := dg dtX7_finishAct_0_ok 6 rfl
def dtX7_errorOfTaking_0 : List (Nat × Instr × Nat) := [(0, .iload_n 2, 1), (1, .iconst 1, 1), (2, .ldc_w 306, 3), (5, .invokestatic 67, 3), (8, .ifCond .eq 6, 3), (11, .ldc 71, 2), (13, .ireturn, 1), (14, .iload_n 2, 1), (15, .aload_n 1, 1), (16, .getfield 218, 3), (19, .if_icmp .le 9, 3), (22, .aload_n 0, 1), (23, .iconst 4, 1), (24, .invokevirtual 99, 3), (27, .ireturn, 1), (28, .iconst 0, 1), (29, .ireturn, 1)]
theorem dtX7_errorOfTaking_0_ok : ∀ q ∈ dtX7_errorOfTaking_0, decode cX7_errorOfTaking q.1 = .ok q.2 := by decide +kernel
theorem dX7_errorOfTaking_0 : decode cX7_errorOfTaking 0 = .ok (.iload_n 2, 1) := dg dtX7_errorOfTaking_0_ok 0 rfl
theorem dX7_errorOfTaking_1 : decode cX7_errorOfTaking 1 = .ok (.iconst 1, 1) := dg dtX7_errorOfTaking_0_ok 1 rfl
theorem dX7_errorOfTaking_2 : decode cX7_errorOfTaking 2 = .ok (.ldc_w 306, 3) := dg dtX7_errorOfTaking_0_ok 2 rfl
theorem dX7_errorOfTaking_5 : decode cX7_errorOfTaking 5 = .ok (.invokestatic 67, 3) := dg dtX7_errorOfTaking_0_ok 3 rfl
theorem dX7_errorOfTaking_8 : decode cX7_errorOfTaking 8 = .ok (.ifCond .eq 6, 3) := dg dtX7_errorOfTaking_0_ok 4 rfl
theorem dX7_errorOfTaking_11 : decode cX7_errorOfTaking 11 = .ok (.ldc 71, 2) := dg dtX7_errorOfTaking_0_ok 5 rfl
theorem dX7_errorOfTaking_13 : decode cX7_errorOfTaking 13 = .ok (.ireturn, 1) := dg dtX7_errorOfTaking_0_ok 6 rfl
theorem dX7_errorOfTaking_14 : decode cX7_errorOfTaking 14 = .ok (.iload_n 2, 1) := dg dtX7_errorOfTaking_0_ok 7 rfl
theorem dX7_errorOfTaking_15 : decode cX7_errorOfTaking 15 = .ok (.aload_n 1, 1) := dg dtX7_errorOfTaking_0_ok 8 rfl
theorem dX7_errorOfTaking_16 : decode cX7_errorOfTaking 16 = .ok (.getfield 218, 3) := dg dtX7_errorOfTaking_0_ok 9 rfl
theorem dX7_errorOfTaking_19 : decode cX7_errorOfTaking 19 = .ok (.if_icmp .le 9, 3) := dg dtX7_errorOfTaking_0_ok 10 rfl
theorem dX7_errorOfTaking_22 : decode cX7_errorOfTaking 22 = .ok (.aload_n 0, 1) := dg dtX7_errorOfTaking_0_ok 11 rfl
theorem dX7_errorOfTaking_23 : decode cX7_errorOfTaking 23 = .ok (.iconst 4, 1) := dg dtX7_errorOfTaking_0_ok 12 rfl
theorem dX7_errorOfTaking_24 : decode cX7_errorOfTaking 24 = .ok (.invokevirtual 99, 3) := dg dtX7_errorOfTaking_0_ok 13 rfl
theorem dX7_errorOfTaking_27 : decode cX7_errorOfTaking 27 = .ok (.ireturn, 1) := dg dtX7_errorOfTaking_0_ok 14 rfl
theorem dX7_errorOfTaking_28 : decode cX7_errorOfTaking 28 = .ok (.iconst 0, 1) := dg dtX7_errorOfTaking_0_ok 15 rfl
theorem dX7_errorOfTaking_29 : decode cX7_errorOfTaking 29 = .ok (.ireturn, 1) := dg dtX7_errorOfTaking_0_ok 16 rfl
def dtX7_writeDocument_0 : List (Nat × Instr × Nat) := [(0, .aload_n 0, 1), (1, .getfield 41, 3), (4, .iconst 0, 1), (5, .invokevirtual 358, 3), (8, .aload_n 0, 1), (9, .getfield 41, 3), (12, .bipush 76, 2), (14, .invokevirtual 361, 3), (17, .iload_n 1, 1), (18, .invokevirtual 364, 3), (21, .pop, 1), (22, .aload_n 0, 1), (23, .getfield 41, 3), (26, .bipush 47, 2), (28, .invokevirtual 361, 3), (31, .aload_n 2, 1), (32, .getfield 195, 3), (35, .invokevirtual 364, 3), (38, .pop, 1), (39, .aload_n 0, 1), (40, .getfield 41, 3), (43, .bipush 58, 2), (45, .invokevirtual 361, 3), (48, .aload_n 2, 1), (49, .getfield 218, 3), (52, .invokevirtual 364, 3), (55, .pop, 1), (56, .aload_n 0, 1), (57, .getfield 41, 3), (60, .bipush 43, 2), (62, .invokevirtual 361, 3), (65, .aload_n 0, 1), (66, .getfield 10, 3), (69, .iload_n 1, 1), (70, .invokevirtual 233, 3), (73, .invokevirtual 364, 3), (76, .pop, 1), (77, .aload_n 0, 1), (78, .getfield 10, 3), (81, .getfield 265, 3), (84, .bipush 7, 2), (86, .iadd, 1), (87, .iconst 1, 1), (88, .iadd, 1), (89, .istore_n 3, 1), (90, .aload_n 2, 1), (91, .iload_n 3, 1), (92, .invokevirtual 272, 3)]
theorem dtX7_writeDocument_0_ok : ∀ q ∈ dtX7_writeDocument_0, decode cX7_writeDocument q.1 = .ok q.2 := by decide +kernel
theorem dX7_writeDocument_0 : decode cX7_writeDocument 0 = .ok (.aload_n 0, 1) := dg dtX7_writeDocument_0_ok 0 rfl
theorem dX7_writeDocument_1 : decode cX7_writeDocument 1 = .ok (.getfield 41, 3) := dg dtX7_writeDocument_0_ok 1 rfl
theorem dX7_writeDocument_4 : decode cX7_writeDocument 4 = .ok (.iconst 0, 1) := dg dtX7_writeDocument_0_ok 2 rfl
theorem dX7_writeDocument_5 : decode cX7_writeDocument 5 = .ok (.invokevirtual 358, 3) := dg dtX7_writeDocument_0_ok 3 rfl
theorem dX7_writeDocument_8 : decode cX7_writeDocument 8 = .ok (.aload_n 0, 1) := dg dtX7_writeDocument_0_ok 4 rfl
theorem dX7_writeDocument_9 : decode cX7_writeDocument 9 = .ok (.getfield 41, 3) := dg dtX7_writeDocument_0_ok 5 rfl
theorem dX7_writeDocument_12 : decode cX7_writeDocument 12 = .ok (.bipush 76, 2) := dg dtX7_writeDocument_0_ok 6 rfl
theorem dX7_writeDocument_14 : decode cX7_writeDocument 14 = .ok (.invokevirtual 361, 3) := dg dtX7_writeDocument_0_ok 7 rfl
theorem dX7_writeDocument_17 : decode cX7_writeDocument 17 = .ok (.iload_n 1, 1) := dg dtX7_writeDocument_0_ok 8 rfl
theorem dX7_writeDocument_18 : decode cX7_writeDocument 18 = .ok (.invokevirtual 364, 3) := dg dtX7_writeDocument_0_ok 9 rfl
theorem dX7_writeDocument_21 : decode cX7_writeDocument 21 = .ok (.pop, 1) := dg dtX7_writeDocument_0_ok 10 rfl
theorem dX7_writeDocument_22 : decode cX7_writeDocument 22 = .ok (.aload_n 0, 1) := dg dtX7_writeDocument_0_ok 11 rfl
theorem dX7_writeDocument_23 : decode cX7_writeDocument 23 = .ok (.getfield 41, 3) := dg dtX7_writeDocument_0_ok 12 rfl
theorem dX7_writeDocument_26 : decode cX7_writeDocument 26 = .ok (.bipush 47, 2) := dg dtX7_writeDocument_0_ok 13 rfl
theorem dX7_writeDocument_28 : decode cX7_writeDocument 28 = .ok (.invokevirtual 361, 3) := dg dtX7_writeDocument_0_ok 14 rfl
theorem dX7_writeDocument_31 : decode cX7_writeDocument 31 = .ok (.aload_n 2, 1) := dg dtX7_writeDocument_0_ok 15 rfl
theorem dX7_writeDocument_32 : decode cX7_writeDocument 32 = .ok (.getfield 195, 3) := dg dtX7_writeDocument_0_ok 16 rfl
theorem dX7_writeDocument_35 : decode cX7_writeDocument 35 = .ok (.invokevirtual 364, 3) := dg dtX7_writeDocument_0_ok 17 rfl
theorem dX7_writeDocument_38 : decode cX7_writeDocument 38 = .ok (.pop, 1) := dg dtX7_writeDocument_0_ok 18 rfl
theorem dX7_writeDocument_39 : decode cX7_writeDocument 39 = .ok (.aload_n 0, 1) := dg dtX7_writeDocument_0_ok 19 rfl
theorem dX7_writeDocument_40 : decode cX7_writeDocument 40 = .ok (.getfield 41, 3) := dg dtX7_writeDocument_0_ok 20 rfl
theorem dX7_writeDocument_43 : decode cX7_writeDocument 43 = .ok (.bipush 58, 2) := dg dtX7_writeDocument_0_ok 21 rfl
theorem dX7_writeDocument_45 : decode cX7_writeDocument 45 = .ok (.invokevirtual 361, 3) := dg dtX7_writeDocument_0_ok 22 rfl
theorem dX7_writeDocument_48 : decode cX7_writeDocument 48 = .ok (.aload_n 2, 1) := dg dtX7_writeDocument_0_ok 23 rfl
theorem dX7_writeDocument_49 : decode cX7_writeDocument 49 = .ok (.getfield 218, 3) := dg dtX7_writeDocument_0_ok 24 rfl
theorem dX7_writeDocument_52 : decode cX7_writeDocument 52 = .ok (.invokevirtual 364, 3) := dg dtX7_writeDocument_0_ok 25 rfl
theorem dX7_writeDocument_55 : decode cX7_writeDocument 55 = .ok (.pop, 1) := dg dtX7_writeDocument_0_ok 26 rfl
theorem dX7_writeDocument_56 : decode cX7_writeDocument 56 = .ok (.aload_n 0, 1) := dg dtX7_writeDocument_0_ok 27 rfl
theorem dX7_writeDocument_57 : decode cX7_writeDocument 57 = .ok (.getfield 41, 3) := dg dtX7_writeDocument_0_ok 28 rfl
theorem dX7_writeDocument_60 : decode cX7_writeDocument 60 = .ok (.bipush 43, 2) := dg dtX7_writeDocument_0_ok 29 rfl
theorem dX7_writeDocument_62 : decode cX7_writeDocument 62 = .ok (.invokevirtual 361, 3) := dg dtX7_writeDocument_0_ok 30 rfl
theorem dX7_writeDocument_65 : decode cX7_writeDocument 65 = .ok (.aload_n 0, 1) := dg dtX7_writeDocument_0_ok 31 rfl
theorem dX7_writeDocument_66 : decode cX7_writeDocument 66 = .ok (.getfield 10, 3) := dg dtX7_writeDocument_0_ok 32 rfl
theorem dX7_writeDocument_69 : decode cX7_writeDocument 69 = .ok (.iload_n 1, 1) := dg dtX7_writeDocument_0_ok 33 rfl
theorem dX7_writeDocument_70 : decode cX7_writeDocument 70 = .ok (.invokevirtual 233, 3) := dg dtX7_writeDocument_0_ok 34 rfl
theorem dX7_writeDocument_73 : decode cX7_writeDocument 73 = .ok (.invokevirtual 364, 3) := dg dtX7_writeDocument_0_ok 35 rfl
theorem dX7_writeDocument_76 : decode cX7_writeDocument 76 = .ok (.pop, 1) := dg dtX7_writeDocument_0_ok 36 rfl
theorem dX7_writeDocument_77 : decode cX7_writeDocument 77 = .ok (.aload_n 0, 1) := dg dtX7_writeDocument_0_ok 37 rfl
theorem dX7_writeDocument_78 : decode cX7_writeDocument 78 = .ok (.getfield 10, 3) := dg dtX7_writeDocument_0_ok 38 rfl
theorem dX7_writeDocument_81 : decode cX7_writeDocument 81 = .ok (.getfield 265, 3) := dg dtX7_writeDocument_0_ok 39 rfl
theorem dX7_writeDocument_84 : decode cX7_writeDocument 84 = .ok (.bipush 7, 2) := dg dtX7_writeDocument_0_ok 40 rfl
theorem dX7_writeDocument_86 : decode cX7_writeDocument 86 = .ok (.iadd, 1) := dg dtX7_writeDocument_0_ok 41 rfl
theorem dX7_writeDocument_87 : decode cX7_writeDocument 87 = .ok (.iconst 1, 1) := dg dtX7_writeDocument_0_ok 42 rfl
theorem dX7_writeDocument_88 : decode cX7_writeDocument 88 = .ok (.iadd, 1) := dg dtX7_writeDocument_0_ok 43 rfl
theorem dX7_writeDocument_89 : decode cX7_writeDocument 89 = .ok (.istore_n 3, 1) := dg dtX7_writeDocument_0_ok 44 rfl
theorem dX7_writeDocument_90 : decode cX7_writeDocument 90 = .ok (.aload_n 2, 1) := dg dtX7_writeDocument_0_ok 45 rfl
theorem dX7_writeDocument_91 : decode cX7_writeDocument 91 = .ok (.iload_n 3, 1) := dg dtX7_writeDocument_0_ok 46 rfl
theorem dX7_writeDocument_92 : decode cX7_writeDocument 92 = .ok (.invokevirtual 272, 3) := dg dtX7_writeDocument_0_ok 47 rfl
def dtX7_writeDocument_1 : List (Nat × Instr × Nat) := [(95, .ifCond .ne 15, 3), (98, .aload_n 0, 1), (99, .getfield 10, 3), (102, .iload_n 1, 1), (103, .iload_n 3, 1), (104, .invokevirtual 367, 3), (107, .ifCond .eq 13, 3), (110, .aload_n 0, 1), (111, .getfield 41, 3), (114, .bipush 33, 2), (116, .invokevirtual 361, 3), (119, .pop, 1), (120, .return_, 1)]
theorem dtX7_writeDocument_1_ok : ∀ q ∈ dtX7_writeDocument_1, decode cX7_writeDocument q.1 = .ok q.2 := by decide +kernel
theorem dX7_writeDocument_95 : decode cX7_writeDocument 95 = .ok (.ifCond .ne 15, 3) := dg dtX7_writeDocument_1_ok 0 rfl
theorem dX7_writeDocument_98 : decode cX7_writeDocument 98 = .ok (.aload_n 0, 1) := dg dtX7_writeDocument_1_ok 1 rfl
theorem dX7_writeDocument_99 : decode cX7_writeDocument 99 = .ok (.getfield 10, 3) := dg dtX7_writeDocument_1_ok 2 rfl
theorem dX7_writeDocument_102 : decode cX7_writeDocument 102 = .ok (.iload_n 1, 1) := dg dtX7_writeDocument_1_ok 3 rfl
theorem dX7_writeDocument_103 : decode cX7_writeDocument 103 = .ok (.iload_n 3, 1) := dg dtX7_writeDocument_1_ok 4 rfl
theorem dX7_writeDocument_104 : decode cX7_writeDocument 104 = .ok (.invokevirtual 367, 3) := dg dtX7_writeDocument_1_ok 5 rfl
theorem dX7_writeDocument_107 : decode cX7_writeDocument 107 = .ok (.ifCond .eq 13, 3) := dg dtX7_writeDocument_1_ok 6 rfl
theorem dX7_writeDocument_110 : decode cX7_writeDocument 110 = .ok (.aload_n 0, 1) := dg dtX7_writeDocument_1_ok 7 rfl
theorem dX7_writeDocument_111 : decode cX7_writeDocument 111 = .ok (.getfield 41, 3) := dg dtX7_writeDocument_1_ok 8 rfl
theorem dX7_writeDocument_114 : decode cX7_writeDocument 114 = .ok (.bipush 33, 2) := dg dtX7_writeDocument_1_ok 9 rfl
theorem dX7_writeDocument_116 : decode cX7_writeDocument 116 = .ok (.invokevirtual 361, 3) := dg dtX7_writeDocument_1_ok 10 rfl
theorem dX7_writeDocument_119 : decode cX7_writeDocument 119 = .ok (.pop, 1) := dg dtX7_writeDocument_1_ok 11 rfl
theorem dX7_writeDocument_120 : decode cX7_writeDocument 120 = .ok (.return_, 1) := dg dtX7_writeDocument_1_ok 12 rfl
def dtJ5_init_d00df_0 : List (Nat × Instr × Nat) := [(0, .aload_n 0, 1), (1, .invokespecial 3, 3), (4, .getstatic 18, 3), (7, .ifCond .eq 18, 3), (10, .aload_n 0, 1), (11, .iload_n 1, 1), (12, .newarray .byte, 2), (14, .putfield 15, 3), (17, .aload_n 0, 1), (18, .iconst 0, 1), (19, .putfield 22, 3), (22, .goto 16, 3), (25, .aload_n 0, 1), (26, .iload_n 1, 1), (27, .invokestatic 26, 3), (30, .putfield 15, 3), (33, .aload_n 0, 1), (34, .iconst 1, 1), (35, .putfield 22, 3), (38, .return_, 1)]
theorem dtJ5_init_d00df_0_ok : ∀ q ∈ dtJ5_init_d00df_0, decode cJ5_init_d00df q.1 = .ok q.2 := by decide +kernel
theorem dJ5_init_d00df_0 : decode cJ5_init_d00df 0 = .ok (.aload_n 0, 1) := dg dtJ5_init_d00df_0_ok 0 rfl
theorem dJ5_init_d00df_1 : decode cJ5_init_d00df 1 = .ok (.invokespecial 3, 3) := dg dtJ5_init_d00df_0_ok 1 rfl
theorem dJ5_init_d00df_4 : decode cJ5_init_d00df 4 = .ok (.getstatic 18, 3) := dg dtJ5_init_d00df_0_ok 2 rfl
theorem dJ5_init_d00df_7 : decode cJ5_init_d00df 7 = .ok (.ifCond .eq 18, 3) := dg dtJ5_init_d00df_0_ok 3 rfl
theorem dJ5_init_d00df_10 : decode cJ5_init_d00df 10 = .ok (.aload_n 0, 1) := dg dtJ5_init_d00df_0_ok 4 rfl
theorem dJ5_init_d00df_11 : decode cJ5_init_d00df 11 = .ok (.iload_n 1, 1) := dg dtJ5_init_d00df_0_ok 5 rfl
theorem dJ5_init_d00df_12 : decode cJ5_init_d00df 12 = .ok (.newarray .byte, 2) := dg dtJ5_init_d00df_0_ok 6 rfl
theorem dJ5_init_d00df_14 : decode cJ5_init_d00df 14 = .ok (.putfield 15, 3) := dg dtJ5_init_d00df_0_ok 7 rfl
theorem dJ5_init_d00df_17 : decode cJ5_init_d00df 17 = .ok (.aload_n 0, 1) := dg dtJ5_init_d00df_0_ok 8 rfl
theorem dJ5_init_d00df_18 : decode cJ5_init_d00df 18 = .ok (.iconst 0, 1) := dg dtJ5_init_d00df_0_ok 9 rfl
theorem dJ5_init_d00df_19 : decode cJ5_init_d00df 19 = .ok (.putfield 22, 3) := dg dtJ5_init_d00df_0_ok 10 rfl
theorem dJ5_init_d00df_22 : decode cJ5_init_d00df 22 = .ok (.goto 16, 3) := dg dtJ5_init_d00df_0_ok 11 rfl
theorem dJ5_init_d00df_25 : decode cJ5_init_d00df 25 = .ok (.aload_n 0, 1) := dg dtJ5_init_d00df_0_ok 12 rfl
theorem dJ5_init_d00df_26 : decode cJ5_init_d00df 26 = .ok (.iload_n 1, 1) := dg dtJ5_init_d00df_0_ok 13 rfl
theorem dJ5_init_d00df_27 : decode cJ5_init_d00df 27 = .ok (.invokestatic 26, 3) := dg dtJ5_init_d00df_0_ok 14 rfl
theorem dJ5_init_d00df_30 : decode cJ5_init_d00df 30 = .ok (.putfield 15, 3) := dg dtJ5_init_d00df_0_ok 15 rfl
theorem dJ5_init_d00df_33 : decode cJ5_init_d00df 33 = .ok (.aload_n 0, 1) := dg dtJ5_init_d00df_0_ok 16 rfl
theorem dJ5_init_d00df_34 : decode cJ5_init_d00df 34 = .ok (.iconst 1, 1) := dg dtJ5_init_d00df_0_ok 17 rfl
theorem dJ5_init_d00df_35 : decode cJ5_init_d00df 35 = .ok (.putfield 22, 3) := dg dtJ5_init_d00df_0_ok 18 rfl
theorem dJ5_init_d00df_38 : decode cJ5_init_d00df 38 = .ok (.return_, 1) := dg dtJ5_init_d00df_0_ok 19 rfl
def dtJ5_length_8abf5_0 : List (Nat × Instr × Nat) := [(0, .aload_n 0, 1), (1, .getfield 79, 3), (4, .ireturn, 1)]
theorem dtJ5_length_8abf5_0_ok : ∀ q ∈ dtJ5_length_8abf5_0, decode cJ5_length_8abf5 q.1 = .ok q.2 := by decide +kernel
theorem dJ5_length_8abf5_0 : decode cJ5_length_8abf5 0 = .ok (.aload_n 0, 1) := dg dtJ5_length_8abf5_0_ok 0 rfl
theorem dJ5_length_8abf5_1 : decode cJ5_length_8abf5 1 = .ok (.getfield 79, 3) := dg dtJ5_length_8abf5_0_ok 1 rfl
theorem dJ5_length_8abf5_4 : decode cJ5_length_8abf5 4 = .ok (.ireturn, 1) := dg dtJ5_length_8abf5_0_ok 2 rfl
def dtJ5_ensureCapacityInternal_d00df_0 : List (Nat × Instr × Nat) := [(0, .aload_n 0, 1), (1, .getfield 15, 3), (4, .arraylength, 1), (5, .aload_n 0, 1), (6, .getfield 22, 3), (9, .ishr, 1), (10, .istore_n 2, 1), (11, .iload_n 1, 1), (12, .iload_n 2, 1), (13, .isub, 1), (14, .ifCond .le 24, 3), (17, .aload_n 0, 1), (18, .aload_n 0, 1), (19, .getfield 15, 3), (22, .aload_n 0, 1), (23, .iload_n 1, 1), (24, .invokevirtual 104, 3), (27, .aload_n 0, 1), (28, .getfield 22, 3), (31, .ishl, 1), (32, .invokestatic 108, 3), (35, .putfield 15, 3), (38, .return_, 1)]
theorem dtJ5_ensureCapacityInternal_d00df_0_ok : ∀ q ∈ dtJ5_ensureCapacityInternal_d00df_0, decode cJ5_ensureCapacityInternal_d00df q.1 = .ok q.2 := by decide +kernel
theorem dJ5_ensureCapacityInternal_d00df_0 : decode cJ5_ensureCapacityInternal_d00df 0 = .ok (.aload_n 0, 1) := dg dtJ5_ensureCapacityInternal_d00df_0_ok 0 rfl
theorem dJ5_ensureCapacityInternal_d00df_1 : decode cJ5_ensureCapacityInternal_d00df 1 = .ok (.getfield 15, 3) := dg dtJ5_ensureCapacityInternal_d00df_0_ok 1 rfl
theorem dJ5_ensureCapacityInternal_d00df_4 : decode cJ5_ensureCapacityInternal_d00df 4 = .ok (.arraylength, 1) := dg dtJ5_ensureCapacityInternal_d00df_0_ok 2 rfl
theorem dJ5_ensureCapacityInternal_d00df_5 : decode cJ5_ensureCapacityInternal_d00df 5 = .ok (.aload_n 0, 1) := dg dtJ5_ensureCapacityInternal_d00df_0_ok 3 rfl
theorem dJ5_ensureCapacityInternal_d00df_6 : decode cJ5_ensureCapacityInternal_d00df 6 = .ok (.getfield 22, 3) := dg dtJ5_ensureCapacityInternal_d00df_0_ok 4 rfl
theorem dJ5_ensureCapacityInternal_d00df_9 : decode cJ5_ensureCapacityInternal_d00df 9 = .ok (.ishr, 1) := dg dtJ5_ensureCapacityInternal_d00df_0_ok 5 rfl
theorem dJ5_ensureCapacityInternal_d00df_10 : decode cJ5_ensureCapacityInternal_d00df 10 = .ok (.istore_n 2, 1) := dg dtJ5_ensureCapacityInternal_d00df_0_ok 6 rfl
theorem dJ5_ensureCapacityInternal_d00df_11 : decode cJ5_ensureCapacityInternal_d00df 11 = .ok (.iload_n 1, 1) := dg dtJ5_ensureCapacityInternal_d00df_0_ok 7 rfl
theorem dJ5_ensureCapacityInternal_d00df_12 : decode cJ5_ensureCapacityInternal_d00df 12 = .ok (.iload_n 2, 1) := dg dtJ5_ensureCapacityInternal_d00df_0_ok 8 rfl
theorem dJ5_ensureCapacityInternal_d00df_13 : decode cJ5_ensureCapacityInternal_d00df 13 = .ok (.isub, 1) := dg dtJ5_ensureCapacityInternal_d00df_0_ok 9 rfl
theorem dJ5_ensureCapacityInternal_d00df_14 : decode cJ5_ensureCapacityInternal_d00df 14 = .ok (.ifCond .le 24, 3) := dg dtJ5_ensureCapacityInternal_d00df_0_ok 10 rfl
theorem dJ5_ensureCapacityInternal_d00df_17 : decode cJ5_ensureCapacityInternal_d00df 17 = .ok (.aload_n 0, 1) := dg dtJ5_ensureCapacityInternal_d00df_0_ok 11 rfl
theorem dJ5_ensureCapacityInternal_d00df_18 : decode cJ5_ensureCapacityInternal_d00df 18 = .ok (.aload_n 0, 1) := dg dtJ5_ensureCapacityInternal_d00df_0_ok 12 rfl
theorem dJ5_ensureCapacityInternal_d00df_19 : decode cJ5_ensureCapacityInternal_d00df 19 = .ok (.getfield 15, 3) := dg dtJ5_ensureCapacityInternal_d00df_0_ok 13 rfl
theorem dJ5_ensureCapacityInternal_d00df_22 : decode cJ5_ensureCapacityInternal_d00df 22 = .ok (.aload_n 0, 1) := dg dtJ5_ensureCapacityInternal_d00df_0_ok 14 rfl
theorem dJ5_ensureCapacityInternal_d00df_23 : decode cJ5_ensureCapacityInternal_d00df 23 = .ok (.iload_n 1, 1) := dg dtJ5_ensureCapacityInternal_d00df_0_ok 15 rfl
theorem dJ5_ensureCapacityInternal_d00df_24 : decode cJ5_ensureCapacityInternal_d00df 24 = .ok (.invokevirtual 104, 3) := dg dtJ5_ensureCapacityInternal_d00df_0_ok 16 rfl
theorem dJ5_ensureCapacityInternal_d00df_27 : decode cJ5_ensureCapacityInternal_d00df 27 = .ok (.aload_n 0, 1) := dg dtJ5_ensureCapacityInternal_d00df_0_ok 17 rfl
theorem dJ5_ensureCapacityInternal_d00df_28 : decode cJ5_ensureCapacityInternal_d00df 28 = .ok (.getfield 22, 3) := dg dtJ5_ensureCapacityInternal_d00df_0_ok 18 rfl
theorem dJ5_ensureCapacityInternal_d00df_31 : decode cJ5_ensureCapacityInternal_d00df 31 = .ok (.ishl, 1) := dg dtJ5_ensureCapacityInternal_d00df_0_ok 19 rfl
theorem dJ5_ensureCapacityInternal_d00df_32 : decode cJ5_ensureCapacityInternal_d00df 32 = .ok (.invokestatic 108, 3) := dg dtJ5_ensureCapacityInternal_d00df_0_ok 20 rfl
theorem dJ5_ensureCapacityInternal_d00df_35 : decode cJ5_ensureCapacityInternal_d00df 35 = .ok (.putfield 15, 3) := dg dtJ5_ensureCapacityInternal_d00df_0_ok 21 rfl
theorem dJ5_ensureCapacityInternal_d00df_38 : decode cJ5_ensureCapacityInternal_d00df 38 = .ok (.return_, 1) := dg dtJ5_ensureCapacityInternal_d00df_0_ok 22 rfl
def dtJ5_newCapacity_0f7a4_0 : List (Nat × Instr × Nat) := [(0, .aload_n 0, 1), (1, .getfield 15, 3), (4, .arraylength, 1), (5, .istore_n 2, 1), (6, .iload_n 1, 1), (7, .aload_n 0, 1), (8, .getfield 22, 3), (11, .ishl, 1), (12, .istore_n 3, 1), (13, .iload_n 3, 1), (14, .iload_n 2, 1), (15, .isub, 1), (16, .istore 4, 2), (18, .iload_n 2, 1), (19, .iload 4, 2), (21, .iload_n 2, 1), (22, .iconst 2, 1), (23, .aload_n 0, 1), (24, .getfield 22, 3), (27, .ishl, 1), (28, .iadd, 1), (29, .invokestatic 114, 3), (32, .istore 5, 2), (34, .iload 5, 2), (36, .ldc 39, 2), (38, .if_icmp .ne 13, 3), (41, .new 120, 3), (44, .dup, 1), (45, .ldc 122, 2), (47, .invokespecial 124, 3), (50, .athrow, 1), (51, .iload 5, 2), (53, .aload_n 0, 1), (54, .getfield 22, 3), (57, .ishr, 1), (58, .ireturn, 1)]
theorem dtJ5_newCapacity_0f7a4_0_ok : ∀ q ∈ dtJ5_newCapacity_0f7a4_0, decode cJ5_newCapacity_0f7a4 q.1 = .ok q.2 := by decide +kernel
theorem dJ5_newCapacity_0f7a4_0 : decode cJ5_newCapacity_0f7a4 0 = .ok (.aload_n 0, 1) := dg dtJ5_newCapacity_0f7a4_0_ok 0 rfl
theorem dJ5_newCapacity_0f7a4_1 : decode cJ5_newCapacity_0f7a4 1 = .ok (.getfield 15, 3) := dg dtJ5_newCapacity_0f7a4_0_ok 1 rfl
theorem dJ5_newCapacity_0f7a4_4 : decode cJ5_newCapacity_0f7a4 4 = .ok (.arraylength, 1) := dg dtJ5_newCapacity_0f7a4_0_ok 2 rfl
theorem dJ5_newCapacity_0f7a4_5 : decode cJ5_newCapacity_0f7a4 5 = .ok (.istore_n 2, 1) := dg dtJ5_newCapacity_0f7a4_0_ok 3 rfl
theorem dJ5_newCapacity_0f7a4_6 : decode cJ5_newCapacity_0f7a4 6 = .ok (.iload_n 1, 1) := dg dtJ5_newCapacity_0f7a4_0_ok 4 rfl
theorem dJ5_newCapacity_0f7a4_7 : decode cJ5_newCapacity_0f7a4 7 = .ok (.aload_n 0, 1) := dg dtJ5_newCapacity_0f7a4_0_ok 5 rfl
theorem dJ5_newCapacity_0f7a4_8 : decode cJ5_newCapacity_0f7a4 8 = .ok (.getfield 22, 3) := dg dtJ5_newCapacity_0f7a4_0_ok 6 rfl
theorem dJ5_newCapacity_0f7a4_11 : decode cJ5_newCapacity_0f7a4 11 = .ok (.ishl, 1) := dg dtJ5_newCapacity_0f7a4_0_ok 7 rfl
theorem dJ5_newCapacity_0f7a4_12 : decode cJ5_newCapacity_0f7a4 12 = .ok (.istore_n 3, 1) := dg dtJ5_newCapacity_0f7a4_0_ok 8 rfl
theorem dJ5_newCapacity_0f7a4_13 : decode cJ5_newCapacity_0f7a4 13 = .ok (.iload_n 3, 1) := dg dtJ5_newCapacity_0f7a4_0_ok 9 rfl
theorem dJ5_newCapacity_0f7a4_14 : decode cJ5_newCapacity_0f7a4 14 = .ok (.iload_n 2, 1) := dg dtJ5_newCapacity_0f7a4_0_ok 10 rfl
theorem dJ5_newCapacity_0f7a4_15 : decode cJ5_newCapacity_0f7a4 15 = .ok (.isub, 1) := dg dtJ5_newCapacity_0f7a4_0_ok 11 rfl
theorem dJ5_newCapacity_0f7a4_16 : decode cJ5_newCapacity_0f7a4 16 = .ok (.istore 4, 2) := dg dtJ5_newCapacity_0f7a4_0_ok 12 rfl
theorem dJ5_newCapacity_0f7a4_18 : decode cJ5_newCapacity_0f7a4 18 = .ok (.iload_n 2, 1) := dg dtJ5_newCapacity_0f7a4_0_ok 13 rfl
theorem dJ5_newCapacity_0f7a4_19 : decode cJ5_newCapacity_0f7a4 19 = .ok (.iload 4, 2) := dg dtJ5_newCapacity_0f7a4_0_ok 14 rfl
theorem dJ5_newCapacity_0f7a4_21 : decode cJ5_newCapacity_0f7a4 21 = .ok (.iload_n 2, 1) := dg dtJ5_newCapacity_0f7a4_0_ok 15 rfl
theorem dJ5_newCapacity_0f7a4_22 : decode cJ5_newCapacity_0f7a4 22 = .ok (.iconst 2, 1) := dg dtJ5_newCapacity_0f7a4_0_ok 16 rfl
theorem dJ5_newCapacity_0f7a4_23 : decode cJ5_newCapacity_0f7a4 23 = .ok (.aload_n 0, 1) := dg dtJ5_newCapacity_0f7a4_0_ok 17 rfl
theorem dJ5_newCapacity_0f7a4_24 : decode cJ5_newCapacity_0f7a4 24 = .ok (.getfield 22, 3) := dg dtJ5_newCapacity_0f7a4_0_ok 18 rfl
theorem dJ5_newCapacity_0f7a4_27 : decode cJ5_newCapacity_0f7a4 27 = .ok (.ishl, 1) := dg dtJ5_newCapacity_0f7a4_0_ok 19 rfl
theorem dJ5_newCapacity_0f7a4_28 : decode cJ5_newCapacity_0f7a4 28 = .ok (.iadd, 1) := dg dtJ5_newCapacity_0f7a4_0_ok 20 rfl
theorem dJ5_newCapacity_0f7a4_29 : decode cJ5_newCapacity_0f7a4 29 = .ok (.invokestatic 114, 3) := dg dtJ5_newCapacity_0f7a4_0_ok 21 rfl
theorem dJ5_newCapacity_0f7a4_32 : decode cJ5_newCapacity_0f7a4 32 = .ok (.istore 5, 2) := dg dtJ5_newCapacity_0f7a4_0_ok 22 rfl
theorem dJ5_newCapacity_0f7a4_34 : decode cJ5_newCapacity_0f7a4 34 = .ok (.iload 5, 2) := dg dtJ5_newCapacity_0f7a4_0_ok 23 rfl
theorem dJ5_newCapacity_0f7a4_36 : decode cJ5_newCapacity_0f7a4 36 = .ok (.ldc 39, 2) := dg dtJ5_newCapacity_0f7a4_0_ok 24 rfl
theorem dJ5_newCapacity_0f7a4_38 : decode cJ5_newCapacity_0f7a4 38 = .ok (.if_icmp .ne 13, 3) := dg dtJ5_newCapacity_0f7a4_0_ok 25 rfl
theorem dJ5_newCapacity_0f7a4_41 : decode cJ5_newCapacity_0f7a4 41 = .ok (.new 120, 3) := dg dtJ5_newCapacity_0f7a4_0_ok 26 rfl
theorem dJ5_newCapacity_0f7a4_44 : decode cJ5_newCapacity_0f7a4 44 = .ok (.dup, 1) := dg dtJ5_newCapacity_0f7a4_0_ok 27 rfl
theorem dJ5_newCapacity_0f7a4_45 : decode cJ5_newCapacity_0f7a4 45 = .ok (.ldc 122, 2) := dg dtJ5_newCapacity_0f7a4_0_ok 28 rfl
theorem dJ5_newCapacity_0f7a4_47 : decode cJ5_newCapacity_0f7a4 47 = .ok (.invokespecial 124, 3) := dg dtJ5_newCapacity_0f7a4_0_ok 29 rfl
theorem dJ5_newCapacity_0f7a4_50 : decode cJ5_newCapacity_0f7a4 50 = .ok (.athrow, 1) := dg dtJ5_newCapacity_0f7a4_0_ok 30 rfl
theorem dJ5_newCapacity_0f7a4_51 : decode cJ5_newCapacity_0f7a4 51 = .ok (.iload 5, 2) := dg dtJ5_newCapacity_0f7a4_0_ok 31 rfl
theorem dJ5_newCapacity_0f7a4_53 : decode cJ5_newCapacity_0f7a4 53 = .ok (.aload_n 0, 1) := dg dtJ5_newCapacity_0f7a4_0_ok 32 rfl
theorem dJ5_newCapacity_0f7a4_54 : decode cJ5_newCapacity_0f7a4 54 = .ok (.getfield 22, 3) := dg dtJ5_newCapacity_0f7a4_0_ok 33 rfl
theorem dJ5_newCapacity_0f7a4_57 : decode cJ5_newCapacity_0f7a4 57 = .ok (.ishr, 1) := dg dtJ5_newCapacity_0f7a4_0_ok 34 rfl
theorem dJ5_newCapacity_0f7a4_58 : decode cJ5_newCapacity_0f7a4 58 = .ok (.ireturn, 1) := dg dtJ5_newCapacity_0f7a4_0_ok 35 rfl
def dtJ5_inflate_da8c8_0 : List (Nat × Instr × Nat) := [(0, .aload_n 0, 1), (1, .invokevirtual 83, 3), (4, .ifCond .ne 4, 3), (7, .return_, 1), (8, .aload_n 0, 1), (9, .getfield 15, 3), (12, .arraylength, 1), (13, .invokestatic 26, 3), (16, .astore_n 1, 1), (17, .aload_n 0, 1), (18, .getfield 15, 3), (21, .iconst 0, 1), (22, .aload_n 1, 1), (23, .iconst 0, 1), (24, .aload_n 0, 1), (25, .getfield 79, 3), (28, .invokestatic 125, 3), (31, .aload_n 0, 1), (32, .aload_n 1, 1), (33, .putfield 15, 3), (36, .aload_n 0, 1), (37, .iconst 1, 1), (38, .putfield 22, 3), (41, .return_, 1)]
theorem dtJ5_inflate_da8c8_0_ok : ∀ q ∈ dtJ5_inflate_da8c8_0, decode cJ5_inflate_da8c8 q.1 = .ok q.2 := by decide +kernel
theorem dJ5_inflate_da8c8_0 : decode cJ5_inflate_da8c8 0 = .ok (.aload_n 0, 1) := dg dtJ5_inflate_da8c8_0_ok 0 rfl
theorem dJ5_inflate_da8c8_1 : decode cJ5_inflate_da8c8 1 = .ok (.invokevirtual 83, 3) := dg dtJ5_inflate_da8c8_0_ok 1 rfl
theorem dJ5_inflate_da8c8_4 : decode cJ5_inflate_da8c8 4 = .ok (.ifCond .ne 4, 3) := dg dtJ5_inflate_da8c8_0_ok 2 rfl
theorem dJ5_inflate_da8c8_7 : decode cJ5_inflate_da8c8 7 = .ok (.return_, 1) := dg dtJ5_inflate_da8c8_0_ok 3 rfl
theorem dJ5_inflate_da8c8_8 : decode cJ5_inflate_da8c8 8 = .ok (.aload_n 0, 1) := dg dtJ5_inflate_da8c8_0_ok 4 rfl
theorem dJ5_inflate_da8c8_9 : decode cJ5_inflate_da8c8 9 = .ok (.getfield 15, 3) := dg dtJ5_inflate_da8c8_0_ok 5 rfl
theorem dJ5_inflate_da8c8_12 : decode cJ5_inflate_da8c8 12 = .ok (.arraylength, 1) := dg dtJ5_inflate_da8c8_0_ok 6 rfl
theorem dJ5_inflate_da8c8_13 : decode cJ5_inflate_da8c8 13 = .ok (.invokestatic 26, 3) := dg dtJ5_inflate_da8c8_0_ok 7 rfl
theorem dJ5_inflate_da8c8_16 : decode cJ5_inflate_da8c8 16 = .ok (.astore_n 1, 1) := dg dtJ5_inflate_da8c8_0_ok 8 rfl
theorem dJ5_inflate_da8c8_17 : decode cJ5_inflate_da8c8 17 = .ok (.aload_n 0, 1) := dg dtJ5_inflate_da8c8_0_ok 9 rfl
theorem dJ5_inflate_da8c8_18 : decode cJ5_inflate_da8c8 18 = .ok (.getfield 15, 3) := dg dtJ5_inflate_da8c8_0_ok 10 rfl
theorem dJ5_inflate_da8c8_21 : decode cJ5_inflate_da8c8 21 = .ok (.iconst 0, 1) := dg dtJ5_inflate_da8c8_0_ok 11 rfl
theorem dJ5_inflate_da8c8_22 : decode cJ5_inflate_da8c8 22 = .ok (.aload_n 1, 1) := dg dtJ5_inflate_da8c8_0_ok 12 rfl
theorem dJ5_inflate_da8c8_23 : decode cJ5_inflate_da8c8 23 = .ok (.iconst 0, 1) := dg dtJ5_inflate_da8c8_0_ok 13 rfl
theorem dJ5_inflate_da8c8_24 : decode cJ5_inflate_da8c8 24 = .ok (.aload_n 0, 1) := dg dtJ5_inflate_da8c8_0_ok 14 rfl
theorem dJ5_inflate_da8c8_25 : decode cJ5_inflate_da8c8 25 = .ok (.getfield 79, 3) := dg dtJ5_inflate_da8c8_0_ok 15 rfl
theorem dJ5_inflate_da8c8_28 : decode cJ5_inflate_da8c8 28 = .ok (.invokestatic 125, 3) := dg dtJ5_inflate_da8c8_0_ok 16 rfl
theorem dJ5_inflate_da8c8_31 : decode cJ5_inflate_da8c8 31 = .ok (.aload_n 0, 1) := dg dtJ5_inflate_da8c8_0_ok 17 rfl
theorem dJ5_inflate_da8c8_32 : decode cJ5_inflate_da8c8 32 = .ok (.aload_n 1, 1) := dg dtJ5_inflate_da8c8_0_ok 18 rfl
theorem dJ5_inflate_da8c8_33 : decode cJ5_inflate_da8c8 33 = .ok (.putfield 15, 3) := dg dtJ5_inflate_da8c8_0_ok 19 rfl
theorem dJ5_inflate_da8c8_36 : decode cJ5_inflate_da8c8 36 = .ok (.aload_n 0, 1) := dg dtJ5_inflate_da8c8_0_ok 20 rfl
theorem dJ5_inflate_da8c8_37 : decode cJ5_inflate_da8c8 37 = .ok (.iconst 1, 1) := dg dtJ5_inflate_da8c8_0_ok 21 rfl
theorem dJ5_inflate_da8c8_38 : decode cJ5_inflate_da8c8 38 = .ok (.putfield 22, 3) := dg dtJ5_inflate_da8c8_0_ok 22 rfl
theorem dJ5_inflate_da8c8_41 : decode cJ5_inflate_da8c8 41 = .ok (.return_, 1) := dg dtJ5_inflate_da8c8_0_ok 23 rfl
def dtJ5_setLength_d00df_0 : List (Nat × Instr × Nat) := [(0, .iload_n 1, 1), (1, .ifCond .ge 12, 3), (4, .new 129, 3), (7, .dup, 1), (8, .iload_n 1, 1), (9, .invokespecial 131, 3), (12, .athrow, 1), (13, .aload_n 0, 1), (14, .iload_n 1, 1), (15, .invokevirtual 100, 3), (18, .aload_n 0, 1), (19, .getfield 79, 3), (22, .iload_n 1, 1), (23, .if_icmp .ge 40, 3), (26, .aload_n 0, 1), (27, .invokevirtual 83, 3), (30, .ifCond .eq 18, 3), (33, .aload_n 0, 1), (34, .getfield 15, 3), (37, .aload_n 0, 1), (38, .getfield 79, 3), (41, .iload_n 1, 1), (42, .invokestatic 133, 3), (45, .goto 31, 3), (48, .aload_n 0, 1), (49, .getfield 15, 3), (52, .aload_n 0, 1), (53, .getfield 79, 3), (56, .iload_n 1, 1), (57, .invokestatic 137, 3), (60, .goto 16, 3), (63, .aload_n 0, 1), (64, .getfield 79, 3), (67, .iload_n 1, 1), (68, .if_icmp .le 8, 3), (71, .aload_n 0, 1), (72, .iconst 1, 1), (73, .putfield 73, 3), (76, .aload_n 0, 1), (77, .iload_n 1, 1), (78, .putfield 79, 3), (81, .return_, 1)]
theorem dtJ5_setLength_d00df_0_ok : ∀ q ∈ dtJ5_setLength_d00df_0, decode cJ5_setLength_d00df q.1 = .ok q.2 := by decide +kernel
theorem dJ5_setLength_d00df_0 : decode cJ5_setLength_d00df 0 = .ok (.iload_n 1, 1) := dg dtJ5_setLength_d00df_0_ok 0 rfl
theorem dJ5_setLength_d00df_1 : decode cJ5_setLength_d00df 1 = .ok (.ifCond .ge 12, 3) := dg dtJ5_setLength_d00df_0_ok 1 rfl
theorem dJ5_setLength_d00df_4 : decode cJ5_setLength_d00df 4 = .ok (.new 129, 3) := dg dtJ5_setLength_d00df_0_ok 2 rfl
theorem dJ5_setLength_d00df_7 : decode cJ5_setLength_d00df 7 = .ok (.dup, 1) := dg dtJ5_setLength_d00df_0_ok 3 rfl
theorem dJ5_setLength_d00df_8 : decode cJ5_setLength_d00df 8 = .ok (.iload_n 1, 1) := dg dtJ5_setLength_d00df_0_ok 4 rfl
theorem dJ5_setLength_d00df_9 : decode cJ5_setLength_d00df 9 = .ok (.invokespecial 131, 3) := dg dtJ5_setLength_d00df_0_ok 5 rfl
theorem dJ5_setLength_d00df_12 : decode cJ5_setLength_d00df 12 = .ok (.athrow, 1) := dg dtJ5_setLength_d00df_0_ok 6 rfl
theorem dJ5_setLength_d00df_13 : decode cJ5_setLength_d00df 13 = .ok (.aload_n 0, 1) := dg dtJ5_setLength_d00df_0_ok 7 rfl
theorem dJ5_setLength_d00df_14 : decode cJ5_setLength_d00df 14 = .ok (.iload_n 1, 1) := dg dtJ5_setLength_d00df_0_ok 8 rfl
theorem dJ5_setLength_d00df_15 : decode cJ5_setLength_d00df 15 = .ok (.invokevirtual 100, 3) := dg dtJ5_setLength_d00df_0_ok 9 rfl
theorem dJ5_setLength_d00df_18 : decode cJ5_setLength_d00df 18 = .ok (.aload_n 0, 1) := dg dtJ5_setLength_d00df_0_ok 10 rfl
theorem dJ5_setLength_d00df_19 : decode cJ5_setLength_d00df 19 = .ok (.getfield 79, 3) := dg dtJ5_setLength_d00df_0_ok 11 rfl
theorem dJ5_setLength_d00df_22 : decode cJ5_setLength_d00df 22 = .ok (.iload_n 1, 1) := dg dtJ5_setLength_d00df_0_ok 12 rfl
theorem dJ5_setLength_d00df_23 : decode cJ5_setLength_d00df 23 = .ok (.if_icmp .ge 40, 3) := dg dtJ5_setLength_d00df_0_ok 13 rfl
theorem dJ5_setLength_d00df_26 : decode cJ5_setLength_d00df 26 = .ok (.aload_n 0, 1) := dg dtJ5_setLength_d00df_0_ok 14 rfl
theorem dJ5_setLength_d00df_27 : decode cJ5_setLength_d00df 27 = .ok (.invokevirtual 83, 3) := dg dtJ5_setLength_d00df_0_ok 15 rfl
theorem dJ5_setLength_d00df_30 : decode cJ5_setLength_d00df 30 = .ok (.ifCond .eq 18, 3) := dg dtJ5_setLength_d00df_0_ok 16 rfl
theorem dJ5_setLength_d00df_33 : decode cJ5_setLength_d00df 33 = .ok (.aload_n 0, 1) := dg dtJ5_setLength_d00df_0_ok 17 rfl
theorem dJ5_setLength_d00df_34 : decode cJ5_setLength_d00df 34 = .ok (.getfield 15, 3) := dg dtJ5_setLength_d00df_0_ok 18 rfl
theorem dJ5_setLength_d00df_37 : decode cJ5_setLength_d00df 37 = .ok (.aload_n 0, 1) := dg dtJ5_setLength_d00df_0_ok 19 rfl
theorem dJ5_setLength_d00df_38 : decode cJ5_setLength_d00df 38 = .ok (.getfield 79, 3) := dg dtJ5_setLength_d00df_0_ok 20 rfl
theorem dJ5_setLength_d00df_41 : decode cJ5_setLength_d00df 41 = .ok (.iload_n 1, 1) := dg dtJ5_setLength_d00df_0_ok 21 rfl
theorem dJ5_setLength_d00df_42 : decode cJ5_setLength_d00df 42 = .ok (.invokestatic 133, 3) := dg dtJ5_setLength_d00df_0_ok 22 rfl
theorem dJ5_setLength_d00df_45 : decode cJ5_setLength_d00df 45 = .ok (.goto 31, 3) := dg dtJ5_setLength_d00df_0_ok 23 rfl
theorem dJ5_setLength_d00df_48 : decode cJ5_setLength_d00df 48 = .ok (.aload_n 0, 1) := dg dtJ5_setLength_d00df_0_ok 24 rfl
theorem dJ5_setLength_d00df_49 : decode cJ5_setLength_d00df 49 = .ok (.getfield 15, 3) := dg dtJ5_setLength_d00df_0_ok 25 rfl
theorem dJ5_setLength_d00df_52 : decode cJ5_setLength_d00df 52 = .ok (.aload_n 0, 1) := dg dtJ5_setLength_d00df_0_ok 26 rfl
theorem dJ5_setLength_d00df_53 : decode cJ5_setLength_d00df 53 = .ok (.getfield 79, 3) := dg dtJ5_setLength_d00df_0_ok 27 rfl
theorem dJ5_setLength_d00df_56 : decode cJ5_setLength_d00df 56 = .ok (.iload_n 1, 1) := dg dtJ5_setLength_d00df_0_ok 28 rfl
theorem dJ5_setLength_d00df_57 : decode cJ5_setLength_d00df 57 = .ok (.invokestatic 137, 3) := dg dtJ5_setLength_d00df_0_ok 29 rfl
theorem dJ5_setLength_d00df_60 : decode cJ5_setLength_d00df 60 = .ok (.goto 16, 3) := dg dtJ5_setLength_d00df_0_ok 30 rfl
theorem dJ5_setLength_d00df_63 : decode cJ5_setLength_d00df 63 = .ok (.aload_n 0, 1) := dg dtJ5_setLength_d00df_0_ok 31 rfl
theorem dJ5_setLength_d00df_64 : decode cJ5_setLength_d00df 64 = .ok (.getfield 79, 3) := dg dtJ5_setLength_d00df_0_ok 32 rfl
theorem dJ5_setLength_d00df_67 : decode cJ5_setLength_d00df 67 = .ok (.iload_n 1, 1) := dg dtJ5_setLength_d00df_0_ok 33 rfl
theorem dJ5_setLength_d00df_68 : decode cJ5_setLength_d00df 68 = .ok (.if_icmp .le 8, 3) := dg dtJ5_setLength_d00df_0_ok 34 rfl
theorem dJ5_setLength_d00df_71 : decode cJ5_setLength_d00df 71 = .ok (.aload_n 0, 1) := dg dtJ5_setLength_d00df_0_ok 35 rfl
theorem dJ5_setLength_d00df_72 : decode cJ5_setLength_d00df 72 = .ok (.iconst 1, 1) := dg dtJ5_setLength_d00df_0_ok 36 rfl
theorem dJ5_setLength_d00df_73 : decode cJ5_setLength_d00df 73 = .ok (.putfield 73, 3) := dg dtJ5_setLength_d00df_0_ok 37 rfl
theorem dJ5_setLength_d00df_76 : decode cJ5_setLength_d00df 76 = .ok (.aload_n 0, 1) := dg dtJ5_setLength_d00df_0_ok 38 rfl
theorem dJ5_setLength_d00df_77 : decode cJ5_setLength_d00df 77 = .ok (.iload_n 1, 1) := dg dtJ5_setLength_d00df_0_ok 39 rfl
theorem dJ5_setLength_d00df_78 : decode cJ5_setLength_d00df 78 = .ok (.putfield 79, 3) := dg dtJ5_setLength_d00df_0_ok 40 rfl
theorem dJ5_setLength_d00df_81 : decode cJ5_setLength_d00df 81 = .ok (.return_, 1) := dg dtJ5_setLength_d00df_0_ok 41 rfl
def dtJ5_charAt_5068e_0 : List (Nat × Instr × Nat) := [(0, .aload_n 0, 1), (1, .getfield 22, 3), (4, .istore_n 2, 1), (5, .aload_n 0, 1), (6, .getfield 15, 3), (9, .astore_n 3, 1), (10, .aload_n 0, 1), (11, .getfield 79, 3), (14, .aload_n 3, 1), (15, .arraylength, 1), (16, .iload_n 2, 1), (17, .ishr, 1), (18, .invokestatic 138, 3), (21, .istore 4, 2), (23, .iload_n 1, 1), (24, .iload 4, 2), (26, .invokestatic 144, 3), (29, .iload_n 2, 1), (30, .ifCond .ne 12, 3), (33, .aload_n 3, 1), (34, .iload_n 1, 1), (35, .baload, 1), (36, .sipush 255, 3), (39, .iand, 1), (40, .i2c, 1), (41, .ireturn, 1), (42, .aload_n 3, 1), (43, .iload_n 1, 1), (44, .invokestatic 148, 3), (47, .ireturn, 1)]
theorem dtJ5_charAt_5068e_0_ok : ∀ q ∈ dtJ5_charAt_5068e_0, decode cJ5_charAt_5068e q.1 = .ok q.2 := by decide +kernel
theorem dJ5_charAt_5068e_0 : decode cJ5_charAt_5068e 0 = .ok (.aload_n 0, 1) := dg dtJ5_charAt_5068e_0_ok 0 rfl
theorem dJ5_charAt_5068e_1 : decode cJ5_charAt_5068e 1 = .ok (.getfield 22, 3) := dg dtJ5_charAt_5068e_0_ok 1 rfl
theorem dJ5_charAt_5068e_4 : decode cJ5_charAt_5068e 4 = .ok (.istore_n 2, 1) := dg dtJ5_charAt_5068e_0_ok 2 rfl
theorem dJ5_charAt_5068e_5 : decode cJ5_charAt_5068e 5 = .ok (.aload_n 0, 1) := dg dtJ5_charAt_5068e_0_ok 3 rfl
theorem dJ5_charAt_5068e_6 : decode cJ5_charAt_5068e 6 = .ok (.getfield 15, 3) := dg dtJ5_charAt_5068e_0_ok 4 rfl
theorem dJ5_charAt_5068e_9 : decode cJ5_charAt_5068e 9 = .ok (.astore_n 3, 1) := dg dtJ5_charAt_5068e_0_ok 5 rfl
theorem dJ5_charAt_5068e_10 : decode cJ5_charAt_5068e 10 = .ok (.aload_n 0, 1) := dg dtJ5_charAt_5068e_0_ok 6 rfl
theorem dJ5_charAt_5068e_11 : decode cJ5_charAt_5068e 11 = .ok (.getfield 79, 3) := dg dtJ5_charAt_5068e_0_ok 7 rfl
theorem dJ5_charAt_5068e_14 : decode cJ5_charAt_5068e 14 = .ok (.aload_n 3, 1) := dg dtJ5_charAt_5068e_0_ok 8 rfl
theorem dJ5_charAt_5068e_15 : decode cJ5_charAt_5068e 15 = .ok (.arraylength, 1) := dg dtJ5_charAt_5068e_0_ok 9 rfl
theorem dJ5_charAt_5068e_16 : decode cJ5_charAt_5068e 16 = .ok (.iload_n 2, 1) := dg dtJ5_charAt_5068e_0_ok 10 rfl
theorem dJ5_charAt_5068e_17 : decode cJ5_charAt_5068e 17 = .ok (.ishr, 1) := dg dtJ5_charAt_5068e_0_ok 11 rfl
theorem dJ5_charAt_5068e_18 : decode cJ5_charAt_5068e 18 = .ok (.invokestatic 138, 3) := dg dtJ5_charAt_5068e_0_ok 12 rfl
theorem dJ5_charAt_5068e_21 : decode cJ5_charAt_5068e 21 = .ok (.istore 4, 2) := dg dtJ5_charAt_5068e_0_ok 13 rfl
theorem dJ5_charAt_5068e_23 : decode cJ5_charAt_5068e 23 = .ok (.iload_n 1, 1) := dg dtJ5_charAt_5068e_0_ok 14 rfl
theorem dJ5_charAt_5068e_24 : decode cJ5_charAt_5068e 24 = .ok (.iload 4, 2) := dg dtJ5_charAt_5068e_0_ok 15 rfl
theorem dJ5_charAt_5068e_26 : decode cJ5_charAt_5068e 26 = .ok (.invokestatic 144, 3) := dg dtJ5_charAt_5068e_0_ok 16 rfl
theorem dJ5_charAt_5068e_29 : decode cJ5_charAt_5068e 29 = .ok (.iload_n 2, 1) := dg dtJ5_charAt_5068e_0_ok 17 rfl
theorem dJ5_charAt_5068e_30 : decode cJ5_charAt_5068e 30 = .ok (.ifCond .ne 12, 3) := dg dtJ5_charAt_5068e_0_ok 18 rfl
theorem dJ5_charAt_5068e_33 : decode cJ5_charAt_5068e 33 = .ok (.aload_n 3, 1) := dg dtJ5_charAt_5068e_0_ok 19 rfl
theorem dJ5_charAt_5068e_34 : decode cJ5_charAt_5068e 34 = .ok (.iload_n 1, 1) := dg dtJ5_charAt_5068e_0_ok 20 rfl
theorem dJ5_charAt_5068e_35 : decode cJ5_charAt_5068e 35 = .ok (.baload, 1) := dg dtJ5_charAt_5068e_0_ok 21 rfl
theorem dJ5_charAt_5068e_36 : decode cJ5_charAt_5068e 36 = .ok (.sipush 255, 3) := dg dtJ5_charAt_5068e_0_ok 22 rfl
theorem dJ5_charAt_5068e_39 : decode cJ5_charAt_5068e 39 = .ok (.iand, 1) := dg dtJ5_charAt_5068e_0_ok 23 rfl
theorem dJ5_charAt_5068e_40 : decode cJ5_charAt_5068e 40 = .ok (.i2c, 1) := dg dtJ5_charAt_5068e_0_ok 24 rfl
theorem dJ5_charAt_5068e_41 : decode cJ5_charAt_5068e 41 = .ok (.ireturn, 1) := dg dtJ5_charAt_5068e_0_ok 25 rfl
theorem dJ5_charAt_5068e_42 : decode cJ5_charAt_5068e 42 = .ok (.aload_n 3, 1) := dg dtJ5_charAt_5068e_0_ok 26 rfl
theorem dJ5_charAt_5068e_43 : decode cJ5_charAt_5068e 43 = .ok (.iload_n 1, 1) := dg dtJ5_charAt_5068e_0_ok 27 rfl
theorem dJ5_charAt_5068e_44 : decode cJ5_charAt_5068e 44 = .ok (.invokestatic 148, 3) := dg dtJ5_charAt_5068e_0_ok 28 rfl
theorem dJ5_charAt_5068e_47 : decode cJ5_charAt_5068e 47 = .ok (.ireturn, 1) := dg dtJ5_charAt_5068e_0_ok 29 rfl
def dtJ5_append_3fe6f_0 : List (Nat × Instr × Nat) := [(0, .aload_n 0, 1), (1, .aload_n 0, 1), (2, .getfield 79, 3), (5, .iconst 1, 1), (6, .iadd, 1), (7, .invokevirtual 100, 3), (10, .aload_n 0, 1), (11, .invokevirtual 83, 3), (14, .ifCond .eq 31, 3), (17, .iload_n 1, 1), (18, .invokestatic 191, 3), (21, .ifCond .eq 24, 3), (24, .aload_n 0, 1), (25, .getfield 15, 3), (28, .aload_n 0, 1), (29, .dup, 1), (30, .getfield 79, 3), (33, .dup_x1, 1), (34, .iconst 1, 1), (35, .iadd, 1), (36, .putfield 79, 3), (39, .iload_n 1, 1), (40, .i2b, 1), (41, .bastore, 1), (42, .goto 33, 3), (45, .aload_n 0, 1), (46, .invokevirtual 83, 3), (49, .ifCond .eq 7, 3), (52, .aload_n 0, 1), (53, .invokevirtual 195, 3), (56, .aload_n 0, 1), (57, .getfield 15, 3), (60, .aload_n 0, 1), (61, .dup, 1), (62, .getfield 79, 3), (65, .dup_x1, 1), (66, .iconst 1, 1), (67, .iadd, 1), (68, .putfield 79, 3), (71, .iload_n 1, 1), (72, .invokestatic 197, 3), (75, .aload_n 0, 1), (76, .areturn, 1)]
theorem dtJ5_append_3fe6f_0_ok : ∀ q ∈ dtJ5_append_3fe6f_0, decode cJ5_append_3fe6f q.1 = .ok q.2 := by decide +kernel
theorem dJ5_append_3fe6f_0 : decode cJ5_append_3fe6f 0 = .ok (.aload_n 0, 1) := dg dtJ5_append_3fe6f_0_ok 0 rfl
theorem dJ5_append_3fe6f_1 : decode cJ5_append_3fe6f 1 = .ok (.aload_n 0, 1) := dg dtJ5_append_3fe6f_0_ok 1 rfl
theorem dJ5_append_3fe6f_2 : decode cJ5_append_3fe6f 2 = .ok (.getfield 79, 3) := dg dtJ5_append_3fe6f_0_ok 2 rfl
theorem dJ5_append_3fe6f_5 : decode cJ5_append_3fe6f 5 = .ok (.iconst 1, 1) := dg dtJ5_append_3fe6f_0_ok 3 rfl
theorem dJ5_append_3fe6f_6 : decode cJ5_append_3fe6f 6 = .ok (.iadd, 1) := dg dtJ5_append_3fe6f_0_ok 4 rfl
theorem dJ5_append_3fe6f_7 : decode cJ5_append_3fe6f 7 = .ok (.invokevirtual 100, 3) := dg dtJ5_append_3fe6f_0_ok 5 rfl
theorem dJ5_append_3fe6f_10 : decode cJ5_append_3fe6f 10 = .ok (.aload_n 0, 1) := dg dtJ5_append_3fe6f_0_ok 6 rfl
theorem dJ5_append_3fe6f_11 : decode cJ5_append_3fe6f 11 = .ok (.invokevirtual 83, 3) := dg dtJ5_append_3fe6f_0_ok 7 rfl
theorem dJ5_append_3fe6f_14 : decode cJ5_append_3fe6f 14 = .ok (.ifCond .eq 31, 3) := dg dtJ5_append_3fe6f_0_ok 8 rfl
theorem dJ5_append_3fe6f_17 : decode cJ5_append_3fe6f 17 = .ok (.iload_n 1, 1) := dg dtJ5_append_3fe6f_0_ok 9 rfl
theorem dJ5_append_3fe6f_18 : decode cJ5_append_3fe6f 18 = .ok (.invokestatic 191, 3) := dg dtJ5_append_3fe6f_0_ok 10 rfl
theorem dJ5_append_3fe6f_21 : decode cJ5_append_3fe6f 21 = .ok (.ifCond .eq 24, 3) := dg dtJ5_append_3fe6f_0_ok 11 rfl
theorem dJ5_append_3fe6f_24 : decode cJ5_append_3fe6f 24 = .ok (.aload_n 0, 1) := dg dtJ5_append_3fe6f_0_ok 12 rfl
theorem dJ5_append_3fe6f_25 : decode cJ5_append_3fe6f 25 = .ok (.getfield 15, 3) := dg dtJ5_append_3fe6f_0_ok 13 rfl
theorem dJ5_append_3fe6f_28 : decode cJ5_append_3fe6f 28 = .ok (.aload_n 0, 1) := dg dtJ5_append_3fe6f_0_ok 14 rfl
theorem dJ5_append_3fe6f_29 : decode cJ5_append_3fe6f 29 = .ok (.dup, 1) := dg dtJ5_append_3fe6f_0_ok 15 rfl
theorem dJ5_append_3fe6f_30 : decode cJ5_append_3fe6f 30 = .ok (.getfield 79, 3) := dg dtJ5_append_3fe6f_0_ok 16 rfl
theorem dJ5_append_3fe6f_33 : decode cJ5_append_3fe6f 33 = .ok (.dup_x1, 1) := dg dtJ5_append_3fe6f_0_ok 17 rfl
theorem dJ5_append_3fe6f_34 : decode cJ5_append_3fe6f 34 = .ok (.iconst 1, 1) := dg dtJ5_append_3fe6f_0_ok 18 rfl
theorem dJ5_append_3fe6f_35 : decode cJ5_append_3fe6f 35 = .ok (.iadd, 1) := dg dtJ5_append_3fe6f_0_ok 19 rfl
theorem dJ5_append_3fe6f_36 : decode cJ5_append_3fe6f 36 = .ok (.putfield 79, 3) := dg dtJ5_append_3fe6f_0_ok 20 rfl
theorem dJ5_append_3fe6f_39 : decode cJ5_append_3fe6f 39 = .ok (.iload_n 1, 1) := dg dtJ5_append_3fe6f_0_ok 21 rfl
theorem dJ5_append_3fe6f_40 : decode cJ5_append_3fe6f 40 = .ok (.i2b, 1) := dg dtJ5_append_3fe6f_0_ok 22 rfl
theorem dJ5_append_3fe6f_41 : decode cJ5_append_3fe6f 41 = .ok (.bastore, 1) := dg dtJ5_append_3fe6f_0_ok 23 rfl
theorem dJ5_append_3fe6f_42 : decode cJ5_append_3fe6f 42 = .ok (.goto 33, 3) := dg dtJ5_append_3fe6f_0_ok 24 rfl
theorem dJ5_append_3fe6f_45 : decode cJ5_append_3fe6f 45 = .ok (.aload_n 0, 1) := dg dtJ5_append_3fe6f_0_ok 25 rfl
theorem dJ5_append_3fe6f_46 : decode cJ5_append_3fe6f 46 = .ok (.invokevirtual 83, 3) := dg dtJ5_append_3fe6f_0_ok 26 rfl
theorem dJ5_append_3fe6f_49 : decode cJ5_append_3fe6f 49 = .ok (.ifCond .eq 7, 3) := dg dtJ5_append_3fe6f_0_ok 27 rfl
theorem dJ5_append_3fe6f_52 : decode cJ5_append_3fe6f 52 = .ok (.aload_n 0, 1) := dg dtJ5_append_3fe6f_0_ok 28 rfl
theorem dJ5_append_3fe6f_53 : decode cJ5_append_3fe6f 53 = .ok (.invokevirtual 195, 3) := dg dtJ5_append_3fe6f_0_ok 29 rfl
theorem dJ5_append_3fe6f_56 : decode cJ5_append_3fe6f 56 = .ok (.aload_n 0, 1) := dg dtJ5_append_3fe6f_0_ok 30 rfl
theorem dJ5_append_3fe6f_57 : decode cJ5_append_3fe6f 57 = .ok (.getfield 15, 3) := dg dtJ5_append_3fe6f_0_ok 31 rfl
theorem dJ5_append_3fe6f_60 : decode cJ5_append_3fe6f 60 = .ok (.aload_n 0, 1) := dg dtJ5_append_3fe6f_0_ok 32 rfl
theorem dJ5_append_3fe6f_61 : decode cJ5_append_3fe6f 61 = .ok (.dup, 1) := dg dtJ5_append_3fe6f_0_ok 33 rfl
theorem dJ5_append_3fe6f_62 : decode cJ5_append_3fe6f 62 = .ok (.getfield 79, 3) := dg dtJ5_append_3fe6f_0_ok 34 rfl
theorem dJ5_append_3fe6f_65 : decode cJ5_append_3fe6f 65 = .ok (.dup_x1, 1) := dg dtJ5_append_3fe6f_0_ok 35 rfl
theorem dJ5_append_3fe6f_66 : decode cJ5_append_3fe6f 66 = .ok (.iconst 1, 1) := dg dtJ5_append_3fe6f_0_ok 36 rfl
theorem dJ5_append_3fe6f_67 : decode cJ5_append_3fe6f 67 = .ok (.iadd, 1) := dg dtJ5_append_3fe6f_0_ok 37 rfl
theorem dJ5_append_3fe6f_68 : decode cJ5_append_3fe6f 68 = .ok (.putfield 79, 3) := dg dtJ5_append_3fe6f_0_ok 38 rfl
theorem dJ5_append_3fe6f_71 : decode cJ5_append_3fe6f 71 = .ok (.iload_n 1, 1) := dg dtJ5_append_3fe6f_0_ok 39 rfl
theorem dJ5_append_3fe6f_72 : decode cJ5_append_3fe6f 72 = .ok (.invokestatic 197, 3) := dg dtJ5_append_3fe6f_0_ok 40 rfl
theorem dJ5_append_3fe6f_75 : decode cJ5_append_3fe6f 75 = .ok (.aload_n 0, 1) := dg dtJ5_append_3fe6f_0_ok 41 rfl
theorem dJ5_append_3fe6f_76 : decode cJ5_append_3fe6f 76 = .ok (.areturn, 1) := dg dtJ5_append_3fe6f_0_ok 42 rfl
def dtJ5_append_c97b9_0 : List (Nat × Instr × Nat) := [(0, .aload_n 0, 1), (1, .getfield 79, 3), (4, .istore_n 2, 1), (5, .iload_n 2, 1), (6, .iload_n 1, 1), (7, .invokestatic 245, 3), (10, .iadd, 1), (11, .istore_n 3, 1), (12, .aload_n 0, 1), (13, .iload_n 3, 1), (14, .invokevirtual 100, 3), (17, .aload_n 0, 1), (18, .invokevirtual 83, 3), (21, .ifCond .eq 16, 3), (24, .iload_n 1, 1), (25, .iload_n 3, 1), (26, .aload_n 0, 1), (27, .getfield 15, 3), (30, .invokestatic 248, 3), (33, .pop, 1), (34, .goto 14, 3), (37, .iload_n 1, 1), (38, .iload_n 2, 1), (39, .iload_n 3, 1), (40, .aload_n 0, 1), (41, .getfield 15, 3), (44, .invokestatic 251, 3), (47, .pop, 1), (48, .aload_n 0, 1), (49, .iload_n 3, 1), (50, .putfield 79, 3), (53, .aload_n 0, 1), (54, .areturn, 1)]
theorem dtJ5_append_c97b9_0_ok : ∀ q ∈ dtJ5_append_c97b9_0, decode cJ5_append_c97b9 q.1 = .ok q.2 := by decide +kernel
theorem dJ5_append_c97b9_0 : decode cJ5_append_c97b9 0 = .ok (.aload_n 0, 1) := dg dtJ5_append_c97b9_0_ok 0 rfl
theorem dJ5_append_c97b9_1 : decode cJ5_append_c97b9 1 = .ok (.getfield 79, 3) := dg dtJ5_append_c97b9_0_ok 1 rfl
theorem dJ5_append_c97b9_4 : decode cJ5_append_c97b9 4 = .ok (.istore_n 2, 1) := dg dtJ5_append_c97b9_0_ok 2 rfl
theorem dJ5_append_c97b9_5 : decode cJ5_append_c97b9 5 = .ok (.iload_n 2, 1) := dg dtJ5_append_c97b9_0_ok 3 rfl
theorem dJ5_append_c97b9_6 : decode cJ5_append_c97b9 6 = .ok (.iload_n 1, 1) := dg dtJ5_append_c97b9_0_ok 4 rfl
theorem dJ5_append_c97b9_7 : decode cJ5_append_c97b9 7 = .ok (.invokestatic 245, 3) := dg dtJ5_append_c97b9_0_ok 5 rfl
theorem dJ5_append_c97b9_10 : decode cJ5_append_c97b9 10 = .ok (.iadd, 1) := dg dtJ5_append_c97b9_0_ok 6 rfl
theorem dJ5_append_c97b9_11 : decode cJ5_append_c97b9 11 = .ok (.istore_n 3, 1) := dg dtJ5_append_c97b9_0_ok 7 rfl
theorem dJ5_append_c97b9_12 : decode cJ5_append_c97b9 12 = .ok (.aload_n 0, 1) := dg dtJ5_append_c97b9_0_ok 8 rfl
theorem dJ5_append_c97b9_13 : decode cJ5_append_c97b9 13 = .ok (.iload_n 3, 1) := dg dtJ5_append_c97b9_0_ok 9 rfl
theorem dJ5_append_c97b9_14 : decode cJ5_append_c97b9 14 = .ok (.invokevirtual 100, 3) := dg dtJ5_append_c97b9_0_ok 10 rfl
theorem dJ5_append_c97b9_17 : decode cJ5_append_c97b9 17 = .ok (.aload_n 0, 1) := dg dtJ5_append_c97b9_0_ok 11 rfl
theorem dJ5_append_c97b9_18 : decode cJ5_append_c97b9 18 = .ok (.invokevirtual 83, 3) := dg dtJ5_append_c97b9_0_ok 12 rfl
theorem dJ5_append_c97b9_21 : decode cJ5_append_c97b9 21 = .ok (.ifCond .eq 16, 3) := dg dtJ5_append_c97b9_0_ok 13 rfl
theorem dJ5_append_c97b9_24 : decode cJ5_append_c97b9 24 = .ok (.iload_n 1, 1) := dg dtJ5_append_c97b9_0_ok 14 rfl
theorem dJ5_append_c97b9_25 : decode cJ5_append_c97b9 25 = .ok (.iload_n 3, 1) := dg dtJ5_append_c97b9_0_ok 15 rfl
theorem dJ5_append_c97b9_26 : decode cJ5_append_c97b9 26 = .ok (.aload_n 0, 1) := dg dtJ5_append_c97b9_0_ok 16 rfl
theorem dJ5_append_c97b9_27 : decode cJ5_append_c97b9 27 = .ok (.getfield 15, 3) := dg dtJ5_append_c97b9_0_ok 17 rfl
theorem dJ5_append_c97b9_30 : decode cJ5_append_c97b9 30 = .ok (.invokestatic 248, 3) := dg dtJ5_append_c97b9_0_ok 18 rfl
theorem dJ5_append_c97b9_33 : decode cJ5_append_c97b9 33 = .ok (.pop, 1) := dg dtJ5_append_c97b9_0_ok 19 rfl
theorem dJ5_append_c97b9_34 : decode cJ5_append_c97b9 34 = .ok (.goto 14, 3) := dg dtJ5_append_c97b9_0_ok 20 rfl
theorem dJ5_append_c97b9_37 : decode cJ5_append_c97b9 37 = .ok (.iload_n 1, 1) := dg dtJ5_append_c97b9_0_ok 21 rfl
theorem dJ5_append_c97b9_38 : decode cJ5_append_c97b9 38 = .ok (.iload_n 2, 1) := dg dtJ5_append_c97b9_0_ok 22 rfl
theorem dJ5_append_c97b9_39 : decode cJ5_append_c97b9 39 = .ok (.iload_n 3, 1) := dg dtJ5_append_c97b9_0_ok 23 rfl
theorem dJ5_append_c97b9_40 : decode cJ5_append_c97b9 40 = .ok (.aload_n 0, 1) := dg dtJ5_append_c97b9_0_ok 24 rfl
theorem dJ5_append_c97b9_41 : decode cJ5_append_c97b9 41 = .ok (.getfield 15, 3) := dg dtJ5_append_c97b9_0_ok 25 rfl
theorem dJ5_append_c97b9_44 : decode cJ5_append_c97b9 44 = .ok (.invokestatic 251, 3) := dg dtJ5_append_c97b9_0_ok 26 rfl
theorem dJ5_append_c97b9_47 : decode cJ5_append_c97b9 47 = .ok (.pop, 1) := dg dtJ5_append_c97b9_0_ok 27 rfl
theorem dJ5_append_c97b9_48 : decode cJ5_append_c97b9 48 = .ok (.aload_n 0, 1) := dg dtJ5_append_c97b9_0_ok 28 rfl
theorem dJ5_append_c97b9_49 : decode cJ5_append_c97b9 49 = .ok (.iload_n 3, 1) := dg dtJ5_append_c97b9_0_ok 29 rfl
theorem dJ5_append_c97b9_50 : decode cJ5_append_c97b9 50 = .ok (.putfield 79, 3) := dg dtJ5_append_c97b9_0_ok 30 rfl
theorem dJ5_append_c97b9_53 : decode cJ5_append_c97b9 53 = .ok (.aload_n 0, 1) := dg dtJ5_append_c97b9_0_ok 31 rfl
theorem dJ5_append_c97b9_54 : decode cJ5_append_c97b9 54 = .ok (.areturn, 1) := dg dtJ5_append_c97b9_0_ok 32 rfl
def dtJ5_isLatin1_aae02_0 : List (Nat × Instr × Nat) := [(0, .getstatic 18, 3), (3, .ifCond .eq 14, 3), (6, .aload_n 0, 1), (7, .getfield 22, 3), (10, .ifCond .ne 7, 3), (13, .iconst 1, 1), (14, .goto 4, 3), (17, .iconst 0, 1), (18, .ireturn, 1)]
theorem dtJ5_isLatin1_aae02_0_ok : ∀ q ∈ dtJ5_isLatin1_aae02_0, decode cJ5_isLatin1_aae02 q.1 = .ok q.2 := by decide +kernel
theorem dJ5_isLatin1_aae02_0 : decode cJ5_isLatin1_aae02 0 = .ok (.getstatic 18, 3) := dg dtJ5_isLatin1_aae02_0_ok 0 rfl
theorem dJ5_isLatin1_aae02_3 : decode cJ5_isLatin1_aae02 3 = .ok (.ifCond .eq 14, 3) := dg dtJ5_isLatin1_aae02_0_ok 1 rfl
theorem dJ5_isLatin1_aae02_6 : decode cJ5_isLatin1_aae02 6 = .ok (.aload_n 0, 1) := dg dtJ5_isLatin1_aae02_0_ok 2 rfl
theorem dJ5_isLatin1_aae02_7 : decode cJ5_isLatin1_aae02 7 = .ok (.getfield 22, 3) := dg dtJ5_isLatin1_aae02_0_ok 3 rfl
theorem dJ5_isLatin1_aae02_10 : decode cJ5_isLatin1_aae02 10 = .ok (.ifCond .ne 7, 3) := dg dtJ5_isLatin1_aae02_0_ok 4 rfl
theorem dJ5_isLatin1_aae02_13 : decode cJ5_isLatin1_aae02 13 = .ok (.iconst 1, 1) := dg dtJ5_isLatin1_aae02_0_ok 5 rfl
theorem dJ5_isLatin1_aae02_14 : decode cJ5_isLatin1_aae02 14 = .ok (.goto 4, 3) := dg dtJ5_isLatin1_aae02_0_ok 6 rfl
theorem dJ5_isLatin1_aae02_17 : decode cJ5_isLatin1_aae02 17 = .ok (.iconst 0, 1) := dg dtJ5_isLatin1_aae02_0_ok 7 rfl
theorem dJ5_isLatin1_aae02_18 : decode cJ5_isLatin1_aae02 18 = .ok (.ireturn, 1) := dg dtJ5_isLatin1_aae02_0_ok 8 rfl
def dtJ6_getChars_ba4f3_0 : List (Nat × Instr × Nat) := [(0, .iload_n 1, 1), (1, .istore 5, 2), (3, .iload_n 0, 1), (4, .ifCond .ge 7, 3), (7, .iconst 1, 1), (8, .goto 4, 3), (11, .iconst 0, 1), (12, .istore 6, 2), (14, .iload 6, 2), (16, .ifCond .ne 6, 3), (19, .iload_n 0, 1), (20, .ineg, 1), (21, .istore_n 0, 1), (22, .iload_n 0, 1), (23, .bipush (-100), 2), (25, .if_icmp .gt 47, 3), (28, .iload_n 0, 1), (29, .bipush 100, 2), (31, .idiv, 1), (32, .istore_n 3, 1), (33, .iload_n 3, 1), (34, .bipush 100, 2), (36, .imul, 1), (37, .iload_n 0, 1), (38, .isub, 1), (39, .istore 4, 2), (41, .iload_n 3, 1), (42, .istore_n 0, 1), (43, .aload_n 2, 1), (44, .iinc 5 (-1), 3), (47, .iload 5, 2), (49, .getstatic 83, 3), (52, .iload 4, 2), (54, .baload, 1), (55, .bastore, 1), (56, .aload_n 2, 1), (57, .iinc 5 (-1), 3), (60, .iload 5, 2), (62, .getstatic 87, 3), (65, .iload 4, 2), (67, .baload, 1), (68, .bastore, 1), (69, .goto (-47), 3), (72, .aload_n 2, 1), (73, .iinc 5 (-1), 3), (76, .iload 5, 2), (78, .getstatic 83, 3), (81, .iload_n 0, 1)]
theorem dtJ6_getChars_ba4f3_0_ok : ∀ q ∈ dtJ6_getChars_ba4f3_0, decode cJ6_getChars_ba4f3 q.1 = .ok q.2 := by decide +kernel
theorem dJ6_getChars_ba4f3_0 : decode cJ6_getChars_ba4f3 0 = .ok (.iload_n 1, 1) := dg dtJ6_getChars_ba4f3_0_ok 0 rfl
theorem dJ6_getChars_ba4f3_1 : decode cJ6_getChars_ba4f3 1 = .ok (.istore 5, 2) := dg dtJ6_getChars_ba4f3_0_ok 1 rfl
theorem dJ6_getChars_ba4f3_3 : decode cJ6_getChars_ba4f3 3 = .ok (.iload_n 0, 1) := dg dtJ6_getChars_ba4f3_0_ok 2 rfl
theorem dJ6_getChars_ba4f3_4 : decode cJ6_getChars_ba4f3 4 = .ok (.ifCond .ge 7, 3) := dg dtJ6_getChars_ba4f3_0_ok 3 rfl
theorem dJ6_getChars_ba4f3_7 : decode cJ6_getChars_ba4f3 7 = .ok (.iconst 1, 1) := dg dtJ6_getChars_ba4f3_0_ok 4 rfl
theorem dJ6_getChars_ba4f3_8 : decode cJ6_getChars_ba4f3 8 = .ok (.goto 4, 3) := dg dtJ6_getChars_ba4f3_0_ok 5 rfl
theorem dJ6_getChars_ba4f3_11 : decode cJ6_getChars_ba4f3 11 = .ok (.iconst 0, 1) := dg dtJ6_getChars_ba4f3_0_ok 6 rfl
theorem dJ6_getChars_ba4f3_12 : decode cJ6_getChars_ba4f3 12 = .ok (.istore 6, 2) := dg dtJ6_getChars_ba4f3_0_ok 7 rfl
theorem dJ6_getChars_ba4f3_14 : decode cJ6_getChars_ba4f3 14 = .ok (.iload 6, 2) := dg dtJ6_getChars_ba4f3_0_ok 8 rfl
theorem dJ6_getChars_ba4f3_16 : decode cJ6_getChars_ba4f3 16 = .ok (.ifCond .ne 6, 3) := dg dtJ6_getChars_ba4f3_0_ok 9 rfl
theorem dJ6_getChars_ba4f3_19 : decode cJ6_getChars_ba4f3 19 = .ok (.iload_n 0, 1) := dg dtJ6_getChars_ba4f3_0_ok 10 rfl
theorem dJ6_getChars_ba4f3_20 : decode cJ6_getChars_ba4f3 20 = .ok (.ineg, 1) := dg dtJ6_getChars_ba4f3_0_ok 11 rfl
theorem dJ6_getChars_ba4f3_21 : decode cJ6_getChars_ba4f3 21 = .ok (.istore_n 0, 1) := dg dtJ6_getChars_ba4f3_0_ok 12 rfl
theorem dJ6_getChars_ba4f3_22 : decode cJ6_getChars_ba4f3 22 = .ok (.iload_n 0, 1) := dg dtJ6_getChars_ba4f3_0_ok 13 rfl
theorem dJ6_getChars_ba4f3_23 : decode cJ6_getChars_ba4f3 23 = .ok (.bipush (-100), 2) := dg dtJ6_getChars_ba4f3_0_ok 14 rfl
theorem dJ6_getChars_ba4f3_25 : decode cJ6_getChars_ba4f3 25 = .ok (.if_icmp .gt 47, 3) := dg dtJ6_getChars_ba4f3_0_ok 15 rfl
theorem dJ6_getChars_ba4f3_28 : decode cJ6_getChars_ba4f3 28 = .ok (.iload_n 0, 1) := dg dtJ6_getChars_ba4f3_0_ok 16 rfl
theorem dJ6_getChars_ba4f3_29 : decode cJ6_getChars_ba4f3 29 = .ok (.bipush 100, 2) := dg dtJ6_getChars_ba4f3_0_ok 17 rfl
theorem dJ6_getChars_ba4f3_31 : decode cJ6_getChars_ba4f3 31 = .ok (.idiv, 1) := dg dtJ6_getChars_ba4f3_0_ok 18 rfl
theorem dJ6_getChars_ba4f3_32 : decode cJ6_getChars_ba4f3 32 = .ok (.istore_n 3, 1) := dg dtJ6_getChars_ba4f3_0_ok 19 rfl
theorem dJ6_getChars_ba4f3_33 : decode cJ6_getChars_ba4f3 33 = .ok (.iload_n 3, 1) := dg dtJ6_getChars_ba4f3_0_ok 20 rfl
theorem dJ6_getChars_ba4f3_34 : decode cJ6_getChars_ba4f3 34 = .ok (.bipush 100, 2) := dg dtJ6_getChars_ba4f3_0_ok 21 rfl
theorem dJ6_getChars_ba4f3_36 : decode cJ6_getChars_ba4f3 36 = .ok (.imul, 1) := dg dtJ6_getChars_ba4f3_0_ok 22 rfl
theorem dJ6_getChars_ba4f3_37 : decode cJ6_getChars_ba4f3 37 = .ok (.iload_n 0, 1) := dg dtJ6_getChars_ba4f3_0_ok 23 rfl
theorem dJ6_getChars_ba4f3_38 : decode cJ6_getChars_ba4f3 38 = .ok (.isub, 1) := dg dtJ6_getChars_ba4f3_0_ok 24 rfl
theorem dJ6_getChars_ba4f3_39 : decode cJ6_getChars_ba4f3 39 = .ok (.istore 4, 2) := dg dtJ6_getChars_ba4f3_0_ok 25 rfl
theorem dJ6_getChars_ba4f3_41 : decode cJ6_getChars_ba4f3 41 = .ok (.iload_n 3, 1) := dg dtJ6_getChars_ba4f3_0_ok 26 rfl
theorem dJ6_getChars_ba4f3_42 : decode cJ6_getChars_ba4f3 42 = .ok (.istore_n 0, 1) := dg dtJ6_getChars_ba4f3_0_ok 27 rfl
theorem dJ6_getChars_ba4f3_43 : decode cJ6_getChars_ba4f3 43 = .ok (.aload_n 2, 1) := dg dtJ6_getChars_ba4f3_0_ok 28 rfl
theorem dJ6_getChars_ba4f3_44 : decode cJ6_getChars_ba4f3 44 = .ok (.iinc 5 (-1), 3) := dg dtJ6_getChars_ba4f3_0_ok 29 rfl
theorem dJ6_getChars_ba4f3_47 : decode cJ6_getChars_ba4f3 47 = .ok (.iload 5, 2) := dg dtJ6_getChars_ba4f3_0_ok 30 rfl
theorem dJ6_getChars_ba4f3_49 : decode cJ6_getChars_ba4f3 49 = .ok (.getstatic 83, 3) := dg dtJ6_getChars_ba4f3_0_ok 31 rfl
theorem dJ6_getChars_ba4f3_52 : decode cJ6_getChars_ba4f3 52 = .ok (.iload 4, 2) := dg dtJ6_getChars_ba4f3_0_ok 32 rfl
theorem dJ6_getChars_ba4f3_54 : decode cJ6_getChars_ba4f3 54 = .ok (.baload, 1) := dg dtJ6_getChars_ba4f3_0_ok 33 rfl
theorem dJ6_getChars_ba4f3_55 : decode cJ6_getChars_ba4f3 55 = .ok (.bastore, 1) := dg dtJ6_getChars_ba4f3_0_ok 34 rfl
theorem dJ6_getChars_ba4f3_56 : decode cJ6_getChars_ba4f3 56 = .ok (.aload_n 2, 1) := dg dtJ6_getChars_ba4f3_0_ok 35 rfl
theorem dJ6_getChars_ba4f3_57 : decode cJ6_getChars_ba4f3 57 = .ok (.iinc 5 (-1), 3) := dg dtJ6_getChars_ba4f3_0_ok 36 rfl
theorem dJ6_getChars_ba4f3_60 : decode cJ6_getChars_ba4f3 60 = .ok (.iload 5, 2) := dg dtJ6_getChars_ba4f3_0_ok 37 rfl
theorem dJ6_getChars_ba4f3_62 : decode cJ6_getChars_ba4f3 62 = .ok (.getstatic 87, 3) := dg dtJ6_getChars_ba4f3_0_ok 38 rfl
theorem dJ6_getChars_ba4f3_65 : decode cJ6_getChars_ba4f3 65 = .ok (.iload 4, 2) := dg dtJ6_getChars_ba4f3_0_ok 39 rfl
theorem dJ6_getChars_ba4f3_67 : decode cJ6_getChars_ba4f3 67 = .ok (.baload, 1) := dg dtJ6_getChars_ba4f3_0_ok 40 rfl
theorem dJ6_getChars_ba4f3_68 : decode cJ6_getChars_ba4f3 68 = .ok (.bastore, 1) := dg dtJ6_getChars_ba4f3_0_ok 41 rfl
theorem dJ6_getChars_ba4f3_69 : decode cJ6_getChars_ba4f3 69 = .ok (.goto (-47), 3) := dg dtJ6_getChars_ba4f3_0_ok 42 rfl
theorem dJ6_getChars_ba4f3_72 : decode cJ6_getChars_ba4f3 72 = .ok (.aload_n 2, 1) := dg dtJ6_getChars_ba4f3_0_ok 43 rfl
theorem dJ6_getChars_ba4f3_73 : decode cJ6_getChars_ba4f3 73 = .ok (.iinc 5 (-1), 3) := dg dtJ6_getChars_ba4f3_0_ok 44 rfl
theorem dJ6_getChars_ba4f3_76 : decode cJ6_getChars_ba4f3 76 = .ok (.iload 5, 2) := dg dtJ6_getChars_ba4f3_0_ok 45 rfl
theorem dJ6_getChars_ba4f3_78 : decode cJ6_getChars_ba4f3 78 = .ok (.getstatic 83, 3) := dg dtJ6_getChars_ba4f3_0_ok 46 rfl
theorem dJ6_getChars_ba4f3_81 : decode cJ6_getChars_ba4f3 81 = .ok (.iload_n 0, 1) := dg dtJ6_getChars_ba4f3_0_ok 47 rfl
def dtJ6_getChars_ba4f3_1 : List (Nat × Instr × Nat) := [(82, .ineg, 1), (83, .baload, 1), (84, .bastore, 1), (85, .iload_n 0, 1), (86, .bipush (-9), 2), (88, .if_icmp .ge 16, 3), (91, .aload_n 2, 1), (92, .iinc 5 (-1), 3), (95, .iload 5, 2), (97, .getstatic 87, 3), (100, .iload_n 0, 1), (101, .ineg, 1), (102, .baload, 1), (103, .bastore, 1), (104, .iload 6, 2), (106, .ifCond .eq 12, 3), (109, .aload_n 2, 1), (110, .iinc 5 (-1), 3), (113, .iload 5, 2), (115, .bipush 45, 2), (117, .bastore, 1), (118, .iload 5, 2), (120, .ireturn, 1)]
theorem dtJ6_getChars_ba4f3_1_ok : ∀ q ∈ dtJ6_getChars_ba4f3_1, decode cJ6_getChars_ba4f3 q.1 = .ok q.2 := by decide +kernel
theorem dJ6_getChars_ba4f3_82 : decode cJ6_getChars_ba4f3 82 = .ok (.ineg, 1) := dg dtJ6_getChars_ba4f3_1_ok 0 rfl
theorem dJ6_getChars_ba4f3_83 : decode cJ6_getChars_ba4f3 83 = .ok (.baload, 1) := dg dtJ6_getChars_ba4f3_1_ok 1 rfl
theorem dJ6_getChars_ba4f3_84 : decode cJ6_getChars_ba4f3 84 = .ok (.bastore, 1) := dg dtJ6_getChars_ba4f3_1_ok 2 rfl
theorem dJ6_getChars_ba4f3_85 : decode cJ6_getChars_ba4f3 85 = .ok (.iload_n 0, 1) := dg dtJ6_getChars_ba4f3_1_ok 3 rfl
theorem dJ6_getChars_ba4f3_86 : decode cJ6_getChars_ba4f3 86 = .ok (.bipush (-9), 2) := dg dtJ6_getChars_ba4f3_1_ok 4 rfl
theorem dJ6_getChars_ba4f3_88 : decode cJ6_getChars_ba4f3 88 = .ok (.if_icmp .ge 16, 3) := dg dtJ6_getChars_ba4f3_1_ok 5 rfl
theorem dJ6_getChars_ba4f3_91 : decode cJ6_getChars_ba4f3 91 = .ok (.aload_n 2, 1) := dg dtJ6_getChars_ba4f3_1_ok 6 rfl
theorem dJ6_getChars_ba4f3_92 : decode cJ6_getChars_ba4f3 92 = .ok (.iinc 5 (-1), 3) := dg dtJ6_getChars_ba4f3_1_ok 7 rfl
theorem dJ6_getChars_ba4f3_95 : decode cJ6_getChars_ba4f3 95 = .ok (.iload 5, 2) := dg dtJ6_getChars_ba4f3_1_ok 8 rfl
theorem dJ6_getChars_ba4f3_97 : decode cJ6_getChars_ba4f3 97 = .ok (.getstatic 87, 3) := dg dtJ6_getChars_ba4f3_1_ok 9 rfl
theorem dJ6_getChars_ba4f3_100 : decode cJ6_getChars_ba4f3 100 = .ok (.iload_n 0, 1) := dg dtJ6_getChars_ba4f3_1_ok 10 rfl
theorem dJ6_getChars_ba4f3_101 : decode cJ6_getChars_ba4f3 101 = .ok (.ineg, 1) := dg dtJ6_getChars_ba4f3_1_ok 11 rfl
theorem dJ6_getChars_ba4f3_102 : decode cJ6_getChars_ba4f3 102 = .ok (.baload, 1) := dg dtJ6_getChars_ba4f3_1_ok 12 rfl
theorem dJ6_getChars_ba4f3_103 : decode cJ6_getChars_ba4f3 103 = .ok (.bastore, 1) := dg dtJ6_getChars_ba4f3_1_ok 13 rfl
theorem dJ6_getChars_ba4f3_104 : decode cJ6_getChars_ba4f3 104 = .ok (.iload 6, 2) := dg dtJ6_getChars_ba4f3_1_ok 14 rfl
theorem dJ6_getChars_ba4f3_106 : decode cJ6_getChars_ba4f3 106 = .ok (.ifCond .eq 12, 3) := dg dtJ6_getChars_ba4f3_1_ok 15 rfl
theorem dJ6_getChars_ba4f3_109 : decode cJ6_getChars_ba4f3 109 = .ok (.aload_n 2, 1) := dg dtJ6_getChars_ba4f3_1_ok 16 rfl
theorem dJ6_getChars_ba4f3_110 : decode cJ6_getChars_ba4f3 110 = .ok (.iinc 5 (-1), 3) := dg dtJ6_getChars_ba4f3_1_ok 17 rfl
theorem dJ6_getChars_ba4f3_113 : decode cJ6_getChars_ba4f3 113 = .ok (.iload 5, 2) := dg dtJ6_getChars_ba4f3_1_ok 18 rfl
theorem dJ6_getChars_ba4f3_115 : decode cJ6_getChars_ba4f3 115 = .ok (.bipush 45, 2) := dg dtJ6_getChars_ba4f3_1_ok 19 rfl
theorem dJ6_getChars_ba4f3_117 : decode cJ6_getChars_ba4f3 117 = .ok (.bastore, 1) := dg dtJ6_getChars_ba4f3_1_ok 20 rfl
theorem dJ6_getChars_ba4f3_118 : decode cJ6_getChars_ba4f3 118 = .ok (.iload 5, 2) := dg dtJ6_getChars_ba4f3_1_ok 21 rfl
theorem dJ6_getChars_ba4f3_120 : decode cJ6_getChars_ba4f3 120 = .ok (.ireturn, 1) := dg dtJ6_getChars_ba4f3_1_ok 22 rfl
def dtJ6_stringSize_0f7a4_0 : List (Nat × Instr × Nat) := [(0, .iconst 1, 1), (1, .istore_n 1, 1), (2, .iload_n 0, 1), (3, .ifCond .lt 8, 3), (6, .iconst 0, 1), (7, .istore_n 1, 1), (8, .iload_n 0, 1), (9, .ineg, 1), (10, .istore_n 0, 1), (11, .bipush (-10), 2), (13, .istore_n 2, 1), (14, .iconst 1, 1), (15, .istore_n 3, 1), (16, .iload_n 3, 1), (17, .bipush 10, 2), (19, .if_icmp .ge 23, 3), (22, .iload_n 0, 1), (23, .iload_n 2, 1), (24, .if_icmp .le 7, 3), (27, .iload_n 3, 1), (28, .iload_n 1, 1), (29, .iadd, 1), (30, .ireturn, 1), (31, .bipush 10, 2), (33, .iload_n 2, 1), (34, .imul, 1), (35, .istore_n 2, 1), (36, .iinc 3 1, 3), (39, .goto (-23), 3), (42, .bipush 10, 2), (44, .iload_n 1, 1), (45, .iadd, 1), (46, .ireturn, 1)]
theorem dtJ6_stringSize_0f7a4_0_ok : ∀ q ∈ dtJ6_stringSize_0f7a4_0, decode cJ6_stringSize_0f7a4 q.1 = .ok q.2 := by decide +kernel
theorem dJ6_stringSize_0f7a4_0 : decode cJ6_stringSize_0f7a4 0 = .ok (.iconst 1, 1) := dg dtJ6_stringSize_0f7a4_0_ok 0 rfl
theorem dJ6_stringSize_0f7a4_1 : decode cJ6_stringSize_0f7a4 1 = .ok (.istore_n 1, 1) := dg dtJ6_stringSize_0f7a4_0_ok 1 rfl
theorem dJ6_stringSize_0f7a4_2 : decode cJ6_stringSize_0f7a4 2 = .ok (.iload_n 0, 1) := dg dtJ6_stringSize_0f7a4_0_ok 2 rfl
theorem dJ6_stringSize_0f7a4_3 : decode cJ6_stringSize_0f7a4 3 = .ok (.ifCond .lt 8, 3) := dg dtJ6_stringSize_0f7a4_0_ok 3 rfl
theorem dJ6_stringSize_0f7a4_6 : decode cJ6_stringSize_0f7a4 6 = .ok (.iconst 0, 1) := dg dtJ6_stringSize_0f7a4_0_ok 4 rfl
theorem dJ6_stringSize_0f7a4_7 : decode cJ6_stringSize_0f7a4 7 = .ok (.istore_n 1, 1) := dg dtJ6_stringSize_0f7a4_0_ok 5 rfl
theorem dJ6_stringSize_0f7a4_8 : decode cJ6_stringSize_0f7a4 8 = .ok (.iload_n 0, 1) := dg dtJ6_stringSize_0f7a4_0_ok 6 rfl
theorem dJ6_stringSize_0f7a4_9 : decode cJ6_stringSize_0f7a4 9 = .ok (.ineg, 1) := dg dtJ6_stringSize_0f7a4_0_ok 7 rfl
theorem dJ6_stringSize_0f7a4_10 : decode cJ6_stringSize_0f7a4 10 = .ok (.istore_n 0, 1) := dg dtJ6_stringSize_0f7a4_0_ok 8 rfl
theorem dJ6_stringSize_0f7a4_11 : decode cJ6_stringSize_0f7a4 11 = .ok (.bipush (-10), 2) := dg dtJ6_stringSize_0f7a4_0_ok 9 rfl
theorem dJ6_stringSize_0f7a4_13 : decode cJ6_stringSize_0f7a4 13 = .ok (.istore_n 2, 1) := dg dtJ6_stringSize_0f7a4_0_ok 10 rfl
theorem dJ6_stringSize_0f7a4_14 : decode cJ6_stringSize_0f7a4 14 = .ok (.iconst 1, 1) := dg dtJ6_stringSize_0f7a4_0_ok 11 rfl
theorem dJ6_stringSize_0f7a4_15 : decode cJ6_stringSize_0f7a4 15 = .ok (.istore_n 3, 1) := dg dtJ6_stringSize_0f7a4_0_ok 12 rfl
theorem dJ6_stringSize_0f7a4_16 : decode cJ6_stringSize_0f7a4 16 = .ok (.iload_n 3, 1) := dg dtJ6_stringSize_0f7a4_0_ok 13 rfl
theorem dJ6_stringSize_0f7a4_17 : decode cJ6_stringSize_0f7a4 17 = .ok (.bipush 10, 2) := dg dtJ6_stringSize_0f7a4_0_ok 14 rfl
theorem dJ6_stringSize_0f7a4_19 : decode cJ6_stringSize_0f7a4 19 = .ok (.if_icmp .ge 23, 3) := dg dtJ6_stringSize_0f7a4_0_ok 15 rfl
theorem dJ6_stringSize_0f7a4_22 : decode cJ6_stringSize_0f7a4 22 = .ok (.iload_n 0, 1) := dg dtJ6_stringSize_0f7a4_0_ok 16 rfl
theorem dJ6_stringSize_0f7a4_23 : decode cJ6_stringSize_0f7a4 23 = .ok (.iload_n 2, 1) := dg dtJ6_stringSize_0f7a4_0_ok 17 rfl
theorem dJ6_stringSize_0f7a4_24 : decode cJ6_stringSize_0f7a4 24 = .ok (.if_icmp .le 7, 3) := dg dtJ6_stringSize_0f7a4_0_ok 18 rfl
theorem dJ6_stringSize_0f7a4_27 : decode cJ6_stringSize_0f7a4 27 = .ok (.iload_n 3, 1) := dg dtJ6_stringSize_0f7a4_0_ok 19 rfl
theorem dJ6_stringSize_0f7a4_28 : decode cJ6_stringSize_0f7a4 28 = .ok (.iload_n 1, 1) := dg dtJ6_stringSize_0f7a4_0_ok 20 rfl
theorem dJ6_stringSize_0f7a4_29 : decode cJ6_stringSize_0f7a4 29 = .ok (.iadd, 1) := dg dtJ6_stringSize_0f7a4_0_ok 21 rfl
theorem dJ6_stringSize_0f7a4_30 : decode cJ6_stringSize_0f7a4 30 = .ok (.ireturn, 1) := dg dtJ6_stringSize_0f7a4_0_ok 22 rfl
theorem dJ6_stringSize_0f7a4_31 : decode cJ6_stringSize_0f7a4 31 = .ok (.bipush 10, 2) := dg dtJ6_stringSize_0f7a4_0_ok 23 rfl
theorem dJ6_stringSize_0f7a4_33 : decode cJ6_stringSize_0f7a4 33 = .ok (.iload_n 2, 1) := dg dtJ6_stringSize_0f7a4_0_ok 24 rfl
theorem dJ6_stringSize_0f7a4_34 : decode cJ6_stringSize_0f7a4 34 = .ok (.imul, 1) := dg dtJ6_stringSize_0f7a4_0_ok 25 rfl
theorem dJ6_stringSize_0f7a4_35 : decode cJ6_stringSize_0f7a4 35 = .ok (.istore_n 2, 1) := dg dtJ6_stringSize_0f7a4_0_ok 26 rfl
theorem dJ6_stringSize_0f7a4_36 : decode cJ6_stringSize_0f7a4 36 = .ok (.iinc 3 1, 3) := dg dtJ6_stringSize_0f7a4_0_ok 27 rfl
theorem dJ6_stringSize_0f7a4_39 : decode cJ6_stringSize_0f7a4 39 = .ok (.goto (-23), 3) := dg dtJ6_stringSize_0f7a4_0_ok 28 rfl
theorem dJ6_stringSize_0f7a4_42 : decode cJ6_stringSize_0f7a4 42 = .ok (.bipush 10, 2) := dg dtJ6_stringSize_0f7a4_0_ok 29 rfl
theorem dJ6_stringSize_0f7a4_44 : decode cJ6_stringSize_0f7a4 44 = .ok (.iload_n 1, 1) := dg dtJ6_stringSize_0f7a4_0_ok 30 rfl
theorem dJ6_stringSize_0f7a4_45 : decode cJ6_stringSize_0f7a4 45 = .ok (.iadd, 1) := dg dtJ6_stringSize_0f7a4_0_ok 31 rfl
theorem dJ6_stringSize_0f7a4_46 : decode cJ6_stringSize_0f7a4 46 = .ok (.ireturn, 1) := dg dtJ6_stringSize_0f7a4_0_ok 32 rfl
def dtJ9_max_7cf53_0 : List (Nat × Instr × Nat) := [(0, .iload_n 0, 1), (1, .iload_n 1, 1), (2, .if_icmp .lt 7, 3), (5, .iload_n 0, 1), (6, .goto 4, 3), (9, .iload_n 1, 1), (10, .ireturn, 1)]
theorem dtJ9_max_7cf53_0_ok : ∀ q ∈ dtJ9_max_7cf53_0, decode cJ9_max_7cf53 q.1 = .ok q.2 := by decide +kernel
theorem dJ9_max_7cf53_0 : decode cJ9_max_7cf53 0 = .ok (.iload_n 0, 1) := dg dtJ9_max_7cf53_0_ok 0 rfl
theorem dJ9_max_7cf53_1 : decode cJ9_max_7cf53 1 = .ok (.iload_n 1, 1) := dg dtJ9_max_7cf53_0_ok 1 rfl
theorem dJ9_max_7cf53_2 : decode cJ9_max_7cf53 2 = .ok (.if_icmp .lt 7, 3) := dg dtJ9_max_7cf53_0_ok 2 rfl
theorem dJ9_max_7cf53_5 : decode cJ9_max_7cf53 5 = .ok (.iload_n 0, 1) := dg dtJ9_max_7cf53_0_ok 3 rfl
theorem dJ9_max_7cf53_6 : decode cJ9_max_7cf53 6 = .ok (.goto 4, 3) := dg dtJ9_max_7cf53_0_ok 4 rfl
theorem dJ9_max_7cf53_9 : decode cJ9_max_7cf53 9 = .ok (.iload_n 1, 1) := dg dtJ9_max_7cf53_0_ok 5 rfl
theorem dJ9_max_7cf53_10 : decode cJ9_max_7cf53 10 = .ok (.ireturn, 1) := dg dtJ9_max_7cf53_0_ok 6 rfl
def dtJ9_min_7cf53_0 : List (Nat × Instr × Nat) := [(0, .iload_n 0, 1), (1, .iload_n 1, 1), (2, .if_icmp .gt 7, 3), (5, .iload_n 0, 1), (6, .goto 4, 3), (9, .iload_n 1, 1), (10, .ireturn, 1)]
theorem dtJ9_min_7cf53_0_ok : ∀ q ∈ dtJ9_min_7cf53_0, decode cJ9_min_7cf53 q.1 = .ok q.2 := by decide +kernel
theorem dJ9_min_7cf53_0 : decode cJ9_min_7cf53 0 = .ok (.iload_n 0, 1) := dg dtJ9_min_7cf53_0_ok 0 rfl
theorem dJ9_min_7cf53_1 : decode cJ9_min_7cf53 1 = .ok (.iload_n 1, 1) := dg dtJ9_min_7cf53_0_ok 1 rfl
theorem dJ9_min_7cf53_2 : decode cJ9_min_7cf53 2 = .ok (.if_icmp .gt 7, 3) := dg dtJ9_min_7cf53_0_ok 2 rfl
theorem dJ9_min_7cf53_5 : decode cJ9_min_7cf53 5 = .ok (.iload_n 0, 1) := dg dtJ9_min_7cf53_0_ok 3 rfl
theorem dJ9_min_7cf53_6 : decode cJ9_min_7cf53 6 = .ok (.goto 4, 3) := dg dtJ9_min_7cf53_0_ok 4 rfl
theorem dJ9_min_7cf53_9 : decode cJ9_min_7cf53 9 = .ok (.iload_n 1, 1) := dg dtJ9_min_7cf53_0_ok 5 rfl
theorem dJ9_min_7cf53_10 : decode cJ9_min_7cf53 10 = .ok (.ireturn, 1) := dg dtJ9_min_7cf53_0_ok 6 rfl
def dtJ0_length_8abf5_0 : List (Nat × Instr × Nat) := [(0, .aload_n 0, 1), (1, .getfield 9, 3), (4, .arraylength, 1), (5, .aload_n 0, 1), (6, .invokevirtual 335, 3), (9, .ishr, 1), (10, .ireturn, 1)]
theorem dtJ0_length_8abf5_0_ok : ∀ q ∈ dtJ0_length_8abf5_0, decode cJ0_length_8abf5 q.1 = .ok q.2 := by decide +kernel
theorem dJ0_length_8abf5_0 : decode cJ0_length_8abf5 0 = .ok (.aload_n 0, 1) := dg dtJ0_length_8abf5_0_ok 0 rfl
theorem dJ0_length_8abf5_1 : decode cJ0_length_8abf5 1 = .ok (.getfield 9, 3) := dg dtJ0_length_8abf5_0_ok 1 rfl
theorem dJ0_length_8abf5_4 : decode cJ0_length_8abf5 4 = .ok (.arraylength, 1) := dg dtJ0_length_8abf5_0_ok 2 rfl
theorem dJ0_length_8abf5_5 : decode cJ0_length_8abf5 5 = .ok (.aload_n 0, 1) := dg dtJ0_length_8abf5_0_ok 3 rfl
theorem dJ0_length_8abf5_6 : decode cJ0_length_8abf5 6 = .ok (.invokevirtual 335, 3) := dg dtJ0_length_8abf5_0_ok 4 rfl
theorem dJ0_length_8abf5_9 : decode cJ0_length_8abf5 9 = .ok (.ishr, 1) := dg dtJ0_length_8abf5_0_ok 5 rfl
theorem dJ0_length_8abf5_10 : decode cJ0_length_8abf5 10 = .ok (.ireturn, 1) := dg dtJ0_length_8abf5_0_ok 6 rfl
def dtJ0_charAt_5068e_0 : List (Nat × Instr × Nat) := [(0, .aload_n 0, 1), (1, .invokevirtual 492, 3), (4, .ifCond .eq 12, 3), (7, .aload_n 0, 1), (8, .getfield 9, 3), (11, .iload_n 1, 1), (12, .invokestatic 495, 3), (15, .ireturn, 1), (16, .aload_n 0, 1), (17, .getfield 9, 3), (20, .iload_n 1, 1), (21, .invokestatic 498, 3), (24, .ireturn, 1)]
theorem dtJ0_charAt_5068e_0_ok : ∀ q ∈ dtJ0_charAt_5068e_0, decode cJ0_charAt_5068e q.1 = .ok q.2 := by decide +kernel
theorem dJ0_charAt_5068e_0 : decode cJ0_charAt_5068e 0 = .ok (.aload_n 0, 1) := dg dtJ0_charAt_5068e_0_ok 0 rfl
theorem dJ0_charAt_5068e_1 : decode cJ0_charAt_5068e 1 = .ok (.invokevirtual 492, 3) := dg dtJ0_charAt_5068e_0_ok 1 rfl
theorem dJ0_charAt_5068e_4 : decode cJ0_charAt_5068e 4 = .ok (.ifCond .eq 12, 3) := dg dtJ0_charAt_5068e_0_ok 2 rfl
theorem dJ0_charAt_5068e_7 : decode cJ0_charAt_5068e 7 = .ok (.aload_n 0, 1) := dg dtJ0_charAt_5068e_0_ok 3 rfl
theorem dJ0_charAt_5068e_8 : decode cJ0_charAt_5068e 8 = .ok (.getfield 9, 3) := dg dtJ0_charAt_5068e_0_ok 4 rfl
theorem dJ0_charAt_5068e_11 : decode cJ0_charAt_5068e 11 = .ok (.iload_n 1, 1) := dg dtJ0_charAt_5068e_0_ok 5 rfl
theorem dJ0_charAt_5068e_12 : decode cJ0_charAt_5068e 12 = .ok (.invokestatic 495, 3) := dg dtJ0_charAt_5068e_0_ok 6 rfl
theorem dJ0_charAt_5068e_15 : decode cJ0_charAt_5068e 15 = .ok (.ireturn, 1) := dg dtJ0_charAt_5068e_0_ok 7 rfl
theorem dJ0_charAt_5068e_16 : decode cJ0_charAt_5068e 16 = .ok (.aload_n 0, 1) := dg dtJ0_charAt_5068e_0_ok 8 rfl
theorem dJ0_charAt_5068e_17 : decode cJ0_charAt_5068e 17 = .ok (.getfield 9, 3) := dg dtJ0_charAt_5068e_0_ok 9 rfl
theorem dJ0_charAt_5068e_20 : decode cJ0_charAt_5068e 20 = .ok (.iload_n 1, 1) := dg dtJ0_charAt_5068e_0_ok 10 rfl
theorem dJ0_charAt_5068e_21 : decode cJ0_charAt_5068e 21 = .ok (.invokestatic 498, 3) := dg dtJ0_charAt_5068e_0_ok 11 rfl
theorem dJ0_charAt_5068e_24 : decode cJ0_charAt_5068e 24 = .ok (.ireturn, 1) := dg dtJ0_charAt_5068e_0_ok 12 rfl
def dtJ0_coder_7d493_0 : List (Nat × Instr × Nat) := [(0, .getstatic 38, 3), (3, .ifCond .eq 10, 3), (6, .aload_n 0, 1), (7, .getfield 15, 3), (10, .goto 4, 3), (13, .iconst 1, 1), (14, .ireturn, 1)]
theorem dtJ0_coder_7d493_0_ok : ∀ q ∈ dtJ0_coder_7d493_0, decode cJ0_coder_7d493 q.1 = .ok q.2 := by decide +kernel
theorem dJ0_coder_7d493_0 : decode cJ0_coder_7d493 0 = .ok (.getstatic 38, 3) := dg dtJ0_coder_7d493_0_ok 0 rfl
theorem dJ0_coder_7d493_3 : decode cJ0_coder_7d493 3 = .ok (.ifCond .eq 10, 3) := dg dtJ0_coder_7d493_0_ok 1 rfl
theorem dJ0_coder_7d493_6 : decode cJ0_coder_7d493 6 = .ok (.aload_n 0, 1) := dg dtJ0_coder_7d493_0_ok 2 rfl
theorem dJ0_coder_7d493_7 : decode cJ0_coder_7d493 7 = .ok (.getfield 15, 3) := dg dtJ0_coder_7d493_0_ok 3 rfl
theorem dJ0_coder_7d493_10 : decode cJ0_coder_7d493 10 = .ok (.goto 4, 3) := dg dtJ0_coder_7d493_0_ok 4 rfl
theorem dJ0_coder_7d493_13 : decode cJ0_coder_7d493 13 = .ok (.iconst 1, 1) := dg dtJ0_coder_7d493_0_ok 5 rfl
theorem dJ0_coder_7d493_14 : decode cJ0_coder_7d493 14 = .ok (.ireturn, 1) := dg dtJ0_coder_7d493_0_ok 6 rfl
def dtJ0_isLatin1_aae02_0 : List (Nat × Instr × Nat) := [(0, .getstatic 38, 3), (3, .ifCond .eq 14, 3), (6, .aload_n 0, 1), (7, .getfield 15, 3), (10, .ifCond .ne 7, 3), (13, .iconst 1, 1), (14, .goto 4, 3), (17, .iconst 0, 1), (18, .ireturn, 1)]
theorem dtJ0_isLatin1_aae02_0_ok : ∀ q ∈ dtJ0_isLatin1_aae02_0, decode cJ0_isLatin1_aae02 q.1 = .ok q.2 := by decide +kernel
theorem dJ0_isLatin1_aae02_0 : decode cJ0_isLatin1_aae02 0 = .ok (.getstatic 38, 3) := dg dtJ0_isLatin1_aae02_0_ok 0 rfl
theorem dJ0_isLatin1_aae02_3 : decode cJ0_isLatin1_aae02 3 = .ok (.ifCond .eq 14, 3) := dg dtJ0_isLatin1_aae02_0_ok 1 rfl
theorem dJ0_isLatin1_aae02_6 : decode cJ0_isLatin1_aae02 6 = .ok (.aload_n 0, 1) := dg dtJ0_isLatin1_aae02_0_ok 2 rfl
theorem dJ0_isLatin1_aae02_7 : decode cJ0_isLatin1_aae02 7 = .ok (.getfield 15, 3) := dg dtJ0_isLatin1_aae02_0_ok 3 rfl
theorem dJ0_isLatin1_aae02_10 : decode cJ0_isLatin1_aae02 10 = .ok (.ifCond .ne 7, 3) := dg dtJ0_isLatin1_aae02_0_ok 4 rfl
theorem dJ0_isLatin1_aae02_13 : decode cJ0_isLatin1_aae02 13 = .ok (.iconst 1, 1) := dg dtJ0_isLatin1_aae02_0_ok 5 rfl
theorem dJ0_isLatin1_aae02_14 : decode cJ0_isLatin1_aae02 14 = .ok (.goto 4, 3) := dg dtJ0_isLatin1_aae02_0_ok 6 rfl
theorem dJ0_isLatin1_aae02_17 : decode cJ0_isLatin1_aae02 17 = .ok (.iconst 0, 1) := dg dtJ0_isLatin1_aae02_0_ok 7 rfl
theorem dJ0_isLatin1_aae02_18 : decode cJ0_isLatin1_aae02 18 = .ok (.ireturn, 1) := dg dtJ0_isLatin1_aae02_0_ok 8 rfl
def dtJ0_checkIndex_df160_0 : List (Nat × Instr × Nat) := [(0, .iload_n 0, 1), (1, .iload_n 1, 1), (2, .getstatic 1053, 3), (5, .invokestatic 1059, 3), (8, .pop, 1), (9, .return_, 1)]
theorem dtJ0_checkIndex_df160_0_ok : ∀ q ∈ dtJ0_checkIndex_df160_0, decode cJ0_checkIndex_df160 q.1 = .ok q.2 := by decide +kernel
theorem dJ0_checkIndex_df160_0 : decode cJ0_checkIndex_df160 0 = .ok (.iload_n 0, 1) := dg dtJ0_checkIndex_df160_0_ok 0 rfl
theorem dJ0_checkIndex_df160_1 : decode cJ0_checkIndex_df160 1 = .ok (.iload_n 1, 1) := dg dtJ0_checkIndex_df160_0_ok 1 rfl
theorem dJ0_checkIndex_df160_2 : decode cJ0_checkIndex_df160 2 = .ok (.getstatic 1053, 3) := dg dtJ0_checkIndex_df160_0_ok 2 rfl
theorem dJ0_checkIndex_df160_5 : decode cJ0_checkIndex_df160 5 = .ok (.invokestatic 1059, 3) := dg dtJ0_checkIndex_df160_0_ok 3 rfl
theorem dJ0_checkIndex_df160_8 : decode cJ0_checkIndex_df160 8 = .ok (.pop, 1) := dg dtJ0_checkIndex_df160_0_ok 4 rfl
theorem dJ0_checkIndex_df160_9 : decode cJ0_checkIndex_df160 9 = .ok (.return_, 1) := dg dtJ0_checkIndex_df160_0_ok 5 rfl
def dtJ0_checkBoundsOffCount_cabcc_0 : List (Nat × Instr × Nat) := [(0, .iload_n 0, 1), (1, .iload_n 1, 1), (2, .iload_n 2, 1), (3, .getstatic 1053, 3), (6, .invokestatic 1065, 3), (9, .ireturn, 1)]
theorem dtJ0_checkBoundsOffCount_cabcc_0_ok : ∀ q ∈ dtJ0_checkBoundsOffCount_cabcc_0, decode cJ0_checkBoundsOffCount_cabcc q.1 = .ok q.2 := by decide +kernel
theorem dJ0_checkBoundsOffCount_cabcc_0 : decode cJ0_checkBoundsOffCount_cabcc 0 = .ok (.iload_n 0, 1) := dg dtJ0_checkBoundsOffCount_cabcc_0_ok 0 rfl
theorem dJ0_checkBoundsOffCount_cabcc_1 : decode cJ0_checkBoundsOffCount_cabcc 1 = .ok (.iload_n 1, 1) := dg dtJ0_checkBoundsOffCount_cabcc_0_ok 1 rfl
theorem dJ0_checkBoundsOffCount_cabcc_2 : decode cJ0_checkBoundsOffCount_cabcc 2 = .ok (.iload_n 2, 1) := dg dtJ0_checkBoundsOffCount_cabcc_0_ok 2 rfl
theorem dJ0_checkBoundsOffCount_cabcc_3 : decode cJ0_checkBoundsOffCount_cabcc 3 = .ok (.getstatic 1053, 3) := dg dtJ0_checkBoundsOffCount_cabcc_0_ok 3 rfl
theorem dJ0_checkBoundsOffCount_cabcc_6 : decode cJ0_checkBoundsOffCount_cabcc 6 = .ok (.invokestatic 1065, 3) := dg dtJ0_checkBoundsOffCount_cabcc_0_ok 4 rfl
theorem dJ0_checkBoundsOffCount_cabcc_9 : decode cJ0_checkBoundsOffCount_cabcc 9 = .ok (.ireturn, 1) := dg dtJ0_checkBoundsOffCount_cabcc_0_ok 5 rfl
def dtJ0_checkBoundsBeginEnd_23922_0 : List (Nat × Instr × Nat) := [(0, .iload_n 0, 1), (1, .iload_n 1, 1), (2, .iload_n 2, 1), (3, .getstatic 1053, 3), (6, .invokestatic 1062, 3), (9, .pop, 1), (10, .return_, 1)]
theorem dtJ0_checkBoundsBeginEnd_23922_0_ok : ∀ q ∈ dtJ0_checkBoundsBeginEnd_23922_0, decode cJ0_checkBoundsBeginEnd_23922 q.1 = .ok q.2 := by decide +kernel
theorem dJ0_checkBoundsBeginEnd_23922_0 : decode cJ0_checkBoundsBeginEnd_23922 0 = .ok (.iload_n 0, 1) := dg dtJ0_checkBoundsBeginEnd_23922_0_ok 0 rfl
theorem dJ0_checkBoundsBeginEnd_23922_1 : decode cJ0_checkBoundsBeginEnd_23922 1 = .ok (.iload_n 1, 1) := dg dtJ0_checkBoundsBeginEnd_23922_0_ok 1 rfl
theorem dJ0_checkBoundsBeginEnd_23922_2 : decode cJ0_checkBoundsBeginEnd_23922 2 = .ok (.iload_n 2, 1) := dg dtJ0_checkBoundsBeginEnd_23922_0_ok 2 rfl
theorem dJ0_checkBoundsBeginEnd_23922_3 : decode cJ0_checkBoundsBeginEnd_23922 3 = .ok (.getstatic 1053, 3) := dg dtJ0_checkBoundsBeginEnd_23922_0_ok 3 rfl
theorem dJ0_checkBoundsBeginEnd_23922_6 : decode cJ0_checkBoundsBeginEnd_23922 6 = .ok (.invokestatic 1062, 3) := dg dtJ0_checkBoundsBeginEnd_23922_0_ok 4 rfl
theorem dJ0_checkBoundsBeginEnd_23922_9 : decode cJ0_checkBoundsBeginEnd_23922 9 = .ok (.pop, 1) := dg dtJ0_checkBoundsBeginEnd_23922_0_ok 5 rfl
theorem dJ0_checkBoundsBeginEnd_23922_10 : decode cJ0_checkBoundsBeginEnd_23922 10 = .ok (.return_, 1) := dg dtJ0_checkBoundsBeginEnd_23922_0_ok 6 rfl
def dtJ4_init_da8c8_0 : List (Nat × Instr × Nat) := [(0, .aload_n 0, 1), (1, .bipush 16, 2), (3, .invokespecial 1, 3), (6, .return_, 1)]
theorem dtJ4_init_da8c8_0_ok : ∀ q ∈ dtJ4_init_da8c8_0, decode cJ4_init_da8c8 q.1 = .ok q.2 := by decide +kernel
theorem dJ4_init_da8c8_0 : decode cJ4_init_da8c8 0 = .ok (.aload_n 0, 1) := dg dtJ4_init_da8c8_0_ok 0 rfl
theorem dJ4_init_da8c8_1 : decode cJ4_init_da8c8 1 = .ok (.bipush 16, 2) := dg dtJ4_init_da8c8_0_ok 1 rfl
theorem dJ4_init_da8c8_3 : decode cJ4_init_da8c8 3 = .ok (.invokespecial 1, 3) := dg dtJ4_init_da8c8_0_ok 2 rfl
theorem dJ4_init_da8c8_6 : decode cJ4_init_da8c8 6 = .ok (.return_, 1) := dg dtJ4_init_da8c8_0_ok 3 rfl
def dtJ4_append_cf468_0 : List (Nat × Instr × Nat) := [(0, .aload_n 0, 1), (1, .iload_n 1, 1), (2, .invokespecial 50, 3), (5, .pop, 1), (6, .aload_n 0, 1), (7, .areturn, 1)]
theorem dtJ4_append_cf468_0_ok : ∀ q ∈ dtJ4_append_cf468_0, decode cJ4_append_cf468 q.1 = .ok q.2 := by decide +kernel
theorem dJ4_append_cf468_0 : decode cJ4_append_cf468 0 = .ok (.aload_n 0, 1) := dg dtJ4_append_cf468_0_ok 0 rfl
theorem dJ4_append_cf468_1 : decode cJ4_append_cf468 1 = .ok (.iload_n 1, 1) := dg dtJ4_append_cf468_0_ok 1 rfl
theorem dJ4_append_cf468_2 : decode cJ4_append_cf468 2 = .ok (.invokespecial 50, 3) := dg dtJ4_append_cf468_0_ok 2 rfl
theorem dJ4_append_cf468_5 : decode cJ4_append_cf468 5 = .ok (.pop, 1) := dg dtJ4_append_cf468_0_ok 3 rfl
theorem dJ4_append_cf468_6 : decode cJ4_append_cf468 6 = .ok (.aload_n 0, 1) := dg dtJ4_append_cf468_0_ok 4 rfl
theorem dJ4_append_cf468_7 : decode cJ4_append_cf468 7 = .ok (.areturn, 1) := dg dtJ4_append_cf468_0_ok 5 rfl
def dtJ4_append_bf812_0 : List (Nat × Instr × Nat) := [(0, .aload_n 0, 1), (1, .iload_n 1, 1), (2, .invokespecial 53, 3), (5, .pop, 1), (6, .aload_n 0, 1), (7, .areturn, 1)]
theorem dtJ4_append_bf812_0_ok : ∀ q ∈ dtJ4_append_bf812_0, decode cJ4_append_bf812 q.1 = .ok q.2 := by decide +kernel
theorem dJ4_append_bf812_0 : decode cJ4_append_bf812 0 = .ok (.aload_n 0, 1) := dg dtJ4_append_bf812_0_ok 0 rfl
theorem dJ4_append_bf812_1 : decode cJ4_append_bf812 1 = .ok (.iload_n 1, 1) := dg dtJ4_append_bf812_0_ok 1 rfl
theorem dJ4_append_bf812_2 : decode cJ4_append_bf812 2 = .ok (.invokespecial 53, 3) := dg dtJ4_append_bf812_0_ok 2 rfl
theorem dJ4_append_bf812_5 : decode cJ4_append_bf812 5 = .ok (.pop, 1) := dg dtJ4_append_bf812_0_ok 3 rfl
theorem dJ4_append_bf812_6 : decode cJ4_append_bf812 6 = .ok (.aload_n 0, 1) := dg dtJ4_append_bf812_0_ok 4 rfl
theorem dJ4_append_bf812_7 : decode cJ4_append_bf812 7 = .ok (.areturn, 1) := dg dtJ4_append_bf812_0_ok 5 rfl
def dtJ4_charAt_5068e_0 : List (Nat × Instr × Nat) := [(0, .aload_n 0, 1), (1, .iload_n 1, 1), (2, .invokespecial 329, 3), (5, .ireturn, 1)]
theorem dtJ4_charAt_5068e_0_ok : ∀ q ∈ dtJ4_charAt_5068e_0, decode cJ4_charAt_5068e q.1 = .ok q.2 := by decide +kernel
theorem dJ4_charAt_5068e_0 : decode cJ4_charAt_5068e 0 = .ok (.aload_n 0, 1) := dg dtJ4_charAt_5068e_0_ok 0 rfl
theorem dJ4_charAt_5068e_1 : decode cJ4_charAt_5068e 1 = .ok (.iload_n 1, 1) := dg dtJ4_charAt_5068e_0_ok 1 rfl
theorem dJ4_charAt_5068e_2 : decode cJ4_charAt_5068e 2 = .ok (.invokespecial 329, 3) := dg dtJ4_charAt_5068e_0_ok 2 rfl
theorem dJ4_charAt_5068e_5 : decode cJ4_charAt_5068e 5 = .ok (.ireturn, 1) := dg dtJ4_charAt_5068e_0_ok 3 rfl
def dtJ4_setLength_d00df_0 : List (Nat × Instr × Nat) := [(0, .aload_n 0, 1), (1, .iload_n 1, 1), (2, .invokespecial 333, 3), (5, .return_, 1)]
theorem dtJ4_setLength_d00df_0_ok : ∀ q ∈ dtJ4_setLength_d00df_0, decode cJ4_setLength_d00df q.1 = .ok q.2 := by decide +kernel
theorem dJ4_setLength_d00df_0 : decode cJ4_setLength_d00df 0 = .ok (.aload_n 0, 1) := dg dtJ4_setLength_d00df_0_ok 0 rfl
theorem dJ4_setLength_d00df_1 : decode cJ4_setLength_d00df 1 = .ok (.iload_n 1, 1) := dg dtJ4_setLength_d00df_0_ok 1 rfl
theorem dJ4_setLength_d00df_2 : decode cJ4_setLength_d00df 2 = .ok (.invokespecial 333, 3) := dg dtJ4_setLength_d00df_0_ok 2 rfl
theorem dJ4_setLength_d00df_5 : decode cJ4_setLength_d00df 5 = .ok (.return_, 1) := dg dtJ4_setLength_d00df_0_ok 3 rfl
def dtJ4_length_8abf5_0 : List (Nat × Instr × Nat) := [(0, .aload_n 0, 1), (1, .invokespecial 343, 3), (4, .ireturn, 1)]
theorem dtJ4_length_8abf5_0_ok : ∀ q ∈ dtJ4_length_8abf5_0, decode cJ4_length_8abf5 q.1 = .ok q.2 := by decide +kernel
theorem dJ4_length_8abf5_0 : decode cJ4_length_8abf5 0 = .ok (.aload_n 0, 1) := dg dtJ4_length_8abf5_0_ok 0 rfl
theorem dJ4_length_8abf5_1 : decode cJ4_length_8abf5 1 = .ok (.invokespecial 343, 3) := dg dtJ4_length_8abf5_0_ok 1 rfl
theorem dJ4_length_8abf5_4 : decode cJ4_length_8abf5 4 = .ok (.ireturn, 1) := dg dtJ4_length_8abf5_0_ok 2 rfl
def dtJ1_charAt_3b067_0 : List (Nat × Instr × Nat) := [(0, .iload_n 1, 1), (1, .aload_n 0, 1), (2, .arraylength, 1), (3, .invokestatic 9, 3), (6, .aload_n 0, 1), (7, .iload_n 1, 1), (8, .baload, 1), (9, .sipush 255, 3), (12, .iand, 1), (13, .i2c, 1), (14, .ireturn, 1)]
theorem dtJ1_charAt_3b067_0_ok : ∀ q ∈ dtJ1_charAt_3b067_0, decode cJ1_charAt_3b067 q.1 = .ok q.2 := by decide +kernel
theorem dJ1_charAt_3b067_0 : decode cJ1_charAt_3b067 0 = .ok (.iload_n 1, 1) := dg dtJ1_charAt_3b067_0_ok 0 rfl
theorem dJ1_charAt_3b067_1 : decode cJ1_charAt_3b067 1 = .ok (.aload_n 0, 1) := dg dtJ1_charAt_3b067_0_ok 1 rfl
theorem dJ1_charAt_3b067_2 : decode cJ1_charAt_3b067 2 = .ok (.arraylength, 1) := dg dtJ1_charAt_3b067_0_ok 2 rfl
theorem dJ1_charAt_3b067_3 : decode cJ1_charAt_3b067 3 = .ok (.invokestatic 9, 3) := dg dtJ1_charAt_3b067_0_ok 3 rfl
theorem dJ1_charAt_3b067_6 : decode cJ1_charAt_3b067 6 = .ok (.aload_n 0, 1) := dg dtJ1_charAt_3b067_0_ok 4 rfl
theorem dJ1_charAt_3b067_7 : decode cJ1_charAt_3b067 7 = .ok (.iload_n 1, 1) := dg dtJ1_charAt_3b067_0_ok 5 rfl
theorem dJ1_charAt_3b067_8 : decode cJ1_charAt_3b067 8 = .ok (.baload, 1) := dg dtJ1_charAt_3b067_0_ok 6 rfl
theorem dJ1_charAt_3b067_9 : decode cJ1_charAt_3b067 9 = .ok (.sipush 255, 3) := dg dtJ1_charAt_3b067_0_ok 7 rfl
theorem dJ1_charAt_3b067_12 : decode cJ1_charAt_3b067 12 = .ok (.iand, 1) := dg dtJ1_charAt_3b067_0_ok 8 rfl
theorem dJ1_charAt_3b067_13 : decode cJ1_charAt_3b067 13 = .ok (.i2c, 1) := dg dtJ1_charAt_3b067_0_ok 9 rfl
theorem dJ1_charAt_3b067_14 : decode cJ1_charAt_3b067 14 = .ok (.ireturn, 1) := dg dtJ1_charAt_3b067_0_ok 10 rfl
def dtJ1_canEncode_fc78d_0 : List (Nat × Instr × Nat) := [(0, .iload_n 0, 1), (1, .sipush 255, 3), (4, .if_icmp .gt 7, 3), (7, .iconst 1, 1), (8, .goto 4, 3), (11, .iconst 0, 1), (12, .ireturn, 1)]
theorem dtJ1_canEncode_fc78d_0_ok : ∀ q ∈ dtJ1_canEncode_fc78d_0, decode cJ1_canEncode_fc78d q.1 = .ok q.2 := by decide +kernel
theorem dJ1_canEncode_fc78d_0 : decode cJ1_canEncode_fc78d 0 = .ok (.iload_n 0, 1) := dg dtJ1_canEncode_fc78d_0_ok 0 rfl
theorem dJ1_canEncode_fc78d_1 : decode cJ1_canEncode_fc78d 1 = .ok (.sipush 255, 3) := dg dtJ1_canEncode_fc78d_0_ok 1 rfl
theorem dJ1_canEncode_fc78d_4 : decode cJ1_canEncode_fc78d 4 = .ok (.if_icmp .gt 7, 3) := dg dtJ1_canEncode_fc78d_0_ok 2 rfl
theorem dJ1_canEncode_fc78d_7 : decode cJ1_canEncode_fc78d 7 = .ok (.iconst 1, 1) := dg dtJ1_canEncode_fc78d_0_ok 3 rfl
theorem dJ1_canEncode_fc78d_8 : decode cJ1_canEncode_fc78d 8 = .ok (.goto 4, 3) := dg dtJ1_canEncode_fc78d_0_ok 4 rfl
theorem dJ1_canEncode_fc78d_11 : decode cJ1_canEncode_fc78d 11 = .ok (.iconst 0, 1) := dg dtJ1_canEncode_fc78d_0_ok 5 rfl
theorem dJ1_canEncode_fc78d_12 : decode cJ1_canEncode_fc78d 12 = .ok (.ireturn, 1) := dg dtJ1_canEncode_fc78d_0_ok 6 rfl
def dtJ1_fillNull_b72d1_0 : List (Nat × Instr × Nat) := [(0, .aload_n 0, 1), (1, .iload_n 1, 1), (2, .iload_n 2, 1), (3, .iconst 0, 1), (4, .invokestatic 236, 3), (7, .return_, 1)]
theorem dtJ1_fillNull_b72d1_0_ok : ∀ q ∈ dtJ1_fillNull_b72d1_0, decode cJ1_fillNull_b72d1 q.1 = .ok q.2 := by decide +kernel
theorem dJ1_fillNull_b72d1_0 : decode cJ1_fillNull_b72d1 0 = .ok (.aload_n 0, 1) := dg dtJ1_fillNull_b72d1_0_ok 0 rfl
theorem dJ1_fillNull_b72d1_1 : decode cJ1_fillNull_b72d1 1 = .ok (.iload_n 1, 1) := dg dtJ1_fillNull_b72d1_0_ok 1 rfl
theorem dJ1_fillNull_b72d1_2 : decode cJ1_fillNull_b72d1 2 = .ok (.iload_n 2, 1) := dg dtJ1_fillNull_b72d1_0_ok 2 rfl
theorem dJ1_fillNull_b72d1_3 : decode cJ1_fillNull_b72d1 3 = .ok (.iconst 0, 1) := dg dtJ1_fillNull_b72d1_0_ok 3 rfl
theorem dJ1_fillNull_b72d1_4 : decode cJ1_fillNull_b72d1 4 = .ok (.invokestatic 236, 3) := dg dtJ1_fillNull_b72d1_0_ok 4 rfl
theorem dJ1_fillNull_b72d1_7 : decode cJ1_fillNull_b72d1 7 = .ok (.return_, 1) := dg dtJ1_fillNull_b72d1_0_ok 5 rfl
def dtJ1_inflate_0e8fd_0 : List (Nat × Instr × Nat) := [(0, .aload_n 0, 1), (1, .iload_n 1, 1), (2, .aload_n 2, 1), (3, .iload_n 3, 1), (4, .iload 4, 2), (6, .invokestatic 240, 3), (9, .return_, 1)]
theorem dtJ1_inflate_0e8fd_0_ok : ∀ q ∈ dtJ1_inflate_0e8fd_0, decode cJ1_inflate_0e8fd q.1 = .ok q.2 := by decide +kernel
theorem dJ1_inflate_0e8fd_0 : decode cJ1_inflate_0e8fd 0 = .ok (.aload_n 0, 1) := dg dtJ1_inflate_0e8fd_0_ok 0 rfl
theorem dJ1_inflate_0e8fd_1 : decode cJ1_inflate_0e8fd 1 = .ok (.iload_n 1, 1) := dg dtJ1_inflate_0e8fd_0_ok 1 rfl
theorem dJ1_inflate_0e8fd_2 : decode cJ1_inflate_0e8fd 2 = .ok (.aload_n 2, 1) := dg dtJ1_inflate_0e8fd_0_ok 2 rfl
theorem dJ1_inflate_0e8fd_3 : decode cJ1_inflate_0e8fd 3 = .ok (.iload_n 3, 1) := dg dtJ1_inflate_0e8fd_0_ok 3 rfl
theorem dJ1_inflate_0e8fd_4 : decode cJ1_inflate_0e8fd 4 = .ok (.iload 4, 2) := dg dtJ1_inflate_0e8fd_0_ok 4 rfl
theorem dJ1_inflate_0e8fd_6 : decode cJ1_inflate_0e8fd 6 = .ok (.invokestatic 240, 3) := dg dtJ1_inflate_0e8fd_0_ok 5 rfl
theorem dJ1_inflate_0e8fd_9 : decode cJ1_inflate_0e8fd 9 = .ok (.return_, 1) := dg dtJ1_inflate_0e8fd_0_ok 6 rfl
def dtJ7_rangeCheck_23922_0 : List (Nat × Instr × Nat) := [(0, .iload_n 1, 1), (1, .iload_n 2, 1), (2, .if_icmp .le 44, 3), (5, .new 43, 3), (8, .dup, 1), (9, .new 45, 3), (12, .dup, 1), (13, .invokespecial 47, 3), (16, .ldc 48, 2), (18, .invokevirtual 50, 3), (21, .iload_n 1, 1), (22, .invokevirtual 54, 3), (25, .ldc 57, 2), (27, .invokevirtual 50, 3), (30, .iload_n 2, 1), (31, .invokevirtual 54, 3), (34, .ldc 59, 2), (36, .invokevirtual 50, 3), (39, .invokevirtual 61, 3), (42, .invokespecial 65, 3), (45, .athrow, 1), (46, .iload_n 1, 1), (47, .ifCond .ge 12, 3), (50, .new 68, 3), (53, .dup, 1), (54, .iload_n 1, 1), (55, .invokespecial 70, 3), (58, .athrow, 1), (59, .iload_n 2, 1), (60, .iload_n 0, 1), (61, .if_icmp .le 12, 3), (64, .new 68, 3), (67, .dup, 1), (68, .iload_n 2, 1), (69, .invokespecial 70, 3), (72, .athrow, 1), (73, .return_, 1)]
theorem dtJ7_rangeCheck_23922_0_ok : ∀ q ∈ dtJ7_rangeCheck_23922_0, decode cJ7_rangeCheck_23922 q.1 = .ok q.2 := by decide +kernel
theorem dJ7_rangeCheck_23922_0 : decode cJ7_rangeCheck_23922 0 = .ok (.iload_n 1, 1) := dg dtJ7_rangeCheck_23922_0_ok 0 rfl
theorem dJ7_rangeCheck_23922_1 : decode cJ7_rangeCheck_23922 1 = .ok (.iload_n 2, 1) := dg dtJ7_rangeCheck_23922_0_ok 1 rfl
theorem dJ7_rangeCheck_23922_2 : decode cJ7_rangeCheck_23922 2 = .ok (.if_icmp .le 44, 3) := dg dtJ7_rangeCheck_23922_0_ok 2 rfl
theorem dJ7_rangeCheck_23922_5 : decode cJ7_rangeCheck_23922 5 = .ok (.new 43, 3) := dg dtJ7_rangeCheck_23922_0_ok 3 rfl
theorem dJ7_rangeCheck_23922_8 : decode cJ7_rangeCheck_23922 8 = .ok (.dup, 1) := dg dtJ7_rangeCheck_23922_0_ok 4 rfl
theorem dJ7_rangeCheck_23922_9 : decode cJ7_rangeCheck_23922 9 = .ok (.new 45, 3) := dg dtJ7_rangeCheck_23922_0_ok 5 rfl
theorem dJ7_rangeCheck_23922_12 : decode cJ7_rangeCheck_23922 12 = .ok (.dup, 1) := dg dtJ7_rangeCheck_23922_0_ok 6 rfl
theorem dJ7_rangeCheck_23922_13 : decode cJ7_rangeCheck_23922 13 = .ok (.invokespecial 47, 3) := dg dtJ7_rangeCheck_23922_0_ok 7 rfl
theorem dJ7_rangeCheck_23922_16 : decode cJ7_rangeCheck_23922 16 = .ok (.ldc 48, 2) := dg dtJ7_rangeCheck_23922_0_ok 8 rfl
theorem dJ7_rangeCheck_23922_18 : decode cJ7_rangeCheck_23922 18 = .ok (.invokevirtual 50, 3) := dg dtJ7_rangeCheck_23922_0_ok 9 rfl
theorem dJ7_rangeCheck_23922_21 : decode cJ7_rangeCheck_23922 21 = .ok (.iload_n 1, 1) := dg dtJ7_rangeCheck_23922_0_ok 10 rfl
theorem dJ7_rangeCheck_23922_22 : decode cJ7_rangeCheck_23922 22 = .ok (.invokevirtual 54, 3) := dg dtJ7_rangeCheck_23922_0_ok 11 rfl
theorem dJ7_rangeCheck_23922_25 : decode cJ7_rangeCheck_23922 25 = .ok (.ldc 57, 2) := dg dtJ7_rangeCheck_23922_0_ok 12 rfl
theorem dJ7_rangeCheck_23922_27 : decode cJ7_rangeCheck_23922 27 = .ok (.invokevirtual 50, 3) := dg dtJ7_rangeCheck_23922_0_ok 13 rfl
theorem dJ7_rangeCheck_23922_30 : decode cJ7_rangeCheck_23922 30 = .ok (.iload_n 2, 1) := dg dtJ7_rangeCheck_23922_0_ok 14 rfl
theorem dJ7_rangeCheck_23922_31 : decode cJ7_rangeCheck_23922 31 = .ok (.invokevirtual 54, 3) := dg dtJ7_rangeCheck_23922_0_ok 15 rfl
theorem dJ7_rangeCheck_23922_34 : decode cJ7_rangeCheck_23922 34 = .ok (.ldc 59, 2) := dg dtJ7_rangeCheck_23922_0_ok 16 rfl
theorem dJ7_rangeCheck_23922_36 : decode cJ7_rangeCheck_23922 36 = .ok (.invokevirtual 50, 3) := dg dtJ7_rangeCheck_23922_0_ok 17 rfl
theorem dJ7_rangeCheck_23922_39 : decode cJ7_rangeCheck_23922 39 = .ok (.invokevirtual 61, 3) := dg dtJ7_rangeCheck_23922_0_ok 18 rfl
theorem dJ7_rangeCheck_23922_42 : decode cJ7_rangeCheck_23922 42 = .ok (.invokespecial 65, 3) := dg dtJ7_rangeCheck_23922_0_ok 19 rfl
theorem dJ7_rangeCheck_23922_45 : decode cJ7_rangeCheck_23922 45 = .ok (.athrow, 1) := dg dtJ7_rangeCheck_23922_0_ok 20 rfl
theorem dJ7_rangeCheck_23922_46 : decode cJ7_rangeCheck_23922 46 = .ok (.iload_n 1, 1) := dg dtJ7_rangeCheck_23922_0_ok 21 rfl
theorem dJ7_rangeCheck_23922_47 : decode cJ7_rangeCheck_23922 47 = .ok (.ifCond .ge 12, 3) := dg dtJ7_rangeCheck_23922_0_ok 22 rfl
theorem dJ7_rangeCheck_23922_50 : decode cJ7_rangeCheck_23922 50 = .ok (.new 68, 3) := dg dtJ7_rangeCheck_23922_0_ok 23 rfl
theorem dJ7_rangeCheck_23922_53 : decode cJ7_rangeCheck_23922 53 = .ok (.dup, 1) := dg dtJ7_rangeCheck_23922_0_ok 24 rfl
theorem dJ7_rangeCheck_23922_54 : decode cJ7_rangeCheck_23922 54 = .ok (.iload_n 1, 1) := dg dtJ7_rangeCheck_23922_0_ok 25 rfl
theorem dJ7_rangeCheck_23922_55 : decode cJ7_rangeCheck_23922 55 = .ok (.invokespecial 70, 3) := dg dtJ7_rangeCheck_23922_0_ok 26 rfl
theorem dJ7_rangeCheck_23922_58 : decode cJ7_rangeCheck_23922 58 = .ok (.athrow, 1) := dg dtJ7_rangeCheck_23922_0_ok 27 rfl
theorem dJ7_rangeCheck_23922_59 : decode cJ7_rangeCheck_23922 59 = .ok (.iload_n 2, 1) := dg dtJ7_rangeCheck_23922_0_ok 28 rfl
theorem dJ7_rangeCheck_23922_60 : decode cJ7_rangeCheck_23922 60 = .ok (.iload_n 0, 1) := dg dtJ7_rangeCheck_23922_0_ok 29 rfl
theorem dJ7_rangeCheck_23922_61 : decode cJ7_rangeCheck_23922 61 = .ok (.if_icmp .le 12, 3) := dg dtJ7_rangeCheck_23922_0_ok 30 rfl
theorem dJ7_rangeCheck_23922_64 : decode cJ7_rangeCheck_23922 64 = .ok (.new 68, 3) := dg dtJ7_rangeCheck_23922_0_ok 31 rfl
theorem dJ7_rangeCheck_23922_67 : decode cJ7_rangeCheck_23922 67 = .ok (.dup, 1) := dg dtJ7_rangeCheck_23922_0_ok 32 rfl
theorem dJ7_rangeCheck_23922_68 : decode cJ7_rangeCheck_23922 68 = .ok (.iload_n 2, 1) := dg dtJ7_rangeCheck_23922_0_ok 33 rfl
theorem dJ7_rangeCheck_23922_69 : decode cJ7_rangeCheck_23922 69 = .ok (.invokespecial 70, 3) := dg dtJ7_rangeCheck_23922_0_ok 34 rfl
theorem dJ7_rangeCheck_23922_72 : decode cJ7_rangeCheck_23922 72 = .ok (.athrow, 1) := dg dtJ7_rangeCheck_23922_0_ok 35 rfl
theorem dJ7_rangeCheck_23922_73 : decode cJ7_rangeCheck_23922 73 = .ok (.return_, 1) := dg dtJ7_rangeCheck_23922_0_ok 36 rfl
def dtJ7_fill_eb02e_0 : List (Nat × Instr × Nat) := [(0, .aload_n 0, 1), (1, .arraylength, 1), (2, .iload_n 1, 1), (3, .iload_n 2, 1), (4, .invokestatic 13, 3), (7, .iload_n 1, 1), (8, .istore 4, 2), (10, .iload 4, 2), (12, .iload_n 2, 1), (13, .if_icmp .ge 14, 3), (16, .aload_n 0, 1), (17, .iload 4, 2), (19, .iload_n 3, 1), (20, .bastore, 1), (21, .iinc 4 1, 3), (24, .goto (-14), 3), (27, .return_, 1)]
theorem dtJ7_fill_eb02e_0_ok : ∀ q ∈ dtJ7_fill_eb02e_0, decode cJ7_fill_eb02e q.1 = .ok q.2 := by decide +kernel
theorem dJ7_fill_eb02e_0 : decode cJ7_fill_eb02e 0 = .ok (.aload_n 0, 1) := dg dtJ7_fill_eb02e_0_ok 0 rfl
theorem dJ7_fill_eb02e_1 : decode cJ7_fill_eb02e 1 = .ok (.arraylength, 1) := dg dtJ7_fill_eb02e_0_ok 1 rfl
theorem dJ7_fill_eb02e_2 : decode cJ7_fill_eb02e 2 = .ok (.iload_n 1, 1) := dg dtJ7_fill_eb02e_0_ok 2 rfl
theorem dJ7_fill_eb02e_3 : decode cJ7_fill_eb02e 3 = .ok (.iload_n 2, 1) := dg dtJ7_fill_eb02e_0_ok 3 rfl
theorem dJ7_fill_eb02e_4 : decode cJ7_fill_eb02e 4 = .ok (.invokestatic 13, 3) := dg dtJ7_fill_eb02e_0_ok 4 rfl
theorem dJ7_fill_eb02e_7 : decode cJ7_fill_eb02e 7 = .ok (.iload_n 1, 1) := dg dtJ7_fill_eb02e_0_ok 5 rfl
theorem dJ7_fill_eb02e_8 : decode cJ7_fill_eb02e 8 = .ok (.istore 4, 2) := dg dtJ7_fill_eb02e_0_ok 6 rfl
theorem dJ7_fill_eb02e_10 : decode cJ7_fill_eb02e 10 = .ok (.iload 4, 2) := dg dtJ7_fill_eb02e_0_ok 7 rfl
theorem dJ7_fill_eb02e_12 : decode cJ7_fill_eb02e 12 = .ok (.iload_n 2, 1) := dg dtJ7_fill_eb02e_0_ok 8 rfl
theorem dJ7_fill_eb02e_13 : decode cJ7_fill_eb02e 13 = .ok (.if_icmp .ge 14, 3) := dg dtJ7_fill_eb02e_0_ok 9 rfl
theorem dJ7_fill_eb02e_16 : decode cJ7_fill_eb02e 16 = .ok (.aload_n 0, 1) := dg dtJ7_fill_eb02e_0_ok 10 rfl
theorem dJ7_fill_eb02e_17 : decode cJ7_fill_eb02e 17 = .ok (.iload 4, 2) := dg dtJ7_fill_eb02e_0_ok 11 rfl
theorem dJ7_fill_eb02e_19 : decode cJ7_fill_eb02e 19 = .ok (.iload_n 3, 1) := dg dtJ7_fill_eb02e_0_ok 12 rfl
theorem dJ7_fill_eb02e_20 : decode cJ7_fill_eb02e 20 = .ok (.bastore, 1) := dg dtJ7_fill_eb02e_0_ok 13 rfl
theorem dJ7_fill_eb02e_21 : decode cJ7_fill_eb02e 21 = .ok (.iinc 4 1, 3) := dg dtJ7_fill_eb02e_0_ok 14 rfl
theorem dJ7_fill_eb02e_24 : decode cJ7_fill_eb02e 24 = .ok (.goto (-14), 3) := dg dtJ7_fill_eb02e_0_ok 15 rfl
theorem dJ7_fill_eb02e_27 : decode cJ7_fill_eb02e 27 = .ok (.return_, 1) := dg dtJ7_fill_eb02e_0_ok 16 rfl
def dtJ7_copyOf_9075b_0 : List (Nat × Instr × Nat) := [(0, .iload_n 1, 1), (1, .aload_n 0, 1), (2, .arraylength, 1), (3, .if_icmp .ne 11, 3), (6, .aload_n 0, 1), (7, .invokevirtual 310, 3), (10, .checkcast 311, 3), (13, .areturn, 1), (14, .iload_n 1, 1), (15, .newarray .byte, 2), (17, .astore_n 2, 1), (18, .aload_n 0, 1), (19, .iconst 0, 1), (20, .aload_n 2, 1), (21, .iconst 0, 1), (22, .aload_n 0, 1), (23, .arraylength, 1), (24, .iload_n 1, 1), (25, .invokestatic 304, 3), (28, .invokestatic 150, 3), (31, .aload_n 2, 1), (32, .areturn, 1)]
theorem dtJ7_copyOf_9075b_0_ok : ∀ q ∈ dtJ7_copyOf_9075b_0, decode cJ7_copyOf_9075b q.1 = .ok q.2 := by decide +kernel
theorem dJ7_copyOf_9075b_0 : decode cJ7_copyOf_9075b 0 = .ok (.iload_n 1, 1) := dg dtJ7_copyOf_9075b_0_ok 0 rfl
theorem dJ7_copyOf_9075b_1 : decode cJ7_copyOf_9075b 1 = .ok (.aload_n 0, 1) := dg dtJ7_copyOf_9075b_0_ok 1 rfl
theorem dJ7_copyOf_9075b_2 : decode cJ7_copyOf_9075b 2 = .ok (.arraylength, 1) := dg dtJ7_copyOf_9075b_0_ok 2 rfl
theorem dJ7_copyOf_9075b_3 : decode cJ7_copyOf_9075b 3 = .ok (.if_icmp .ne 11, 3) := dg dtJ7_copyOf_9075b_0_ok 3 rfl
theorem dJ7_copyOf_9075b_6 : decode cJ7_copyOf_9075b 6 = .ok (.aload_n 0, 1) := dg dtJ7_copyOf_9075b_0_ok 4 rfl
theorem dJ7_copyOf_9075b_7 : decode cJ7_copyOf_9075b 7 = .ok (.invokevirtual 310, 3) := dg dtJ7_copyOf_9075b_0_ok 5 rfl
theorem dJ7_copyOf_9075b_10 : decode cJ7_copyOf_9075b 10 = .ok (.checkcast 311, 3) := dg dtJ7_copyOf_9075b_0_ok 6 rfl
theorem dJ7_copyOf_9075b_13 : decode cJ7_copyOf_9075b 13 = .ok (.areturn, 1) := dg dtJ7_copyOf_9075b_0_ok 7 rfl
theorem dJ7_copyOf_9075b_14 : decode cJ7_copyOf_9075b 14 = .ok (.iload_n 1, 1) := dg dtJ7_copyOf_9075b_0_ok 8 rfl
theorem dJ7_copyOf_9075b_15 : decode cJ7_copyOf_9075b 15 = .ok (.newarray .byte, 2) := dg dtJ7_copyOf_9075b_0_ok 9 rfl
theorem dJ7_copyOf_9075b_17 : decode cJ7_copyOf_9075b 17 = .ok (.astore_n 2, 1) := dg dtJ7_copyOf_9075b_0_ok 10 rfl
theorem dJ7_copyOf_9075b_18 : decode cJ7_copyOf_9075b 18 = .ok (.aload_n 0, 1) := dg dtJ7_copyOf_9075b_0_ok 11 rfl
theorem dJ7_copyOf_9075b_19 : decode cJ7_copyOf_9075b 19 = .ok (.iconst 0, 1) := dg dtJ7_copyOf_9075b_0_ok 12 rfl
theorem dJ7_copyOf_9075b_20 : decode cJ7_copyOf_9075b 20 = .ok (.aload_n 2, 1) := dg dtJ7_copyOf_9075b_0_ok 13 rfl
theorem dJ7_copyOf_9075b_21 : decode cJ7_copyOf_9075b 21 = .ok (.iconst 0, 1) := dg dtJ7_copyOf_9075b_0_ok 14 rfl
theorem dJ7_copyOf_9075b_22 : decode cJ7_copyOf_9075b 22 = .ok (.aload_n 0, 1) := dg dtJ7_copyOf_9075b_0_ok 15 rfl
theorem dJ7_copyOf_9075b_23 : decode cJ7_copyOf_9075b 23 = .ok (.arraylength, 1) := dg dtJ7_copyOf_9075b_0_ok 16 rfl
theorem dJ7_copyOf_9075b_24 : decode cJ7_copyOf_9075b 24 = .ok (.iload_n 1, 1) := dg dtJ7_copyOf_9075b_0_ok 17 rfl
theorem dJ7_copyOf_9075b_25 : decode cJ7_copyOf_9075b 25 = .ok (.invokestatic 304, 3) := dg dtJ7_copyOf_9075b_0_ok 18 rfl
theorem dJ7_copyOf_9075b_28 : decode cJ7_copyOf_9075b 28 = .ok (.invokestatic 150, 3) := dg dtJ7_copyOf_9075b_0_ok 19 rfl
theorem dJ7_copyOf_9075b_31 : decode cJ7_copyOf_9075b 31 = .ok (.aload_n 2, 1) := dg dtJ7_copyOf_9075b_0_ok 20 rfl
theorem dJ7_copyOf_9075b_32 : decode cJ7_copyOf_9075b 32 = .ok (.areturn, 1) := dg dtJ7_copyOf_9075b_0_ok 21 rfl
def dtJ8_newLength_cabcc_0 : List (Nat × Instr × Nat) := [(0, .iload_n 0, 1), (1, .iload_n 1, 1), (2, .iload_n 2, 1), (3, .invokestatic 194, 3), (6, .iadd, 1), (7, .istore_n 3, 1), (8, .iconst 0, 1), (9, .iload_n 3, 1), (10, .if_icmp .ge 11, 3), (13, .iload_n 3, 1), (14, .ldc 200, 2), (16, .if_icmp .gt 5, 3), (19, .iload_n 3, 1), (20, .ireturn, 1), (21, .iload_n 0, 1), (22, .iload_n 1, 1), (23, .invokestatic 201, 3), (26, .ireturn, 1)]
theorem dtJ8_newLength_cabcc_0_ok : ∀ q ∈ dtJ8_newLength_cabcc_0, decode cJ8_newLength_cabcc q.1 = .ok q.2 := by decide +kernel
theorem dJ8_newLength_cabcc_0 : decode cJ8_newLength_cabcc 0 = .ok (.iload_n 0, 1) := dg dtJ8_newLength_cabcc_0_ok 0 rfl
theorem dJ8_newLength_cabcc_1 : decode cJ8_newLength_cabcc 1 = .ok (.iload_n 1, 1) := dg dtJ8_newLength_cabcc_0_ok 1 rfl
theorem dJ8_newLength_cabcc_2 : decode cJ8_newLength_cabcc 2 = .ok (.iload_n 2, 1) := dg dtJ8_newLength_cabcc_0_ok 2 rfl
theorem dJ8_newLength_cabcc_3 : decode cJ8_newLength_cabcc 3 = .ok (.invokestatic 194, 3) := dg dtJ8_newLength_cabcc_0_ok 3 rfl
theorem dJ8_newLength_cabcc_6 : decode cJ8_newLength_cabcc 6 = .ok (.iadd, 1) := dg dtJ8_newLength_cabcc_0_ok 4 rfl
theorem dJ8_newLength_cabcc_7 : decode cJ8_newLength_cabcc 7 = .ok (.istore_n 3, 1) := dg dtJ8_newLength_cabcc_0_ok 5 rfl
theorem dJ8_newLength_cabcc_8 : decode cJ8_newLength_cabcc 8 = .ok (.iconst 0, 1) := dg dtJ8_newLength_cabcc_0_ok 6 rfl
theorem dJ8_newLength_cabcc_9 : decode cJ8_newLength_cabcc 9 = .ok (.iload_n 3, 1) := dg dtJ8_newLength_cabcc_0_ok 7 rfl
theorem dJ8_newLength_cabcc_10 : decode cJ8_newLength_cabcc 10 = .ok (.if_icmp .ge 11, 3) := dg dtJ8_newLength_cabcc_0_ok 8 rfl
theorem dJ8_newLength_cabcc_13 : decode cJ8_newLength_cabcc 13 = .ok (.iload_n 3, 1) := dg dtJ8_newLength_cabcc_0_ok 9 rfl
theorem dJ8_newLength_cabcc_14 : decode cJ8_newLength_cabcc 14 = .ok (.ldc 200, 2) := dg dtJ8_newLength_cabcc_0_ok 10 rfl
theorem dJ8_newLength_cabcc_16 : decode cJ8_newLength_cabcc 16 = .ok (.if_icmp .gt 5, 3) := dg dtJ8_newLength_cabcc_0_ok 11 rfl
theorem dJ8_newLength_cabcc_19 : decode cJ8_newLength_cabcc 19 = .ok (.iload_n 3, 1) := dg dtJ8_newLength_cabcc_0_ok 12 rfl
theorem dJ8_newLength_cabcc_20 : decode cJ8_newLength_cabcc 20 = .ok (.ireturn, 1) := dg dtJ8_newLength_cabcc_0_ok 13 rfl
theorem dJ8_newLength_cabcc_21 : decode cJ8_newLength_cabcc 21 = .ok (.iload_n 0, 1) := dg dtJ8_newLength_cabcc_0_ok 14 rfl
theorem dJ8_newLength_cabcc_22 : decode cJ8_newLength_cabcc 22 = .ok (.iload_n 1, 1) := dg dtJ8_newLength_cabcc_0_ok 15 rfl
theorem dJ8_newLength_cabcc_23 : decode cJ8_newLength_cabcc 23 = .ok (.invokestatic 201, 3) := dg dtJ8_newLength_cabcc_0_ok 16 rfl
theorem dJ8_newLength_cabcc_26 : decode cJ8_newLength_cabcc 26 = .ok (.ireturn, 1) := dg dtJ8_newLength_cabcc_0_ok 17 rfl
def dtJ8_hugeLength_7cf53_0 : List (Nat × Instr × Nat) := [(0, .iload_n 0, 1), (1, .iload_n 1, 1), (2, .iadd, 1), (3, .istore_n 2, 1), (4, .iload_n 2, 1), (5, .ifCond .ge 44, 3), (8, .new 204, 3), (11, .dup, 1), (12, .new 89, 3), (15, .dup, 1), (16, .invokespecial 91, 3), (19, .ldc 206, 2), (21, .invokevirtual 94, 3), (24, .iload_n 0, 1), (25, .invokevirtual 98, 3), (28, .ldc 208, 2), (30, .invokevirtual 94, 3), (33, .iload_n 1, 1), (34, .invokevirtual 98, 3), (37, .ldc 210, 2), (39, .invokevirtual 94, 3), (42, .invokevirtual 101, 3), (45, .invokespecial 212, 3), (48, .athrow, 1), (49, .iload_n 2, 1), (50, .ldc 200, 2), (52, .if_icmp .gt 6, 3), (55, .ldc 200, 2), (57, .ireturn, 1), (58, .iload_n 2, 1), (59, .ireturn, 1)]
theorem dtJ8_hugeLength_7cf53_0_ok : ∀ q ∈ dtJ8_hugeLength_7cf53_0, decode cJ8_hugeLength_7cf53 q.1 = .ok q.2 := by decide +kernel
theorem dJ8_hugeLength_7cf53_0 : decode cJ8_hugeLength_7cf53 0 = .ok (.iload_n 0, 1) := dg dtJ8_hugeLength_7cf53_0_ok 0 rfl
theorem dJ8_hugeLength_7cf53_1 : decode cJ8_hugeLength_7cf53 1 = .ok (.iload_n 1, 1) := dg dtJ8_hugeLength_7cf53_0_ok 1 rfl
theorem dJ8_hugeLength_7cf53_2 : decode cJ8_hugeLength_7cf53 2 = .ok (.iadd, 1) := dg dtJ8_hugeLength_7cf53_0_ok 2 rfl
theorem dJ8_hugeLength_7cf53_3 : decode cJ8_hugeLength_7cf53 3 = .ok (.istore_n 2, 1) := dg dtJ8_hugeLength_7cf53_0_ok 3 rfl
theorem dJ8_hugeLength_7cf53_4 : decode cJ8_hugeLength_7cf53 4 = .ok (.iload_n 2, 1) := dg dtJ8_hugeLength_7cf53_0_ok 4 rfl
theorem dJ8_hugeLength_7cf53_5 : decode cJ8_hugeLength_7cf53 5 = .ok (.ifCond .ge 44, 3) := dg dtJ8_hugeLength_7cf53_0_ok 5 rfl
theorem dJ8_hugeLength_7cf53_8 : decode cJ8_hugeLength_7cf53 8 = .ok (.new 204, 3) := dg dtJ8_hugeLength_7cf53_0_ok 6 rfl
theorem dJ8_hugeLength_7cf53_11 : decode cJ8_hugeLength_7cf53 11 = .ok (.dup, 1) := dg dtJ8_hugeLength_7cf53_0_ok 7 rfl
theorem dJ8_hugeLength_7cf53_12 : decode cJ8_hugeLength_7cf53 12 = .ok (.new 89, 3) := dg dtJ8_hugeLength_7cf53_0_ok 8 rfl
theorem dJ8_hugeLength_7cf53_15 : decode cJ8_hugeLength_7cf53 15 = .ok (.dup, 1) := dg dtJ8_hugeLength_7cf53_0_ok 9 rfl
theorem dJ8_hugeLength_7cf53_16 : decode cJ8_hugeLength_7cf53 16 = .ok (.invokespecial 91, 3) := dg dtJ8_hugeLength_7cf53_0_ok 10 rfl
theorem dJ8_hugeLength_7cf53_19 : decode cJ8_hugeLength_7cf53 19 = .ok (.ldc 206, 2) := dg dtJ8_hugeLength_7cf53_0_ok 11 rfl
theorem dJ8_hugeLength_7cf53_21 : decode cJ8_hugeLength_7cf53 21 = .ok (.invokevirtual 94, 3) := dg dtJ8_hugeLength_7cf53_0_ok 12 rfl
theorem dJ8_hugeLength_7cf53_24 : decode cJ8_hugeLength_7cf53 24 = .ok (.iload_n 0, 1) := dg dtJ8_hugeLength_7cf53_0_ok 13 rfl
theorem dJ8_hugeLength_7cf53_25 : decode cJ8_hugeLength_7cf53 25 = .ok (.invokevirtual 98, 3) := dg dtJ8_hugeLength_7cf53_0_ok 14 rfl
theorem dJ8_hugeLength_7cf53_28 : decode cJ8_hugeLength_7cf53 28 = .ok (.ldc 208, 2) := dg dtJ8_hugeLength_7cf53_0_ok 15 rfl
theorem dJ8_hugeLength_7cf53_30 : decode cJ8_hugeLength_7cf53 30 = .ok (.invokevirtual 94, 3) := dg dtJ8_hugeLength_7cf53_0_ok 16 rfl
theorem dJ8_hugeLength_7cf53_33 : decode cJ8_hugeLength_7cf53 33 = .ok (.iload_n 1, 1) := dg dtJ8_hugeLength_7cf53_0_ok 17 rfl
theorem dJ8_hugeLength_7cf53_34 : decode cJ8_hugeLength_7cf53 34 = .ok (.invokevirtual 98, 3) := dg dtJ8_hugeLength_7cf53_0_ok 18 rfl
theorem dJ8_hugeLength_7cf53_37 : decode cJ8_hugeLength_7cf53 37 = .ok (.ldc 210, 2) := dg dtJ8_hugeLength_7cf53_0_ok 19 rfl
theorem dJ8_hugeLength_7cf53_39 : decode cJ8_hugeLength_7cf53 39 = .ok (.invokevirtual 94, 3) := dg dtJ8_hugeLength_7cf53_0_ok 20 rfl
theorem dJ8_hugeLength_7cf53_42 : decode cJ8_hugeLength_7cf53 42 = .ok (.invokevirtual 101, 3) := dg dtJ8_hugeLength_7cf53_0_ok 21 rfl
theorem dJ8_hugeLength_7cf53_45 : decode cJ8_hugeLength_7cf53 45 = .ok (.invokespecial 212, 3) := dg dtJ8_hugeLength_7cf53_0_ok 22 rfl
theorem dJ8_hugeLength_7cf53_48 : decode cJ8_hugeLength_7cf53 48 = .ok (.athrow, 1) := dg dtJ8_hugeLength_7cf53_0_ok 23 rfl
theorem dJ8_hugeLength_7cf53_49 : decode cJ8_hugeLength_7cf53 49 = .ok (.iload_n 2, 1) := dg dtJ8_hugeLength_7cf53_0_ok 24 rfl
theorem dJ8_hugeLength_7cf53_50 : decode cJ8_hugeLength_7cf53 50 = .ok (.ldc 200, 2) := dg dtJ8_hugeLength_7cf53_0_ok 25 rfl
theorem dJ8_hugeLength_7cf53_52 : decode cJ8_hugeLength_7cf53 52 = .ok (.if_icmp .gt 6, 3) := dg dtJ8_hugeLength_7cf53_0_ok 26 rfl
theorem dJ8_hugeLength_7cf53_55 : decode cJ8_hugeLength_7cf53 55 = .ok (.ldc 200, 2) := dg dtJ8_hugeLength_7cf53_0_ok 27 rfl
theorem dJ8_hugeLength_7cf53_57 : decode cJ8_hugeLength_7cf53 57 = .ok (.ireturn, 1) := dg dtJ8_hugeLength_7cf53_0_ok 28 rfl
theorem dJ8_hugeLength_7cf53_58 : decode cJ8_hugeLength_7cf53 58 = .ok (.iload_n 2, 1) := dg dtJ8_hugeLength_7cf53_0_ok 29 rfl
theorem dJ8_hugeLength_7cf53_59 : decode cJ8_hugeLength_7cf53 59 = .ok (.ireturn, 1) := dg dtJ8_hugeLength_7cf53_0_ok 30 rfl
def dtJ3_checkIndex_8e157_0 : List (Nat × Instr × Nat) := [(0, .iload_n 0, 1), (1, .ifCond .lt 8, 3), (4, .iload_n 0, 1), (5, .iload_n 1, 1), (6, .if_icmp .lt 10, 3), (9, .aload_n 2, 1), (10, .iload_n 0, 1), (11, .iload_n 1, 1), (12, .invokestatic 95, 3), (15, .athrow, 1), (16, .iload_n 0, 1), (17, .ireturn, 1)]
theorem dtJ3_checkIndex_8e157_0_ok : ∀ q ∈ dtJ3_checkIndex_8e157_0, decode cJ3_checkIndex_8e157 q.1 = .ok q.2 := by decide +kernel
theorem dJ3_checkIndex_8e157_0 : decode cJ3_checkIndex_8e157 0 = .ok (.iload_n 0, 1) := dg dtJ3_checkIndex_8e157_0_ok 0 rfl
theorem dJ3_checkIndex_8e157_1 : decode cJ3_checkIndex_8e157 1 = .ok (.ifCond .lt 8, 3) := dg dtJ3_checkIndex_8e157_0_ok 1 rfl
theorem dJ3_checkIndex_8e157_4 : decode cJ3_checkIndex_8e157 4 = .ok (.iload_n 0, 1) := dg dtJ3_checkIndex_8e157_0_ok 2 rfl
theorem dJ3_checkIndex_8e157_5 : decode cJ3_checkIndex_8e157 5 = .ok (.iload_n 1, 1) := dg dtJ3_checkIndex_8e157_0_ok 3 rfl
theorem dJ3_checkIndex_8e157_6 : decode cJ3_checkIndex_8e157 6 = .ok (.if_icmp .lt 10, 3) := dg dtJ3_checkIndex_8e157_0_ok 4 rfl
theorem dJ3_checkIndex_8e157_9 : decode cJ3_checkIndex_8e157 9 = .ok (.aload_n 2, 1) := dg dtJ3_checkIndex_8e157_0_ok 5 rfl
theorem dJ3_checkIndex_8e157_10 : decode cJ3_checkIndex_8e157 10 = .ok (.iload_n 0, 1) := dg dtJ3_checkIndex_8e157_0_ok 6 rfl
theorem dJ3_checkIndex_8e157_11 : decode cJ3_checkIndex_8e157 11 = .ok (.iload_n 1, 1) := dg dtJ3_checkIndex_8e157_0_ok 7 rfl
theorem dJ3_checkIndex_8e157_12 : decode cJ3_checkIndex_8e157 12 = .ok (.invokestatic 95, 3) := dg dtJ3_checkIndex_8e157_0_ok 8 rfl
theorem dJ3_checkIndex_8e157_15 : decode cJ3_checkIndex_8e157 15 = .ok (.athrow, 1) := dg dtJ3_checkIndex_8e157_0_ok 9 rfl
theorem dJ3_checkIndex_8e157_16 : decode cJ3_checkIndex_8e157 16 = .ok (.iload_n 0, 1) := dg dtJ3_checkIndex_8e157_0_ok 10 rfl
theorem dJ3_checkIndex_8e157_17 : decode cJ3_checkIndex_8e157 17 = .ok (.ireturn, 1) := dg dtJ3_checkIndex_8e157_0_ok 11 rfl
def dtJ3_checkFromToIndex_8c36e_0 : List (Nat × Instr × Nat) := [(0, .iload_n 0, 1), (1, .ifCond .lt 13, 3), (4, .iload_n 0, 1), (5, .iload_n 1, 1), (6, .if_icmp .gt 8, 3), (9, .iload_n 1, 1), (10, .iload_n 2, 1), (11, .if_icmp .le 11, 3), (14, .aload_n 3, 1), (15, .iload_n 0, 1), (16, .iload_n 1, 1), (17, .iload_n 2, 1), (18, .invokestatic 99, 3), (21, .athrow, 1), (22, .iload_n 0, 1), (23, .ireturn, 1)]
theorem dtJ3_checkFromToIndex_8c36e_0_ok : ∀ q ∈ dtJ3_checkFromToIndex_8c36e_0, decode cJ3_checkFromToIndex_8c36e q.1 = .ok q.2 := by decide +kernel
theorem dJ3_checkFromToIndex_8c36e_0 : decode cJ3_checkFromToIndex_8c36e 0 = .ok (.iload_n 0, 1) := dg dtJ3_checkFromToIndex_8c36e_0_ok 0 rfl
theorem dJ3_checkFromToIndex_8c36e_1 : decode cJ3_checkFromToIndex_8c36e 1 = .ok (.ifCond .lt 13, 3) := dg dtJ3_checkFromToIndex_8c36e_0_ok 1 rfl
theorem dJ3_checkFromToIndex_8c36e_4 : decode cJ3_checkFromToIndex_8c36e 4 = .ok (.iload_n 0, 1) := dg dtJ3_checkFromToIndex_8c36e_0_ok 2 rfl
theorem dJ3_checkFromToIndex_8c36e_5 : decode cJ3_checkFromToIndex_8c36e 5 = .ok (.iload_n 1, 1) := dg dtJ3_checkFromToIndex_8c36e_0_ok 3 rfl
theorem dJ3_checkFromToIndex_8c36e_6 : decode cJ3_checkFromToIndex_8c36e 6 = .ok (.if_icmp .gt 8, 3) := dg dtJ3_checkFromToIndex_8c36e_0_ok 4 rfl
theorem dJ3_checkFromToIndex_8c36e_9 : decode cJ3_checkFromToIndex_8c36e 9 = .ok (.iload_n 1, 1) := dg dtJ3_checkFromToIndex_8c36e_0_ok 5 rfl
theorem dJ3_checkFromToIndex_8c36e_10 : decode cJ3_checkFromToIndex_8c36e 10 = .ok (.iload_n 2, 1) := dg dtJ3_checkFromToIndex_8c36e_0_ok 6 rfl
theorem dJ3_checkFromToIndex_8c36e_11 : decode cJ3_checkFromToIndex_8c36e 11 = .ok (.if_icmp .le 11, 3) := dg dtJ3_checkFromToIndex_8c36e_0_ok 7 rfl
theorem dJ3_checkFromToIndex_8c36e_14 : decode cJ3_checkFromToIndex_8c36e 14 = .ok (.aload_n 3, 1) := dg dtJ3_checkFromToIndex_8c36e_0_ok 8 rfl
theorem dJ3_checkFromToIndex_8c36e_15 : decode cJ3_checkFromToIndex_8c36e 15 = .ok (.iload_n 0, 1) := dg dtJ3_checkFromToIndex_8c36e_0_ok 9 rfl
theorem dJ3_checkFromToIndex_8c36e_16 : decode cJ3_checkFromToIndex_8c36e 16 = .ok (.iload_n 1, 1) := dg dtJ3_checkFromToIndex_8c36e_0_ok 10 rfl
theorem dJ3_checkFromToIndex_8c36e_17 : decode cJ3_checkFromToIndex_8c36e 17 = .ok (.iload_n 2, 1) := dg dtJ3_checkFromToIndex_8c36e_0_ok 11 rfl
theorem dJ3_checkFromToIndex_8c36e_18 : decode cJ3_checkFromToIndex_8c36e 18 = .ok (.invokestatic 99, 3) := dg dtJ3_checkFromToIndex_8c36e_0_ok 12 rfl
theorem dJ3_checkFromToIndex_8c36e_21 : decode cJ3_checkFromToIndex_8c36e 21 = .ok (.athrow, 1) := dg dtJ3_checkFromToIndex_8c36e_0_ok 13 rfl
theorem dJ3_checkFromToIndex_8c36e_22 : decode cJ3_checkFromToIndex_8c36e 22 = .ok (.iload_n 0, 1) := dg dtJ3_checkFromToIndex_8c36e_0_ok 14 rfl
theorem dJ3_checkFromToIndex_8c36e_23 : decode cJ3_checkFromToIndex_8c36e 23 = .ok (.ireturn, 1) := dg dtJ3_checkFromToIndex_8c36e_0_ok 15 rfl
def dtJ3_checkFromIndexSize_8c36e_0 : List (Nat × Instr × Nat) := [(0, .iload_n 2, 1), (1, .iload_n 0, 1), (2, .ior, 1), (3, .iload_n 1, 1), (4, .ior, 1), (5, .ifCond .lt 10, 3), (8, .iload_n 1, 1), (9, .iload_n 2, 1), (10, .iload_n 0, 1), (11, .isub, 1), (12, .if_icmp .le 11, 3), (15, .aload_n 3, 1), (16, .iload_n 0, 1), (17, .iload_n 1, 1), (18, .iload_n 2, 1), (19, .invokestatic 103, 3), (22, .athrow, 1), (23, .iload_n 0, 1), (24, .ireturn, 1)]
theorem dtJ3_checkFromIndexSize_8c36e_0_ok : ∀ q ∈ dtJ3_checkFromIndexSize_8c36e_0, decode cJ3_checkFromIndexSize_8c36e q.1 = .ok q.2 := by decide +kernel
theorem dJ3_checkFromIndexSize_8c36e_0 : decode cJ3_checkFromIndexSize_8c36e 0 = .ok (.iload_n 2, 1) := dg dtJ3_checkFromIndexSize_8c36e_0_ok 0 rfl
theorem dJ3_checkFromIndexSize_8c36e_1 : decode cJ3_checkFromIndexSize_8c36e 1 = .ok (.iload_n 0, 1) := dg dtJ3_checkFromIndexSize_8c36e_0_ok 1 rfl
theorem dJ3_checkFromIndexSize_8c36e_2 : decode cJ3_checkFromIndexSize_8c36e 2 = .ok (.ior, 1) := dg dtJ3_checkFromIndexSize_8c36e_0_ok 2 rfl
theorem dJ3_checkFromIndexSize_8c36e_3 : decode cJ3_checkFromIndexSize_8c36e 3 = .ok (.iload_n 1, 1) := dg dtJ3_checkFromIndexSize_8c36e_0_ok 3 rfl
theorem dJ3_checkFromIndexSize_8c36e_4 : decode cJ3_checkFromIndexSize_8c36e 4 = .ok (.ior, 1) := dg dtJ3_checkFromIndexSize_8c36e_0_ok 4 rfl
theorem dJ3_checkFromIndexSize_8c36e_5 : decode cJ3_checkFromIndexSize_8c36e 5 = .ok (.ifCond .lt 10, 3) := dg dtJ3_checkFromIndexSize_8c36e_0_ok 5 rfl
theorem dJ3_checkFromIndexSize_8c36e_8 : decode cJ3_checkFromIndexSize_8c36e 8 = .ok (.iload_n 1, 1) := dg dtJ3_checkFromIndexSize_8c36e_0_ok 6 rfl
theorem dJ3_checkFromIndexSize_8c36e_9 : decode cJ3_checkFromIndexSize_8c36e 9 = .ok (.iload_n 2, 1) := dg dtJ3_checkFromIndexSize_8c36e_0_ok 7 rfl
theorem dJ3_checkFromIndexSize_8c36e_10 : decode cJ3_checkFromIndexSize_8c36e 10 = .ok (.iload_n 0, 1) := dg dtJ3_checkFromIndexSize_8c36e_0_ok 8 rfl
theorem dJ3_checkFromIndexSize_8c36e_11 : decode cJ3_checkFromIndexSize_8c36e 11 = .ok (.isub, 1) := dg dtJ3_checkFromIndexSize_8c36e_0_ok 9 rfl
theorem dJ3_checkFromIndexSize_8c36e_12 : decode cJ3_checkFromIndexSize_8c36e 12 = .ok (.if_icmp .le 11, 3) := dg dtJ3_checkFromIndexSize_8c36e_0_ok 10 rfl
theorem dJ3_checkFromIndexSize_8c36e_15 : decode cJ3_checkFromIndexSize_8c36e 15 = .ok (.aload_n 3, 1) := dg dtJ3_checkFromIndexSize_8c36e_0_ok 11 rfl
theorem dJ3_checkFromIndexSize_8c36e_16 : decode cJ3_checkFromIndexSize_8c36e 16 = .ok (.iload_n 0, 1) := dg dtJ3_checkFromIndexSize_8c36e_0_ok 12 rfl
theorem dJ3_checkFromIndexSize_8c36e_17 : decode cJ3_checkFromIndexSize_8c36e 17 = .ok (.iload_n 1, 1) := dg dtJ3_checkFromIndexSize_8c36e_0_ok 13 rfl
theorem dJ3_checkFromIndexSize_8c36e_18 : decode cJ3_checkFromIndexSize_8c36e 18 = .ok (.iload_n 2, 1) := dg dtJ3_checkFromIndexSize_8c36e_0_ok 14 rfl
theorem dJ3_checkFromIndexSize_8c36e_19 : decode cJ3_checkFromIndexSize_8c36e 19 = .ok (.invokestatic 103, 3) := dg dtJ3_checkFromIndexSize_8c36e_0_ok 15 rfl
theorem dJ3_checkFromIndexSize_8c36e_22 : decode cJ3_checkFromIndexSize_8c36e 22 = .ok (.athrow, 1) := dg dtJ3_checkFromIndexSize_8c36e_0_ok 16 rfl
theorem dJ3_checkFromIndexSize_8c36e_23 : decode cJ3_checkFromIndexSize_8c36e 23 = .ok (.iload_n 0, 1) := dg dtJ3_checkFromIndexSize_8c36e_0_ok 17 rfl
theorem dJ3_checkFromIndexSize_8c36e_24 : decode cJ3_checkFromIndexSize_8c36e 24 = .ok (.ireturn, 1) := dg dtJ3_checkFromIndexSize_8c36e_0_ok 18 rfl
def dtL_cell_0 : List (Nat × Instr × Nat) := [(0, .iload_n 1, 1), (1, .aload_n 0, 1), (2, .arraylength, 1), (3, .if_icmp .ge 9, 3), (6, .aload_n 0, 1), (7, .iload_n 1, 1), (8, .iaload, 1), (9, .goto 11, 3), (12, .ldc 7, 2), (14, .iload_n 1, 1), (15, .imul, 1), (16, .sipush 947, 3), (19, .iadd, 1), (20, .ireturn, 1)]
theorem dtL_cell_0_ok : ∀ q ∈ dtL_cell_0, decode cL_cell q.1 = .ok q.2 := by decide +kernel
theorem dL_cell_0 : decode cL_cell 0 = .ok (.iload_n 1, 1) := dg dtL_cell_0_ok 0 rfl
theorem dL_cell_1 : decode cL_cell 1 = .ok (.aload_n 0, 1) := dg dtL_cell_0_ok 1 rfl
theorem dL_cell_2 : decode cL_cell 2 = .ok (.arraylength, 1) := dg dtL_cell_0_ok 2 rfl
theorem dL_cell_3 : decode cL_cell 3 = .ok (.if_icmp .ge 9, 3) := dg dtL_cell_0_ok 3 rfl
theorem dL_cell_6 : decode cL_cell 6 = .ok (.aload_n 0, 1) := dg dtL_cell_0_ok 4 rfl
theorem dL_cell_7 : decode cL_cell 7 = .ok (.iload_n 1, 1) := dg dtL_cell_0_ok 5 rfl
theorem dL_cell_8 : decode cL_cell 8 = .ok (.iaload, 1) := dg dtL_cell_0_ok 6 rfl
theorem dL_cell_9 : decode cL_cell 9 = .ok (.goto 11, 3) := dg dtL_cell_0_ok 7 rfl
theorem dL_cell_12 : decode cL_cell 12 = .ok (.ldc 7, 2) := dg dtL_cell_0_ok 8 rfl
theorem dL_cell_14 : decode cL_cell 14 = .ok (.iload_n 1, 1) := dg dtL_cell_0_ok 9 rfl
theorem dL_cell_15 : decode cL_cell 15 = .ok (.imul, 1) := dg dtL_cell_0_ok 10 rfl
theorem dL_cell_16 : decode cL_cell 16 = .ok (.sipush 947, 3) := dg dtL_cell_0_ok 11 rfl
theorem dL_cell_19 : decode cL_cell 19 = .ok (.iadd, 1) := dg dtL_cell_0_ok 12 rfl
theorem dL_cell_20 : decode cL_cell 20 = .ok (.ireturn, 1) := dg dtL_cell_0_ok 13 rfl
def dtL_low_0 : List (Nat × Instr × Nat) := [(0, .iload_n 0, 1), (1, .ldc 8, 2), (3, .iand, 1), (4, .iload_n 1, 1), (5, .irem, 1), (6, .ireturn, 1)]
theorem dtL_low_0_ok : ∀ q ∈ dtL_low_0, decode cL_low q.1 = .ok q.2 := by decide +kernel
theorem dL_low_0 : decode cL_low 0 = .ok (.iload_n 0, 1) := dg dtL_low_0_ok 0 rfl
theorem dL_low_1 : decode cL_low 1 = .ok (.ldc 8, 2) := dg dtL_low_0_ok 1 rfl
theorem dL_low_3 : decode cL_low 3 = .ok (.iand, 1) := dg dtL_low_0_ok 2 rfl
theorem dL_low_4 : decode cL_low 4 = .ok (.iload_n 1, 1) := dg dtL_low_0_ok 3 rfl
theorem dL_low_5 : decode cL_low 5 = .ok (.irem, 1) := dg dtL_low_0_ok 4 rfl
theorem dL_low_6 : decode cL_low 6 = .ok (.ireturn, 1) := dg dtL_low_0_ok 5 rfl
def dtL_digest_0 : List (Nat × Instr × Nat) := [(0, .ldc2_w 9, 3), (3, .lstore_n 1, 1), (4, .iconst 0, 1), (5, .istore_n 3, 1), (6, .iload_n 3, 1), (7, .bipush 11, 2), (9, .if_icmp .ge 22, 3), (12, .ldc2_w 11, 3), (15, .lload_n 1, 1), (16, .lmul, 1), (17, .aload_n 0, 1), (18, .iload_n 3, 1), (19, .invokevirtual 13, 3), (22, .i2l, 1), (23, .ladd, 1), (24, .lstore_n 1, 1), (25, .iinc 3 1, 3), (28, .goto (-22), 3), (31, .iconst 0, 1), (32, .istore_n 3, 1), (33, .iload_n 3, 1), (34, .bipush 6, 2), (36, .if_icmp .ge 22, 3), (39, .ldc2_w 11, 3), (42, .lload_n 1, 1), (43, .lmul, 1), (44, .aload_n 0, 1), (45, .iload_n 3, 1), (46, .invokevirtual 19, 3), (49, .i2l, 1), (50, .ladd, 1), (51, .lstore_n 1, 1), (52, .iinc 3 1, 3), (55, .goto (-22), 3), (58, .iconst 0, 1), (59, .istore_n 3, 1), (60, .iload_n 3, 1), (61, .aload_n 0, 1), (62, .iconst 1, 1), (63, .invokevirtual 13, 3), (66, .if_icmp .ge 39, 3), (69, .iconst 0, 1), (70, .istore 4, 2), (72, .iload 4, 2), (74, .bipush 7, 2), (76, .if_icmp .ge 23, 3), (79, .ldc2_w 11, 3), (82, .lload_n 1, 1)]
theorem dtL_digest_0_ok : ∀ q ∈ dtL_digest_0, decode cL_digest q.1 = .ok q.2 := by decide +kernel
theorem dL_digest_0 : decode cL_digest 0 = .ok (.ldc2_w 9, 3) := dg dtL_digest_0_ok 0 rfl
theorem dL_digest_3 : decode cL_digest 3 = .ok (.lstore_n 1, 1) := dg dtL_digest_0_ok 1 rfl
theorem dL_digest_4 : decode cL_digest 4 = .ok (.iconst 0, 1) := dg dtL_digest_0_ok 2 rfl
theorem dL_digest_5 : decode cL_digest 5 = .ok (.istore_n 3, 1) := dg dtL_digest_0_ok 3 rfl
theorem dL_digest_6 : decode cL_digest 6 = .ok (.iload_n 3, 1) := dg dtL_digest_0_ok 4 rfl
theorem dL_digest_7 : decode cL_digest 7 = .ok (.bipush 11, 2) := dg dtL_digest_0_ok 5 rfl
theorem dL_digest_9 : decode cL_digest 9 = .ok (.if_icmp .ge 22, 3) := dg dtL_digest_0_ok 6 rfl
theorem dL_digest_12 : decode cL_digest 12 = .ok (.ldc2_w 11, 3) := dg dtL_digest_0_ok 7 rfl
theorem dL_digest_15 : decode cL_digest 15 = .ok (.lload_n 1, 1) := dg dtL_digest_0_ok 8 rfl
theorem dL_digest_16 : decode cL_digest 16 = .ok (.lmul, 1) := dg dtL_digest_0_ok 9 rfl
theorem dL_digest_17 : decode cL_digest 17 = .ok (.aload_n 0, 1) := dg dtL_digest_0_ok 10 rfl
theorem dL_digest_18 : decode cL_digest 18 = .ok (.iload_n 3, 1) := dg dtL_digest_0_ok 11 rfl
theorem dL_digest_19 : decode cL_digest 19 = .ok (.invokevirtual 13, 3) := dg dtL_digest_0_ok 12 rfl
theorem dL_digest_22 : decode cL_digest 22 = .ok (.i2l, 1) := dg dtL_digest_0_ok 13 rfl
theorem dL_digest_23 : decode cL_digest 23 = .ok (.ladd, 1) := dg dtL_digest_0_ok 14 rfl
theorem dL_digest_24 : decode cL_digest 24 = .ok (.lstore_n 1, 1) := dg dtL_digest_0_ok 15 rfl
theorem dL_digest_25 : decode cL_digest 25 = .ok (.iinc 3 1, 3) := dg dtL_digest_0_ok 16 rfl
theorem dL_digest_28 : decode cL_digest 28 = .ok (.goto (-22), 3) := dg dtL_digest_0_ok 17 rfl
theorem dL_digest_31 : decode cL_digest 31 = .ok (.iconst 0, 1) := dg dtL_digest_0_ok 18 rfl
theorem dL_digest_32 : decode cL_digest 32 = .ok (.istore_n 3, 1) := dg dtL_digest_0_ok 19 rfl
theorem dL_digest_33 : decode cL_digest 33 = .ok (.iload_n 3, 1) := dg dtL_digest_0_ok 20 rfl
theorem dL_digest_34 : decode cL_digest 34 = .ok (.bipush 6, 2) := dg dtL_digest_0_ok 21 rfl
theorem dL_digest_36 : decode cL_digest 36 = .ok (.if_icmp .ge 22, 3) := dg dtL_digest_0_ok 22 rfl
theorem dL_digest_39 : decode cL_digest 39 = .ok (.ldc2_w 11, 3) := dg dtL_digest_0_ok 23 rfl
theorem dL_digest_42 : decode cL_digest 42 = .ok (.lload_n 1, 1) := dg dtL_digest_0_ok 24 rfl
theorem dL_digest_43 : decode cL_digest 43 = .ok (.lmul, 1) := dg dtL_digest_0_ok 25 rfl
theorem dL_digest_44 : decode cL_digest 44 = .ok (.aload_n 0, 1) := dg dtL_digest_0_ok 26 rfl
theorem dL_digest_45 : decode cL_digest 45 = .ok (.iload_n 3, 1) := dg dtL_digest_0_ok 27 rfl
theorem dL_digest_46 : decode cL_digest 46 = .ok (.invokevirtual 19, 3) := dg dtL_digest_0_ok 28 rfl
theorem dL_digest_49 : decode cL_digest 49 = .ok (.i2l, 1) := dg dtL_digest_0_ok 29 rfl
theorem dL_digest_50 : decode cL_digest 50 = .ok (.ladd, 1) := dg dtL_digest_0_ok 30 rfl
theorem dL_digest_51 : decode cL_digest 51 = .ok (.lstore_n 1, 1) := dg dtL_digest_0_ok 31 rfl
theorem dL_digest_52 : decode cL_digest 52 = .ok (.iinc 3 1, 3) := dg dtL_digest_0_ok 32 rfl
theorem dL_digest_55 : decode cL_digest 55 = .ok (.goto (-22), 3) := dg dtL_digest_0_ok 33 rfl
theorem dL_digest_58 : decode cL_digest 58 = .ok (.iconst 0, 1) := dg dtL_digest_0_ok 34 rfl
theorem dL_digest_59 : decode cL_digest 59 = .ok (.istore_n 3, 1) := dg dtL_digest_0_ok 35 rfl
theorem dL_digest_60 : decode cL_digest 60 = .ok (.iload_n 3, 1) := dg dtL_digest_0_ok 36 rfl
theorem dL_digest_61 : decode cL_digest 61 = .ok (.aload_n 0, 1) := dg dtL_digest_0_ok 37 rfl
theorem dL_digest_62 : decode cL_digest 62 = .ok (.iconst 1, 1) := dg dtL_digest_0_ok 38 rfl
theorem dL_digest_63 : decode cL_digest 63 = .ok (.invokevirtual 13, 3) := dg dtL_digest_0_ok 39 rfl
theorem dL_digest_66 : decode cL_digest 66 = .ok (.if_icmp .ge 39, 3) := dg dtL_digest_0_ok 40 rfl
theorem dL_digest_69 : decode cL_digest 69 = .ok (.iconst 0, 1) := dg dtL_digest_0_ok 41 rfl
theorem dL_digest_70 : decode cL_digest 70 = .ok (.istore 4, 2) := dg dtL_digest_0_ok 42 rfl
theorem dL_digest_72 : decode cL_digest 72 = .ok (.iload 4, 2) := dg dtL_digest_0_ok 43 rfl
theorem dL_digest_74 : decode cL_digest 74 = .ok (.bipush 7, 2) := dg dtL_digest_0_ok 44 rfl
theorem dL_digest_76 : decode cL_digest 76 = .ok (.if_icmp .ge 23, 3) := dg dtL_digest_0_ok 45 rfl
theorem dL_digest_79 : decode cL_digest 79 = .ok (.ldc2_w 11, 3) := dg dtL_digest_0_ok 46 rfl
theorem dL_digest_82 : decode cL_digest 82 = .ok (.lload_n 1, 1) := dg dtL_digest_0_ok 47 rfl
def dtL_digest_1 : List (Nat × Instr × Nat) := [(83, .lmul, 1), (84, .aload_n 0, 1), (85, .iload_n 3, 1), (86, .iload 4, 2), (88, .invokevirtual 22, 3), (91, .ladd, 1), (92, .lstore_n 1, 1), (93, .iinc 4 1, 3), (96, .goto (-24), 3), (99, .iinc 3 1, 3), (102, .goto (-42), 3), (105, .iconst 0, 1), (106, .istore_n 3, 1), (107, .iload_n 3, 1), (108, .aload_n 0, 1), (109, .iconst 2, 1), (110, .invokevirtual 13, 3), (113, .if_icmp .ge 40, 3), (116, .iconst 0, 1), (117, .istore 4, 2), (119, .iload 4, 2), (121, .bipush 13, 2), (123, .if_icmp .ge 24, 3), (126, .ldc2_w 11, 3), (129, .lload_n 1, 1), (130, .lmul, 1), (131, .aload_n 0, 1), (132, .iload_n 3, 1), (133, .iload 4, 2), (135, .invokevirtual 26, 3), (138, .i2l, 1), (139, .ladd, 1), (140, .lstore_n 1, 1), (141, .iinc 4 1, 3), (144, .goto (-25), 3), (147, .iinc 3 1, 3), (150, .goto (-43), 3), (153, .iconst 0, 1), (154, .istore_n 3, 1), (155, .iload_n 3, 1), (156, .aload_n 0, 1), (157, .iconst 3, 1), (158, .invokevirtual 13, 3), (161, .if_icmp .ge 39, 3), (164, .iconst 0, 1), (165, .istore 4, 2), (167, .iload 4, 2), (169, .iconst 5, 1)]
theorem dtL_digest_1_ok : ∀ q ∈ dtL_digest_1, decode cL_digest q.1 = .ok q.2 := by decide +kernel
theorem dL_digest_83 : decode cL_digest 83 = .ok (.lmul, 1) := dg dtL_digest_1_ok 0 rfl
theorem dL_digest_84 : decode cL_digest 84 = .ok (.aload_n 0, 1) := dg dtL_digest_1_ok 1 rfl
theorem dL_digest_85 : decode cL_digest 85 = .ok (.iload_n 3, 1) := dg dtL_digest_1_ok 2 rfl
theorem dL_digest_86 : decode cL_digest 86 = .ok (.iload 4, 2) := dg dtL_digest_1_ok 3 rfl
theorem dL_digest_88 : decode cL_digest 88 = .ok (.invokevirtual 22, 3) := dg dtL_digest_1_ok 4 rfl
theorem dL_digest_91 : decode cL_digest 91 = .ok (.ladd, 1) := dg dtL_digest_1_ok 5 rfl
theorem dL_digest_92 : decode cL_digest 92 = .ok (.lstore_n 1, 1) := dg dtL_digest_1_ok 6 rfl
theorem dL_digest_93 : decode cL_digest 93 = .ok (.iinc 4 1, 3) := dg dtL_digest_1_ok 7 rfl
theorem dL_digest_96 : decode cL_digest 96 = .ok (.goto (-24), 3) := dg dtL_digest_1_ok 8 rfl
theorem dL_digest_99 : decode cL_digest 99 = .ok (.iinc 3 1, 3) := dg dtL_digest_1_ok 9 rfl
theorem dL_digest_102 : decode cL_digest 102 = .ok (.goto (-42), 3) := dg dtL_digest_1_ok 10 rfl
theorem dL_digest_105 : decode cL_digest 105 = .ok (.iconst 0, 1) := dg dtL_digest_1_ok 11 rfl
theorem dL_digest_106 : decode cL_digest 106 = .ok (.istore_n 3, 1) := dg dtL_digest_1_ok 12 rfl
theorem dL_digest_107 : decode cL_digest 107 = .ok (.iload_n 3, 1) := dg dtL_digest_1_ok 13 rfl
theorem dL_digest_108 : decode cL_digest 108 = .ok (.aload_n 0, 1) := dg dtL_digest_1_ok 14 rfl
theorem dL_digest_109 : decode cL_digest 109 = .ok (.iconst 2, 1) := dg dtL_digest_1_ok 15 rfl
theorem dL_digest_110 : decode cL_digest 110 = .ok (.invokevirtual 13, 3) := dg dtL_digest_1_ok 16 rfl
theorem dL_digest_113 : decode cL_digest 113 = .ok (.if_icmp .ge 40, 3) := dg dtL_digest_1_ok 17 rfl
theorem dL_digest_116 : decode cL_digest 116 = .ok (.iconst 0, 1) := dg dtL_digest_1_ok 18 rfl
theorem dL_digest_117 : decode cL_digest 117 = .ok (.istore 4, 2) := dg dtL_digest_1_ok 19 rfl
theorem dL_digest_119 : decode cL_digest 119 = .ok (.iload 4, 2) := dg dtL_digest_1_ok 20 rfl
theorem dL_digest_121 : decode cL_digest 121 = .ok (.bipush 13, 2) := dg dtL_digest_1_ok 21 rfl
theorem dL_digest_123 : decode cL_digest 123 = .ok (.if_icmp .ge 24, 3) := dg dtL_digest_1_ok 22 rfl
theorem dL_digest_126 : decode cL_digest 126 = .ok (.ldc2_w 11, 3) := dg dtL_digest_1_ok 23 rfl
theorem dL_digest_129 : decode cL_digest 129 = .ok (.lload_n 1, 1) := dg dtL_digest_1_ok 24 rfl
theorem dL_digest_130 : decode cL_digest 130 = .ok (.lmul, 1) := dg dtL_digest_1_ok 25 rfl
theorem dL_digest_131 : decode cL_digest 131 = .ok (.aload_n 0, 1) := dg dtL_digest_1_ok 26 rfl
theorem dL_digest_132 : decode cL_digest 132 = .ok (.iload_n 3, 1) := dg dtL_digest_1_ok 27 rfl
theorem dL_digest_133 : decode cL_digest 133 = .ok (.iload 4, 2) := dg dtL_digest_1_ok 28 rfl
theorem dL_digest_135 : decode cL_digest 135 = .ok (.invokevirtual 26, 3) := dg dtL_digest_1_ok 29 rfl
theorem dL_digest_138 : decode cL_digest 138 = .ok (.i2l, 1) := dg dtL_digest_1_ok 30 rfl
theorem dL_digest_139 : decode cL_digest 139 = .ok (.ladd, 1) := dg dtL_digest_1_ok 31 rfl
theorem dL_digest_140 : decode cL_digest 140 = .ok (.lstore_n 1, 1) := dg dtL_digest_1_ok 32 rfl
theorem dL_digest_141 : decode cL_digest 141 = .ok (.iinc 4 1, 3) := dg dtL_digest_1_ok 33 rfl
theorem dL_digest_144 : decode cL_digest 144 = .ok (.goto (-25), 3) := dg dtL_digest_1_ok 34 rfl
theorem dL_digest_147 : decode cL_digest 147 = .ok (.iinc 3 1, 3) := dg dtL_digest_1_ok 35 rfl
theorem dL_digest_150 : decode cL_digest 150 = .ok (.goto (-43), 3) := dg dtL_digest_1_ok 36 rfl
theorem dL_digest_153 : decode cL_digest 153 = .ok (.iconst 0, 1) := dg dtL_digest_1_ok 37 rfl
theorem dL_digest_154 : decode cL_digest 154 = .ok (.istore_n 3, 1) := dg dtL_digest_1_ok 38 rfl
theorem dL_digest_155 : decode cL_digest 155 = .ok (.iload_n 3, 1) := dg dtL_digest_1_ok 39 rfl
theorem dL_digest_156 : decode cL_digest 156 = .ok (.aload_n 0, 1) := dg dtL_digest_1_ok 40 rfl
theorem dL_digest_157 : decode cL_digest 157 = .ok (.iconst 3, 1) := dg dtL_digest_1_ok 41 rfl
theorem dL_digest_158 : decode cL_digest 158 = .ok (.invokevirtual 13, 3) := dg dtL_digest_1_ok 42 rfl
theorem dL_digest_161 : decode cL_digest 161 = .ok (.if_icmp .ge 39, 3) := dg dtL_digest_1_ok 43 rfl
theorem dL_digest_164 : decode cL_digest 164 = .ok (.iconst 0, 1) := dg dtL_digest_1_ok 44 rfl
theorem dL_digest_165 : decode cL_digest 165 = .ok (.istore 4, 2) := dg dtL_digest_1_ok 45 rfl
theorem dL_digest_167 : decode cL_digest 167 = .ok (.iload 4, 2) := dg dtL_digest_1_ok 46 rfl
theorem dL_digest_169 : decode cL_digest 169 = .ok (.iconst 5, 1) := dg dtL_digest_1_ok 47 rfl
def dtL_digest_2 : List (Nat × Instr × Nat) := [(170, .if_icmp .ge 24, 3), (173, .ldc2_w 11, 3), (176, .lload_n 1, 1), (177, .lmul, 1), (178, .aload_n 0, 1), (179, .iload_n 3, 1), (180, .iload 4, 2), (182, .invokevirtual 30, 3), (185, .i2l, 1), (186, .ladd, 1), (187, .lstore_n 1, 1), (188, .iinc 4 1, 3), (191, .goto (-24), 3), (194, .iinc 3 1, 3), (197, .goto (-42), 3), (200, .iconst 0, 1), (201, .istore_n 3, 1), (202, .iload_n 3, 1), (203, .bipush 7, 2), (205, .if_icmp .ge 21, 3), (208, .ldc2_w 11, 3), (211, .lload_n 1, 1), (212, .lmul, 1), (213, .aload_n 0, 1), (214, .iload_n 3, 1), (215, .invokevirtual 33, 3), (218, .ladd, 1), (219, .lstore_n 1, 1), (220, .iinc 3 1, 3), (223, .goto (-21), 3), (226, .lload_n 1, 1), (227, .lreturn, 1)]
theorem dtL_digest_2_ok : ∀ q ∈ dtL_digest_2, decode cL_digest q.1 = .ok q.2 := by decide +kernel
theorem dL_digest_170 : decode cL_digest 170 = .ok (.if_icmp .ge 24, 3) := dg dtL_digest_2_ok 0 rfl
theorem dL_digest_173 : decode cL_digest 173 = .ok (.ldc2_w 11, 3) := dg dtL_digest_2_ok 1 rfl
theorem dL_digest_176 : decode cL_digest 176 = .ok (.lload_n 1, 1) := dg dtL_digest_2_ok 2 rfl
theorem dL_digest_177 : decode cL_digest 177 = .ok (.lmul, 1) := dg dtL_digest_2_ok 3 rfl
theorem dL_digest_178 : decode cL_digest 178 = .ok (.aload_n 0, 1) := dg dtL_digest_2_ok 4 rfl
theorem dL_digest_179 : decode cL_digest 179 = .ok (.iload_n 3, 1) := dg dtL_digest_2_ok 5 rfl
theorem dL_digest_180 : decode cL_digest 180 = .ok (.iload 4, 2) := dg dtL_digest_2_ok 6 rfl
theorem dL_digest_182 : decode cL_digest 182 = .ok (.invokevirtual 30, 3) := dg dtL_digest_2_ok 7 rfl
theorem dL_digest_185 : decode cL_digest 185 = .ok (.i2l, 1) := dg dtL_digest_2_ok 8 rfl
theorem dL_digest_186 : decode cL_digest 186 = .ok (.ladd, 1) := dg dtL_digest_2_ok 9 rfl
theorem dL_digest_187 : decode cL_digest 187 = .ok (.lstore_n 1, 1) := dg dtL_digest_2_ok 10 rfl
theorem dL_digest_188 : decode cL_digest 188 = .ok (.iinc 4 1, 3) := dg dtL_digest_2_ok 11 rfl
theorem dL_digest_191 : decode cL_digest 191 = .ok (.goto (-24), 3) := dg dtL_digest_2_ok 12 rfl
theorem dL_digest_194 : decode cL_digest 194 = .ok (.iinc 3 1, 3) := dg dtL_digest_2_ok 13 rfl
theorem dL_digest_197 : decode cL_digest 197 = .ok (.goto (-42), 3) := dg dtL_digest_2_ok 14 rfl
theorem dL_digest_200 : decode cL_digest 200 = .ok (.iconst 0, 1) := dg dtL_digest_2_ok 15 rfl
theorem dL_digest_201 : decode cL_digest 201 = .ok (.istore_n 3, 1) := dg dtL_digest_2_ok 16 rfl
theorem dL_digest_202 : decode cL_digest 202 = .ok (.iload_n 3, 1) := dg dtL_digest_2_ok 17 rfl
theorem dL_digest_203 : decode cL_digest 203 = .ok (.bipush 7, 2) := dg dtL_digest_2_ok 18 rfl
theorem dL_digest_205 : decode cL_digest 205 = .ok (.if_icmp .ge 21, 3) := dg dtL_digest_2_ok 19 rfl
theorem dL_digest_208 : decode cL_digest 208 = .ok (.ldc2_w 11, 3) := dg dtL_digest_2_ok 20 rfl
theorem dL_digest_211 : decode cL_digest 211 = .ok (.lload_n 1, 1) := dg dtL_digest_2_ok 21 rfl
theorem dL_digest_212 : decode cL_digest 212 = .ok (.lmul, 1) := dg dtL_digest_2_ok 22 rfl
theorem dL_digest_213 : decode cL_digest 213 = .ok (.aload_n 0, 1) := dg dtL_digest_2_ok 23 rfl
theorem dL_digest_214 : decode cL_digest 214 = .ok (.iload_n 3, 1) := dg dtL_digest_2_ok 24 rfl
theorem dL_digest_215 : decode cL_digest 215 = .ok (.invokevirtual 33, 3) := dg dtL_digest_2_ok 25 rfl
theorem dL_digest_218 : decode cL_digest 218 = .ok (.ladd, 1) := dg dtL_digest_2_ok 26 rfl
theorem dL_digest_219 : decode cL_digest 219 = .ok (.lstore_n 1, 1) := dg dtL_digest_2_ok 27 rfl
theorem dL_digest_220 : decode cL_digest 220 = .ok (.iinc 3 1, 3) := dg dtL_digest_2_ok 28 rfl
theorem dL_digest_223 : decode cL_digest 223 = .ok (.goto (-21), 3) := dg dtL_digest_2_ok 29 rfl
theorem dL_digest_226 : decode cL_digest 226 = .ok (.lload_n 1, 1) := dg dtL_digest_2_ok 30 rfl
theorem dL_digest_227 : decode cL_digest 227 = .ok (.lreturn, 1) := dg dtL_digest_2_ok 31 rfl
def dtL_lots_0 : List (Nat × Instr × Nat) := [(0, .lconst 0, 1), (1, .lstore_n 1, 1), (2, .lconst 0, 1), (3, .lstore_n 3, 1), (4, .lconst 0, 1), (5, .lstore 5, 2), (7, .lconst 0, 1), (8, .lstore 7, 2), (10, .iconst 0, 1), (11, .istore 9, 2), (13, .iload 9, 2), (15, .aload_n 0, 1), (16, .iconst 2, 1), (17, .invokevirtual 13, 3), (20, .if_icmp .ge 360, 3), (23, .lload_n 1, 1), (24, .aload_n 0, 1), (25, .iload 9, 2), (27, .bipush 6, 2), (29, .invokevirtual 26, 3), (32, .i2l, 1), (33, .ladd, 1), (34, .lstore_n 1, 1), (35, .lload_n 3, 1), (36, .aload_n 0, 1), (37, .iload 9, 2), (39, .bipush 8, 2), (41, .invokevirtual 26, 3), (44, .i2l, 1), (45, .ladd, 1), (46, .lstore_n 3, 1), (47, .lload 5, 2), (49, .aload_n 0, 1), (50, .iload 9, 2), (52, .bipush 9, 2), (54, .invokevirtual 26, 3), (57, .i2l, 1), (58, .ladd, 1), (59, .lstore 5, 2), (61, .lload 7, 2), (63, .aload_n 0, 1), (64, .iload 9, 2), (66, .bipush 10, 2), (68, .invokevirtual 26, 3), (71, .i2l, 1), (72, .ladd, 1), (73, .lstore 7, 2), (75, .iconst 0, 1)]
theorem dtL_lots_0_ok : ∀ q ∈ dtL_lots_0, decode cL_lots q.1 = .ok q.2 := by decide +kernel
theorem dL_lots_0 : decode cL_lots 0 = .ok (.lconst 0, 1) := dg dtL_lots_0_ok 0 rfl
theorem dL_lots_1 : decode cL_lots 1 = .ok (.lstore_n 1, 1) := dg dtL_lots_0_ok 1 rfl
theorem dL_lots_2 : decode cL_lots 2 = .ok (.lconst 0, 1) := dg dtL_lots_0_ok 2 rfl
theorem dL_lots_3 : decode cL_lots 3 = .ok (.lstore_n 3, 1) := dg dtL_lots_0_ok 3 rfl
theorem dL_lots_4 : decode cL_lots 4 = .ok (.lconst 0, 1) := dg dtL_lots_0_ok 4 rfl
theorem dL_lots_5 : decode cL_lots 5 = .ok (.lstore 5, 2) := dg dtL_lots_0_ok 5 rfl
theorem dL_lots_7 : decode cL_lots 7 = .ok (.lconst 0, 1) := dg dtL_lots_0_ok 6 rfl
theorem dL_lots_8 : decode cL_lots 8 = .ok (.lstore 7, 2) := dg dtL_lots_0_ok 7 rfl
theorem dL_lots_10 : decode cL_lots 10 = .ok (.iconst 0, 1) := dg dtL_lots_0_ok 8 rfl
theorem dL_lots_11 : decode cL_lots 11 = .ok (.istore 9, 2) := dg dtL_lots_0_ok 9 rfl
theorem dL_lots_13 : decode cL_lots 13 = .ok (.iload 9, 2) := dg dtL_lots_0_ok 10 rfl
theorem dL_lots_15 : decode cL_lots 15 = .ok (.aload_n 0, 1) := dg dtL_lots_0_ok 11 rfl
theorem dL_lots_16 : decode cL_lots 16 = .ok (.iconst 2, 1) := dg dtL_lots_0_ok 12 rfl
theorem dL_lots_17 : decode cL_lots 17 = .ok (.invokevirtual 13, 3) := dg dtL_lots_0_ok 13 rfl
theorem dL_lots_20 : decode cL_lots 20 = .ok (.if_icmp .ge 360, 3) := dg dtL_lots_0_ok 14 rfl
theorem dL_lots_23 : decode cL_lots 23 = .ok (.lload_n 1, 1) := dg dtL_lots_0_ok 15 rfl
theorem dL_lots_24 : decode cL_lots 24 = .ok (.aload_n 0, 1) := dg dtL_lots_0_ok 16 rfl
theorem dL_lots_25 : decode cL_lots 25 = .ok (.iload 9, 2) := dg dtL_lots_0_ok 17 rfl
theorem dL_lots_27 : decode cL_lots 27 = .ok (.bipush 6, 2) := dg dtL_lots_0_ok 18 rfl
theorem dL_lots_29 : decode cL_lots 29 = .ok (.invokevirtual 26, 3) := dg dtL_lots_0_ok 19 rfl
theorem dL_lots_32 : decode cL_lots 32 = .ok (.i2l, 1) := dg dtL_lots_0_ok 20 rfl
theorem dL_lots_33 : decode cL_lots 33 = .ok (.ladd, 1) := dg dtL_lots_0_ok 21 rfl
theorem dL_lots_34 : decode cL_lots 34 = .ok (.lstore_n 1, 1) := dg dtL_lots_0_ok 22 rfl
theorem dL_lots_35 : decode cL_lots 35 = .ok (.lload_n 3, 1) := dg dtL_lots_0_ok 23 rfl
theorem dL_lots_36 : decode cL_lots 36 = .ok (.aload_n 0, 1) := dg dtL_lots_0_ok 24 rfl
theorem dL_lots_37 : decode cL_lots 37 = .ok (.iload 9, 2) := dg dtL_lots_0_ok 25 rfl
theorem dL_lots_39 : decode cL_lots 39 = .ok (.bipush 8, 2) := dg dtL_lots_0_ok 26 rfl
theorem dL_lots_41 : decode cL_lots 41 = .ok (.invokevirtual 26, 3) := dg dtL_lots_0_ok 27 rfl
theorem dL_lots_44 : decode cL_lots 44 = .ok (.i2l, 1) := dg dtL_lots_0_ok 28 rfl
theorem dL_lots_45 : decode cL_lots 45 = .ok (.ladd, 1) := dg dtL_lots_0_ok 29 rfl
theorem dL_lots_46 : decode cL_lots 46 = .ok (.lstore_n 3, 1) := dg dtL_lots_0_ok 30 rfl
theorem dL_lots_47 : decode cL_lots 47 = .ok (.lload 5, 2) := dg dtL_lots_0_ok 31 rfl
theorem dL_lots_49 : decode cL_lots 49 = .ok (.aload_n 0, 1) := dg dtL_lots_0_ok 32 rfl
theorem dL_lots_50 : decode cL_lots 50 = .ok (.iload 9, 2) := dg dtL_lots_0_ok 33 rfl
theorem dL_lots_52 : decode cL_lots 52 = .ok (.bipush 9, 2) := dg dtL_lots_0_ok 34 rfl
theorem dL_lots_54 : decode cL_lots 54 = .ok (.invokevirtual 26, 3) := dg dtL_lots_0_ok 35 rfl
theorem dL_lots_57 : decode cL_lots 57 = .ok (.i2l, 1) := dg dtL_lots_0_ok 36 rfl
theorem dL_lots_58 : decode cL_lots 58 = .ok (.ladd, 1) := dg dtL_lots_0_ok 37 rfl
theorem dL_lots_59 : decode cL_lots 59 = .ok (.lstore 5, 2) := dg dtL_lots_0_ok 38 rfl
theorem dL_lots_61 : decode cL_lots 61 = .ok (.lload 7, 2) := dg dtL_lots_0_ok 39 rfl
theorem dL_lots_63 : decode cL_lots 63 = .ok (.aload_n 0, 1) := dg dtL_lots_0_ok 40 rfl
theorem dL_lots_64 : decode cL_lots 64 = .ok (.iload 9, 2) := dg dtL_lots_0_ok 41 rfl
theorem dL_lots_66 : decode cL_lots 66 = .ok (.bipush 10, 2) := dg dtL_lots_0_ok 42 rfl
theorem dL_lots_68 : decode cL_lots 68 = .ok (.invokevirtual 26, 3) := dg dtL_lots_0_ok 43 rfl
theorem dL_lots_71 : decode cL_lots 71 = .ok (.i2l, 1) := dg dtL_lots_0_ok 44 rfl
theorem dL_lots_72 : decode cL_lots 72 = .ok (.ladd, 1) := dg dtL_lots_0_ok 45 rfl
theorem dL_lots_73 : decode cL_lots 73 = .ok (.lstore 7, 2) := dg dtL_lots_0_ok 46 rfl
theorem dL_lots_75 : decode cL_lots 75 = .ok (.iconst 0, 1) := dg dtL_lots_0_ok 47 rfl
def dtL_lots_1 : List (Nat × Instr × Nat) := [(76, .istore 10, 2), (78, .iconst 0, 1), (79, .istore 11, 2), (81, .iconst 0, 1), (82, .istore 12, 2), (84, .iload 12, 2), (86, .aload_n 0, 1), (87, .iconst 3, 1), (88, .invokevirtual 13, 3), (91, .if_icmp .ge 80, 3), (94, .aload_n 0, 1), (95, .iload 12, 2), (97, .iconst 0, 1), (98, .invokevirtual 30, 3), (101, .iload 9, 2), (103, .if_icmp .ne 17, 3), (106, .aload_n 0, 1), (107, .iload 12, 2), (109, .iconst 4, 1), (110, .invokevirtual 30, 3), (113, .ifCond .ne 7, 3), (116, .iconst 1, 1), (117, .goto 4, 3), (120, .iconst 0, 1), (121, .istore 13, 2), (123, .iload 10, 2), (125, .iload 13, 2), (127, .ifCond .eq 13, 3), (130, .aload_n 0, 1), (131, .iload 12, 2), (133, .iconst 1, 1), (134, .invokevirtual 30, 3), (137, .goto 4, 3), (140, .iconst 0, 1), (141, .iadd, 1), (142, .istore 10, 2), (144, .iload 11, 2), (146, .iload 13, 2), (148, .ifCond .eq 13, 3), (151, .aload_n 0, 1), (152, .iload 12, 2), (154, .iconst 2, 1), (155, .invokevirtual 30, 3), (158, .goto 4, 3), (161, .iconst 0, 1), (162, .iadd, 1), (163, .istore 11, 2), (165, .iinc 12 1, 3)]
theorem dtL_lots_1_ok : ∀ q ∈ dtL_lots_1, decode cL_lots q.1 = .ok q.2 := by decide +kernel
theorem dL_lots_76 : decode cL_lots 76 = .ok (.istore 10, 2) := dg dtL_lots_1_ok 0 rfl
theorem dL_lots_78 : decode cL_lots 78 = .ok (.iconst 0, 1) := dg dtL_lots_1_ok 1 rfl
theorem dL_lots_79 : decode cL_lots 79 = .ok (.istore 11, 2) := dg dtL_lots_1_ok 2 rfl
theorem dL_lots_81 : decode cL_lots 81 = .ok (.iconst 0, 1) := dg dtL_lots_1_ok 3 rfl
theorem dL_lots_82 : decode cL_lots 82 = .ok (.istore 12, 2) := dg dtL_lots_1_ok 4 rfl
theorem dL_lots_84 : decode cL_lots 84 = .ok (.iload 12, 2) := dg dtL_lots_1_ok 5 rfl
theorem dL_lots_86 : decode cL_lots 86 = .ok (.aload_n 0, 1) := dg dtL_lots_1_ok 6 rfl
theorem dL_lots_87 : decode cL_lots 87 = .ok (.iconst 3, 1) := dg dtL_lots_1_ok 7 rfl
theorem dL_lots_88 : decode cL_lots 88 = .ok (.invokevirtual 13, 3) := dg dtL_lots_1_ok 8 rfl
theorem dL_lots_91 : decode cL_lots 91 = .ok (.if_icmp .ge 80, 3) := dg dtL_lots_1_ok 9 rfl
theorem dL_lots_94 : decode cL_lots 94 = .ok (.aload_n 0, 1) := dg dtL_lots_1_ok 10 rfl
theorem dL_lots_95 : decode cL_lots 95 = .ok (.iload 12, 2) := dg dtL_lots_1_ok 11 rfl
theorem dL_lots_97 : decode cL_lots 97 = .ok (.iconst 0, 1) := dg dtL_lots_1_ok 12 rfl
theorem dL_lots_98 : decode cL_lots 98 = .ok (.invokevirtual 30, 3) := dg dtL_lots_1_ok 13 rfl
theorem dL_lots_101 : decode cL_lots 101 = .ok (.iload 9, 2) := dg dtL_lots_1_ok 14 rfl
theorem dL_lots_103 : decode cL_lots 103 = .ok (.if_icmp .ne 17, 3) := dg dtL_lots_1_ok 15 rfl
theorem dL_lots_106 : decode cL_lots 106 = .ok (.aload_n 0, 1) := dg dtL_lots_1_ok 16 rfl
theorem dL_lots_107 : decode cL_lots 107 = .ok (.iload 12, 2) := dg dtL_lots_1_ok 17 rfl
theorem dL_lots_109 : decode cL_lots 109 = .ok (.iconst 4, 1) := dg dtL_lots_1_ok 18 rfl
theorem dL_lots_110 : decode cL_lots 110 = .ok (.invokevirtual 30, 3) := dg dtL_lots_1_ok 19 rfl
theorem dL_lots_113 : decode cL_lots 113 = .ok (.ifCond .ne 7, 3) := dg dtL_lots_1_ok 20 rfl
theorem dL_lots_116 : decode cL_lots 116 = .ok (.iconst 1, 1) := dg dtL_lots_1_ok 21 rfl
theorem dL_lots_117 : decode cL_lots 117 = .ok (.goto 4, 3) := dg dtL_lots_1_ok 22 rfl
theorem dL_lots_120 : decode cL_lots 120 = .ok (.iconst 0, 1) := dg dtL_lots_1_ok 23 rfl
theorem dL_lots_121 : decode cL_lots 121 = .ok (.istore 13, 2) := dg dtL_lots_1_ok 24 rfl
theorem dL_lots_123 : decode cL_lots 123 = .ok (.iload 10, 2) := dg dtL_lots_1_ok 25 rfl
theorem dL_lots_125 : decode cL_lots 125 = .ok (.iload 13, 2) := dg dtL_lots_1_ok 26 rfl
theorem dL_lots_127 : decode cL_lots 127 = .ok (.ifCond .eq 13, 3) := dg dtL_lots_1_ok 27 rfl
theorem dL_lots_130 : decode cL_lots 130 = .ok (.aload_n 0, 1) := dg dtL_lots_1_ok 28 rfl
theorem dL_lots_131 : decode cL_lots 131 = .ok (.iload 12, 2) := dg dtL_lots_1_ok 29 rfl
theorem dL_lots_133 : decode cL_lots 133 = .ok (.iconst 1, 1) := dg dtL_lots_1_ok 30 rfl
theorem dL_lots_134 : decode cL_lots 134 = .ok (.invokevirtual 30, 3) := dg dtL_lots_1_ok 31 rfl
theorem dL_lots_137 : decode cL_lots 137 = .ok (.goto 4, 3) := dg dtL_lots_1_ok 32 rfl
theorem dL_lots_140 : decode cL_lots 140 = .ok (.iconst 0, 1) := dg dtL_lots_1_ok 33 rfl
theorem dL_lots_141 : decode cL_lots 141 = .ok (.iadd, 1) := dg dtL_lots_1_ok 34 rfl
theorem dL_lots_142 : decode cL_lots 142 = .ok (.istore 10, 2) := dg dtL_lots_1_ok 35 rfl
theorem dL_lots_144 : decode cL_lots 144 = .ok (.iload 11, 2) := dg dtL_lots_1_ok 36 rfl
theorem dL_lots_146 : decode cL_lots 146 = .ok (.iload 13, 2) := dg dtL_lots_1_ok 37 rfl
theorem dL_lots_148 : decode cL_lots 148 = .ok (.ifCond .eq 13, 3) := dg dtL_lots_1_ok 38 rfl
theorem dL_lots_151 : decode cL_lots 151 = .ok (.aload_n 0, 1) := dg dtL_lots_1_ok 39 rfl
theorem dL_lots_152 : decode cL_lots 152 = .ok (.iload 12, 2) := dg dtL_lots_1_ok 40 rfl
theorem dL_lots_154 : decode cL_lots 154 = .ok (.iconst 2, 1) := dg dtL_lots_1_ok 41 rfl
theorem dL_lots_155 : decode cL_lots 155 = .ok (.invokevirtual 30, 3) := dg dtL_lots_1_ok 42 rfl
theorem dL_lots_158 : decode cL_lots 158 = .ok (.goto 4, 3) := dg dtL_lots_1_ok 43 rfl
theorem dL_lots_161 : decode cL_lots 161 = .ok (.iconst 0, 1) := dg dtL_lots_1_ok 44 rfl
theorem dL_lots_162 : decode cL_lots 162 = .ok (.iadd, 1) := dg dtL_lots_1_ok 45 rfl
theorem dL_lots_163 : decode cL_lots 163 = .ok (.istore 11, 2) := dg dtL_lots_1_ok 46 rfl
theorem dL_lots_165 : decode cL_lots 165 = .ok (.iinc 12 1, 3) := dg dtL_lots_1_ok 47 rfl
def dtL_lots_2 : List (Nat × Instr × Nat) := [(168, .goto (-84), 3), (171, .aload_n 0, 1), (172, .iload 9, 2), (174, .bipush 7, 2), (176, .invokevirtual 26, 3), (179, .istore 12, 2), (181, .aload_n 0, 1), (182, .iload 9, 2), (184, .iconst 2, 1), (185, .invokevirtual 26, 3), (188, .i2l, 1), (189, .iload 12, 2), (191, .i2l, 1), (192, .lsub, 1), (193, .lstore 13, 2), (195, .aload_n 0, 1), (196, .iload 9, 2), (198, .bipush 6, 2), (200, .invokevirtual 26, 3), (203, .i2l, 1), (204, .aload_n 0, 1), (205, .iload 9, 2), (207, .bipush 6, 2), (209, .invokevirtual 26, 3), (212, .i2l, 1), (213, .lload 13, 2), (215, .lmul, 1), (216, .aload_n 0, 1), (217, .iload 9, 2), (219, .iconst 2, 1), (220, .invokevirtual 26, 3), (223, .i2l, 1), (224, .ldiv, 1), (225, .lsub, 1), (226, .lstore 15, 2), (228, .aload_n 0, 1), (229, .iload 9, 2), (231, .bipush 6, 2), (233, .invokevirtual 26, 3), (236, .aload_n 0, 1), (237, .iload 9, 2), (239, .bipush 8, 2), (241, .invokevirtual 26, 3), (244, .aload_n 0, 1), (245, .iload 9, 2), (247, .bipush 9, 2), (249, .invokevirtual 26, 3), (252, .iadd, 1)]
theorem dtL_lots_2_ok : ∀ q ∈ dtL_lots_2, decode cL_lots q.1 = .ok q.2 := by decide +kernel
theorem dL_lots_168 : decode cL_lots 168 = .ok (.goto (-84), 3) := dg dtL_lots_2_ok 0 rfl
theorem dL_lots_171 : decode cL_lots 171 = .ok (.aload_n 0, 1) := dg dtL_lots_2_ok 1 rfl
theorem dL_lots_172 : decode cL_lots 172 = .ok (.iload 9, 2) := dg dtL_lots_2_ok 2 rfl
theorem dL_lots_174 : decode cL_lots 174 = .ok (.bipush 7, 2) := dg dtL_lots_2_ok 3 rfl
theorem dL_lots_176 : decode cL_lots 176 = .ok (.invokevirtual 26, 3) := dg dtL_lots_2_ok 4 rfl
theorem dL_lots_179 : decode cL_lots 179 = .ok (.istore 12, 2) := dg dtL_lots_2_ok 5 rfl
theorem dL_lots_181 : decode cL_lots 181 = .ok (.aload_n 0, 1) := dg dtL_lots_2_ok 6 rfl
theorem dL_lots_182 : decode cL_lots 182 = .ok (.iload 9, 2) := dg dtL_lots_2_ok 7 rfl
theorem dL_lots_184 : decode cL_lots 184 = .ok (.iconst 2, 1) := dg dtL_lots_2_ok 8 rfl
theorem dL_lots_185 : decode cL_lots 185 = .ok (.invokevirtual 26, 3) := dg dtL_lots_2_ok 9 rfl
theorem dL_lots_188 : decode cL_lots 188 = .ok (.i2l, 1) := dg dtL_lots_2_ok 10 rfl
theorem dL_lots_189 : decode cL_lots 189 = .ok (.iload 12, 2) := dg dtL_lots_2_ok 11 rfl
theorem dL_lots_191 : decode cL_lots 191 = .ok (.i2l, 1) := dg dtL_lots_2_ok 12 rfl
theorem dL_lots_192 : decode cL_lots 192 = .ok (.lsub, 1) := dg dtL_lots_2_ok 13 rfl
theorem dL_lots_193 : decode cL_lots 193 = .ok (.lstore 13, 2) := dg dtL_lots_2_ok 14 rfl
theorem dL_lots_195 : decode cL_lots 195 = .ok (.aload_n 0, 1) := dg dtL_lots_2_ok 15 rfl
theorem dL_lots_196 : decode cL_lots 196 = .ok (.iload 9, 2) := dg dtL_lots_2_ok 16 rfl
theorem dL_lots_198 : decode cL_lots 198 = .ok (.bipush 6, 2) := dg dtL_lots_2_ok 17 rfl
theorem dL_lots_200 : decode cL_lots 200 = .ok (.invokevirtual 26, 3) := dg dtL_lots_2_ok 18 rfl
theorem dL_lots_203 : decode cL_lots 203 = .ok (.i2l, 1) := dg dtL_lots_2_ok 19 rfl
theorem dL_lots_204 : decode cL_lots 204 = .ok (.aload_n 0, 1) := dg dtL_lots_2_ok 20 rfl
theorem dL_lots_205 : decode cL_lots 205 = .ok (.iload 9, 2) := dg dtL_lots_2_ok 21 rfl
theorem dL_lots_207 : decode cL_lots 207 = .ok (.bipush 6, 2) := dg dtL_lots_2_ok 22 rfl
theorem dL_lots_209 : decode cL_lots 209 = .ok (.invokevirtual 26, 3) := dg dtL_lots_2_ok 23 rfl
theorem dL_lots_212 : decode cL_lots 212 = .ok (.i2l, 1) := dg dtL_lots_2_ok 24 rfl
theorem dL_lots_213 : decode cL_lots 213 = .ok (.lload 13, 2) := dg dtL_lots_2_ok 25 rfl
theorem dL_lots_215 : decode cL_lots 215 = .ok (.lmul, 1) := dg dtL_lots_2_ok 26 rfl
theorem dL_lots_216 : decode cL_lots 216 = .ok (.aload_n 0, 1) := dg dtL_lots_2_ok 27 rfl
theorem dL_lots_217 : decode cL_lots 217 = .ok (.iload 9, 2) := dg dtL_lots_2_ok 28 rfl
theorem dL_lots_219 : decode cL_lots 219 = .ok (.iconst 2, 1) := dg dtL_lots_2_ok 29 rfl
theorem dL_lots_220 : decode cL_lots 220 = .ok (.invokevirtual 26, 3) := dg dtL_lots_2_ok 30 rfl
theorem dL_lots_223 : decode cL_lots 223 = .ok (.i2l, 1) := dg dtL_lots_2_ok 31 rfl
theorem dL_lots_224 : decode cL_lots 224 = .ok (.ldiv, 1) := dg dtL_lots_2_ok 32 rfl
theorem dL_lots_225 : decode cL_lots 225 = .ok (.lsub, 1) := dg dtL_lots_2_ok 33 rfl
theorem dL_lots_226 : decode cL_lots 226 = .ok (.lstore 15, 2) := dg dtL_lots_2_ok 34 rfl
theorem dL_lots_228 : decode cL_lots 228 = .ok (.aload_n 0, 1) := dg dtL_lots_2_ok 35 rfl
theorem dL_lots_229 : decode cL_lots 229 = .ok (.iload 9, 2) := dg dtL_lots_2_ok 36 rfl
theorem dL_lots_231 : decode cL_lots 231 = .ok (.bipush 6, 2) := dg dtL_lots_2_ok 37 rfl
theorem dL_lots_233 : decode cL_lots 233 = .ok (.invokevirtual 26, 3) := dg dtL_lots_2_ok 38 rfl
theorem dL_lots_236 : decode cL_lots 236 = .ok (.aload_n 0, 1) := dg dtL_lots_2_ok 39 rfl
theorem dL_lots_237 : decode cL_lots 237 = .ok (.iload 9, 2) := dg dtL_lots_2_ok 40 rfl
theorem dL_lots_239 : decode cL_lots 239 = .ok (.bipush 8, 2) := dg dtL_lots_2_ok 41 rfl
theorem dL_lots_241 : decode cL_lots 241 = .ok (.invokevirtual 26, 3) := dg dtL_lots_2_ok 42 rfl
theorem dL_lots_244 : decode cL_lots 244 = .ok (.aload_n 0, 1) := dg dtL_lots_2_ok 43 rfl
theorem dL_lots_245 : decode cL_lots 245 = .ok (.iload 9, 2) := dg dtL_lots_2_ok 44 rfl
theorem dL_lots_247 : decode cL_lots 247 = .ok (.bipush 9, 2) := dg dtL_lots_2_ok 45 rfl
theorem dL_lots_249 : decode cL_lots 249 = .ok (.invokevirtual 26, 3) := dg dtL_lots_2_ok 46 rfl
theorem dL_lots_252 : decode cL_lots 252 = .ok (.iadd, 1) := dg dtL_lots_2_ok 47 rfl
def dtL_lots_3 : List (Nat × Instr × Nat) := [(253, .aload_n 0, 1), (254, .iload 9, 2), (256, .bipush 10, 2), (258, .invokevirtual 26, 3), (261, .iadd, 1), (262, .if_icmp .ne 110, 3), (265, .iload 12, 2), (267, .ifCond .lt 105, 3), (270, .iload 12, 2), (272, .aload_n 0, 1), (273, .iload 9, 2), (275, .iconst 2, 1), (276, .invokevirtual 26, 3), (279, .if_icmp .gt 93, 3), (282, .aload_n 0, 1), (283, .iload 9, 2), (285, .bipush 12, 2), (287, .invokevirtual 26, 3), (290, .iload 10, 2), (292, .if_icmp .ne 80, 3), (295, .aload_n 0, 1), (296, .iload 9, 2), (298, .bipush 8, 2), (300, .invokevirtual 26, 3), (303, .i2l, 1), (304, .lload 15, 2), (306, .iload 11, 2), (308, .i2l, 1), (309, .ladd, 1), (310, .lcmp, 1), (311, .ifCond .ne 61, 3), (314, .aload_n 0, 1), (315, .iload 9, 2), (317, .iconst 0, 1), (318, .invokevirtual 26, 3), (321, .ifCond .lt 51, 3), (324, .aload_n 0, 1), (325, .iload 9, 2), (327, .iconst 0, 1), (328, .invokevirtual 26, 3), (331, .aload_n 0, 1), (332, .iconst 1, 1), (333, .invokevirtual 13, 3), (336, .if_icmp .ge 36, 3), (339, .iload 12, 2), (341, .ifCond .le 18, 3), (344, .aload_n 0, 1), (345, .iload 9, 2)]
theorem dtL_lots_3_ok : ∀ q ∈ dtL_lots_3, decode cL_lots q.1 = .ok q.2 := by decide +kernel
theorem dL_lots_253 : decode cL_lots 253 = .ok (.aload_n 0, 1) := dg dtL_lots_3_ok 0 rfl
theorem dL_lots_254 : decode cL_lots 254 = .ok (.iload 9, 2) := dg dtL_lots_3_ok 1 rfl
theorem dL_lots_256 : decode cL_lots 256 = .ok (.bipush 10, 2) := dg dtL_lots_3_ok 2 rfl
theorem dL_lots_258 : decode cL_lots 258 = .ok (.invokevirtual 26, 3) := dg dtL_lots_3_ok 3 rfl
theorem dL_lots_261 : decode cL_lots 261 = .ok (.iadd, 1) := dg dtL_lots_3_ok 4 rfl
theorem dL_lots_262 : decode cL_lots 262 = .ok (.if_icmp .ne 110, 3) := dg dtL_lots_3_ok 5 rfl
theorem dL_lots_265 : decode cL_lots 265 = .ok (.iload 12, 2) := dg dtL_lots_3_ok 6 rfl
theorem dL_lots_267 : decode cL_lots 267 = .ok (.ifCond .lt 105, 3) := dg dtL_lots_3_ok 7 rfl
theorem dL_lots_270 : decode cL_lots 270 = .ok (.iload 12, 2) := dg dtL_lots_3_ok 8 rfl
theorem dL_lots_272 : decode cL_lots 272 = .ok (.aload_n 0, 1) := dg dtL_lots_3_ok 9 rfl
theorem dL_lots_273 : decode cL_lots 273 = .ok (.iload 9, 2) := dg dtL_lots_3_ok 10 rfl
theorem dL_lots_275 : decode cL_lots 275 = .ok (.iconst 2, 1) := dg dtL_lots_3_ok 11 rfl
theorem dL_lots_276 : decode cL_lots 276 = .ok (.invokevirtual 26, 3) := dg dtL_lots_3_ok 12 rfl
theorem dL_lots_279 : decode cL_lots 279 = .ok (.if_icmp .gt 93, 3) := dg dtL_lots_3_ok 13 rfl
theorem dL_lots_282 : decode cL_lots 282 = .ok (.aload_n 0, 1) := dg dtL_lots_3_ok 14 rfl
theorem dL_lots_283 : decode cL_lots 283 = .ok (.iload 9, 2) := dg dtL_lots_3_ok 15 rfl
theorem dL_lots_285 : decode cL_lots 285 = .ok (.bipush 12, 2) := dg dtL_lots_3_ok 16 rfl
theorem dL_lots_287 : decode cL_lots 287 = .ok (.invokevirtual 26, 3) := dg dtL_lots_3_ok 17 rfl
theorem dL_lots_290 : decode cL_lots 290 = .ok (.iload 10, 2) := dg dtL_lots_3_ok 18 rfl
theorem dL_lots_292 : decode cL_lots 292 = .ok (.if_icmp .ne 80, 3) := dg dtL_lots_3_ok 19 rfl
theorem dL_lots_295 : decode cL_lots 295 = .ok (.aload_n 0, 1) := dg dtL_lots_3_ok 20 rfl
theorem dL_lots_296 : decode cL_lots 296 = .ok (.iload 9, 2) := dg dtL_lots_3_ok 21 rfl
theorem dL_lots_298 : decode cL_lots 298 = .ok (.bipush 8, 2) := dg dtL_lots_3_ok 22 rfl
theorem dL_lots_300 : decode cL_lots 300 = .ok (.invokevirtual 26, 3) := dg dtL_lots_3_ok 23 rfl
theorem dL_lots_303 : decode cL_lots 303 = .ok (.i2l, 1) := dg dtL_lots_3_ok 24 rfl
theorem dL_lots_304 : decode cL_lots 304 = .ok (.lload 15, 2) := dg dtL_lots_3_ok 25 rfl
theorem dL_lots_306 : decode cL_lots 306 = .ok (.iload 11, 2) := dg dtL_lots_3_ok 26 rfl
theorem dL_lots_308 : decode cL_lots 308 = .ok (.i2l, 1) := dg dtL_lots_3_ok 27 rfl
theorem dL_lots_309 : decode cL_lots 309 = .ok (.ladd, 1) := dg dtL_lots_3_ok 28 rfl
theorem dL_lots_310 : decode cL_lots 310 = .ok (.lcmp, 1) := dg dtL_lots_3_ok 29 rfl
theorem dL_lots_311 : decode cL_lots 311 = .ok (.ifCond .ne 61, 3) := dg dtL_lots_3_ok 30 rfl
theorem dL_lots_314 : decode cL_lots 314 = .ok (.aload_n 0, 1) := dg dtL_lots_3_ok 31 rfl
theorem dL_lots_315 : decode cL_lots 315 = .ok (.iload 9, 2) := dg dtL_lots_3_ok 32 rfl
theorem dL_lots_317 : decode cL_lots 317 = .ok (.iconst 0, 1) := dg dtL_lots_3_ok 33 rfl
theorem dL_lots_318 : decode cL_lots 318 = .ok (.invokevirtual 26, 3) := dg dtL_lots_3_ok 34 rfl
theorem dL_lots_321 : decode cL_lots 321 = .ok (.ifCond .lt 51, 3) := dg dtL_lots_3_ok 35 rfl
theorem dL_lots_324 : decode cL_lots 324 = .ok (.aload_n 0, 1) := dg dtL_lots_3_ok 36 rfl
theorem dL_lots_325 : decode cL_lots 325 = .ok (.iload 9, 2) := dg dtL_lots_3_ok 37 rfl
theorem dL_lots_327 : decode cL_lots 327 = .ok (.iconst 0, 1) := dg dtL_lots_3_ok 38 rfl
theorem dL_lots_328 : decode cL_lots 328 = .ok (.invokevirtual 26, 3) := dg dtL_lots_3_ok 39 rfl
theorem dL_lots_331 : decode cL_lots 331 = .ok (.aload_n 0, 1) := dg dtL_lots_3_ok 40 rfl
theorem dL_lots_332 : decode cL_lots 332 = .ok (.iconst 1, 1) := dg dtL_lots_3_ok 41 rfl
theorem dL_lots_333 : decode cL_lots 333 = .ok (.invokevirtual 13, 3) := dg dtL_lots_3_ok 42 rfl
theorem dL_lots_336 : decode cL_lots 336 = .ok (.if_icmp .ge 36, 3) := dg dtL_lots_3_ok 43 rfl
theorem dL_lots_339 : decode cL_lots 339 = .ok (.iload 12, 2) := dg dtL_lots_3_ok 44 rfl
theorem dL_lots_341 : decode cL_lots 341 = .ok (.ifCond .le 18, 3) := dg dtL_lots_3_ok 45 rfl
theorem dL_lots_344 : decode cL_lots 344 = .ok (.aload_n 0, 1) := dg dtL_lots_3_ok 46 rfl
theorem dL_lots_345 : decode cL_lots 345 = .ok (.iload 9, 2) := dg dtL_lots_3_ok 47 rfl
def dtL_lots_4 : List (Nat × Instr × Nat) := [(347, .iconst 5, 1), (348, .invokevirtual 26, 3), (351, .aload_n 0, 1), (352, .iconst 0, 1), (353, .invokevirtual 13, 3), (356, .if_icmp .lt 16, 3), (359, .aload_n 0, 1), (360, .iload 9, 2), (362, .bipush 13, 2), (364, .invokevirtual 26, 3), (367, .ldc 37, 2), (369, .if_icmp .eq 5, 3), (372, .iconst 0, 1), (373, .ireturn, 1), (374, .iinc 9 1, 3), (377, .goto (-364), 3), (380, .aload_n 0, 1), (381, .iconst 0, 1), (382, .invokevirtual 33, 3), (385, .lload_n 1, 1), (386, .lcmp, 1), (387, .ifCond .ne 67, 3), (390, .aload_n 0, 1), (391, .iconst 1, 1), (392, .invokevirtual 33, 3), (395, .lload_n 3, 1), (396, .lcmp, 1), (397, .ifCond .ne 57, 3), (400, .aload_n 0, 1), (401, .iconst 2, 1), (402, .invokevirtual 33, 3), (405, .lload 5, 2), (407, .lcmp, 1), (408, .ifCond .ne 46, 3), (411, .aload_n 0, 1), (412, .iconst 3, 1), (413, .invokevirtual 33, 3), (416, .lload 7, 2), (418, .lcmp, 1), (419, .ifCond .ne 35, 3), (422, .aload_n 0, 1), (423, .bipush 7, 2), (425, .invokevirtual 33, 3), (428, .ldc2_w 38, 3), (431, .lcmp, 1), (432, .ifCond .ne 22, 3), (435, .aload_n 0, 1), (436, .aload_n 0, 1)]
theorem dtL_lots_4_ok : ∀ q ∈ dtL_lots_4, decode cL_lots q.1 = .ok q.2 := by decide +kernel
theorem dL_lots_347 : decode cL_lots 347 = .ok (.iconst 5, 1) := dg dtL_lots_4_ok 0 rfl
theorem dL_lots_348 : decode cL_lots 348 = .ok (.invokevirtual 26, 3) := dg dtL_lots_4_ok 1 rfl
theorem dL_lots_351 : decode cL_lots 351 = .ok (.aload_n 0, 1) := dg dtL_lots_4_ok 2 rfl
theorem dL_lots_352 : decode cL_lots 352 = .ok (.iconst 0, 1) := dg dtL_lots_4_ok 3 rfl
theorem dL_lots_353 : decode cL_lots 353 = .ok (.invokevirtual 13, 3) := dg dtL_lots_4_ok 4 rfl
theorem dL_lots_356 : decode cL_lots 356 = .ok (.if_icmp .lt 16, 3) := dg dtL_lots_4_ok 5 rfl
theorem dL_lots_359 : decode cL_lots 359 = .ok (.aload_n 0, 1) := dg dtL_lots_4_ok 6 rfl
theorem dL_lots_360 : decode cL_lots 360 = .ok (.iload 9, 2) := dg dtL_lots_4_ok 7 rfl
theorem dL_lots_362 : decode cL_lots 362 = .ok (.bipush 13, 2) := dg dtL_lots_4_ok 8 rfl
theorem dL_lots_364 : decode cL_lots 364 = .ok (.invokevirtual 26, 3) := dg dtL_lots_4_ok 9 rfl
theorem dL_lots_367 : decode cL_lots 367 = .ok (.ldc 37, 2) := dg dtL_lots_4_ok 10 rfl
theorem dL_lots_369 : decode cL_lots 369 = .ok (.if_icmp .eq 5, 3) := dg dtL_lots_4_ok 11 rfl
theorem dL_lots_372 : decode cL_lots 372 = .ok (.iconst 0, 1) := dg dtL_lots_4_ok 12 rfl
theorem dL_lots_373 : decode cL_lots 373 = .ok (.ireturn, 1) := dg dtL_lots_4_ok 13 rfl
theorem dL_lots_374 : decode cL_lots 374 = .ok (.iinc 9 1, 3) := dg dtL_lots_4_ok 14 rfl
theorem dL_lots_377 : decode cL_lots 377 = .ok (.goto (-364), 3) := dg dtL_lots_4_ok 15 rfl
theorem dL_lots_380 : decode cL_lots 380 = .ok (.aload_n 0, 1) := dg dtL_lots_4_ok 16 rfl
theorem dL_lots_381 : decode cL_lots 381 = .ok (.iconst 0, 1) := dg dtL_lots_4_ok 17 rfl
theorem dL_lots_382 : decode cL_lots 382 = .ok (.invokevirtual 33, 3) := dg dtL_lots_4_ok 18 rfl
theorem dL_lots_385 : decode cL_lots 385 = .ok (.lload_n 1, 1) := dg dtL_lots_4_ok 19 rfl
theorem dL_lots_386 : decode cL_lots 386 = .ok (.lcmp, 1) := dg dtL_lots_4_ok 20 rfl
theorem dL_lots_387 : decode cL_lots 387 = .ok (.ifCond .ne 67, 3) := dg dtL_lots_4_ok 21 rfl
theorem dL_lots_390 : decode cL_lots 390 = .ok (.aload_n 0, 1) := dg dtL_lots_4_ok 22 rfl
theorem dL_lots_391 : decode cL_lots 391 = .ok (.iconst 1, 1) := dg dtL_lots_4_ok 23 rfl
theorem dL_lots_392 : decode cL_lots 392 = .ok (.invokevirtual 33, 3) := dg dtL_lots_4_ok 24 rfl
theorem dL_lots_395 : decode cL_lots 395 = .ok (.lload_n 3, 1) := dg dtL_lots_4_ok 25 rfl
theorem dL_lots_396 : decode cL_lots 396 = .ok (.lcmp, 1) := dg dtL_lots_4_ok 26 rfl
theorem dL_lots_397 : decode cL_lots 397 = .ok (.ifCond .ne 57, 3) := dg dtL_lots_4_ok 27 rfl
theorem dL_lots_400 : decode cL_lots 400 = .ok (.aload_n 0, 1) := dg dtL_lots_4_ok 28 rfl
theorem dL_lots_401 : decode cL_lots 401 = .ok (.iconst 2, 1) := dg dtL_lots_4_ok 29 rfl
theorem dL_lots_402 : decode cL_lots 402 = .ok (.invokevirtual 33, 3) := dg dtL_lots_4_ok 30 rfl
theorem dL_lots_405 : decode cL_lots 405 = .ok (.lload 5, 2) := dg dtL_lots_4_ok 31 rfl
theorem dL_lots_407 : decode cL_lots 407 = .ok (.lcmp, 1) := dg dtL_lots_4_ok 32 rfl
theorem dL_lots_408 : decode cL_lots 408 = .ok (.ifCond .ne 46, 3) := dg dtL_lots_4_ok 33 rfl
theorem dL_lots_411 : decode cL_lots 411 = .ok (.aload_n 0, 1) := dg dtL_lots_4_ok 34 rfl
theorem dL_lots_412 : decode cL_lots 412 = .ok (.iconst 3, 1) := dg dtL_lots_4_ok 35 rfl
theorem dL_lots_413 : decode cL_lots 413 = .ok (.invokevirtual 33, 3) := dg dtL_lots_4_ok 36 rfl
theorem dL_lots_416 : decode cL_lots 416 = .ok (.lload 7, 2) := dg dtL_lots_4_ok 37 rfl
theorem dL_lots_418 : decode cL_lots 418 = .ok (.lcmp, 1) := dg dtL_lots_4_ok 38 rfl
theorem dL_lots_419 : decode cL_lots 419 = .ok (.ifCond .ne 35, 3) := dg dtL_lots_4_ok 39 rfl
theorem dL_lots_422 : decode cL_lots 422 = .ok (.aload_n 0, 1) := dg dtL_lots_4_ok 40 rfl
theorem dL_lots_423 : decode cL_lots 423 = .ok (.bipush 7, 2) := dg dtL_lots_4_ok 41 rfl
theorem dL_lots_425 : decode cL_lots 425 = .ok (.invokevirtual 33, 3) := dg dtL_lots_4_ok 42 rfl
theorem dL_lots_428 : decode cL_lots 428 = .ok (.ldc2_w 38, 3) := dg dtL_lots_4_ok 43 rfl
theorem dL_lots_431 : decode cL_lots 431 = .ok (.lcmp, 1) := dg dtL_lots_4_ok 44 rfl
theorem dL_lots_432 : decode cL_lots 432 = .ok (.ifCond .ne 22, 3) := dg dtL_lots_4_ok 45 rfl
theorem dL_lots_435 : decode cL_lots 435 = .ok (.aload_n 0, 1) := dg dtL_lots_4_ok 46 rfl
theorem dL_lots_436 : decode cL_lots 436 = .ok (.aload_n 0, 1) := dg dtL_lots_4_ok 47 rfl
def dtL_lots_5 : List (Nat × Instr × Nat) := [(437, .iconst 2, 1), (438, .invokevirtual 13, 3), (441, .iconst 0, 1), (442, .invokevirtual 26, 3), (445, .ldc 40, 2), (447, .if_icmp .ne 7, 3), (450, .iconst 1, 1), (451, .goto 4, 3), (454, .iconst 0, 1), (455, .ireturn, 1)]
theorem dtL_lots_5_ok : ∀ q ∈ dtL_lots_5, decode cL_lots q.1 = .ok q.2 := by decide +kernel
theorem dL_lots_437 : decode cL_lots 437 = .ok (.iconst 2, 1) := dg dtL_lots_5_ok 0 rfl
theorem dL_lots_438 : decode cL_lots 438 = .ok (.invokevirtual 13, 3) := dg dtL_lots_5_ok 1 rfl
theorem dL_lots_441 : decode cL_lots 441 = .ok (.iconst 0, 1) := dg dtL_lots_5_ok 2 rfl
theorem dL_lots_442 : decode cL_lots 442 = .ok (.invokevirtual 26, 3) := dg dtL_lots_5_ok 3 rfl
theorem dL_lots_445 : decode cL_lots 445 = .ok (.ldc 40, 2) := dg dtL_lots_5_ok 4 rfl
theorem dL_lots_447 : decode cL_lots 447 = .ok (.if_icmp .ne 7, 3) := dg dtL_lots_5_ok 5 rfl
theorem dL_lots_450 : decode cL_lots 450 = .ok (.iconst 1, 1) := dg dtL_lots_5_ok 6 rfl
theorem dL_lots_451 : decode cL_lots 451 = .ok (.goto 4, 3) := dg dtL_lots_5_ok 7 rfl
theorem dL_lots_454 : decode cL_lots 454 = .ok (.iconst 0, 1) := dg dtL_lots_5_ok 8 rfl
theorem dL_lots_455 : decode cL_lots 455 = .ok (.ireturn, 1) := dg dtL_lots_5_ok 9 rfl
def dtL_owners_0 : List (Nat × Instr × Nat) := [(0, .lconst 0, 1), (1, .lstore_n 2, 1), (2, .lconst 0, 1), (3, .lstore 4, 2), (5, .iconst 0, 1), (6, .istore 6, 2), (8, .iload 6, 2), (10, .aload_n 0, 1), (11, .iconst 1, 1), (12, .invokevirtual 13, 3), (15, .if_icmp .ge 249, 3), (18, .iconst 0, 1), (19, .istore 7, 2), (21, .lconst 0, 1), (22, .lstore 8, 2), (24, .iconst 0, 1), (25, .istore 10, 2), (27, .iload 10, 2), (29, .aload_n 0, 1), (30, .iconst 2, 1), (31, .invokevirtual 13, 3), (34, .if_icmp .ge 72, 3), (37, .iload 7, 2), (39, .aload_n 0, 1), (40, .iload 10, 2), (42, .iconst 0, 1), (43, .invokevirtual 26, 3), (46, .iload 6, 2), (48, .if_icmp .ne 18, 3), (51, .aload_n 0, 1), (52, .iload 10, 2), (54, .bipush 7, 2), (56, .invokevirtual 26, 3), (59, .ifCond .le 7, 3), (62, .iconst 1, 1), (63, .goto 4, 3), (66, .iconst 0, 1), (67, .iadd, 1), (68, .istore 7, 2), (70, .lload 8, 2), (72, .aload_n 0, 1), (73, .iload 10, 2), (75, .iconst 0, 1), (76, .invokevirtual 26, 3), (79, .iload 6, 2), (81, .if_icmp .ne 15, 3), (84, .aload_n 0, 1), (85, .iload 10, 2)]
theorem dtL_owners_0_ok : ∀ q ∈ dtL_owners_0, decode cL_owners q.1 = .ok q.2 := by decide +kernel
theorem dL_owners_0 : decode cL_owners 0 = .ok (.lconst 0, 1) := dg dtL_owners_0_ok 0 rfl
theorem dL_owners_1 : decode cL_owners 1 = .ok (.lstore_n 2, 1) := dg dtL_owners_0_ok 1 rfl
theorem dL_owners_2 : decode cL_owners 2 = .ok (.lconst 0, 1) := dg dtL_owners_0_ok 2 rfl
theorem dL_owners_3 : decode cL_owners 3 = .ok (.lstore 4, 2) := dg dtL_owners_0_ok 3 rfl
theorem dL_owners_5 : decode cL_owners 5 = .ok (.iconst 0, 1) := dg dtL_owners_0_ok 4 rfl
theorem dL_owners_6 : decode cL_owners 6 = .ok (.istore 6, 2) := dg dtL_owners_0_ok 5 rfl
theorem dL_owners_8 : decode cL_owners 8 = .ok (.iload 6, 2) := dg dtL_owners_0_ok 6 rfl
theorem dL_owners_10 : decode cL_owners 10 = .ok (.aload_n 0, 1) := dg dtL_owners_0_ok 7 rfl
theorem dL_owners_11 : decode cL_owners 11 = .ok (.iconst 1, 1) := dg dtL_owners_0_ok 8 rfl
theorem dL_owners_12 : decode cL_owners 12 = .ok (.invokevirtual 13, 3) := dg dtL_owners_0_ok 9 rfl
theorem dL_owners_15 : decode cL_owners 15 = .ok (.if_icmp .ge 249, 3) := dg dtL_owners_0_ok 10 rfl
theorem dL_owners_18 : decode cL_owners 18 = .ok (.iconst 0, 1) := dg dtL_owners_0_ok 11 rfl
theorem dL_owners_19 : decode cL_owners 19 = .ok (.istore 7, 2) := dg dtL_owners_0_ok 12 rfl
theorem dL_owners_21 : decode cL_owners 21 = .ok (.lconst 0, 1) := dg dtL_owners_0_ok 13 rfl
theorem dL_owners_22 : decode cL_owners 22 = .ok (.lstore 8, 2) := dg dtL_owners_0_ok 14 rfl
theorem dL_owners_24 : decode cL_owners 24 = .ok (.iconst 0, 1) := dg dtL_owners_0_ok 15 rfl
theorem dL_owners_25 : decode cL_owners 25 = .ok (.istore 10, 2) := dg dtL_owners_0_ok 16 rfl
theorem dL_owners_27 : decode cL_owners 27 = .ok (.iload 10, 2) := dg dtL_owners_0_ok 17 rfl
theorem dL_owners_29 : decode cL_owners 29 = .ok (.aload_n 0, 1) := dg dtL_owners_0_ok 18 rfl
theorem dL_owners_30 : decode cL_owners 30 = .ok (.iconst 2, 1) := dg dtL_owners_0_ok 19 rfl
theorem dL_owners_31 : decode cL_owners 31 = .ok (.invokevirtual 13, 3) := dg dtL_owners_0_ok 20 rfl
theorem dL_owners_34 : decode cL_owners 34 = .ok (.if_icmp .ge 72, 3) := dg dtL_owners_0_ok 21 rfl
theorem dL_owners_37 : decode cL_owners 37 = .ok (.iload 7, 2) := dg dtL_owners_0_ok 22 rfl
theorem dL_owners_39 : decode cL_owners 39 = .ok (.aload_n 0, 1) := dg dtL_owners_0_ok 23 rfl
theorem dL_owners_40 : decode cL_owners 40 = .ok (.iload 10, 2) := dg dtL_owners_0_ok 24 rfl
theorem dL_owners_42 : decode cL_owners 42 = .ok (.iconst 0, 1) := dg dtL_owners_0_ok 25 rfl
theorem dL_owners_43 : decode cL_owners 43 = .ok (.invokevirtual 26, 3) := dg dtL_owners_0_ok 26 rfl
theorem dL_owners_46 : decode cL_owners 46 = .ok (.iload 6, 2) := dg dtL_owners_0_ok 27 rfl
theorem dL_owners_48 : decode cL_owners 48 = .ok (.if_icmp .ne 18, 3) := dg dtL_owners_0_ok 28 rfl
theorem dL_owners_51 : decode cL_owners 51 = .ok (.aload_n 0, 1) := dg dtL_owners_0_ok 29 rfl
theorem dL_owners_52 : decode cL_owners 52 = .ok (.iload 10, 2) := dg dtL_owners_0_ok 30 rfl
theorem dL_owners_54 : decode cL_owners 54 = .ok (.bipush 7, 2) := dg dtL_owners_0_ok 31 rfl
theorem dL_owners_56 : decode cL_owners 56 = .ok (.invokevirtual 26, 3) := dg dtL_owners_0_ok 32 rfl
theorem dL_owners_59 : decode cL_owners 59 = .ok (.ifCond .le 7, 3) := dg dtL_owners_0_ok 33 rfl
theorem dL_owners_62 : decode cL_owners 62 = .ok (.iconst 1, 1) := dg dtL_owners_0_ok 34 rfl
theorem dL_owners_63 : decode cL_owners 63 = .ok (.goto 4, 3) := dg dtL_owners_0_ok 35 rfl
theorem dL_owners_66 : decode cL_owners 66 = .ok (.iconst 0, 1) := dg dtL_owners_0_ok 36 rfl
theorem dL_owners_67 : decode cL_owners 67 = .ok (.iadd, 1) := dg dtL_owners_0_ok 37 rfl
theorem dL_owners_68 : decode cL_owners 68 = .ok (.istore 7, 2) := dg dtL_owners_0_ok 38 rfl
theorem dL_owners_70 : decode cL_owners 70 = .ok (.lload 8, 2) := dg dtL_owners_0_ok 39 rfl
theorem dL_owners_72 : decode cL_owners 72 = .ok (.aload_n 0, 1) := dg dtL_owners_0_ok 40 rfl
theorem dL_owners_73 : decode cL_owners 73 = .ok (.iload 10, 2) := dg dtL_owners_0_ok 41 rfl
theorem dL_owners_75 : decode cL_owners 75 = .ok (.iconst 0, 1) := dg dtL_owners_0_ok 42 rfl
theorem dL_owners_76 : decode cL_owners 76 = .ok (.invokevirtual 26, 3) := dg dtL_owners_0_ok 43 rfl
theorem dL_owners_79 : decode cL_owners 79 = .ok (.iload 6, 2) := dg dtL_owners_0_ok 44 rfl
theorem dL_owners_81 : decode cL_owners 81 = .ok (.if_icmp .ne 15, 3) := dg dtL_owners_0_ok 45 rfl
theorem dL_owners_84 : decode cL_owners 84 = .ok (.aload_n 0, 1) := dg dtL_owners_0_ok 46 rfl
theorem dL_owners_85 : decode cL_owners 85 = .ok (.iload 10, 2) := dg dtL_owners_0_ok 47 rfl
def dtL_owners_1 : List (Nat × Instr × Nat) := [(87, .bipush 8, 2), (89, .invokevirtual 26, 3), (92, .i2l, 1), (93, .goto 4, 3), (96, .lconst 0, 1), (97, .ladd, 1), (98, .lstore 8, 2), (100, .iinc 10 1, 3), (103, .goto (-76), 3), (106, .lload 4, 2), (108, .lload 8, 2), (110, .ladd, 1), (111, .lstore 4, 2), (113, .lload_n 2, 1), (114, .aload_n 0, 1), (115, .iload 6, 2), (117, .bipush 6, 2), (119, .invokevirtual 22, 3), (122, .ladd, 1), (123, .lstore_n 2, 1), (124, .lload 8, 2), (126, .aload_n 0, 1), (127, .bipush 8, 2), (129, .invokevirtual 13, 3), (132, .i2l, 1), (133, .lmul, 1), (134, .ldc2_w 41, 3), (137, .ldiv, 1), (138, .aload_n 0, 1), (139, .iload 6, 2), (141, .iconst 1, 1), (142, .invokevirtual 22, 3), (145, .lcmp, 1), (146, .ifCond .gt 7, 3), (149, .iconst 1, 1), (150, .goto 4, 3), (153, .iconst 0, 1), (154, .istore 10, 2), (156, .aload_n 0, 1), (157, .iload 6, 2), (159, .iconst 0, 1), (160, .invokevirtual 22, 3), (163, .lconst 0, 1), (164, .lcmp, 1), (165, .ifCond .lt 91, 3), (168, .aload_n 0, 1), (169, .iload 6, 2), (171, .iconst 1, 1)]
theorem dtL_owners_1_ok : ∀ q ∈ dtL_owners_1, decode cL_owners q.1 = .ok q.2 := by decide +kernel
theorem dL_owners_87 : decode cL_owners 87 = .ok (.bipush 8, 2) := dg dtL_owners_1_ok 0 rfl
theorem dL_owners_89 : decode cL_owners 89 = .ok (.invokevirtual 26, 3) := dg dtL_owners_1_ok 1 rfl
theorem dL_owners_92 : decode cL_owners 92 = .ok (.i2l, 1) := dg dtL_owners_1_ok 2 rfl
theorem dL_owners_93 : decode cL_owners 93 = .ok (.goto 4, 3) := dg dtL_owners_1_ok 3 rfl
theorem dL_owners_96 : decode cL_owners 96 = .ok (.lconst 0, 1) := dg dtL_owners_1_ok 4 rfl
theorem dL_owners_97 : decode cL_owners 97 = .ok (.ladd, 1) := dg dtL_owners_1_ok 5 rfl
theorem dL_owners_98 : decode cL_owners 98 = .ok (.lstore 8, 2) := dg dtL_owners_1_ok 6 rfl
theorem dL_owners_100 : decode cL_owners 100 = .ok (.iinc 10 1, 3) := dg dtL_owners_1_ok 7 rfl
theorem dL_owners_103 : decode cL_owners 103 = .ok (.goto (-76), 3) := dg dtL_owners_1_ok 8 rfl
theorem dL_owners_106 : decode cL_owners 106 = .ok (.lload 4, 2) := dg dtL_owners_1_ok 9 rfl
theorem dL_owners_108 : decode cL_owners 108 = .ok (.lload 8, 2) := dg dtL_owners_1_ok 10 rfl
theorem dL_owners_110 : decode cL_owners 110 = .ok (.ladd, 1) := dg dtL_owners_1_ok 11 rfl
theorem dL_owners_111 : decode cL_owners 111 = .ok (.lstore 4, 2) := dg dtL_owners_1_ok 12 rfl
theorem dL_owners_113 : decode cL_owners 113 = .ok (.lload_n 2, 1) := dg dtL_owners_1_ok 13 rfl
theorem dL_owners_114 : decode cL_owners 114 = .ok (.aload_n 0, 1) := dg dtL_owners_1_ok 14 rfl
theorem dL_owners_115 : decode cL_owners 115 = .ok (.iload 6, 2) := dg dtL_owners_1_ok 15 rfl
theorem dL_owners_117 : decode cL_owners 117 = .ok (.bipush 6, 2) := dg dtL_owners_1_ok 16 rfl
theorem dL_owners_119 : decode cL_owners 119 = .ok (.invokevirtual 22, 3) := dg dtL_owners_1_ok 17 rfl
theorem dL_owners_122 : decode cL_owners 122 = .ok (.ladd, 1) := dg dtL_owners_1_ok 18 rfl
theorem dL_owners_123 : decode cL_owners 123 = .ok (.lstore_n 2, 1) := dg dtL_owners_1_ok 19 rfl
theorem dL_owners_124 : decode cL_owners 124 = .ok (.lload 8, 2) := dg dtL_owners_1_ok 20 rfl
theorem dL_owners_126 : decode cL_owners 126 = .ok (.aload_n 0, 1) := dg dtL_owners_1_ok 21 rfl
theorem dL_owners_127 : decode cL_owners 127 = .ok (.bipush 8, 2) := dg dtL_owners_1_ok 22 rfl
theorem dL_owners_129 : decode cL_owners 129 = .ok (.invokevirtual 13, 3) := dg dtL_owners_1_ok 23 rfl
theorem dL_owners_132 : decode cL_owners 132 = .ok (.i2l, 1) := dg dtL_owners_1_ok 24 rfl
theorem dL_owners_133 : decode cL_owners 133 = .ok (.lmul, 1) := dg dtL_owners_1_ok 25 rfl
theorem dL_owners_134 : decode cL_owners 134 = .ok (.ldc2_w 41, 3) := dg dtL_owners_1_ok 26 rfl
theorem dL_owners_137 : decode cL_owners 137 = .ok (.ldiv, 1) := dg dtL_owners_1_ok 27 rfl
theorem dL_owners_138 : decode cL_owners 138 = .ok (.aload_n 0, 1) := dg dtL_owners_1_ok 28 rfl
theorem dL_owners_139 : decode cL_owners 139 = .ok (.iload 6, 2) := dg dtL_owners_1_ok 29 rfl
theorem dL_owners_141 : decode cL_owners 141 = .ok (.iconst 1, 1) := dg dtL_owners_1_ok 30 rfl
theorem dL_owners_142 : decode cL_owners 142 = .ok (.invokevirtual 22, 3) := dg dtL_owners_1_ok 31 rfl
theorem dL_owners_145 : decode cL_owners 145 = .ok (.lcmp, 1) := dg dtL_owners_1_ok 32 rfl
theorem dL_owners_146 : decode cL_owners 146 = .ok (.ifCond .gt 7, 3) := dg dtL_owners_1_ok 33 rfl
theorem dL_owners_149 : decode cL_owners 149 = .ok (.iconst 1, 1) := dg dtL_owners_1_ok 34 rfl
theorem dL_owners_150 : decode cL_owners 150 = .ok (.goto 4, 3) := dg dtL_owners_1_ok 35 rfl
theorem dL_owners_153 : decode cL_owners 153 = .ok (.iconst 0, 1) := dg dtL_owners_1_ok 36 rfl
theorem dL_owners_154 : decode cL_owners 154 = .ok (.istore 10, 2) := dg dtL_owners_1_ok 37 rfl
theorem dL_owners_156 : decode cL_owners 156 = .ok (.aload_n 0, 1) := dg dtL_owners_1_ok 38 rfl
theorem dL_owners_157 : decode cL_owners 157 = .ok (.iload 6, 2) := dg dtL_owners_1_ok 39 rfl
theorem dL_owners_159 : decode cL_owners 159 = .ok (.iconst 0, 1) := dg dtL_owners_1_ok 40 rfl
theorem dL_owners_160 : decode cL_owners 160 = .ok (.invokevirtual 22, 3) := dg dtL_owners_1_ok 41 rfl
theorem dL_owners_163 : decode cL_owners 163 = .ok (.lconst 0, 1) := dg dtL_owners_1_ok 42 rfl
theorem dL_owners_164 : decode cL_owners 164 = .ok (.lcmp, 1) := dg dtL_owners_1_ok 43 rfl
theorem dL_owners_165 : decode cL_owners 165 = .ok (.ifCond .lt 91, 3) := dg dtL_owners_1_ok 44 rfl
theorem dL_owners_168 : decode cL_owners 168 = .ok (.aload_n 0, 1) := dg dtL_owners_1_ok 45 rfl
theorem dL_owners_169 : decode cL_owners 169 = .ok (.iload 6, 2) := dg dtL_owners_1_ok 46 rfl
theorem dL_owners_171 : decode cL_owners 171 = .ok (.iconst 1, 1) := dg dtL_owners_1_ok 47 rfl
def dtL_owners_2 : List (Nat × Instr × Nat) := [(172, .invokevirtual 22, 3), (175, .lconst 0, 1), (176, .lcmp, 1), (177, .ifCond .lt 79, 3), (180, .aload_n 0, 1), (181, .iload 6, 2), (183, .iconst 2, 1), (184, .invokevirtual 22, 3), (187, .lconst 0, 1), (188, .lcmp, 1), (189, .ifCond .lt 67, 3), (192, .aload_n 0, 1), (193, .iload 6, 2), (195, .iconst 3, 1), (196, .invokevirtual 22, 3), (199, .lload 8, 2), (201, .lcmp, 1), (202, .ifCond .ne 54, 3), (205, .aload_n 0, 1), (206, .iload 6, 2), (208, .iconst 4, 1), (209, .invokevirtual 22, 3), (212, .iload 10, 2), (214, .ifCond .eq 7, 3), (217, .iconst 1, 1), (218, .goto 4, 3), (221, .iconst 0, 1), (222, .i2l, 1), (223, .lcmp, 1), (224, .ifCond .ne 32, 3), (227, .aload_n 0, 1), (228, .iload 6, 2), (230, .iconst 5, 1), (231, .invokevirtual 22, 3), (234, .iload 7, 2), (236, .i2l, 1), (237, .lcmp, 1), (238, .ifCond .ne 18, 3), (241, .aload_n 0, 1), (242, .iload 6, 2), (244, .bipush 7, 2), (246, .invokevirtual 22, 3), (249, .ldc2_w 38, 3), (252, .lcmp, 1), (253, .ifCond .eq 5, 3), (256, .iconst 0, 1), (257, .ireturn, 1), (258, .iinc 6 1, 3)]
theorem dtL_owners_2_ok : ∀ q ∈ dtL_owners_2, decode cL_owners q.1 = .ok q.2 := by decide +kernel
theorem dL_owners_172 : decode cL_owners 172 = .ok (.invokevirtual 22, 3) := dg dtL_owners_2_ok 0 rfl
theorem dL_owners_175 : decode cL_owners 175 = .ok (.lconst 0, 1) := dg dtL_owners_2_ok 1 rfl
theorem dL_owners_176 : decode cL_owners 176 = .ok (.lcmp, 1) := dg dtL_owners_2_ok 2 rfl
theorem dL_owners_177 : decode cL_owners 177 = .ok (.ifCond .lt 79, 3) := dg dtL_owners_2_ok 3 rfl
theorem dL_owners_180 : decode cL_owners 180 = .ok (.aload_n 0, 1) := dg dtL_owners_2_ok 4 rfl
theorem dL_owners_181 : decode cL_owners 181 = .ok (.iload 6, 2) := dg dtL_owners_2_ok 5 rfl
theorem dL_owners_183 : decode cL_owners 183 = .ok (.iconst 2, 1) := dg dtL_owners_2_ok 6 rfl
theorem dL_owners_184 : decode cL_owners 184 = .ok (.invokevirtual 22, 3) := dg dtL_owners_2_ok 7 rfl
theorem dL_owners_187 : decode cL_owners 187 = .ok (.lconst 0, 1) := dg dtL_owners_2_ok 8 rfl
theorem dL_owners_188 : decode cL_owners 188 = .ok (.lcmp, 1) := dg dtL_owners_2_ok 9 rfl
theorem dL_owners_189 : decode cL_owners 189 = .ok (.ifCond .lt 67, 3) := dg dtL_owners_2_ok 10 rfl
theorem dL_owners_192 : decode cL_owners 192 = .ok (.aload_n 0, 1) := dg dtL_owners_2_ok 11 rfl
theorem dL_owners_193 : decode cL_owners 193 = .ok (.iload 6, 2) := dg dtL_owners_2_ok 12 rfl
theorem dL_owners_195 : decode cL_owners 195 = .ok (.iconst 3, 1) := dg dtL_owners_2_ok 13 rfl
theorem dL_owners_196 : decode cL_owners 196 = .ok (.invokevirtual 22, 3) := dg dtL_owners_2_ok 14 rfl
theorem dL_owners_199 : decode cL_owners 199 = .ok (.lload 8, 2) := dg dtL_owners_2_ok 15 rfl
theorem dL_owners_201 : decode cL_owners 201 = .ok (.lcmp, 1) := dg dtL_owners_2_ok 16 rfl
theorem dL_owners_202 : decode cL_owners 202 = .ok (.ifCond .ne 54, 3) := dg dtL_owners_2_ok 17 rfl
theorem dL_owners_205 : decode cL_owners 205 = .ok (.aload_n 0, 1) := dg dtL_owners_2_ok 18 rfl
theorem dL_owners_206 : decode cL_owners 206 = .ok (.iload 6, 2) := dg dtL_owners_2_ok 19 rfl
theorem dL_owners_208 : decode cL_owners 208 = .ok (.iconst 4, 1) := dg dtL_owners_2_ok 20 rfl
theorem dL_owners_209 : decode cL_owners 209 = .ok (.invokevirtual 22, 3) := dg dtL_owners_2_ok 21 rfl
theorem dL_owners_212 : decode cL_owners 212 = .ok (.iload 10, 2) := dg dtL_owners_2_ok 22 rfl
theorem dL_owners_214 : decode cL_owners 214 = .ok (.ifCond .eq 7, 3) := dg dtL_owners_2_ok 23 rfl
theorem dL_owners_217 : decode cL_owners 217 = .ok (.iconst 1, 1) := dg dtL_owners_2_ok 24 rfl
theorem dL_owners_218 : decode cL_owners 218 = .ok (.goto 4, 3) := dg dtL_owners_2_ok 25 rfl
theorem dL_owners_221 : decode cL_owners 221 = .ok (.iconst 0, 1) := dg dtL_owners_2_ok 26 rfl
theorem dL_owners_222 : decode cL_owners 222 = .ok (.i2l, 1) := dg dtL_owners_2_ok 27 rfl
theorem dL_owners_223 : decode cL_owners 223 = .ok (.lcmp, 1) := dg dtL_owners_2_ok 28 rfl
theorem dL_owners_224 : decode cL_owners 224 = .ok (.ifCond .ne 32, 3) := dg dtL_owners_2_ok 29 rfl
theorem dL_owners_227 : decode cL_owners 227 = .ok (.aload_n 0, 1) := dg dtL_owners_2_ok 30 rfl
theorem dL_owners_228 : decode cL_owners 228 = .ok (.iload 6, 2) := dg dtL_owners_2_ok 31 rfl
theorem dL_owners_230 : decode cL_owners 230 = .ok (.iconst 5, 1) := dg dtL_owners_2_ok 32 rfl
theorem dL_owners_231 : decode cL_owners 231 = .ok (.invokevirtual 22, 3) := dg dtL_owners_2_ok 33 rfl
theorem dL_owners_234 : decode cL_owners 234 = .ok (.iload 7, 2) := dg dtL_owners_2_ok 34 rfl
theorem dL_owners_236 : decode cL_owners 236 = .ok (.i2l, 1) := dg dtL_owners_2_ok 35 rfl
theorem dL_owners_237 : decode cL_owners 237 = .ok (.lcmp, 1) := dg dtL_owners_2_ok 36 rfl
theorem dL_owners_238 : decode cL_owners 238 = .ok (.ifCond .ne 18, 3) := dg dtL_owners_2_ok 37 rfl
theorem dL_owners_241 : decode cL_owners 241 = .ok (.aload_n 0, 1) := dg dtL_owners_2_ok 38 rfl
theorem dL_owners_242 : decode cL_owners 242 = .ok (.iload 6, 2) := dg dtL_owners_2_ok 39 rfl
theorem dL_owners_244 : decode cL_owners 244 = .ok (.bipush 7, 2) := dg dtL_owners_2_ok 40 rfl
theorem dL_owners_246 : decode cL_owners 246 = .ok (.invokevirtual 22, 3) := dg dtL_owners_2_ok 41 rfl
theorem dL_owners_249 : decode cL_owners 249 = .ok (.ldc2_w 38, 3) := dg dtL_owners_2_ok 42 rfl
theorem dL_owners_252 : decode cL_owners 252 = .ok (.lcmp, 1) := dg dtL_owners_2_ok 43 rfl
theorem dL_owners_253 : decode cL_owners 253 = .ok (.ifCond .eq 5, 3) := dg dtL_owners_2_ok 44 rfl
theorem dL_owners_256 : decode cL_owners 256 = .ok (.iconst 0, 1) := dg dtL_owners_2_ok 45 rfl
theorem dL_owners_257 : decode cL_owners 257 = .ok (.ireturn, 1) := dg dtL_owners_2_ok 46 rfl
theorem dL_owners_258 : decode cL_owners 258 = .ok (.iinc 6 1, 3) := dg dtL_owners_2_ok 47 rfl
def dtL_owners_3 : List (Nat × Instr × Nat) := [(261, .goto (-253), 3), (264, .lload_n 2, 1), (265, .aload_n 0, 1), (266, .iconst 4, 1), (267, .invokevirtual 33, 3), (270, .lcmp, 1), (271, .ifCond .ne 53, 3), (274, .lload 4, 2), (276, .aload_n 0, 1), (277, .iconst 1, 1), (278, .invokevirtual 33, 3), (281, .lcmp, 1), (282, .ifCond .ne 42, 3), (285, .aload_n 0, 1), (286, .aload_n 0, 1), (287, .iconst 1, 1), (288, .invokevirtual 13, 3), (291, .iconst 0, 1), (292, .invokevirtual 22, 3), (295, .ldc2_w 43, 3), (298, .lcmp, 1), (299, .ifCond .ne 25, 3), (302, .aload_n 0, 1), (303, .bipush 13, 2), (305, .invokevirtual 13, 3), (308, .ldc 37, 2), (310, .if_icmp .ne 14, 3), (313, .aload_n 0, 1), (314, .bipush 6, 2), (316, .invokevirtual 19, 3), (319, .ldc 40, 2), (321, .if_icmp .eq 5, 3), (324, .iconst 0, 1), (325, .ireturn, 1), (326, .aload_n 0, 1), (327, .iconst 1, 1), (328, .invokevirtual 13, 3), (331, .ifCond .ne 5, 3), (334, .iconst 1, 1), (335, .ireturn, 1), (336, .iload_n 1, 1), (337, .aload_n 0, 1), (338, .iconst 1, 1), (339, .invokevirtual 13, 3), (342, .invokestatic 45, 3), (345, .istore 6, 2), (347, .iload_n 1, 1), (348, .iconst 3, 1)]
theorem dtL_owners_3_ok : ∀ q ∈ dtL_owners_3, decode cL_owners q.1 = .ok q.2 := by decide +kernel
theorem dL_owners_261 : decode cL_owners 261 = .ok (.goto (-253), 3) := dg dtL_owners_3_ok 0 rfl
theorem dL_owners_264 : decode cL_owners 264 = .ok (.lload_n 2, 1) := dg dtL_owners_3_ok 1 rfl
theorem dL_owners_265 : decode cL_owners 265 = .ok (.aload_n 0, 1) := dg dtL_owners_3_ok 2 rfl
theorem dL_owners_266 : decode cL_owners 266 = .ok (.iconst 4, 1) := dg dtL_owners_3_ok 3 rfl
theorem dL_owners_267 : decode cL_owners 267 = .ok (.invokevirtual 33, 3) := dg dtL_owners_3_ok 4 rfl
theorem dL_owners_270 : decode cL_owners 270 = .ok (.lcmp, 1) := dg dtL_owners_3_ok 5 rfl
theorem dL_owners_271 : decode cL_owners 271 = .ok (.ifCond .ne 53, 3) := dg dtL_owners_3_ok 6 rfl
theorem dL_owners_274 : decode cL_owners 274 = .ok (.lload 4, 2) := dg dtL_owners_3_ok 7 rfl
theorem dL_owners_276 : decode cL_owners 276 = .ok (.aload_n 0, 1) := dg dtL_owners_3_ok 8 rfl
theorem dL_owners_277 : decode cL_owners 277 = .ok (.iconst 1, 1) := dg dtL_owners_3_ok 9 rfl
theorem dL_owners_278 : decode cL_owners 278 = .ok (.invokevirtual 33, 3) := dg dtL_owners_3_ok 10 rfl
theorem dL_owners_281 : decode cL_owners 281 = .ok (.lcmp, 1) := dg dtL_owners_3_ok 11 rfl
theorem dL_owners_282 : decode cL_owners 282 = .ok (.ifCond .ne 42, 3) := dg dtL_owners_3_ok 12 rfl
theorem dL_owners_285 : decode cL_owners 285 = .ok (.aload_n 0, 1) := dg dtL_owners_3_ok 13 rfl
theorem dL_owners_286 : decode cL_owners 286 = .ok (.aload_n 0, 1) := dg dtL_owners_3_ok 14 rfl
theorem dL_owners_287 : decode cL_owners 287 = .ok (.iconst 1, 1) := dg dtL_owners_3_ok 15 rfl
theorem dL_owners_288 : decode cL_owners 288 = .ok (.invokevirtual 13, 3) := dg dtL_owners_3_ok 16 rfl
theorem dL_owners_291 : decode cL_owners 291 = .ok (.iconst 0, 1) := dg dtL_owners_3_ok 17 rfl
theorem dL_owners_292 : decode cL_owners 292 = .ok (.invokevirtual 22, 3) := dg dtL_owners_3_ok 18 rfl
theorem dL_owners_295 : decode cL_owners 295 = .ok (.ldc2_w 43, 3) := dg dtL_owners_3_ok 19 rfl
theorem dL_owners_298 : decode cL_owners 298 = .ok (.lcmp, 1) := dg dtL_owners_3_ok 20 rfl
theorem dL_owners_299 : decode cL_owners 299 = .ok (.ifCond .ne 25, 3) := dg dtL_owners_3_ok 21 rfl
theorem dL_owners_302 : decode cL_owners 302 = .ok (.aload_n 0, 1) := dg dtL_owners_3_ok 22 rfl
theorem dL_owners_303 : decode cL_owners 303 = .ok (.bipush 13, 2) := dg dtL_owners_3_ok 23 rfl
theorem dL_owners_305 : decode cL_owners 305 = .ok (.invokevirtual 13, 3) := dg dtL_owners_3_ok 24 rfl
theorem dL_owners_308 : decode cL_owners 308 = .ok (.ldc 37, 2) := dg dtL_owners_3_ok 25 rfl
theorem dL_owners_310 : decode cL_owners 310 = .ok (.if_icmp .ne 14, 3) := dg dtL_owners_3_ok 26 rfl
theorem dL_owners_313 : decode cL_owners 313 = .ok (.aload_n 0, 1) := dg dtL_owners_3_ok 27 rfl
theorem dL_owners_314 : decode cL_owners 314 = .ok (.bipush 6, 2) := dg dtL_owners_3_ok 28 rfl
theorem dL_owners_316 : decode cL_owners 316 = .ok (.invokevirtual 19, 3) := dg dtL_owners_3_ok 29 rfl
theorem dL_owners_319 : decode cL_owners 319 = .ok (.ldc 40, 2) := dg dtL_owners_3_ok 30 rfl
theorem dL_owners_321 : decode cL_owners 321 = .ok (.if_icmp .eq 5, 3) := dg dtL_owners_3_ok 31 rfl
theorem dL_owners_324 : decode cL_owners 324 = .ok (.iconst 0, 1) := dg dtL_owners_3_ok 32 rfl
theorem dL_owners_325 : decode cL_owners 325 = .ok (.ireturn, 1) := dg dtL_owners_3_ok 33 rfl
theorem dL_owners_326 : decode cL_owners 326 = .ok (.aload_n 0, 1) := dg dtL_owners_3_ok 34 rfl
theorem dL_owners_327 : decode cL_owners 327 = .ok (.iconst 1, 1) := dg dtL_owners_3_ok 35 rfl
theorem dL_owners_328 : decode cL_owners 328 = .ok (.invokevirtual 13, 3) := dg dtL_owners_3_ok 36 rfl
theorem dL_owners_331 : decode cL_owners 331 = .ok (.ifCond .ne 5, 3) := dg dtL_owners_3_ok 37 rfl
theorem dL_owners_334 : decode cL_owners 334 = .ok (.iconst 1, 1) := dg dtL_owners_3_ok 38 rfl
theorem dL_owners_335 : decode cL_owners 335 = .ok (.ireturn, 1) := dg dtL_owners_3_ok 39 rfl
theorem dL_owners_336 : decode cL_owners 336 = .ok (.iload_n 1, 1) := dg dtL_owners_3_ok 40 rfl
theorem dL_owners_337 : decode cL_owners 337 = .ok (.aload_n 0, 1) := dg dtL_owners_3_ok 41 rfl
theorem dL_owners_338 : decode cL_owners 338 = .ok (.iconst 1, 1) := dg dtL_owners_3_ok 42 rfl
theorem dL_owners_339 : decode cL_owners 339 = .ok (.invokevirtual 13, 3) := dg dtL_owners_3_ok 43 rfl
theorem dL_owners_342 : decode cL_owners 342 = .ok (.invokestatic 45, 3) := dg dtL_owners_3_ok 44 rfl
theorem dL_owners_345 : decode cL_owners 345 = .ok (.istore 6, 2) := dg dtL_owners_3_ok 45 rfl
theorem dL_owners_347 : decode cL_owners 347 = .ok (.iload_n 1, 1) := dg dtL_owners_3_ok 46 rfl
theorem dL_owners_348 : decode cL_owners 348 = .ok (.iconst 3, 1) := dg dtL_owners_3_ok 47 rfl
def dtL_owners_4 : List (Nat × Instr × Nat) := [(349, .ishr, 1), (350, .bipush 6, 2), (352, .invokestatic 45, 3), (355, .istore 7, 2), (357, .aload_n 0, 1), (358, .iload 6, 2), (360, .iconst 3, 1), (361, .invokevirtual 22, 3), (364, .lstore 8, 2), (366, .aload_n 0, 1), (367, .bipush 8, 2), (369, .invokevirtual 13, 3), (372, .i2l, 1), (373, .lstore 10, 2), (375, .aload_n 0, 1), (376, .iload 6, 2), (378, .iload 7, 2), (380, .invokevirtual 50, 3), (383, .istore 12, 2), (385, .lload 8, 2), (387, .lload 10, 2), (389, .lmul, 1), (390, .ldc2_w 41, 3), (393, .ldiv, 1), (394, .aload_n 0, 1), (395, .iload 6, 2), (397, .iconst 1, 1), (398, .invokevirtual 22, 3), (401, .lcmp, 1), (402, .ifCond .le 7, 3), (405, .iconst 1, 1), (406, .goto 4, 3), (409, .iconst 0, 1), (410, .istore 13, 2), (412, .iload 13, 2), (414, .ifCond .eq 18, 3), (417, .iload 12, 2), (419, .ldc 53, 2), (421, .if_icmp .ne 7, 3), (424, .iconst 1, 1), (425, .goto 98, 3), (428, .iconst 0, 1), (429, .goto 94, 3), (432, .iload 12, 2), (434, .ifCond .lt 88, 3), (437, .lload 8, 2), (439, .iload 12, 2), (441, .i2l, 1)]
theorem dtL_owners_4_ok : ∀ q ∈ dtL_owners_4, decode cL_owners q.1 = .ok q.2 := by decide +kernel
theorem dL_owners_349 : decode cL_owners 349 = .ok (.ishr, 1) := dg dtL_owners_4_ok 0 rfl
theorem dL_owners_350 : decode cL_owners 350 = .ok (.bipush 6, 2) := dg dtL_owners_4_ok 1 rfl
theorem dL_owners_352 : decode cL_owners 352 = .ok (.invokestatic 45, 3) := dg dtL_owners_4_ok 2 rfl
theorem dL_owners_355 : decode cL_owners 355 = .ok (.istore 7, 2) := dg dtL_owners_4_ok 3 rfl
theorem dL_owners_357 : decode cL_owners 357 = .ok (.aload_n 0, 1) := dg dtL_owners_4_ok 4 rfl
theorem dL_owners_358 : decode cL_owners 358 = .ok (.iload 6, 2) := dg dtL_owners_4_ok 5 rfl
theorem dL_owners_360 : decode cL_owners 360 = .ok (.iconst 3, 1) := dg dtL_owners_4_ok 6 rfl
theorem dL_owners_361 : decode cL_owners 361 = .ok (.invokevirtual 22, 3) := dg dtL_owners_4_ok 7 rfl
theorem dL_owners_364 : decode cL_owners 364 = .ok (.lstore 8, 2) := dg dtL_owners_4_ok 8 rfl
theorem dL_owners_366 : decode cL_owners 366 = .ok (.aload_n 0, 1) := dg dtL_owners_4_ok 9 rfl
theorem dL_owners_367 : decode cL_owners 367 = .ok (.bipush 8, 2) := dg dtL_owners_4_ok 10 rfl
theorem dL_owners_369 : decode cL_owners 369 = .ok (.invokevirtual 13, 3) := dg dtL_owners_4_ok 11 rfl
theorem dL_owners_372 : decode cL_owners 372 = .ok (.i2l, 1) := dg dtL_owners_4_ok 12 rfl
theorem dL_owners_373 : decode cL_owners 373 = .ok (.lstore 10, 2) := dg dtL_owners_4_ok 13 rfl
theorem dL_owners_375 : decode cL_owners 375 = .ok (.aload_n 0, 1) := dg dtL_owners_4_ok 14 rfl
theorem dL_owners_376 : decode cL_owners 376 = .ok (.iload 6, 2) := dg dtL_owners_4_ok 15 rfl
theorem dL_owners_378 : decode cL_owners 378 = .ok (.iload 7, 2) := dg dtL_owners_4_ok 16 rfl
theorem dL_owners_380 : decode cL_owners 380 = .ok (.invokevirtual 50, 3) := dg dtL_owners_4_ok 17 rfl
theorem dL_owners_383 : decode cL_owners 383 = .ok (.istore 12, 2) := dg dtL_owners_4_ok 18 rfl
theorem dL_owners_385 : decode cL_owners 385 = .ok (.lload 8, 2) := dg dtL_owners_4_ok 19 rfl
theorem dL_owners_387 : decode cL_owners 387 = .ok (.lload 10, 2) := dg dtL_owners_4_ok 20 rfl
theorem dL_owners_389 : decode cL_owners 389 = .ok (.lmul, 1) := dg dtL_owners_4_ok 21 rfl
theorem dL_owners_390 : decode cL_owners 390 = .ok (.ldc2_w 41, 3) := dg dtL_owners_4_ok 22 rfl
theorem dL_owners_393 : decode cL_owners 393 = .ok (.ldiv, 1) := dg dtL_owners_4_ok 23 rfl
theorem dL_owners_394 : decode cL_owners 394 = .ok (.aload_n 0, 1) := dg dtL_owners_4_ok 24 rfl
theorem dL_owners_395 : decode cL_owners 395 = .ok (.iload 6, 2) := dg dtL_owners_4_ok 25 rfl
theorem dL_owners_397 : decode cL_owners 397 = .ok (.iconst 1, 1) := dg dtL_owners_4_ok 26 rfl
theorem dL_owners_398 : decode cL_owners 398 = .ok (.invokevirtual 22, 3) := dg dtL_owners_4_ok 27 rfl
theorem dL_owners_401 : decode cL_owners 401 = .ok (.lcmp, 1) := dg dtL_owners_4_ok 28 rfl
theorem dL_owners_402 : decode cL_owners 402 = .ok (.ifCond .le 7, 3) := dg dtL_owners_4_ok 29 rfl
theorem dL_owners_405 : decode cL_owners 405 = .ok (.iconst 1, 1) := dg dtL_owners_4_ok 30 rfl
theorem dL_owners_406 : decode cL_owners 406 = .ok (.goto 4, 3) := dg dtL_owners_4_ok 31 rfl
theorem dL_owners_409 : decode cL_owners 409 = .ok (.iconst 0, 1) := dg dtL_owners_4_ok 32 rfl
theorem dL_owners_410 : decode cL_owners 410 = .ok (.istore 13, 2) := dg dtL_owners_4_ok 33 rfl
theorem dL_owners_412 : decode cL_owners 412 = .ok (.iload 13, 2) := dg dtL_owners_4_ok 34 rfl
theorem dL_owners_414 : decode cL_owners 414 = .ok (.ifCond .eq 18, 3) := dg dtL_owners_4_ok 35 rfl
theorem dL_owners_417 : decode cL_owners 417 = .ok (.iload 12, 2) := dg dtL_owners_4_ok 36 rfl
theorem dL_owners_419 : decode cL_owners 419 = .ok (.ldc 53, 2) := dg dtL_owners_4_ok 37 rfl
theorem dL_owners_421 : decode cL_owners 421 = .ok (.if_icmp .ne 7, 3) := dg dtL_owners_4_ok 38 rfl
theorem dL_owners_424 : decode cL_owners 424 = .ok (.iconst 1, 1) := dg dtL_owners_4_ok 39 rfl
theorem dL_owners_425 : decode cL_owners 425 = .ok (.goto 98, 3) := dg dtL_owners_4_ok 40 rfl
theorem dL_owners_428 : decode cL_owners 428 = .ok (.iconst 0, 1) := dg dtL_owners_4_ok 41 rfl
theorem dL_owners_429 : decode cL_owners 429 = .ok (.goto 94, 3) := dg dtL_owners_4_ok 42 rfl
theorem dL_owners_432 : decode cL_owners 432 = .ok (.iload 12, 2) := dg dtL_owners_4_ok 43 rfl
theorem dL_owners_434 : decode cL_owners 434 = .ok (.ifCond .lt 88, 3) := dg dtL_owners_4_ok 44 rfl
theorem dL_owners_437 : decode cL_owners 437 = .ok (.lload 8, 2) := dg dtL_owners_4_ok 45 rfl
theorem dL_owners_439 : decode cL_owners 439 = .ok (.iload 12, 2) := dg dtL_owners_4_ok 46 rfl
theorem dL_owners_441 : decode cL_owners 441 = .ok (.i2l, 1) := dg dtL_owners_4_ok 47 rfl
def dtL_owners_5 : List (Nat × Instr × Nat) := [(442, .aload_n 0, 1), (443, .iload 7, 2), (445, .invokevirtual 19, 3), (448, .i2l, 1), (449, .lmul, 1), (450, .ldc2_w 54, 3), (453, .ldiv, 1), (454, .ladd, 1), (455, .lload 10, 2), (457, .lmul, 1), (458, .ldc2_w 41, 3), (461, .ldiv, 1), (462, .aload_n 0, 1), (463, .iload 6, 2), (465, .iconst 1, 1), (466, .invokevirtual 22, 3), (469, .lcmp, 1), (470, .ifCond .gt 52, 3), (473, .iload 12, 2), (475, .ldc 56, 2), (477, .if_icmp .eq 41, 3), (480, .lload 8, 2), (482, .iload 12, 2), (484, .i2l, 1), (485, .lconst 1, 1), (486, .ladd, 1), (487, .aload_n 0, 1), (488, .iload 7, 2), (490, .invokevirtual 19, 3), (493, .i2l, 1), (494, .lmul, 1), (495, .ldc2_w 54, 3), (498, .ldiv, 1), (499, .ladd, 1), (500, .lload 10, 2), (502, .lmul, 1), (503, .ldc2_w 41, 3), (506, .ldiv, 1), (507, .aload_n 0, 1), (508, .iload 6, 2), (510, .iconst 1, 1), (511, .invokevirtual 22, 3), (514, .lcmp, 1), (515, .ifCond .le 7, 3), (518, .iconst 1, 1), (519, .goto 4, 3), (522, .iconst 0, 1), (523, .istore 14, 2)]
theorem dtL_owners_5_ok : ∀ q ∈ dtL_owners_5, decode cL_owners q.1 = .ok q.2 := by decide +kernel
theorem dL_owners_442 : decode cL_owners 442 = .ok (.aload_n 0, 1) := dg dtL_owners_5_ok 0 rfl
theorem dL_owners_443 : decode cL_owners 443 = .ok (.iload 7, 2) := dg dtL_owners_5_ok 1 rfl
theorem dL_owners_445 : decode cL_owners 445 = .ok (.invokevirtual 19, 3) := dg dtL_owners_5_ok 2 rfl
theorem dL_owners_448 : decode cL_owners 448 = .ok (.i2l, 1) := dg dtL_owners_5_ok 3 rfl
theorem dL_owners_449 : decode cL_owners 449 = .ok (.lmul, 1) := dg dtL_owners_5_ok 4 rfl
theorem dL_owners_450 : decode cL_owners 450 = .ok (.ldc2_w 54, 3) := dg dtL_owners_5_ok 5 rfl
theorem dL_owners_453 : decode cL_owners 453 = .ok (.ldiv, 1) := dg dtL_owners_5_ok 6 rfl
theorem dL_owners_454 : decode cL_owners 454 = .ok (.ladd, 1) := dg dtL_owners_5_ok 7 rfl
theorem dL_owners_455 : decode cL_owners 455 = .ok (.lload 10, 2) := dg dtL_owners_5_ok 8 rfl
theorem dL_owners_457 : decode cL_owners 457 = .ok (.lmul, 1) := dg dtL_owners_5_ok 9 rfl
theorem dL_owners_458 : decode cL_owners 458 = .ok (.ldc2_w 41, 3) := dg dtL_owners_5_ok 10 rfl
theorem dL_owners_461 : decode cL_owners 461 = .ok (.ldiv, 1) := dg dtL_owners_5_ok 11 rfl
theorem dL_owners_462 : decode cL_owners 462 = .ok (.aload_n 0, 1) := dg dtL_owners_5_ok 12 rfl
theorem dL_owners_463 : decode cL_owners 463 = .ok (.iload 6, 2) := dg dtL_owners_5_ok 13 rfl
theorem dL_owners_465 : decode cL_owners 465 = .ok (.iconst 1, 1) := dg dtL_owners_5_ok 14 rfl
theorem dL_owners_466 : decode cL_owners 466 = .ok (.invokevirtual 22, 3) := dg dtL_owners_5_ok 15 rfl
theorem dL_owners_469 : decode cL_owners 469 = .ok (.lcmp, 1) := dg dtL_owners_5_ok 16 rfl
theorem dL_owners_470 : decode cL_owners 470 = .ok (.ifCond .gt 52, 3) := dg dtL_owners_5_ok 17 rfl
theorem dL_owners_473 : decode cL_owners 473 = .ok (.iload 12, 2) := dg dtL_owners_5_ok 18 rfl
theorem dL_owners_475 : decode cL_owners 475 = .ok (.ldc 56, 2) := dg dtL_owners_5_ok 19 rfl
theorem dL_owners_477 : decode cL_owners 477 = .ok (.if_icmp .eq 41, 3) := dg dtL_owners_5_ok 20 rfl
theorem dL_owners_480 : decode cL_owners 480 = .ok (.lload 8, 2) := dg dtL_owners_5_ok 21 rfl
theorem dL_owners_482 : decode cL_owners 482 = .ok (.iload 12, 2) := dg dtL_owners_5_ok 22 rfl
theorem dL_owners_484 : decode cL_owners 484 = .ok (.i2l, 1) := dg dtL_owners_5_ok 23 rfl
theorem dL_owners_485 : decode cL_owners 485 = .ok (.lconst 1, 1) := dg dtL_owners_5_ok 24 rfl
theorem dL_owners_486 : decode cL_owners 486 = .ok (.ladd, 1) := dg dtL_owners_5_ok 25 rfl
theorem dL_owners_487 : decode cL_owners 487 = .ok (.aload_n 0, 1) := dg dtL_owners_5_ok 26 rfl
theorem dL_owners_488 : decode cL_owners 488 = .ok (.iload 7, 2) := dg dtL_owners_5_ok 27 rfl
theorem dL_owners_490 : decode cL_owners 490 = .ok (.invokevirtual 19, 3) := dg dtL_owners_5_ok 28 rfl
theorem dL_owners_493 : decode cL_owners 493 = .ok (.i2l, 1) := dg dtL_owners_5_ok 29 rfl
theorem dL_owners_494 : decode cL_owners 494 = .ok (.lmul, 1) := dg dtL_owners_5_ok 30 rfl
theorem dL_owners_495 : decode cL_owners 495 = .ok (.ldc2_w 54, 3) := dg dtL_owners_5_ok 31 rfl
theorem dL_owners_498 : decode cL_owners 498 = .ok (.ldiv, 1) := dg dtL_owners_5_ok 32 rfl
theorem dL_owners_499 : decode cL_owners 499 = .ok (.ladd, 1) := dg dtL_owners_5_ok 33 rfl
theorem dL_owners_500 : decode cL_owners 500 = .ok (.lload 10, 2) := dg dtL_owners_5_ok 34 rfl
theorem dL_owners_502 : decode cL_owners 502 = .ok (.lmul, 1) := dg dtL_owners_5_ok 35 rfl
theorem dL_owners_503 : decode cL_owners 503 = .ok (.ldc2_w 41, 3) := dg dtL_owners_5_ok 36 rfl
theorem dL_owners_506 : decode cL_owners 506 = .ok (.ldiv, 1) := dg dtL_owners_5_ok 37 rfl
theorem dL_owners_507 : decode cL_owners 507 = .ok (.aload_n 0, 1) := dg dtL_owners_5_ok 38 rfl
theorem dL_owners_508 : decode cL_owners 508 = .ok (.iload 6, 2) := dg dtL_owners_5_ok 39 rfl
theorem dL_owners_510 : decode cL_owners 510 = .ok (.iconst 1, 1) := dg dtL_owners_5_ok 40 rfl
theorem dL_owners_511 : decode cL_owners 511 = .ok (.invokevirtual 22, 3) := dg dtL_owners_5_ok 41 rfl
theorem dL_owners_514 : decode cL_owners 514 = .ok (.lcmp, 1) := dg dtL_owners_5_ok 42 rfl
theorem dL_owners_515 : decode cL_owners 515 = .ok (.ifCond .le 7, 3) := dg dtL_owners_5_ok 43 rfl
theorem dL_owners_518 : decode cL_owners 518 = .ok (.iconst 1, 1) := dg dtL_owners_5_ok 44 rfl
theorem dL_owners_519 : decode cL_owners 519 = .ok (.goto 4, 3) := dg dtL_owners_5_ok 45 rfl
theorem dL_owners_522 : decode cL_owners 522 = .ok (.iconst 0, 1) := dg dtL_owners_5_ok 46 rfl
theorem dL_owners_523 : decode cL_owners 523 = .ok (.istore 14, 2) := dg dtL_owners_5_ok 47 rfl
def dtL_owners_6 : List (Nat × Instr × Nat) := [(525, .iload 14, 2), (527, .ifCond .eq 20, 3), (530, .aload_n 0, 1), (531, .iload 6, 2), (533, .bipush 6, 2), (535, .invokevirtual 50, 3), (538, .ldc 40, 2), (540, .if_icmp .ne 7, 3), (543, .iconst 1, 1), (544, .goto 4, 3), (547, .iconst 0, 1), (548, .ireturn, 1)]
theorem dtL_owners_6_ok : ∀ q ∈ dtL_owners_6, decode cL_owners q.1 = .ok q.2 := by decide +kernel
theorem dL_owners_525 : decode cL_owners 525 = .ok (.iload 14, 2) := dg dtL_owners_6_ok 0 rfl
theorem dL_owners_527 : decode cL_owners 527 = .ok (.ifCond .eq 20, 3) := dg dtL_owners_6_ok 1 rfl
theorem dL_owners_530 : decode cL_owners 530 = .ok (.aload_n 0, 1) := dg dtL_owners_6_ok 2 rfl
theorem dL_owners_531 : decode cL_owners 531 = .ok (.iload 6, 2) := dg dtL_owners_6_ok 3 rfl
theorem dL_owners_533 : decode cL_owners 533 = .ok (.bipush 6, 2) := dg dtL_owners_6_ok 4 rfl
theorem dL_owners_535 : decode cL_owners 535 = .ok (.invokevirtual 50, 3) := dg dtL_owners_6_ok 5 rfl
theorem dL_owners_538 : decode cL_owners 538 = .ok (.ldc 40, 2) := dg dtL_owners_6_ok 6 rfl
theorem dL_owners_540 : decode cL_owners 540 = .ok (.if_icmp .ne 7, 3) := dg dtL_owners_6_ok 7 rfl
theorem dL_owners_543 : decode cL_owners 543 = .ok (.iconst 1, 1) := dg dtL_owners_6_ok 8 rfl
theorem dL_owners_544 : decode cL_owners 544 = .ok (.goto 4, 3) := dg dtL_owners_6_ok 9 rfl
theorem dL_owners_547 : decode cL_owners 547 = .ok (.iconst 0, 1) := dg dtL_owners_6_ok 10 rfl
theorem dL_owners_548 : decode cL_owners 548 = .ok (.ireturn, 1) := dg dtL_owners_6_ok 11 rfl
def dtL_deadlines_0 : List (Nat × Instr × Nat) := [(0, .aload_n 0, 1), (1, .invokevirtual 57, 3), (4, .istore_n 2, 1), (5, .aload_n 0, 1), (6, .iconst 0, 1), (7, .invokevirtual 13, 3), (10, .istore_n 3, 1), (11, .ldc 61, 2), (13, .istore 4, 2), (15, .iconst 0, 1), (16, .istore 5, 2), (18, .iload 5, 2), (20, .aload_n 0, 1), (21, .iconst 2, 1), (22, .invokevirtual 13, 3), (25, .if_icmp .ge 46, 3), (28, .aload_n 0, 1), (29, .iload 5, 2), (31, .bipush 7, 2), (33, .invokevirtual 26, 3), (36, .ifCond .le 25, 3), (39, .aload_n 0, 1), (40, .iload 5, 2), (42, .iconst 5, 1), (43, .invokevirtual 26, 3), (46, .iload 4, 2), (48, .if_icmp .ge 13, 3), (51, .aload_n 0, 1), (52, .iload 5, 2), (54, .iconst 5, 1), (55, .invokevirtual 26, 3), (58, .goto 5, 3), (61, .iload 4, 2), (63, .istore 4, 2), (65, .iinc 5 1, 3), (68, .goto (-50), 3), (71, .iconst 0, 1), (72, .istore 5, 2), (74, .iload 5, 2), (76, .aload_n 0, 1), (77, .iconst 3, 1), (78, .invokevirtual 13, 3), (81, .if_icmp .ge 45, 3), (84, .aload_n 0, 1), (85, .iload 5, 2), (87, .iconst 4, 1), (88, .invokevirtual 30, 3), (91, .ifCond .ne 25, 3)]
theorem dtL_deadlines_0_ok : ∀ q ∈ dtL_deadlines_0, decode cL_deadlines q.1 = .ok q.2 := by decide +kernel
theorem dL_deadlines_0 : decode cL_deadlines 0 = .ok (.aload_n 0, 1) := dg dtL_deadlines_0_ok 0 rfl
theorem dL_deadlines_1 : decode cL_deadlines 1 = .ok (.invokevirtual 57, 3) := dg dtL_deadlines_0_ok 1 rfl
theorem dL_deadlines_4 : decode cL_deadlines 4 = .ok (.istore_n 2, 1) := dg dtL_deadlines_0_ok 2 rfl
theorem dL_deadlines_5 : decode cL_deadlines 5 = .ok (.aload_n 0, 1) := dg dtL_deadlines_0_ok 3 rfl
theorem dL_deadlines_6 : decode cL_deadlines 6 = .ok (.iconst 0, 1) := dg dtL_deadlines_0_ok 4 rfl
theorem dL_deadlines_7 : decode cL_deadlines 7 = .ok (.invokevirtual 13, 3) := dg dtL_deadlines_0_ok 5 rfl
theorem dL_deadlines_10 : decode cL_deadlines 10 = .ok (.istore_n 3, 1) := dg dtL_deadlines_0_ok 6 rfl
theorem dL_deadlines_11 : decode cL_deadlines 11 = .ok (.ldc 61, 2) := dg dtL_deadlines_0_ok 7 rfl
theorem dL_deadlines_13 : decode cL_deadlines 13 = .ok (.istore 4, 2) := dg dtL_deadlines_0_ok 8 rfl
theorem dL_deadlines_15 : decode cL_deadlines 15 = .ok (.iconst 0, 1) := dg dtL_deadlines_0_ok 9 rfl
theorem dL_deadlines_16 : decode cL_deadlines 16 = .ok (.istore 5, 2) := dg dtL_deadlines_0_ok 10 rfl
theorem dL_deadlines_18 : decode cL_deadlines 18 = .ok (.iload 5, 2) := dg dtL_deadlines_0_ok 11 rfl
theorem dL_deadlines_20 : decode cL_deadlines 20 = .ok (.aload_n 0, 1) := dg dtL_deadlines_0_ok 12 rfl
theorem dL_deadlines_21 : decode cL_deadlines 21 = .ok (.iconst 2, 1) := dg dtL_deadlines_0_ok 13 rfl
theorem dL_deadlines_22 : decode cL_deadlines 22 = .ok (.invokevirtual 13, 3) := dg dtL_deadlines_0_ok 14 rfl
theorem dL_deadlines_25 : decode cL_deadlines 25 = .ok (.if_icmp .ge 46, 3) := dg dtL_deadlines_0_ok 15 rfl
theorem dL_deadlines_28 : decode cL_deadlines 28 = .ok (.aload_n 0, 1) := dg dtL_deadlines_0_ok 16 rfl
theorem dL_deadlines_29 : decode cL_deadlines 29 = .ok (.iload 5, 2) := dg dtL_deadlines_0_ok 17 rfl
theorem dL_deadlines_31 : decode cL_deadlines 31 = .ok (.bipush 7, 2) := dg dtL_deadlines_0_ok 18 rfl
theorem dL_deadlines_33 : decode cL_deadlines 33 = .ok (.invokevirtual 26, 3) := dg dtL_deadlines_0_ok 19 rfl
theorem dL_deadlines_36 : decode cL_deadlines 36 = .ok (.ifCond .le 25, 3) := dg dtL_deadlines_0_ok 20 rfl
theorem dL_deadlines_39 : decode cL_deadlines 39 = .ok (.aload_n 0, 1) := dg dtL_deadlines_0_ok 21 rfl
theorem dL_deadlines_40 : decode cL_deadlines 40 = .ok (.iload 5, 2) := dg dtL_deadlines_0_ok 22 rfl
theorem dL_deadlines_42 : decode cL_deadlines 42 = .ok (.iconst 5, 1) := dg dtL_deadlines_0_ok 23 rfl
theorem dL_deadlines_43 : decode cL_deadlines 43 = .ok (.invokevirtual 26, 3) := dg dtL_deadlines_0_ok 24 rfl
theorem dL_deadlines_46 : decode cL_deadlines 46 = .ok (.iload 4, 2) := dg dtL_deadlines_0_ok 25 rfl
theorem dL_deadlines_48 : decode cL_deadlines 48 = .ok (.if_icmp .ge 13, 3) := dg dtL_deadlines_0_ok 26 rfl
theorem dL_deadlines_51 : decode cL_deadlines 51 = .ok (.aload_n 0, 1) := dg dtL_deadlines_0_ok 27 rfl
theorem dL_deadlines_52 : decode cL_deadlines 52 = .ok (.iload 5, 2) := dg dtL_deadlines_0_ok 28 rfl
theorem dL_deadlines_54 : decode cL_deadlines 54 = .ok (.iconst 5, 1) := dg dtL_deadlines_0_ok 29 rfl
theorem dL_deadlines_55 : decode cL_deadlines 55 = .ok (.invokevirtual 26, 3) := dg dtL_deadlines_0_ok 30 rfl
theorem dL_deadlines_58 : decode cL_deadlines 58 = .ok (.goto 5, 3) := dg dtL_deadlines_0_ok 31 rfl
theorem dL_deadlines_61 : decode cL_deadlines 61 = .ok (.iload 4, 2) := dg dtL_deadlines_0_ok 32 rfl
theorem dL_deadlines_63 : decode cL_deadlines 63 = .ok (.istore 4, 2) := dg dtL_deadlines_0_ok 33 rfl
theorem dL_deadlines_65 : decode cL_deadlines 65 = .ok (.iinc 5 1, 3) := dg dtL_deadlines_0_ok 34 rfl
theorem dL_deadlines_68 : decode cL_deadlines 68 = .ok (.goto (-50), 3) := dg dtL_deadlines_0_ok 35 rfl
theorem dL_deadlines_71 : decode cL_deadlines 71 = .ok (.iconst 0, 1) := dg dtL_deadlines_0_ok 36 rfl
theorem dL_deadlines_72 : decode cL_deadlines 72 = .ok (.istore 5, 2) := dg dtL_deadlines_0_ok 37 rfl
theorem dL_deadlines_74 : decode cL_deadlines 74 = .ok (.iload 5, 2) := dg dtL_deadlines_0_ok 38 rfl
theorem dL_deadlines_76 : decode cL_deadlines 76 = .ok (.aload_n 0, 1) := dg dtL_deadlines_0_ok 39 rfl
theorem dL_deadlines_77 : decode cL_deadlines 77 = .ok (.iconst 3, 1) := dg dtL_deadlines_0_ok 40 rfl
theorem dL_deadlines_78 : decode cL_deadlines 78 = .ok (.invokevirtual 13, 3) := dg dtL_deadlines_0_ok 41 rfl
theorem dL_deadlines_81 : decode cL_deadlines 81 = .ok (.if_icmp .ge 45, 3) := dg dtL_deadlines_0_ok 42 rfl
theorem dL_deadlines_84 : decode cL_deadlines 84 = .ok (.aload_n 0, 1) := dg dtL_deadlines_0_ok 43 rfl
theorem dL_deadlines_85 : decode cL_deadlines 85 = .ok (.iload 5, 2) := dg dtL_deadlines_0_ok 44 rfl
theorem dL_deadlines_87 : decode cL_deadlines 87 = .ok (.iconst 4, 1) := dg dtL_deadlines_0_ok 45 rfl
theorem dL_deadlines_88 : decode cL_deadlines 88 = .ok (.invokevirtual 30, 3) := dg dtL_deadlines_0_ok 46 rfl
theorem dL_deadlines_91 : decode cL_deadlines 91 = .ok (.ifCond .ne 25, 3) := dg dtL_deadlines_0_ok 47 rfl
def dtL_deadlines_1 : List (Nat × Instr × Nat) := [(94, .aload_n 0, 1), (95, .iload 5, 2), (97, .iconst 3, 1), (98, .invokevirtual 30, 3), (101, .iload 4, 2), (103, .if_icmp .ge 13, 3), (106, .aload_n 0, 1), (107, .iload 5, 2), (109, .iconst 3, 1), (110, .invokevirtual 30, 3), (113, .goto 5, 3), (116, .iload 4, 2), (118, .istore 4, 2), (120, .iinc 5 1, 3), (123, .goto (-49), 3), (126, .iload_n 2, 1), (127, .ldc 53, 2), (129, .if_icmp .ne 13, 3), (132, .iload 4, 2), (134, .ldc 61, 2), (136, .if_icmp .eq 37, 3), (139, .goto 32, 3), (142, .iload_n 2, 1), (143, .bipush 100, 2), (145, .if_icmp .ge 12, 3), (148, .aload_n 0, 1), (149, .iload_n 2, 1), (150, .iconst 5, 1), (151, .invokevirtual 26, 3), (154, .goto 12, 3), (157, .aload_n 0, 1), (158, .iload_n 2, 1), (159, .bipush 100, 2), (161, .isub, 1), (162, .iconst 3, 1), (163, .invokevirtual 30, 3), (166, .iload 4, 2), (168, .if_icmp .eq 5, 3), (171, .iconst 0, 1), (172, .ireturn, 1), (173, .iconst 1, 1), (174, .iload_n 1, 1), (175, .bipush 100, 2), (177, .invokestatic 45, 3), (180, .iadd, 1), (181, .istore 5, 2), (183, .aload_n 0, 1), (184, .iload 5, 2)]
theorem dtL_deadlines_1_ok : ∀ q ∈ dtL_deadlines_1, decode cL_deadlines q.1 = .ok q.2 := by decide +kernel
theorem dL_deadlines_94 : decode cL_deadlines 94 = .ok (.aload_n 0, 1) := dg dtL_deadlines_1_ok 0 rfl
theorem dL_deadlines_95 : decode cL_deadlines 95 = .ok (.iload 5, 2) := dg dtL_deadlines_1_ok 1 rfl
theorem dL_deadlines_97 : decode cL_deadlines 97 = .ok (.iconst 3, 1) := dg dtL_deadlines_1_ok 2 rfl
theorem dL_deadlines_98 : decode cL_deadlines 98 = .ok (.invokevirtual 30, 3) := dg dtL_deadlines_1_ok 3 rfl
theorem dL_deadlines_101 : decode cL_deadlines 101 = .ok (.iload 4, 2) := dg dtL_deadlines_1_ok 4 rfl
theorem dL_deadlines_103 : decode cL_deadlines 103 = .ok (.if_icmp .ge 13, 3) := dg dtL_deadlines_1_ok 5 rfl
theorem dL_deadlines_106 : decode cL_deadlines 106 = .ok (.aload_n 0, 1) := dg dtL_deadlines_1_ok 6 rfl
theorem dL_deadlines_107 : decode cL_deadlines 107 = .ok (.iload 5, 2) := dg dtL_deadlines_1_ok 7 rfl
theorem dL_deadlines_109 : decode cL_deadlines 109 = .ok (.iconst 3, 1) := dg dtL_deadlines_1_ok 8 rfl
theorem dL_deadlines_110 : decode cL_deadlines 110 = .ok (.invokevirtual 30, 3) := dg dtL_deadlines_1_ok 9 rfl
theorem dL_deadlines_113 : decode cL_deadlines 113 = .ok (.goto 5, 3) := dg dtL_deadlines_1_ok 10 rfl
theorem dL_deadlines_116 : decode cL_deadlines 116 = .ok (.iload 4, 2) := dg dtL_deadlines_1_ok 11 rfl
theorem dL_deadlines_118 : decode cL_deadlines 118 = .ok (.istore 4, 2) := dg dtL_deadlines_1_ok 12 rfl
theorem dL_deadlines_120 : decode cL_deadlines 120 = .ok (.iinc 5 1, 3) := dg dtL_deadlines_1_ok 13 rfl
theorem dL_deadlines_123 : decode cL_deadlines 123 = .ok (.goto (-49), 3) := dg dtL_deadlines_1_ok 14 rfl
theorem dL_deadlines_126 : decode cL_deadlines 126 = .ok (.iload_n 2, 1) := dg dtL_deadlines_1_ok 15 rfl
theorem dL_deadlines_127 : decode cL_deadlines 127 = .ok (.ldc 53, 2) := dg dtL_deadlines_1_ok 16 rfl
theorem dL_deadlines_129 : decode cL_deadlines 129 = .ok (.if_icmp .ne 13, 3) := dg dtL_deadlines_1_ok 17 rfl
theorem dL_deadlines_132 : decode cL_deadlines 132 = .ok (.iload 4, 2) := dg dtL_deadlines_1_ok 18 rfl
theorem dL_deadlines_134 : decode cL_deadlines 134 = .ok (.ldc 61, 2) := dg dtL_deadlines_1_ok 19 rfl
theorem dL_deadlines_136 : decode cL_deadlines 136 = .ok (.if_icmp .eq 37, 3) := dg dtL_deadlines_1_ok 20 rfl
theorem dL_deadlines_139 : decode cL_deadlines 139 = .ok (.goto 32, 3) := dg dtL_deadlines_1_ok 21 rfl
theorem dL_deadlines_142 : decode cL_deadlines 142 = .ok (.iload_n 2, 1) := dg dtL_deadlines_1_ok 22 rfl
theorem dL_deadlines_143 : decode cL_deadlines 143 = .ok (.bipush 100, 2) := dg dtL_deadlines_1_ok 23 rfl
theorem dL_deadlines_145 : decode cL_deadlines 145 = .ok (.if_icmp .ge 12, 3) := dg dtL_deadlines_1_ok 24 rfl
theorem dL_deadlines_148 : decode cL_deadlines 148 = .ok (.aload_n 0, 1) := dg dtL_deadlines_1_ok 25 rfl
theorem dL_deadlines_149 : decode cL_deadlines 149 = .ok (.iload_n 2, 1) := dg dtL_deadlines_1_ok 26 rfl
theorem dL_deadlines_150 : decode cL_deadlines 150 = .ok (.iconst 5, 1) := dg dtL_deadlines_1_ok 27 rfl
theorem dL_deadlines_151 : decode cL_deadlines 151 = .ok (.invokevirtual 26, 3) := dg dtL_deadlines_1_ok 28 rfl
theorem dL_deadlines_154 : decode cL_deadlines 154 = .ok (.goto 12, 3) := dg dtL_deadlines_1_ok 29 rfl
theorem dL_deadlines_157 : decode cL_deadlines 157 = .ok (.aload_n 0, 1) := dg dtL_deadlines_1_ok 30 rfl
theorem dL_deadlines_158 : decode cL_deadlines 158 = .ok (.iload_n 2, 1) := dg dtL_deadlines_1_ok 31 rfl
theorem dL_deadlines_159 : decode cL_deadlines 159 = .ok (.bipush 100, 2) := dg dtL_deadlines_1_ok 32 rfl
theorem dL_deadlines_161 : decode cL_deadlines 161 = .ok (.isub, 1) := dg dtL_deadlines_1_ok 33 rfl
theorem dL_deadlines_162 : decode cL_deadlines 162 = .ok (.iconst 3, 1) := dg dtL_deadlines_1_ok 34 rfl
theorem dL_deadlines_163 : decode cL_deadlines 163 = .ok (.invokevirtual 30, 3) := dg dtL_deadlines_1_ok 35 rfl
theorem dL_deadlines_166 : decode cL_deadlines 166 = .ok (.iload 4, 2) := dg dtL_deadlines_1_ok 36 rfl
theorem dL_deadlines_168 : decode cL_deadlines 168 = .ok (.if_icmp .eq 5, 3) := dg dtL_deadlines_1_ok 37 rfl
theorem dL_deadlines_171 : decode cL_deadlines 171 = .ok (.iconst 0, 1) := dg dtL_deadlines_1_ok 38 rfl
theorem dL_deadlines_172 : decode cL_deadlines 172 = .ok (.ireturn, 1) := dg dtL_deadlines_1_ok 39 rfl
theorem dL_deadlines_173 : decode cL_deadlines 173 = .ok (.iconst 1, 1) := dg dtL_deadlines_1_ok 40 rfl
theorem dL_deadlines_174 : decode cL_deadlines 174 = .ok (.iload_n 1, 1) := dg dtL_deadlines_1_ok 41 rfl
theorem dL_deadlines_175 : decode cL_deadlines 175 = .ok (.bipush 100, 2) := dg dtL_deadlines_1_ok 42 rfl
theorem dL_deadlines_177 : decode cL_deadlines 177 = .ok (.invokestatic 45, 3) := dg dtL_deadlines_1_ok 43 rfl
theorem dL_deadlines_180 : decode cL_deadlines 180 = .ok (.iadd, 1) := dg dtL_deadlines_1_ok 44 rfl
theorem dL_deadlines_181 : decode cL_deadlines 181 = .ok (.istore 5, 2) := dg dtL_deadlines_1_ok 45 rfl
theorem dL_deadlines_183 : decode cL_deadlines 183 = .ok (.aload_n 0, 1) := dg dtL_deadlines_1_ok 46 rfl
theorem dL_deadlines_184 : decode cL_deadlines 184 = .ok (.iload 5, 2) := dg dtL_deadlines_1_ok 47 rfl
def dtL_deadlines_2 : List (Nat × Instr × Nat) := [(186, .invokevirtual 62, 3), (189, .istore 6, 2), (191, .iload 6, 2), (193, .ifCond .lt 49, 3), (196, .aload_n 0, 1), (197, .iconst 0, 1), (198, .invokevirtual 62, 3), (201, .ldc 37, 2), (203, .if_icmp .ne 39, 3), (206, .aload_n 0, 1), (207, .bipush 101, 2), (209, .invokevirtual 62, 3), (212, .ldc 37, 2), (214, .if_icmp .ne 28, 3), (217, .iload_n 2, 1), (218, .ldc 53, 2), (220, .if_icmp .ne 8, 3), (223, .iload 6, 2), (225, .ifCond .ne 17, 3), (228, .iload_n 3, 1), (229, .iload 5, 2), (231, .iadd, 1), (232, .iload 4, 2), (234, .if_icmp .gt 10, 3), (237, .iload 6, 2), (239, .ifCond .eq 5, 3), (242, .iconst 0, 1), (243, .ireturn, 1), (244, .iload_n 1, 1), (245, .bipush 8, 2), (247, .ishr, 1), (248, .iconst 3, 1), (249, .iand, 1), (250, .ifCond .eq 5, 3), (253, .iconst 1, 1), (254, .ireturn, 1), (255, .aload_n 0, 1), (256, .invokestatic 65, 3), (259, .lstore 7, 2), (261, .aload_n 0, 1), (262, .iload 5, 2), (264, .invokevirtual 69, 3), (267, .iload 6, 2), (269, .if_icmp .ne 24, 3), (272, .aload_n 0, 1), (273, .invokevirtual 72, 3), (276, .ifCond .lt 17, 3), (279, .aload_n 0, 1)]
theorem dtL_deadlines_2_ok : ∀ q ∈ dtL_deadlines_2, decode cL_deadlines q.1 = .ok q.2 := by decide +kernel
theorem dL_deadlines_186 : decode cL_deadlines 186 = .ok (.invokevirtual 62, 3) := dg dtL_deadlines_2_ok 0 rfl
theorem dL_deadlines_189 : decode cL_deadlines 189 = .ok (.istore 6, 2) := dg dtL_deadlines_2_ok 1 rfl
theorem dL_deadlines_191 : decode cL_deadlines 191 = .ok (.iload 6, 2) := dg dtL_deadlines_2_ok 2 rfl
theorem dL_deadlines_193 : decode cL_deadlines 193 = .ok (.ifCond .lt 49, 3) := dg dtL_deadlines_2_ok 3 rfl
theorem dL_deadlines_196 : decode cL_deadlines 196 = .ok (.aload_n 0, 1) := dg dtL_deadlines_2_ok 4 rfl
theorem dL_deadlines_197 : decode cL_deadlines 197 = .ok (.iconst 0, 1) := dg dtL_deadlines_2_ok 5 rfl
theorem dL_deadlines_198 : decode cL_deadlines 198 = .ok (.invokevirtual 62, 3) := dg dtL_deadlines_2_ok 6 rfl
theorem dL_deadlines_201 : decode cL_deadlines 201 = .ok (.ldc 37, 2) := dg dtL_deadlines_2_ok 7 rfl
theorem dL_deadlines_203 : decode cL_deadlines 203 = .ok (.if_icmp .ne 39, 3) := dg dtL_deadlines_2_ok 8 rfl
theorem dL_deadlines_206 : decode cL_deadlines 206 = .ok (.aload_n 0, 1) := dg dtL_deadlines_2_ok 9 rfl
theorem dL_deadlines_207 : decode cL_deadlines 207 = .ok (.bipush 101, 2) := dg dtL_deadlines_2_ok 10 rfl
theorem dL_deadlines_209 : decode cL_deadlines 209 = .ok (.invokevirtual 62, 3) := dg dtL_deadlines_2_ok 11 rfl
theorem dL_deadlines_212 : decode cL_deadlines 212 = .ok (.ldc 37, 2) := dg dtL_deadlines_2_ok 12 rfl
theorem dL_deadlines_214 : decode cL_deadlines 214 = .ok (.if_icmp .ne 28, 3) := dg dtL_deadlines_2_ok 13 rfl
theorem dL_deadlines_217 : decode cL_deadlines 217 = .ok (.iload_n 2, 1) := dg dtL_deadlines_2_ok 14 rfl
theorem dL_deadlines_218 : decode cL_deadlines 218 = .ok (.ldc 53, 2) := dg dtL_deadlines_2_ok 15 rfl
theorem dL_deadlines_220 : decode cL_deadlines 220 = .ok (.if_icmp .ne 8, 3) := dg dtL_deadlines_2_ok 16 rfl
theorem dL_deadlines_223 : decode cL_deadlines 223 = .ok (.iload 6, 2) := dg dtL_deadlines_2_ok 17 rfl
theorem dL_deadlines_225 : decode cL_deadlines 225 = .ok (.ifCond .ne 17, 3) := dg dtL_deadlines_2_ok 18 rfl
theorem dL_deadlines_228 : decode cL_deadlines 228 = .ok (.iload_n 3, 1) := dg dtL_deadlines_2_ok 19 rfl
theorem dL_deadlines_229 : decode cL_deadlines 229 = .ok (.iload 5, 2) := dg dtL_deadlines_2_ok 20 rfl
theorem dL_deadlines_231 : decode cL_deadlines 231 = .ok (.iadd, 1) := dg dtL_deadlines_2_ok 21 rfl
theorem dL_deadlines_232 : decode cL_deadlines 232 = .ok (.iload 4, 2) := dg dtL_deadlines_2_ok 22 rfl
theorem dL_deadlines_234 : decode cL_deadlines 234 = .ok (.if_icmp .gt 10, 3) := dg dtL_deadlines_2_ok 23 rfl
theorem dL_deadlines_237 : decode cL_deadlines 237 = .ok (.iload 6, 2) := dg dtL_deadlines_2_ok 24 rfl
theorem dL_deadlines_239 : decode cL_deadlines 239 = .ok (.ifCond .eq 5, 3) := dg dtL_deadlines_2_ok 25 rfl
theorem dL_deadlines_242 : decode cL_deadlines 242 = .ok (.iconst 0, 1) := dg dtL_deadlines_2_ok 26 rfl
theorem dL_deadlines_243 : decode cL_deadlines 243 = .ok (.ireturn, 1) := dg dtL_deadlines_2_ok 27 rfl
theorem dL_deadlines_244 : decode cL_deadlines 244 = .ok (.iload_n 1, 1) := dg dtL_deadlines_2_ok 28 rfl
theorem dL_deadlines_245 : decode cL_deadlines 245 = .ok (.bipush 8, 2) := dg dtL_deadlines_2_ok 29 rfl
theorem dL_deadlines_247 : decode cL_deadlines 247 = .ok (.ishr, 1) := dg dtL_deadlines_2_ok 30 rfl
theorem dL_deadlines_248 : decode cL_deadlines 248 = .ok (.iconst 3, 1) := dg dtL_deadlines_2_ok 31 rfl
theorem dL_deadlines_249 : decode cL_deadlines 249 = .ok (.iand, 1) := dg dtL_deadlines_2_ok 32 rfl
theorem dL_deadlines_250 : decode cL_deadlines 250 = .ok (.ifCond .eq 5, 3) := dg dtL_deadlines_2_ok 33 rfl
theorem dL_deadlines_253 : decode cL_deadlines 253 = .ok (.iconst 1, 1) := dg dtL_deadlines_2_ok 34 rfl
theorem dL_deadlines_254 : decode cL_deadlines 254 = .ok (.ireturn, 1) := dg dtL_deadlines_2_ok 35 rfl
theorem dL_deadlines_255 : decode cL_deadlines 255 = .ok (.aload_n 0, 1) := dg dtL_deadlines_2_ok 36 rfl
theorem dL_deadlines_256 : decode cL_deadlines 256 = .ok (.invokestatic 65, 3) := dg dtL_deadlines_2_ok 37 rfl
theorem dL_deadlines_259 : decode cL_deadlines 259 = .ok (.lstore 7, 2) := dg dtL_deadlines_2_ok 38 rfl
theorem dL_deadlines_261 : decode cL_deadlines 261 = .ok (.aload_n 0, 1) := dg dtL_deadlines_2_ok 39 rfl
theorem dL_deadlines_262 : decode cL_deadlines 262 = .ok (.iload 5, 2) := dg dtL_deadlines_2_ok 40 rfl
theorem dL_deadlines_264 : decode cL_deadlines 264 = .ok (.invokevirtual 69, 3) := dg dtL_deadlines_2_ok 41 rfl
theorem dL_deadlines_267 : decode cL_deadlines 267 = .ok (.iload 6, 2) := dg dtL_deadlines_2_ok 42 rfl
theorem dL_deadlines_269 : decode cL_deadlines 269 = .ok (.if_icmp .ne 24, 3) := dg dtL_deadlines_2_ok 43 rfl
theorem dL_deadlines_272 : decode cL_deadlines 272 = .ok (.aload_n 0, 1) := dg dtL_deadlines_2_ok 44 rfl
theorem dL_deadlines_273 : decode cL_deadlines 273 = .ok (.invokevirtual 72, 3) := dg dtL_deadlines_2_ok 45 rfl
theorem dL_deadlines_276 : decode cL_deadlines 276 = .ok (.ifCond .lt 17, 3) := dg dtL_deadlines_2_ok 46 rfl
theorem dL_deadlines_279 : decode cL_deadlines 279 = .ok (.aload_n 0, 1) := dg dtL_deadlines_2_ok 47 rfl
def dtL_deadlines_3 : List (Nat × Instr × Nat) := [(280, .invokestatic 65, 3), (283, .lload 7, 2), (285, .lcmp, 1), (286, .ifCond .ne 7, 3), (289, .iconst 1, 1), (290, .goto 4, 3), (293, .iconst 0, 1), (294, .ireturn, 1)]
theorem dtL_deadlines_3_ok : ∀ q ∈ dtL_deadlines_3, decode cL_deadlines q.1 = .ok q.2 := by decide +kernel
theorem dL_deadlines_280 : decode cL_deadlines 280 = .ok (.invokestatic 65, 3) := dg dtL_deadlines_3_ok 0 rfl
theorem dL_deadlines_283 : decode cL_deadlines 283 = .ok (.lload 7, 2) := dg dtL_deadlines_3_ok 1 rfl
theorem dL_deadlines_285 : decode cL_deadlines 285 = .ok (.lcmp, 1) := dg dtL_deadlines_3_ok 2 rfl
theorem dL_deadlines_286 : decode cL_deadlines 286 = .ok (.ifCond .ne 7, 3) := dg dtL_deadlines_3_ok 3 rfl
theorem dL_deadlines_289 : decode cL_deadlines 289 = .ok (.iconst 1, 1) := dg dtL_deadlines_3_ok 4 rfl
theorem dL_deadlines_290 : decode cL_deadlines 290 = .ok (.goto 4, 3) := dg dtL_deadlines_3_ok 5 rfl
theorem dL_deadlines_293 : decode cL_deadlines 293 = .ok (.iconst 0, 1) := dg dtL_deadlines_3_ok 6 rfl
theorem dL_deadlines_294 : decode cL_deadlines 294 = .ok (.ireturn, 1) := dg dtL_deadlines_3_ok 7 rfl
def dtL_document_0 : List (Nat × Instr × Nat) := [(0, .aload_n 0, 1), (1, .iload_n 1, 1), (2, .invokevirtual 75, 3), (5, .istore_n 2, 1), (6, .iconst 1, 1), (7, .istore_n 3, 1), (8, .aload_n 0, 1), (9, .iload_n 1, 1), (10, .iconst 0, 1), (11, .invokevirtual 78, 3), (14, .bipush 76, 2), (16, .if_icmp .ne 25, 3), (19, .aload_n 0, 1), (20, .iload_n 1, 1), (21, .iload_n 2, 1), (22, .invokevirtual 78, 3), (25, .ldc 53, 2), (27, .if_icmp .ne 14, 3), (30, .aload_n 0, 1), (31, .iload_n 1, 1), (32, .iconst (-1), 1), (33, .invokevirtual 78, 3), (36, .ldc 37, 2), (38, .if_icmp .eq 5, 3), (41, .iconst 0, 1), (42, .ireturn, 1), (43, .iconst 0, 1), (44, .istore 4, 2), (46, .iload 4, 2), (48, .iconst 4, 1), (49, .if_icmp .ge 205, 3), (52, .iload 4, 2), (54, .ifCond .ne 7, 3), (57, .iload_n 1, 1), (58, .goto 41, 3), (61, .iload 4, 2), (63, .iconst 1, 1), (64, .if_icmp .ne 12, 3), (67, .aload_n 0, 1), (68, .iload_n 1, 1), (69, .iconst 0, 1), (70, .invokevirtual 26, 3), (73, .goto 26, 3), (76, .iload 4, 2), (78, .iconst 2, 1), (79, .if_icmp .ne 13, 3), (82, .aload_n 0, 1), (83, .iload_n 1, 1)]
theorem dtL_document_0_ok : ∀ q ∈ dtL_document_0, decode cL_document q.1 = .ok q.2 := by decide +kernel
theorem dL_document_0 : decode cL_document 0 = .ok (.aload_n 0, 1) := dg dtL_document_0_ok 0 rfl
theorem dL_document_1 : decode cL_document 1 = .ok (.iload_n 1, 1) := dg dtL_document_0_ok 1 rfl
theorem dL_document_2 : decode cL_document 2 = .ok (.invokevirtual 75, 3) := dg dtL_document_0_ok 2 rfl
theorem dL_document_5 : decode cL_document 5 = .ok (.istore_n 2, 1) := dg dtL_document_0_ok 3 rfl
theorem dL_document_6 : decode cL_document 6 = .ok (.iconst 1, 1) := dg dtL_document_0_ok 4 rfl
theorem dL_document_7 : decode cL_document 7 = .ok (.istore_n 3, 1) := dg dtL_document_0_ok 5 rfl
theorem dL_document_8 : decode cL_document 8 = .ok (.aload_n 0, 1) := dg dtL_document_0_ok 6 rfl
theorem dL_document_9 : decode cL_document 9 = .ok (.iload_n 1, 1) := dg dtL_document_0_ok 7 rfl
theorem dL_document_10 : decode cL_document 10 = .ok (.iconst 0, 1) := dg dtL_document_0_ok 8 rfl
theorem dL_document_11 : decode cL_document 11 = .ok (.invokevirtual 78, 3) := dg dtL_document_0_ok 9 rfl
theorem dL_document_14 : decode cL_document 14 = .ok (.bipush 76, 2) := dg dtL_document_0_ok 10 rfl
theorem dL_document_16 : decode cL_document 16 = .ok (.if_icmp .ne 25, 3) := dg dtL_document_0_ok 11 rfl
theorem dL_document_19 : decode cL_document 19 = .ok (.aload_n 0, 1) := dg dtL_document_0_ok 12 rfl
theorem dL_document_20 : decode cL_document 20 = .ok (.iload_n 1, 1) := dg dtL_document_0_ok 13 rfl
theorem dL_document_21 : decode cL_document 21 = .ok (.iload_n 2, 1) := dg dtL_document_0_ok 14 rfl
theorem dL_document_22 : decode cL_document 22 = .ok (.invokevirtual 78, 3) := dg dtL_document_0_ok 15 rfl
theorem dL_document_25 : decode cL_document 25 = .ok (.ldc 53, 2) := dg dtL_document_0_ok 16 rfl
theorem dL_document_27 : decode cL_document 27 = .ok (.if_icmp .ne 14, 3) := dg dtL_document_0_ok 17 rfl
theorem dL_document_30 : decode cL_document 30 = .ok (.aload_n 0, 1) := dg dtL_document_0_ok 18 rfl
theorem dL_document_31 : decode cL_document 31 = .ok (.iload_n 1, 1) := dg dtL_document_0_ok 19 rfl
theorem dL_document_32 : decode cL_document 32 = .ok (.iconst (-1), 1) := dg dtL_document_0_ok 20 rfl
theorem dL_document_33 : decode cL_document 33 = .ok (.invokevirtual 78, 3) := dg dtL_document_0_ok 21 rfl
theorem dL_document_36 : decode cL_document 36 = .ok (.ldc 37, 2) := dg dtL_document_0_ok 22 rfl
theorem dL_document_38 : decode cL_document 38 = .ok (.if_icmp .eq 5, 3) := dg dtL_document_0_ok 23 rfl
theorem dL_document_41 : decode cL_document 41 = .ok (.iconst 0, 1) := dg dtL_document_0_ok 24 rfl
theorem dL_document_42 : decode cL_document 42 = .ok (.ireturn, 1) := dg dtL_document_0_ok 25 rfl
theorem dL_document_43 : decode cL_document 43 = .ok (.iconst 0, 1) := dg dtL_document_0_ok 26 rfl
theorem dL_document_44 : decode cL_document 44 = .ok (.istore 4, 2) := dg dtL_document_0_ok 27 rfl
theorem dL_document_46 : decode cL_document 46 = .ok (.iload 4, 2) := dg dtL_document_0_ok 28 rfl
theorem dL_document_48 : decode cL_document 48 = .ok (.iconst 4, 1) := dg dtL_document_0_ok 29 rfl
theorem dL_document_49 : decode cL_document 49 = .ok (.if_icmp .ge 205, 3) := dg dtL_document_0_ok 30 rfl
theorem dL_document_52 : decode cL_document 52 = .ok (.iload 4, 2) := dg dtL_document_0_ok 31 rfl
theorem dL_document_54 : decode cL_document 54 = .ok (.ifCond .ne 7, 3) := dg dtL_document_0_ok 32 rfl
theorem dL_document_57 : decode cL_document 57 = .ok (.iload_n 1, 1) := dg dtL_document_0_ok 33 rfl
theorem dL_document_58 : decode cL_document 58 = .ok (.goto 41, 3) := dg dtL_document_0_ok 34 rfl
theorem dL_document_61 : decode cL_document 61 = .ok (.iload 4, 2) := dg dtL_document_0_ok 35 rfl
theorem dL_document_63 : decode cL_document 63 = .ok (.iconst 1, 1) := dg dtL_document_0_ok 36 rfl
theorem dL_document_64 : decode cL_document 64 = .ok (.if_icmp .ne 12, 3) := dg dtL_document_0_ok 37 rfl
theorem dL_document_67 : decode cL_document 67 = .ok (.aload_n 0, 1) := dg dtL_document_0_ok 38 rfl
theorem dL_document_68 : decode cL_document 68 = .ok (.iload_n 1, 1) := dg dtL_document_0_ok 39 rfl
theorem dL_document_69 : decode cL_document 69 = .ok (.iconst 0, 1) := dg dtL_document_0_ok 40 rfl
theorem dL_document_70 : decode cL_document 70 = .ok (.invokevirtual 26, 3) := dg dtL_document_0_ok 41 rfl
theorem dL_document_73 : decode cL_document 73 = .ok (.goto 26, 3) := dg dtL_document_0_ok 42 rfl
theorem dL_document_76 : decode cL_document 76 = .ok (.iload 4, 2) := dg dtL_document_0_ok 43 rfl
theorem dL_document_78 : decode cL_document 78 = .ok (.iconst 2, 1) := dg dtL_document_0_ok 44 rfl
theorem dL_document_79 : decode cL_document 79 = .ok (.if_icmp .ne 13, 3) := dg dtL_document_0_ok 45 rfl
theorem dL_document_82 : decode cL_document 82 = .ok (.aload_n 0, 1) := dg dtL_document_0_ok 46 rfl
theorem dL_document_83 : decode cL_document 83 = .ok (.iload_n 1, 1) := dg dtL_document_0_ok 47 rfl
def dtL_document_1 : List (Nat × Instr × Nat) := [(84, .bipush 7, 2), (86, .invokevirtual 26, 3), (89, .goto 10, 3), (92, .aload_n 0, 1), (93, .iload_n 1, 1), (94, .bipush 12, 2), (96, .invokevirtual 26, 3), (99, .istore 5, 2), (101, .iconst 1, 1), (102, .istore 6, 2), (104, .iload 6, 2), (106, .iload 5, 2), (108, .bipush 10, 2), (110, .idiv, 1), (111, .if_icmp .gt 13, 3), (114, .iload 6, 2), (116, .bipush 10, 2), (118, .imul, 1), (119, .istore 6, 2), (121, .goto (-17), 3), (124, .iload 6, 2), (126, .istore 7, 2), (128, .iload 7, 2), (130, .ifCond .le 38, 3), (133, .aload_n 0, 1), (134, .iload_n 1, 1), (135, .iload_n 3, 1), (136, .invokevirtual 78, 3), (139, .bipush 48, 2), (141, .iload 5, 2), (143, .iload 7, 2), (145, .idiv, 1), (146, .bipush 10, 2), (148, .irem, 1), (149, .iadd, 1), (150, .if_icmp .eq 5, 3), (153, .iconst 0, 1), (154, .ireturn, 1), (155, .iinc 3 1, 3), (158, .iload 7, 2), (160, .bipush 10, 2), (162, .idiv, 1), (163, .istore 7, 2), (165, .goto (-37), 3), (168, .iload 4, 2), (170, .ifCond .ne 8, 3), (173, .bipush 47, 2), (175, .goto 27, 3)]
theorem dtL_document_1_ok : ∀ q ∈ dtL_document_1, decode cL_document q.1 = .ok q.2 := by decide +kernel
theorem dL_document_84 : decode cL_document 84 = .ok (.bipush 7, 2) := dg dtL_document_1_ok 0 rfl
theorem dL_document_86 : decode cL_document 86 = .ok (.invokevirtual 26, 3) := dg dtL_document_1_ok 1 rfl
theorem dL_document_89 : decode cL_document 89 = .ok (.goto 10, 3) := dg dtL_document_1_ok 2 rfl
theorem dL_document_92 : decode cL_document 92 = .ok (.aload_n 0, 1) := dg dtL_document_1_ok 3 rfl
theorem dL_document_93 : decode cL_document 93 = .ok (.iload_n 1, 1) := dg dtL_document_1_ok 4 rfl
theorem dL_document_94 : decode cL_document 94 = .ok (.bipush 12, 2) := dg dtL_document_1_ok 5 rfl
theorem dL_document_96 : decode cL_document 96 = .ok (.invokevirtual 26, 3) := dg dtL_document_1_ok 6 rfl
theorem dL_document_99 : decode cL_document 99 = .ok (.istore 5, 2) := dg dtL_document_1_ok 7 rfl
theorem dL_document_101 : decode cL_document 101 = .ok (.iconst 1, 1) := dg dtL_document_1_ok 8 rfl
theorem dL_document_102 : decode cL_document 102 = .ok (.istore 6, 2) := dg dtL_document_1_ok 9 rfl
theorem dL_document_104 : decode cL_document 104 = .ok (.iload 6, 2) := dg dtL_document_1_ok 10 rfl
theorem dL_document_106 : decode cL_document 106 = .ok (.iload 5, 2) := dg dtL_document_1_ok 11 rfl
theorem dL_document_108 : decode cL_document 108 = .ok (.bipush 10, 2) := dg dtL_document_1_ok 12 rfl
theorem dL_document_110 : decode cL_document 110 = .ok (.idiv, 1) := dg dtL_document_1_ok 13 rfl
theorem dL_document_111 : decode cL_document 111 = .ok (.if_icmp .gt 13, 3) := dg dtL_document_1_ok 14 rfl
theorem dL_document_114 : decode cL_document 114 = .ok (.iload 6, 2) := dg dtL_document_1_ok 15 rfl
theorem dL_document_116 : decode cL_document 116 = .ok (.bipush 10, 2) := dg dtL_document_1_ok 16 rfl
theorem dL_document_118 : decode cL_document 118 = .ok (.imul, 1) := dg dtL_document_1_ok 17 rfl
theorem dL_document_119 : decode cL_document 119 = .ok (.istore 6, 2) := dg dtL_document_1_ok 18 rfl
theorem dL_document_121 : decode cL_document 121 = .ok (.goto (-17), 3) := dg dtL_document_1_ok 19 rfl
theorem dL_document_124 : decode cL_document 124 = .ok (.iload 6, 2) := dg dtL_document_1_ok 20 rfl
theorem dL_document_126 : decode cL_document 126 = .ok (.istore 7, 2) := dg dtL_document_1_ok 21 rfl
theorem dL_document_128 : decode cL_document 128 = .ok (.iload 7, 2) := dg dtL_document_1_ok 22 rfl
theorem dL_document_130 : decode cL_document 130 = .ok (.ifCond .le 38, 3) := dg dtL_document_1_ok 23 rfl
theorem dL_document_133 : decode cL_document 133 = .ok (.aload_n 0, 1) := dg dtL_document_1_ok 24 rfl
theorem dL_document_134 : decode cL_document 134 = .ok (.iload_n 1, 1) := dg dtL_document_1_ok 25 rfl
theorem dL_document_135 : decode cL_document 135 = .ok (.iload_n 3, 1) := dg dtL_document_1_ok 26 rfl
theorem dL_document_136 : decode cL_document 136 = .ok (.invokevirtual 78, 3) := dg dtL_document_1_ok 27 rfl
theorem dL_document_139 : decode cL_document 139 = .ok (.bipush 48, 2) := dg dtL_document_1_ok 28 rfl
theorem dL_document_141 : decode cL_document 141 = .ok (.iload 5, 2) := dg dtL_document_1_ok 29 rfl
theorem dL_document_143 : decode cL_document 143 = .ok (.iload 7, 2) := dg dtL_document_1_ok 30 rfl
theorem dL_document_145 : decode cL_document 145 = .ok (.idiv, 1) := dg dtL_document_1_ok 31 rfl
theorem dL_document_146 : decode cL_document 146 = .ok (.bipush 10, 2) := dg dtL_document_1_ok 32 rfl
theorem dL_document_148 : decode cL_document 148 = .ok (.irem, 1) := dg dtL_document_1_ok 33 rfl
theorem dL_document_149 : decode cL_document 149 = .ok (.iadd, 1) := dg dtL_document_1_ok 34 rfl
theorem dL_document_150 : decode cL_document 150 = .ok (.if_icmp .eq 5, 3) := dg dtL_document_1_ok 35 rfl
theorem dL_document_153 : decode cL_document 153 = .ok (.iconst 0, 1) := dg dtL_document_1_ok 36 rfl
theorem dL_document_154 : decode cL_document 154 = .ok (.ireturn, 1) := dg dtL_document_1_ok 37 rfl
theorem dL_document_155 : decode cL_document 155 = .ok (.iinc 3 1, 3) := dg dtL_document_1_ok 38 rfl
theorem dL_document_158 : decode cL_document 158 = .ok (.iload 7, 2) := dg dtL_document_1_ok 39 rfl
theorem dL_document_160 : decode cL_document 160 = .ok (.bipush 10, 2) := dg dtL_document_1_ok 40 rfl
theorem dL_document_162 : decode cL_document 162 = .ok (.idiv, 1) := dg dtL_document_1_ok 41 rfl
theorem dL_document_163 : decode cL_document 163 = .ok (.istore 7, 2) := dg dtL_document_1_ok 42 rfl
theorem dL_document_165 : decode cL_document 165 = .ok (.goto (-37), 3) := dg dtL_document_1_ok 43 rfl
theorem dL_document_168 : decode cL_document 168 = .ok (.iload 4, 2) := dg dtL_document_1_ok 44 rfl
theorem dL_document_170 : decode cL_document 170 = .ok (.ifCond .ne 8, 3) := dg dtL_document_1_ok 45 rfl
theorem dL_document_173 : decode cL_document 173 = .ok (.bipush 47, 2) := dg dtL_document_1_ok 46 rfl
theorem dL_document_175 : decode cL_document 175 = .ok (.goto 27, 3) := dg dtL_document_1_ok 47 rfl
def dtL_document_2 : List (Nat × Instr × Nat) := [(178, .iload 4, 2), (180, .iconst 1, 1), (181, .if_icmp .ne 8, 3), (184, .bipush 58, 2), (186, .goto 16, 3), (189, .iload 4, 2), (191, .iconst 2, 1), (192, .if_icmp .ne 8, 3), (195, .bipush 43, 2), (197, .goto 5, 3), (200, .bipush 33, 2), (202, .istore 7, 2), (204, .aload_n 0, 1), (205, .iload_n 1, 1), (206, .iload_n 3, 1), (207, .invokevirtual 78, 3), (210, .iload 7, 2), (212, .if_icmp .ne 7, 3), (215, .iconst 1, 1), (216, .goto 4, 3), (219, .iconst 0, 1), (220, .istore 8, 2), (222, .iload 4, 2), (224, .iconst 3, 1), (225, .if_icmp .ge 10, 3), (228, .iload 8, 2), (230, .ifCond .ne 5, 3), (233, .iconst 0, 1), (234, .ireturn, 1), (235, .iload_n 3, 1), (236, .iload 8, 2), (238, .ifCond .eq 7, 3), (241, .iconst 1, 1), (242, .goto 4, 3), (245, .iconst 0, 1), (246, .iadd, 1), (247, .istore_n 3, 1), (248, .iinc 4 1, 3), (251, .goto (-205), 3), (254, .aload_n 0, 1), (255, .iload_n 1, 1), (256, .bipush 7, 2), (258, .invokevirtual 26, 3), (261, .ifCond .le 24, 3), (264, .aload_n 0, 1), (265, .iload_n 1, 1), (266, .iconst 5, 1), (267, .invokevirtual 26, 3)]
theorem dtL_document_2_ok : ∀ q ∈ dtL_document_2, decode cL_document q.1 = .ok q.2 := by decide +kernel
theorem dL_document_178 : decode cL_document 178 = .ok (.iload 4, 2) := dg dtL_document_2_ok 0 rfl
theorem dL_document_180 : decode cL_document 180 = .ok (.iconst 1, 1) := dg dtL_document_2_ok 1 rfl
theorem dL_document_181 : decode cL_document 181 = .ok (.if_icmp .ne 8, 3) := dg dtL_document_2_ok 2 rfl
theorem dL_document_184 : decode cL_document 184 = .ok (.bipush 58, 2) := dg dtL_document_2_ok 3 rfl
theorem dL_document_186 : decode cL_document 186 = .ok (.goto 16, 3) := dg dtL_document_2_ok 4 rfl
theorem dL_document_189 : decode cL_document 189 = .ok (.iload 4, 2) := dg dtL_document_2_ok 5 rfl
theorem dL_document_191 : decode cL_document 191 = .ok (.iconst 2, 1) := dg dtL_document_2_ok 6 rfl
theorem dL_document_192 : decode cL_document 192 = .ok (.if_icmp .ne 8, 3) := dg dtL_document_2_ok 7 rfl
theorem dL_document_195 : decode cL_document 195 = .ok (.bipush 43, 2) := dg dtL_document_2_ok 8 rfl
theorem dL_document_197 : decode cL_document 197 = .ok (.goto 5, 3) := dg dtL_document_2_ok 9 rfl
theorem dL_document_200 : decode cL_document 200 = .ok (.bipush 33, 2) := dg dtL_document_2_ok 10 rfl
theorem dL_document_202 : decode cL_document 202 = .ok (.istore 7, 2) := dg dtL_document_2_ok 11 rfl
theorem dL_document_204 : decode cL_document 204 = .ok (.aload_n 0, 1) := dg dtL_document_2_ok 12 rfl
theorem dL_document_205 : decode cL_document 205 = .ok (.iload_n 1, 1) := dg dtL_document_2_ok 13 rfl
theorem dL_document_206 : decode cL_document 206 = .ok (.iload_n 3, 1) := dg dtL_document_2_ok 14 rfl
theorem dL_document_207 : decode cL_document 207 = .ok (.invokevirtual 78, 3) := dg dtL_document_2_ok 15 rfl
theorem dL_document_210 : decode cL_document 210 = .ok (.iload 7, 2) := dg dtL_document_2_ok 16 rfl
theorem dL_document_212 : decode cL_document 212 = .ok (.if_icmp .ne 7, 3) := dg dtL_document_2_ok 17 rfl
theorem dL_document_215 : decode cL_document 215 = .ok (.iconst 1, 1) := dg dtL_document_2_ok 18 rfl
theorem dL_document_216 : decode cL_document 216 = .ok (.goto 4, 3) := dg dtL_document_2_ok 19 rfl
theorem dL_document_219 : decode cL_document 219 = .ok (.iconst 0, 1) := dg dtL_document_2_ok 20 rfl
theorem dL_document_220 : decode cL_document 220 = .ok (.istore 8, 2) := dg dtL_document_2_ok 21 rfl
theorem dL_document_222 : decode cL_document 222 = .ok (.iload 4, 2) := dg dtL_document_2_ok 22 rfl
theorem dL_document_224 : decode cL_document 224 = .ok (.iconst 3, 1) := dg dtL_document_2_ok 23 rfl
theorem dL_document_225 : decode cL_document 225 = .ok (.if_icmp .ge 10, 3) := dg dtL_document_2_ok 24 rfl
theorem dL_document_228 : decode cL_document 228 = .ok (.iload 8, 2) := dg dtL_document_2_ok 25 rfl
theorem dL_document_230 : decode cL_document 230 = .ok (.ifCond .ne 5, 3) := dg dtL_document_2_ok 26 rfl
theorem dL_document_233 : decode cL_document 233 = .ok (.iconst 0, 1) := dg dtL_document_2_ok 27 rfl
theorem dL_document_234 : decode cL_document 234 = .ok (.ireturn, 1) := dg dtL_document_2_ok 28 rfl
theorem dL_document_235 : decode cL_document 235 = .ok (.iload_n 3, 1) := dg dtL_document_2_ok 29 rfl
theorem dL_document_236 : decode cL_document 236 = .ok (.iload 8, 2) := dg dtL_document_2_ok 30 rfl
theorem dL_document_238 : decode cL_document 238 = .ok (.ifCond .eq 7, 3) := dg dtL_document_2_ok 31 rfl
theorem dL_document_241 : decode cL_document 241 = .ok (.iconst 1, 1) := dg dtL_document_2_ok 32 rfl
theorem dL_document_242 : decode cL_document 242 = .ok (.goto 4, 3) := dg dtL_document_2_ok 33 rfl
theorem dL_document_245 : decode cL_document 245 = .ok (.iconst 0, 1) := dg dtL_document_2_ok 34 rfl
theorem dL_document_246 : decode cL_document 246 = .ok (.iadd, 1) := dg dtL_document_2_ok 35 rfl
theorem dL_document_247 : decode cL_document 247 = .ok (.istore_n 3, 1) := dg dtL_document_2_ok 36 rfl
theorem dL_document_248 : decode cL_document 248 = .ok (.iinc 4 1, 3) := dg dtL_document_2_ok 37 rfl
theorem dL_document_251 : decode cL_document 251 = .ok (.goto (-205), 3) := dg dtL_document_2_ok 38 rfl
theorem dL_document_254 : decode cL_document 254 = .ok (.aload_n 0, 1) := dg dtL_document_2_ok 39 rfl
theorem dL_document_255 : decode cL_document 255 = .ok (.iload_n 1, 1) := dg dtL_document_2_ok 40 rfl
theorem dL_document_256 : decode cL_document 256 = .ok (.bipush 7, 2) := dg dtL_document_2_ok 41 rfl
theorem dL_document_258 : decode cL_document 258 = .ok (.invokevirtual 26, 3) := dg dtL_document_2_ok 42 rfl
theorem dL_document_261 : decode cL_document 261 = .ok (.ifCond .le 24, 3) := dg dtL_document_2_ok 43 rfl
theorem dL_document_264 : decode cL_document 264 = .ok (.aload_n 0, 1) := dg dtL_document_2_ok 44 rfl
theorem dL_document_265 : decode cL_document 265 = .ok (.iload_n 1, 1) := dg dtL_document_2_ok 45 rfl
theorem dL_document_266 : decode cL_document 266 = .ok (.iconst 5, 1) := dg dtL_document_2_ok 46 rfl
theorem dL_document_267 : decode cL_document 267 = .ok (.invokevirtual 26, 3) := dg dtL_document_2_ok 47 rfl
def dtL_document_3 : List (Nat × Instr × Nat) := [(270, .aload_n 0, 1), (271, .iconst 0, 1), (272, .invokevirtual 13, 3), (275, .bipush 7, 2), (277, .iadd, 1), (278, .if_icmp .gt 7, 3), (281, .iconst 1, 1), (282, .goto 4, 3), (285, .iconst 0, 1), (286, .istore 4, 2), (288, .iconst 0, 1), (289, .istore 5, 2), (291, .iload 5, 2), (293, .aload_n 0, 1), (294, .iconst 3, 1), (295, .invokevirtual 13, 3), (298, .if_icmp .ge 60, 3), (301, .iload 4, 2), (303, .ifCond .ne 42, 3), (306, .aload_n 0, 1), (307, .iload 5, 2), (309, .iconst 0, 1), (310, .invokevirtual 30, 3), (313, .iload_n 1, 1), (314, .if_icmp .ne 35, 3), (317, .aload_n 0, 1), (318, .iload 5, 2), (320, .iconst 4, 1), (321, .invokevirtual 30, 3), (324, .ifCond .ne 25, 3), (327, .aload_n 0, 1), (328, .iload 5, 2), (330, .iconst 3, 1), (331, .invokevirtual 30, 3), (334, .aload_n 0, 1), (335, .iconst 0, 1), (336, .invokevirtual 13, 3), (339, .bipush 7, 2), (341, .iadd, 1), (342, .if_icmp .gt 7, 3), (345, .iconst 1, 1), (346, .goto 4, 3), (349, .iconst 0, 1), (350, .istore 4, 2), (352, .iinc 5 1, 3), (355, .goto (-64), 3), (358, .iload_n 3, 1), (359, .iload_n 2, 1)]
theorem dtL_document_3_ok : ∀ q ∈ dtL_document_3, decode cL_document q.1 = .ok q.2 := by decide +kernel
theorem dL_document_270 : decode cL_document 270 = .ok (.aload_n 0, 1) := dg dtL_document_3_ok 0 rfl
theorem dL_document_271 : decode cL_document 271 = .ok (.iconst 0, 1) := dg dtL_document_3_ok 1 rfl
theorem dL_document_272 : decode cL_document 272 = .ok (.invokevirtual 13, 3) := dg dtL_document_3_ok 2 rfl
theorem dL_document_275 : decode cL_document 275 = .ok (.bipush 7, 2) := dg dtL_document_3_ok 3 rfl
theorem dL_document_277 : decode cL_document 277 = .ok (.iadd, 1) := dg dtL_document_3_ok 4 rfl
theorem dL_document_278 : decode cL_document 278 = .ok (.if_icmp .gt 7, 3) := dg dtL_document_3_ok 5 rfl
theorem dL_document_281 : decode cL_document 281 = .ok (.iconst 1, 1) := dg dtL_document_3_ok 6 rfl
theorem dL_document_282 : decode cL_document 282 = .ok (.goto 4, 3) := dg dtL_document_3_ok 7 rfl
theorem dL_document_285 : decode cL_document 285 = .ok (.iconst 0, 1) := dg dtL_document_3_ok 8 rfl
theorem dL_document_286 : decode cL_document 286 = .ok (.istore 4, 2) := dg dtL_document_3_ok 9 rfl
theorem dL_document_288 : decode cL_document 288 = .ok (.iconst 0, 1) := dg dtL_document_3_ok 10 rfl
theorem dL_document_289 : decode cL_document 289 = .ok (.istore 5, 2) := dg dtL_document_3_ok 11 rfl
theorem dL_document_291 : decode cL_document 291 = .ok (.iload 5, 2) := dg dtL_document_3_ok 12 rfl
theorem dL_document_293 : decode cL_document 293 = .ok (.aload_n 0, 1) := dg dtL_document_3_ok 13 rfl
theorem dL_document_294 : decode cL_document 294 = .ok (.iconst 3, 1) := dg dtL_document_3_ok 14 rfl
theorem dL_document_295 : decode cL_document 295 = .ok (.invokevirtual 13, 3) := dg dtL_document_3_ok 15 rfl
theorem dL_document_298 : decode cL_document 298 = .ok (.if_icmp .ge 60, 3) := dg dtL_document_3_ok 16 rfl
theorem dL_document_301 : decode cL_document 301 = .ok (.iload 4, 2) := dg dtL_document_3_ok 17 rfl
theorem dL_document_303 : decode cL_document 303 = .ok (.ifCond .ne 42, 3) := dg dtL_document_3_ok 18 rfl
theorem dL_document_306 : decode cL_document 306 = .ok (.aload_n 0, 1) := dg dtL_document_3_ok 19 rfl
theorem dL_document_307 : decode cL_document 307 = .ok (.iload 5, 2) := dg dtL_document_3_ok 20 rfl
theorem dL_document_309 : decode cL_document 309 = .ok (.iconst 0, 1) := dg dtL_document_3_ok 21 rfl
theorem dL_document_310 : decode cL_document 310 = .ok (.invokevirtual 30, 3) := dg dtL_document_3_ok 22 rfl
theorem dL_document_313 : decode cL_document 313 = .ok (.iload_n 1, 1) := dg dtL_document_3_ok 23 rfl
theorem dL_document_314 : decode cL_document 314 = .ok (.if_icmp .ne 35, 3) := dg dtL_document_3_ok 24 rfl
theorem dL_document_317 : decode cL_document 317 = .ok (.aload_n 0, 1) := dg dtL_document_3_ok 25 rfl
theorem dL_document_318 : decode cL_document 318 = .ok (.iload 5, 2) := dg dtL_document_3_ok 26 rfl
theorem dL_document_320 : decode cL_document 320 = .ok (.iconst 4, 1) := dg dtL_document_3_ok 27 rfl
theorem dL_document_321 : decode cL_document 321 = .ok (.invokevirtual 30, 3) := dg dtL_document_3_ok 28 rfl
theorem dL_document_324 : decode cL_document 324 = .ok (.ifCond .ne 25, 3) := dg dtL_document_3_ok 29 rfl
theorem dL_document_327 : decode cL_document 327 = .ok (.aload_n 0, 1) := dg dtL_document_3_ok 30 rfl
theorem dL_document_328 : decode cL_document 328 = .ok (.iload 5, 2) := dg dtL_document_3_ok 31 rfl
theorem dL_document_330 : decode cL_document 330 = .ok (.iconst 3, 1) := dg dtL_document_3_ok 32 rfl
theorem dL_document_331 : decode cL_document 331 = .ok (.invokevirtual 30, 3) := dg dtL_document_3_ok 33 rfl
theorem dL_document_334 : decode cL_document 334 = .ok (.aload_n 0, 1) := dg dtL_document_3_ok 34 rfl
theorem dL_document_335 : decode cL_document 335 = .ok (.iconst 0, 1) := dg dtL_document_3_ok 35 rfl
theorem dL_document_336 : decode cL_document 336 = .ok (.invokevirtual 13, 3) := dg dtL_document_3_ok 36 rfl
theorem dL_document_339 : decode cL_document 339 = .ok (.bipush 7, 2) := dg dtL_document_3_ok 37 rfl
theorem dL_document_341 : decode cL_document 341 = .ok (.iadd, 1) := dg dtL_document_3_ok 38 rfl
theorem dL_document_342 : decode cL_document 342 = .ok (.if_icmp .gt 7, 3) := dg dtL_document_3_ok 39 rfl
theorem dL_document_345 : decode cL_document 345 = .ok (.iconst 1, 1) := dg dtL_document_3_ok 40 rfl
theorem dL_document_346 : decode cL_document 346 = .ok (.goto 4, 3) := dg dtL_document_3_ok 41 rfl
theorem dL_document_349 : decode cL_document 349 = .ok (.iconst 0, 1) := dg dtL_document_3_ok 42 rfl
theorem dL_document_350 : decode cL_document 350 = .ok (.istore 4, 2) := dg dtL_document_3_ok 43 rfl
theorem dL_document_352 : decode cL_document 352 = .ok (.iinc 5 1, 3) := dg dtL_document_3_ok 44 rfl
theorem dL_document_355 : decode cL_document 355 = .ok (.goto (-64), 3) := dg dtL_document_3_ok 45 rfl
theorem dL_document_358 : decode cL_document 358 = .ok (.iload_n 3, 1) := dg dtL_document_3_ok 46 rfl
theorem dL_document_359 : decode cL_document 359 = .ok (.iload_n 2, 1) := dg dtL_document_3_ok 47 rfl
def dtL_document_4 : List (Nat × Instr × Nat) := [(360, .if_icmp .ne 30, 3), (363, .aload_n 0, 1), (364, .iload_n 1, 1), (365, .iload_n 2, 1), (366, .iconst 1, 1), (367, .isub, 1), (368, .invokevirtual 78, 3), (371, .bipush 33, 2), (373, .if_icmp .ne 7, 3), (376, .iconst 1, 1), (377, .goto 4, 3), (380, .iconst 0, 1), (381, .iload 4, 2), (383, .if_icmp .ne 7, 3), (386, .iconst 1, 1), (387, .goto 4, 3), (390, .iconst 0, 1), (391, .ireturn, 1)]
theorem dtL_document_4_ok : ∀ q ∈ dtL_document_4, decode cL_document q.1 = .ok q.2 := by decide +kernel
theorem dL_document_360 : decode cL_document 360 = .ok (.if_icmp .ne 30, 3) := dg dtL_document_4_ok 0 rfl
theorem dL_document_363 : decode cL_document 363 = .ok (.aload_n 0, 1) := dg dtL_document_4_ok 1 rfl
theorem dL_document_364 : decode cL_document 364 = .ok (.iload_n 1, 1) := dg dtL_document_4_ok 2 rfl
theorem dL_document_365 : decode cL_document 365 = .ok (.iload_n 2, 1) := dg dtL_document_4_ok 3 rfl
theorem dL_document_366 : decode cL_document 366 = .ok (.iconst 1, 1) := dg dtL_document_4_ok 4 rfl
theorem dL_document_367 : decode cL_document 367 = .ok (.isub, 1) := dg dtL_document_4_ok 5 rfl
theorem dL_document_368 : decode cL_document 368 = .ok (.invokevirtual 78, 3) := dg dtL_document_4_ok 6 rfl
theorem dL_document_371 : decode cL_document 371 = .ok (.bipush 33, 2) := dg dtL_document_4_ok 7 rfl
theorem dL_document_373 : decode cL_document 373 = .ok (.if_icmp .ne 7, 3) := dg dtL_document_4_ok 8 rfl
theorem dL_document_376 : decode cL_document 376 = .ok (.iconst 1, 1) := dg dtL_document_4_ok 9 rfl
theorem dL_document_377 : decode cL_document 377 = .ok (.goto 4, 3) := dg dtL_document_4_ok 10 rfl
theorem dL_document_380 : decode cL_document 380 = .ok (.iconst 0, 1) := dg dtL_document_4_ok 11 rfl
theorem dL_document_381 : decode cL_document 381 = .ok (.iload 4, 2) := dg dtL_document_4_ok 12 rfl
theorem dL_document_383 : decode cL_document 383 = .ok (.if_icmp .ne 7, 3) := dg dtL_document_4_ok 13 rfl
theorem dL_document_386 : decode cL_document 386 = .ok (.iconst 1, 1) := dg dtL_document_4_ok 14 rfl
theorem dL_document_387 : decode cL_document 387 = .ok (.goto 4, 3) := dg dtL_document_4_ok 15 rfl
theorem dL_document_390 : decode cL_document 390 = .ok (.iconst 0, 1) := dg dtL_document_4_ok 16 rfl
theorem dL_document_391 : decode cL_document 391 = .ok (.ireturn, 1) := dg dtL_document_4_ok 17 rfl
def dtL_moves_0 : List (Nat × Instr × Nat) := [(0, .aload_n 0, 1), (1, .iconst 2, 1), (2, .invokevirtual 13, 3), (5, .istore 4, 2), (7, .iload 4, 2), (9, .ifCond .ne 74, 3), (12, .aload_n 0, 1), (13, .iconst 0, 1), (14, .iconst 1, 1), (15, .invokevirtual 81, 3), (18, .ldc 40, 2), (20, .if_icmp .ne 61, 3), (23, .aload_n 0, 1), (24, .iconst 0, 1), (25, .iconst 1, 1), (26, .invokevirtual 84, 3), (29, .ldc 40, 2), (31, .if_icmp .ne 50, 3), (34, .aload_n 0, 1), (35, .iconst 0, 1), (36, .iconst 1, 1), (37, .invokevirtual 87, 3), (40, .ldc 40, 2), (42, .if_icmp .ne 39, 3), (45, .aload_n 0, 1), (46, .iconst 0, 1), (47, .iconst 1, 1), (48, .invokevirtual 90, 3), (51, .ldc 40, 2), (53, .if_icmp .ne 28, 3), (56, .aload_n 0, 1), (57, .iconst 0, 1), (58, .iconst 0, 1), (59, .invokevirtual 93, 3), (62, .ldc 40, 2), (64, .if_icmp .ne 17, 3), (67, .aload_n 0, 1), (68, .iconst 0, 1), (69, .invokevirtual 75, 3), (72, .ldc 40, 2), (74, .if_icmp .ne 7, 3), (77, .iconst 1, 1), (78, .goto 4, 3), (81, .iconst 0, 1), (82, .ireturn, 1), (83, .iload_n 2, 1), (84, .iload 4, 2), (86, .invokestatic 45, 3)]
theorem dtL_moves_0_ok : ∀ q ∈ dtL_moves_0, decode cL_moves q.1 = .ok q.2 := by decide +kernel
theorem dL_moves_0 : decode cL_moves 0 = .ok (.aload_n 0, 1) := dg dtL_moves_0_ok 0 rfl
theorem dL_moves_1 : decode cL_moves 1 = .ok (.iconst 2, 1) := dg dtL_moves_0_ok 1 rfl
theorem dL_moves_2 : decode cL_moves 2 = .ok (.invokevirtual 13, 3) := dg dtL_moves_0_ok 2 rfl
theorem dL_moves_5 : decode cL_moves 5 = .ok (.istore 4, 2) := dg dtL_moves_0_ok 3 rfl
theorem dL_moves_7 : decode cL_moves 7 = .ok (.iload 4, 2) := dg dtL_moves_0_ok 4 rfl
theorem dL_moves_9 : decode cL_moves 9 = .ok (.ifCond .ne 74, 3) := dg dtL_moves_0_ok 5 rfl
theorem dL_moves_12 : decode cL_moves 12 = .ok (.aload_n 0, 1) := dg dtL_moves_0_ok 6 rfl
theorem dL_moves_13 : decode cL_moves 13 = .ok (.iconst 0, 1) := dg dtL_moves_0_ok 7 rfl
theorem dL_moves_14 : decode cL_moves 14 = .ok (.iconst 1, 1) := dg dtL_moves_0_ok 8 rfl
theorem dL_moves_15 : decode cL_moves 15 = .ok (.invokevirtual 81, 3) := dg dtL_moves_0_ok 9 rfl
theorem dL_moves_18 : decode cL_moves 18 = .ok (.ldc 40, 2) := dg dtL_moves_0_ok 10 rfl
theorem dL_moves_20 : decode cL_moves 20 = .ok (.if_icmp .ne 61, 3) := dg dtL_moves_0_ok 11 rfl
theorem dL_moves_23 : decode cL_moves 23 = .ok (.aload_n 0, 1) := dg dtL_moves_0_ok 12 rfl
theorem dL_moves_24 : decode cL_moves 24 = .ok (.iconst 0, 1) := dg dtL_moves_0_ok 13 rfl
theorem dL_moves_25 : decode cL_moves 25 = .ok (.iconst 1, 1) := dg dtL_moves_0_ok 14 rfl
theorem dL_moves_26 : decode cL_moves 26 = .ok (.invokevirtual 84, 3) := dg dtL_moves_0_ok 15 rfl
theorem dL_moves_29 : decode cL_moves 29 = .ok (.ldc 40, 2) := dg dtL_moves_0_ok 16 rfl
theorem dL_moves_31 : decode cL_moves 31 = .ok (.if_icmp .ne 50, 3) := dg dtL_moves_0_ok 17 rfl
theorem dL_moves_34 : decode cL_moves 34 = .ok (.aload_n 0, 1) := dg dtL_moves_0_ok 18 rfl
theorem dL_moves_35 : decode cL_moves 35 = .ok (.iconst 0, 1) := dg dtL_moves_0_ok 19 rfl
theorem dL_moves_36 : decode cL_moves 36 = .ok (.iconst 1, 1) := dg dtL_moves_0_ok 20 rfl
theorem dL_moves_37 : decode cL_moves 37 = .ok (.invokevirtual 87, 3) := dg dtL_moves_0_ok 21 rfl
theorem dL_moves_40 : decode cL_moves 40 = .ok (.ldc 40, 2) := dg dtL_moves_0_ok 22 rfl
theorem dL_moves_42 : decode cL_moves 42 = .ok (.if_icmp .ne 39, 3) := dg dtL_moves_0_ok 23 rfl
theorem dL_moves_45 : decode cL_moves 45 = .ok (.aload_n 0, 1) := dg dtL_moves_0_ok 24 rfl
theorem dL_moves_46 : decode cL_moves 46 = .ok (.iconst 0, 1) := dg dtL_moves_0_ok 25 rfl
theorem dL_moves_47 : decode cL_moves 47 = .ok (.iconst 1, 1) := dg dtL_moves_0_ok 26 rfl
theorem dL_moves_48 : decode cL_moves 48 = .ok (.invokevirtual 90, 3) := dg dtL_moves_0_ok 27 rfl
theorem dL_moves_51 : decode cL_moves 51 = .ok (.ldc 40, 2) := dg dtL_moves_0_ok 28 rfl
theorem dL_moves_53 : decode cL_moves 53 = .ok (.if_icmp .ne 28, 3) := dg dtL_moves_0_ok 29 rfl
theorem dL_moves_56 : decode cL_moves 56 = .ok (.aload_n 0, 1) := dg dtL_moves_0_ok 30 rfl
theorem dL_moves_57 : decode cL_moves 57 = .ok (.iconst 0, 1) := dg dtL_moves_0_ok 31 rfl
theorem dL_moves_58 : decode cL_moves 58 = .ok (.iconst 0, 1) := dg dtL_moves_0_ok 32 rfl
theorem dL_moves_59 : decode cL_moves 59 = .ok (.invokevirtual 93, 3) := dg dtL_moves_0_ok 33 rfl
theorem dL_moves_62 : decode cL_moves 62 = .ok (.ldc 40, 2) := dg dtL_moves_0_ok 34 rfl
theorem dL_moves_64 : decode cL_moves 64 = .ok (.if_icmp .ne 17, 3) := dg dtL_moves_0_ok 35 rfl
theorem dL_moves_67 : decode cL_moves 67 = .ok (.aload_n 0, 1) := dg dtL_moves_0_ok 36 rfl
theorem dL_moves_68 : decode cL_moves 68 = .ok (.iconst 0, 1) := dg dtL_moves_0_ok 37 rfl
theorem dL_moves_69 : decode cL_moves 69 = .ok (.invokevirtual 75, 3) := dg dtL_moves_0_ok 38 rfl
theorem dL_moves_72 : decode cL_moves 72 = .ok (.ldc 40, 2) := dg dtL_moves_0_ok 39 rfl
theorem dL_moves_74 : decode cL_moves 74 = .ok (.if_icmp .ne 7, 3) := dg dtL_moves_0_ok 40 rfl
theorem dL_moves_77 : decode cL_moves 77 = .ok (.iconst 1, 1) := dg dtL_moves_0_ok 41 rfl
theorem dL_moves_78 : decode cL_moves 78 = .ok (.goto 4, 3) := dg dtL_moves_0_ok 42 rfl
theorem dL_moves_81 : decode cL_moves 81 = .ok (.iconst 0, 1) := dg dtL_moves_0_ok 43 rfl
theorem dL_moves_82 : decode cL_moves 82 = .ok (.ireturn, 1) := dg dtL_moves_0_ok 44 rfl
theorem dL_moves_83 : decode cL_moves 83 = .ok (.iload_n 2, 1) := dg dtL_moves_0_ok 45 rfl
theorem dL_moves_84 : decode cL_moves 84 = .ok (.iload 4, 2) := dg dtL_moves_0_ok 46 rfl
theorem dL_moves_86 : decode cL_moves 86 = .ok (.invokestatic 45, 3) := dg dtL_moves_0_ok 47 rfl
def dtL_moves_1 : List (Nat × Instr × Nat) := [(89, .istore 5, 2), (91, .aload_n 0, 1), (92, .iload 5, 2), (94, .bipush 7, 2), (96, .invokevirtual 26, 3), (99, .istore 6, 2), (101, .iload 6, 2), (103, .ifCond .ne 7, 3), (106, .iconst 1, 1), (107, .goto 27, 3), (110, .iload_n 3, 1), (111, .bipush 7, 2), (113, .iand, 1), (114, .ifCond .ne 10, 3), (117, .iload 6, 2), (119, .iconst 1, 1), (120, .iadd, 1), (121, .goto 13, 3), (124, .iconst 1, 1), (125, .iload_n 3, 1), (126, .iconst 3, 1), (127, .ishr, 1), (128, .iload 6, 2), (130, .invokestatic 45, 3), (133, .iadd, 1), (134, .istore 7, 2), (136, .aload_n 0, 1), (137, .iload 5, 2), (139, .iconst 0, 1), (140, .invokevirtual 26, 3), (143, .istore 8, 2), (145, .aload_n 0, 1), (146, .iload 8, 2), (148, .iconst 0, 1), (149, .invokevirtual 22, 3), (152, .lstore 9, 2), (154, .aload_n 0, 1), (155, .invokestatic 65, 3), (158, .lstore 11, 2), (160, .aload_n 0, 1), (161, .bipush 12, 2), (163, .invokevirtual 13, 3), (166, .istore 13, 2), (168, .aload_n 0, 1), (169, .iload 5, 2), (171, .iconst 2, 1), (172, .invokevirtual 26, 3), (175, .i2l, 1)]
theorem dtL_moves_1_ok : ∀ q ∈ dtL_moves_1, decode cL_moves q.1 = .ok q.2 := by decide +kernel
theorem dL_moves_89 : decode cL_moves 89 = .ok (.istore 5, 2) := dg dtL_moves_1_ok 0 rfl
theorem dL_moves_91 : decode cL_moves 91 = .ok (.aload_n 0, 1) := dg dtL_moves_1_ok 1 rfl
theorem dL_moves_92 : decode cL_moves 92 = .ok (.iload 5, 2) := dg dtL_moves_1_ok 2 rfl
theorem dL_moves_94 : decode cL_moves 94 = .ok (.bipush 7, 2) := dg dtL_moves_1_ok 3 rfl
theorem dL_moves_96 : decode cL_moves 96 = .ok (.invokevirtual 26, 3) := dg dtL_moves_1_ok 4 rfl
theorem dL_moves_99 : decode cL_moves 99 = .ok (.istore 6, 2) := dg dtL_moves_1_ok 5 rfl
theorem dL_moves_101 : decode cL_moves 101 = .ok (.iload 6, 2) := dg dtL_moves_1_ok 6 rfl
theorem dL_moves_103 : decode cL_moves 103 = .ok (.ifCond .ne 7, 3) := dg dtL_moves_1_ok 7 rfl
theorem dL_moves_106 : decode cL_moves 106 = .ok (.iconst 1, 1) := dg dtL_moves_1_ok 8 rfl
theorem dL_moves_107 : decode cL_moves 107 = .ok (.goto 27, 3) := dg dtL_moves_1_ok 9 rfl
theorem dL_moves_110 : decode cL_moves 110 = .ok (.iload_n 3, 1) := dg dtL_moves_1_ok 10 rfl
theorem dL_moves_111 : decode cL_moves 111 = .ok (.bipush 7, 2) := dg dtL_moves_1_ok 11 rfl
theorem dL_moves_113 : decode cL_moves 113 = .ok (.iand, 1) := dg dtL_moves_1_ok 12 rfl
theorem dL_moves_114 : decode cL_moves 114 = .ok (.ifCond .ne 10, 3) := dg dtL_moves_1_ok 13 rfl
theorem dL_moves_117 : decode cL_moves 117 = .ok (.iload 6, 2) := dg dtL_moves_1_ok 14 rfl
theorem dL_moves_119 : decode cL_moves 119 = .ok (.iconst 1, 1) := dg dtL_moves_1_ok 15 rfl
theorem dL_moves_120 : decode cL_moves 120 = .ok (.iadd, 1) := dg dtL_moves_1_ok 16 rfl
theorem dL_moves_121 : decode cL_moves 121 = .ok (.goto 13, 3) := dg dtL_moves_1_ok 17 rfl
theorem dL_moves_124 : decode cL_moves 124 = .ok (.iconst 1, 1) := dg dtL_moves_1_ok 18 rfl
theorem dL_moves_125 : decode cL_moves 125 = .ok (.iload_n 3, 1) := dg dtL_moves_1_ok 19 rfl
theorem dL_moves_126 : decode cL_moves 126 = .ok (.iconst 3, 1) := dg dtL_moves_1_ok 20 rfl
theorem dL_moves_127 : decode cL_moves 127 = .ok (.ishr, 1) := dg dtL_moves_1_ok 21 rfl
theorem dL_moves_128 : decode cL_moves 128 = .ok (.iload 6, 2) := dg dtL_moves_1_ok 22 rfl
theorem dL_moves_130 : decode cL_moves 130 = .ok (.invokestatic 45, 3) := dg dtL_moves_1_ok 23 rfl
theorem dL_moves_133 : decode cL_moves 133 = .ok (.iadd, 1) := dg dtL_moves_1_ok 24 rfl
theorem dL_moves_134 : decode cL_moves 134 = .ok (.istore 7, 2) := dg dtL_moves_1_ok 25 rfl
theorem dL_moves_136 : decode cL_moves 136 = .ok (.aload_n 0, 1) := dg dtL_moves_1_ok 26 rfl
theorem dL_moves_137 : decode cL_moves 137 = .ok (.iload 5, 2) := dg dtL_moves_1_ok 27 rfl
theorem dL_moves_139 : decode cL_moves 139 = .ok (.iconst 0, 1) := dg dtL_moves_1_ok 28 rfl
theorem dL_moves_140 : decode cL_moves 140 = .ok (.invokevirtual 26, 3) := dg dtL_moves_1_ok 29 rfl
theorem dL_moves_143 : decode cL_moves 143 = .ok (.istore 8, 2) := dg dtL_moves_1_ok 30 rfl
theorem dL_moves_145 : decode cL_moves 145 = .ok (.aload_n 0, 1) := dg dtL_moves_1_ok 31 rfl
theorem dL_moves_146 : decode cL_moves 146 = .ok (.iload 8, 2) := dg dtL_moves_1_ok 32 rfl
theorem dL_moves_148 : decode cL_moves 148 = .ok (.iconst 0, 1) := dg dtL_moves_1_ok 33 rfl
theorem dL_moves_149 : decode cL_moves 149 = .ok (.invokevirtual 22, 3) := dg dtL_moves_1_ok 34 rfl
theorem dL_moves_152 : decode cL_moves 152 = .ok (.lstore 9, 2) := dg dtL_moves_1_ok 35 rfl
theorem dL_moves_154 : decode cL_moves 154 = .ok (.aload_n 0, 1) := dg dtL_moves_1_ok 36 rfl
theorem dL_moves_155 : decode cL_moves 155 = .ok (.invokestatic 65, 3) := dg dtL_moves_1_ok 37 rfl
theorem dL_moves_158 : decode cL_moves 158 = .ok (.lstore 11, 2) := dg dtL_moves_1_ok 38 rfl
theorem dL_moves_160 : decode cL_moves 160 = .ok (.aload_n 0, 1) := dg dtL_moves_1_ok 39 rfl
theorem dL_moves_161 : decode cL_moves 161 = .ok (.bipush 12, 2) := dg dtL_moves_1_ok 40 rfl
theorem dL_moves_163 : decode cL_moves 163 = .ok (.invokevirtual 13, 3) := dg dtL_moves_1_ok 41 rfl
theorem dL_moves_166 : decode cL_moves 166 = .ok (.istore 13, 2) := dg dtL_moves_1_ok 42 rfl
theorem dL_moves_168 : decode cL_moves 168 = .ok (.aload_n 0, 1) := dg dtL_moves_1_ok 43 rfl
theorem dL_moves_169 : decode cL_moves 169 = .ok (.iload 5, 2) := dg dtL_moves_1_ok 44 rfl
theorem dL_moves_171 : decode cL_moves 171 = .ok (.iconst 2, 1) := dg dtL_moves_1_ok 45 rfl
theorem dL_moves_172 : decode cL_moves 172 = .ok (.invokevirtual 26, 3) := dg dtL_moves_1_ok 46 rfl
theorem dL_moves_175 : decode cL_moves 175 = .ok (.i2l, 1) := dg dtL_moves_1_ok 47 rfl
def dtL_moves_2 : List (Nat × Instr × Nat) := [(176, .lstore 14, 2), (178, .aload_n 0, 1), (179, .iload 5, 2), (181, .bipush 6, 2), (183, .invokevirtual 26, 3), (186, .i2l, 1), (187, .lload 14, 2), (189, .iload 6, 2), (191, .i2l, 1), (192, .lsub, 1), (193, .iload 7, 2), (195, .i2l, 1), (196, .ladd, 1), (197, .lmul, 1), (198, .lload 14, 2), (200, .ldiv, 1), (201, .aload_n 0, 1), (202, .iload 5, 2), (204, .bipush 6, 2), (206, .invokevirtual 26, 3), (209, .i2l, 1), (210, .lload 14, 2), (212, .iload 6, 2), (214, .i2l, 1), (215, .lsub, 1), (216, .lmul, 1), (217, .lload 14, 2), (219, .ldiv, 1), (220, .lsub, 1), (221, .lstore 16, 2), (223, .iconst 0, 1), (224, .istore 18, 2), (226, .iload_n 1, 1), (227, .ifCond .ne 95, 3), (230, .aload_n 0, 1), (231, .iload 5, 2), (233, .iload 7, 2), (235, .invokevirtual 81, 3), (238, .istore 18, 2), (240, .iload 7, 2), (242, .iload 6, 2), (244, .if_icmp .le 23, 3), (247, .iload 18, 2), (249, .ldc 96, 2), (251, .if_icmp .ne 69, 3), (254, .aload_n 0, 1), (255, .bipush 11, 2), (257, .invokevirtual 13, 3)]
theorem dtL_moves_2_ok : ∀ q ∈ dtL_moves_2, decode cL_moves q.1 = .ok q.2 := by decide +kernel
theorem dL_moves_176 : decode cL_moves 176 = .ok (.lstore 14, 2) := dg dtL_moves_2_ok 0 rfl
theorem dL_moves_178 : decode cL_moves 178 = .ok (.aload_n 0, 1) := dg dtL_moves_2_ok 1 rfl
theorem dL_moves_179 : decode cL_moves 179 = .ok (.iload 5, 2) := dg dtL_moves_2_ok 2 rfl
theorem dL_moves_181 : decode cL_moves 181 = .ok (.bipush 6, 2) := dg dtL_moves_2_ok 3 rfl
theorem dL_moves_183 : decode cL_moves 183 = .ok (.invokevirtual 26, 3) := dg dtL_moves_2_ok 4 rfl
theorem dL_moves_186 : decode cL_moves 186 = .ok (.i2l, 1) := dg dtL_moves_2_ok 5 rfl
theorem dL_moves_187 : decode cL_moves 187 = .ok (.lload 14, 2) := dg dtL_moves_2_ok 6 rfl
theorem dL_moves_189 : decode cL_moves 189 = .ok (.iload 6, 2) := dg dtL_moves_2_ok 7 rfl
theorem dL_moves_191 : decode cL_moves 191 = .ok (.i2l, 1) := dg dtL_moves_2_ok 8 rfl
theorem dL_moves_192 : decode cL_moves 192 = .ok (.lsub, 1) := dg dtL_moves_2_ok 9 rfl
theorem dL_moves_193 : decode cL_moves 193 = .ok (.iload 7, 2) := dg dtL_moves_2_ok 10 rfl
theorem dL_moves_195 : decode cL_moves 195 = .ok (.i2l, 1) := dg dtL_moves_2_ok 11 rfl
theorem dL_moves_196 : decode cL_moves 196 = .ok (.ladd, 1) := dg dtL_moves_2_ok 12 rfl
theorem dL_moves_197 : decode cL_moves 197 = .ok (.lmul, 1) := dg dtL_moves_2_ok 13 rfl
theorem dL_moves_198 : decode cL_moves 198 = .ok (.lload 14, 2) := dg dtL_moves_2_ok 14 rfl
theorem dL_moves_200 : decode cL_moves 200 = .ok (.ldiv, 1) := dg dtL_moves_2_ok 15 rfl
theorem dL_moves_201 : decode cL_moves 201 = .ok (.aload_n 0, 1) := dg dtL_moves_2_ok 16 rfl
theorem dL_moves_202 : decode cL_moves 202 = .ok (.iload 5, 2) := dg dtL_moves_2_ok 17 rfl
theorem dL_moves_204 : decode cL_moves 204 = .ok (.bipush 6, 2) := dg dtL_moves_2_ok 18 rfl
theorem dL_moves_206 : decode cL_moves 206 = .ok (.invokevirtual 26, 3) := dg dtL_moves_2_ok 19 rfl
theorem dL_moves_209 : decode cL_moves 209 = .ok (.i2l, 1) := dg dtL_moves_2_ok 20 rfl
theorem dL_moves_210 : decode cL_moves 210 = .ok (.lload 14, 2) := dg dtL_moves_2_ok 21 rfl
theorem dL_moves_212 : decode cL_moves 212 = .ok (.iload 6, 2) := dg dtL_moves_2_ok 22 rfl
theorem dL_moves_214 : decode cL_moves 214 = .ok (.i2l, 1) := dg dtL_moves_2_ok 23 rfl
theorem dL_moves_215 : decode cL_moves 215 = .ok (.lsub, 1) := dg dtL_moves_2_ok 24 rfl
theorem dL_moves_216 : decode cL_moves 216 = .ok (.lmul, 1) := dg dtL_moves_2_ok 25 rfl
theorem dL_moves_217 : decode cL_moves 217 = .ok (.lload 14, 2) := dg dtL_moves_2_ok 26 rfl
theorem dL_moves_219 : decode cL_moves 219 = .ok (.ldiv, 1) := dg dtL_moves_2_ok 27 rfl
theorem dL_moves_220 : decode cL_moves 220 = .ok (.lsub, 1) := dg dtL_moves_2_ok 28 rfl
theorem dL_moves_221 : decode cL_moves 221 = .ok (.lstore 16, 2) := dg dtL_moves_2_ok 29 rfl
theorem dL_moves_223 : decode cL_moves 223 = .ok (.iconst 0, 1) := dg dtL_moves_2_ok 30 rfl
theorem dL_moves_224 : decode cL_moves 224 = .ok (.istore 18, 2) := dg dtL_moves_2_ok 31 rfl
theorem dL_moves_226 : decode cL_moves 226 = .ok (.iload_n 1, 1) := dg dtL_moves_2_ok 32 rfl
theorem dL_moves_227 : decode cL_moves 227 = .ok (.ifCond .ne 95, 3) := dg dtL_moves_2_ok 33 rfl
theorem dL_moves_230 : decode cL_moves 230 = .ok (.aload_n 0, 1) := dg dtL_moves_2_ok 34 rfl
theorem dL_moves_231 : decode cL_moves 231 = .ok (.iload 5, 2) := dg dtL_moves_2_ok 35 rfl
theorem dL_moves_233 : decode cL_moves 233 = .ok (.iload 7, 2) := dg dtL_moves_2_ok 36 rfl
theorem dL_moves_235 : decode cL_moves 235 = .ok (.invokevirtual 81, 3) := dg dtL_moves_2_ok 37 rfl
theorem dL_moves_238 : decode cL_moves 238 = .ok (.istore 18, 2) := dg dtL_moves_2_ok 38 rfl
theorem dL_moves_240 : decode cL_moves 240 = .ok (.iload 7, 2) := dg dtL_moves_2_ok 39 rfl
theorem dL_moves_242 : decode cL_moves 242 = .ok (.iload 6, 2) := dg dtL_moves_2_ok 40 rfl
theorem dL_moves_244 : decode cL_moves 244 = .ok (.if_icmp .le 23, 3) := dg dtL_moves_2_ok 41 rfl
theorem dL_moves_247 : decode cL_moves 247 = .ok (.iload 18, 2) := dg dtL_moves_2_ok 42 rfl
theorem dL_moves_249 : decode cL_moves 249 = .ok (.ldc 96, 2) := dg dtL_moves_2_ok 43 rfl
theorem dL_moves_251 : decode cL_moves 251 = .ok (.if_icmp .ne 69, 3) := dg dtL_moves_2_ok 44 rfl
theorem dL_moves_254 : decode cL_moves 254 = .ok (.aload_n 0, 1) := dg dtL_moves_2_ok 45 rfl
theorem dL_moves_255 : decode cL_moves 255 = .ok (.bipush 11, 2) := dg dtL_moves_2_ok 46 rfl
theorem dL_moves_257 : decode cL_moves 257 = .ok (.invokevirtual 13, 3) := dg dtL_moves_2_ok 47 rfl
def dtL_moves_3 : List (Nat × Instr × Nat) := [(260, .iconst 4, 1), (261, .if_icmp .eq 701, 3), (264, .goto 56, 3), (267, .lload 16, 2), (269, .lload 9, 2), (271, .lcmp, 1), (272, .ifCond .le 23, 3), (275, .iload 18, 2), (277, .ldc 96, 2), (279, .if_icmp .ne 41, 3), (282, .aload_n 0, 1), (283, .bipush 11, 2), (285, .invokevirtual 13, 3), (288, .iconst 3, 1), (289, .if_icmp .eq 673, 3), (292, .goto 28, 3), (295, .iload 18, 2), (297, .i2l, 1), (298, .lload 16, 2), (300, .lcmp, 1), (301, .ifCond .ne 19, 3), (304, .aload_n 0, 1), (305, .iload 8, 2), (307, .iconst 0, 1), (308, .invokevirtual 22, 3), (311, .lload 9, 2), (313, .lload 16, 2), (315, .lsub, 1), (316, .lcmp, 1), (317, .ifCond .eq 645, 3), (320, .iconst 0, 1), (321, .ireturn, 1), (322, .iload_n 1, 1), (323, .iconst 1, 1), (324, .if_icmp .ne 206, 3), (327, .lload 14, 2), (329, .aload_n 0, 1), (330, .bipush 9, 2), (332, .invokevirtual 13, 3), (335, .i2l, 1), (336, .lmul, 1), (337, .ldc2_w 54, 3), (340, .ldiv, 1), (341, .aload_n 0, 1), (342, .iload 5, 2), (344, .bipush 11, 2), (346, .invokevirtual 26, 3), (349, .i2l, 1)]
theorem dtL_moves_3_ok : ∀ q ∈ dtL_moves_3, decode cL_moves q.1 = .ok q.2 := by decide +kernel
theorem dL_moves_260 : decode cL_moves 260 = .ok (.iconst 4, 1) := dg dtL_moves_3_ok 0 rfl
theorem dL_moves_261 : decode cL_moves 261 = .ok (.if_icmp .eq 701, 3) := dg dtL_moves_3_ok 1 rfl
theorem dL_moves_264 : decode cL_moves 264 = .ok (.goto 56, 3) := dg dtL_moves_3_ok 2 rfl
theorem dL_moves_267 : decode cL_moves 267 = .ok (.lload 16, 2) := dg dtL_moves_3_ok 3 rfl
theorem dL_moves_269 : decode cL_moves 269 = .ok (.lload 9, 2) := dg dtL_moves_3_ok 4 rfl
theorem dL_moves_271 : decode cL_moves 271 = .ok (.lcmp, 1) := dg dtL_moves_3_ok 5 rfl
theorem dL_moves_272 : decode cL_moves 272 = .ok (.ifCond .le 23, 3) := dg dtL_moves_3_ok 6 rfl
theorem dL_moves_275 : decode cL_moves 275 = .ok (.iload 18, 2) := dg dtL_moves_3_ok 7 rfl
theorem dL_moves_277 : decode cL_moves 277 = .ok (.ldc 96, 2) := dg dtL_moves_3_ok 8 rfl
theorem dL_moves_279 : decode cL_moves 279 = .ok (.if_icmp .ne 41, 3) := dg dtL_moves_3_ok 9 rfl
theorem dL_moves_282 : decode cL_moves 282 = .ok (.aload_n 0, 1) := dg dtL_moves_3_ok 10 rfl
theorem dL_moves_283 : decode cL_moves 283 = .ok (.bipush 11, 2) := dg dtL_moves_3_ok 11 rfl
theorem dL_moves_285 : decode cL_moves 285 = .ok (.invokevirtual 13, 3) := dg dtL_moves_3_ok 12 rfl
theorem dL_moves_288 : decode cL_moves 288 = .ok (.iconst 3, 1) := dg dtL_moves_3_ok 13 rfl
theorem dL_moves_289 : decode cL_moves 289 = .ok (.if_icmp .eq 673, 3) := dg dtL_moves_3_ok 14 rfl
theorem dL_moves_292 : decode cL_moves 292 = .ok (.goto 28, 3) := dg dtL_moves_3_ok 15 rfl
theorem dL_moves_295 : decode cL_moves 295 = .ok (.iload 18, 2) := dg dtL_moves_3_ok 16 rfl
theorem dL_moves_297 : decode cL_moves 297 = .ok (.i2l, 1) := dg dtL_moves_3_ok 17 rfl
theorem dL_moves_298 : decode cL_moves 298 = .ok (.lload 16, 2) := dg dtL_moves_3_ok 18 rfl
theorem dL_moves_300 : decode cL_moves 300 = .ok (.lcmp, 1) := dg dtL_moves_3_ok 19 rfl
theorem dL_moves_301 : decode cL_moves 301 = .ok (.ifCond .ne 19, 3) := dg dtL_moves_3_ok 20 rfl
theorem dL_moves_304 : decode cL_moves 304 = .ok (.aload_n 0, 1) := dg dtL_moves_3_ok 21 rfl
theorem dL_moves_305 : decode cL_moves 305 = .ok (.iload 8, 2) := dg dtL_moves_3_ok 22 rfl
theorem dL_moves_307 : decode cL_moves 307 = .ok (.iconst 0, 1) := dg dtL_moves_3_ok 23 rfl
theorem dL_moves_308 : decode cL_moves 308 = .ok (.invokevirtual 22, 3) := dg dtL_moves_3_ok 24 rfl
theorem dL_moves_311 : decode cL_moves 311 = .ok (.lload 9, 2) := dg dtL_moves_3_ok 25 rfl
theorem dL_moves_313 : decode cL_moves 313 = .ok (.lload 16, 2) := dg dtL_moves_3_ok 26 rfl
theorem dL_moves_315 : decode cL_moves 315 = .ok (.lsub, 1) := dg dtL_moves_3_ok 27 rfl
theorem dL_moves_316 : decode cL_moves 316 = .ok (.lcmp, 1) := dg dtL_moves_3_ok 28 rfl
theorem dL_moves_317 : decode cL_moves 317 = .ok (.ifCond .eq 645, 3) := dg dtL_moves_3_ok 29 rfl
theorem dL_moves_320 : decode cL_moves 320 = .ok (.iconst 0, 1) := dg dtL_moves_3_ok 30 rfl
theorem dL_moves_321 : decode cL_moves 321 = .ok (.ireturn, 1) := dg dtL_moves_3_ok 31 rfl
theorem dL_moves_322 : decode cL_moves 322 = .ok (.iload_n 1, 1) := dg dtL_moves_3_ok 32 rfl
theorem dL_moves_323 : decode cL_moves 323 = .ok (.iconst 1, 1) := dg dtL_moves_3_ok 33 rfl
theorem dL_moves_324 : decode cL_moves 324 = .ok (.if_icmp .ne 206, 3) := dg dtL_moves_3_ok 34 rfl
theorem dL_moves_327 : decode cL_moves 327 = .ok (.lload 14, 2) := dg dtL_moves_3_ok 35 rfl
theorem dL_moves_329 : decode cL_moves 329 = .ok (.aload_n 0, 1) := dg dtL_moves_3_ok 36 rfl
theorem dL_moves_330 : decode cL_moves 330 = .ok (.bipush 9, 2) := dg dtL_moves_3_ok 37 rfl
theorem dL_moves_332 : decode cL_moves 332 = .ok (.invokevirtual 13, 3) := dg dtL_moves_3_ok 38 rfl
theorem dL_moves_335 : decode cL_moves 335 = .ok (.i2l, 1) := dg dtL_moves_3_ok 39 rfl
theorem dL_moves_336 : decode cL_moves 336 = .ok (.lmul, 1) := dg dtL_moves_3_ok 40 rfl
theorem dL_moves_337 : decode cL_moves 337 = .ok (.ldc2_w 54, 3) := dg dtL_moves_3_ok 41 rfl
theorem dL_moves_340 : decode cL_moves 340 = .ok (.ldiv, 1) := dg dtL_moves_3_ok 42 rfl
theorem dL_moves_341 : decode cL_moves 341 = .ok (.aload_n 0, 1) := dg dtL_moves_3_ok 43 rfl
theorem dL_moves_342 : decode cL_moves 342 = .ok (.iload 5, 2) := dg dtL_moves_3_ok 44 rfl
theorem dL_moves_344 : decode cL_moves 344 = .ok (.bipush 11, 2) := dg dtL_moves_3_ok 45 rfl
theorem dL_moves_346 : decode cL_moves 346 = .ok (.invokevirtual 26, 3) := dg dtL_moves_3_ok 46 rfl
theorem dL_moves_349 : decode cL_moves 349 = .ok (.i2l, 1) := dg dtL_moves_3_ok 47 rfl
def dtL_moves_4 : List (Nat × Instr × Nat) := [(350, .lsub, 1), (351, .lstore 19, 2), (353, .aload_n 0, 1), (354, .iload 5, 2), (356, .bipush 11, 2), (358, .invokevirtual 26, 3), (361, .istore 21, 2), (363, .aload_n 0, 1), (364, .iload 5, 2), (366, .bipush 10, 2), (368, .invokevirtual 26, 3), (371, .i2l, 1), (372, .lstore 22, 2), (374, .aload_n 0, 1), (375, .iload 5, 2), (377, .iload 7, 2), (379, .invokevirtual 84, 3), (382, .istore 18, 2), (384, .iload 7, 2), (386, .iload 6, 2), (388, .if_icmp .le 23, 3), (391, .iload 18, 2), (393, .ldc 96, 2), (395, .if_icmp .ne 38, 3), (398, .aload_n 0, 1), (399, .bipush 11, 2), (401, .invokevirtual 13, 3), (404, .iconst 4, 1), (405, .if_icmp .eq 30, 3), (408, .goto 25, 3), (411, .iload 18, 2), (413, .ifCond .ge 22, 3), (416, .iload 18, 2), (418, .ldc 96, 2), (420, .if_icmp .ne 13, 3), (423, .aload_n 0, 1), (424, .bipush 11, 2), (426, .invokevirtual 13, 3), (429, .iconst 3, 1), (430, .if_icmp .eq 5, 3), (433, .iconst 0, 1), (434, .ireturn, 1), (435, .iload 18, 2), (437, .ifCond .lt 90, 3), (440, .aload_n 0, 1), (441, .iload 5, 2), (443, .bipush 11, 2), (445, .invokevirtual 26, 3)]
theorem dtL_moves_4_ok : ∀ q ∈ dtL_moves_4, decode cL_moves q.1 = .ok q.2 := by decide +kernel
theorem dL_moves_350 : decode cL_moves 350 = .ok (.lsub, 1) := dg dtL_moves_4_ok 0 rfl
theorem dL_moves_351 : decode cL_moves 351 = .ok (.lstore 19, 2) := dg dtL_moves_4_ok 1 rfl
theorem dL_moves_353 : decode cL_moves 353 = .ok (.aload_n 0, 1) := dg dtL_moves_4_ok 2 rfl
theorem dL_moves_354 : decode cL_moves 354 = .ok (.iload 5, 2) := dg dtL_moves_4_ok 3 rfl
theorem dL_moves_356 : decode cL_moves 356 = .ok (.bipush 11, 2) := dg dtL_moves_4_ok 4 rfl
theorem dL_moves_358 : decode cL_moves 358 = .ok (.invokevirtual 26, 3) := dg dtL_moves_4_ok 5 rfl
theorem dL_moves_361 : decode cL_moves 361 = .ok (.istore 21, 2) := dg dtL_moves_4_ok 6 rfl
theorem dL_moves_363 : decode cL_moves 363 = .ok (.aload_n 0, 1) := dg dtL_moves_4_ok 7 rfl
theorem dL_moves_364 : decode cL_moves 364 = .ok (.iload 5, 2) := dg dtL_moves_4_ok 8 rfl
theorem dL_moves_366 : decode cL_moves 366 = .ok (.bipush 10, 2) := dg dtL_moves_4_ok 9 rfl
theorem dL_moves_368 : decode cL_moves 368 = .ok (.invokevirtual 26, 3) := dg dtL_moves_4_ok 10 rfl
theorem dL_moves_371 : decode cL_moves 371 = .ok (.i2l, 1) := dg dtL_moves_4_ok 11 rfl
theorem dL_moves_372 : decode cL_moves 372 = .ok (.lstore 22, 2) := dg dtL_moves_4_ok 12 rfl
theorem dL_moves_374 : decode cL_moves 374 = .ok (.aload_n 0, 1) := dg dtL_moves_4_ok 13 rfl
theorem dL_moves_375 : decode cL_moves 375 = .ok (.iload 5, 2) := dg dtL_moves_4_ok 14 rfl
theorem dL_moves_377 : decode cL_moves 377 = .ok (.iload 7, 2) := dg dtL_moves_4_ok 15 rfl
theorem dL_moves_379 : decode cL_moves 379 = .ok (.invokevirtual 84, 3) := dg dtL_moves_4_ok 16 rfl
theorem dL_moves_382 : decode cL_moves 382 = .ok (.istore 18, 2) := dg dtL_moves_4_ok 17 rfl
theorem dL_moves_384 : decode cL_moves 384 = .ok (.iload 7, 2) := dg dtL_moves_4_ok 18 rfl
theorem dL_moves_386 : decode cL_moves 386 = .ok (.iload 6, 2) := dg dtL_moves_4_ok 19 rfl
theorem dL_moves_388 : decode cL_moves 388 = .ok (.if_icmp .le 23, 3) := dg dtL_moves_4_ok 20 rfl
theorem dL_moves_391 : decode cL_moves 391 = .ok (.iload 18, 2) := dg dtL_moves_4_ok 21 rfl
theorem dL_moves_393 : decode cL_moves 393 = .ok (.ldc 96, 2) := dg dtL_moves_4_ok 22 rfl
theorem dL_moves_395 : decode cL_moves 395 = .ok (.if_icmp .ne 38, 3) := dg dtL_moves_4_ok 23 rfl
theorem dL_moves_398 : decode cL_moves 398 = .ok (.aload_n 0, 1) := dg dtL_moves_4_ok 24 rfl
theorem dL_moves_399 : decode cL_moves 399 = .ok (.bipush 11, 2) := dg dtL_moves_4_ok 25 rfl
theorem dL_moves_401 : decode cL_moves 401 = .ok (.invokevirtual 13, 3) := dg dtL_moves_4_ok 26 rfl
theorem dL_moves_404 : decode cL_moves 404 = .ok (.iconst 4, 1) := dg dtL_moves_4_ok 27 rfl
theorem dL_moves_405 : decode cL_moves 405 = .ok (.if_icmp .eq 30, 3) := dg dtL_moves_4_ok 28 rfl
theorem dL_moves_408 : decode cL_moves 408 = .ok (.goto 25, 3) := dg dtL_moves_4_ok 29 rfl
theorem dL_moves_411 : decode cL_moves 411 = .ok (.iload 18, 2) := dg dtL_moves_4_ok 30 rfl
theorem dL_moves_413 : decode cL_moves 413 = .ok (.ifCond .ge 22, 3) := dg dtL_moves_4_ok 31 rfl
theorem dL_moves_416 : decode cL_moves 416 = .ok (.iload 18, 2) := dg dtL_moves_4_ok 32 rfl
theorem dL_moves_418 : decode cL_moves 418 = .ok (.ldc 96, 2) := dg dtL_moves_4_ok 33 rfl
theorem dL_moves_420 : decode cL_moves 420 = .ok (.if_icmp .ne 13, 3) := dg dtL_moves_4_ok 34 rfl
theorem dL_moves_423 : decode cL_moves 423 = .ok (.aload_n 0, 1) := dg dtL_moves_4_ok 35 rfl
theorem dL_moves_424 : decode cL_moves 424 = .ok (.bipush 11, 2) := dg dtL_moves_4_ok 36 rfl
theorem dL_moves_426 : decode cL_moves 426 = .ok (.invokevirtual 13, 3) := dg dtL_moves_4_ok 37 rfl
theorem dL_moves_429 : decode cL_moves 429 = .ok (.iconst 3, 1) := dg dtL_moves_4_ok 38 rfl
theorem dL_moves_430 : decode cL_moves 430 = .ok (.if_icmp .eq 5, 3) := dg dtL_moves_4_ok 39 rfl
theorem dL_moves_433 : decode cL_moves 433 = .ok (.iconst 0, 1) := dg dtL_moves_4_ok 40 rfl
theorem dL_moves_434 : decode cL_moves 434 = .ok (.ireturn, 1) := dg dtL_moves_4_ok 41 rfl
theorem dL_moves_435 : decode cL_moves 435 = .ok (.iload 18, 2) := dg dtL_moves_4_ok 42 rfl
theorem dL_moves_437 : decode cL_moves 437 = .ok (.ifCond .lt 90, 3) := dg dtL_moves_4_ok 43 rfl
theorem dL_moves_440 : decode cL_moves 440 = .ok (.aload_n 0, 1) := dg dtL_moves_4_ok 44 rfl
theorem dL_moves_441 : decode cL_moves 441 = .ok (.iload 5, 2) := dg dtL_moves_4_ok 45 rfl
theorem dL_moves_443 : decode cL_moves 443 = .ok (.bipush 11, 2) := dg dtL_moves_4_ok 46 rfl
theorem dL_moves_445 : decode cL_moves 445 = .ok (.invokevirtual 26, 3) := dg dtL_moves_4_ok 47 rfl
def dtL_moves_5 : List (Nat × Instr × Nat) := [(448, .iload 21, 2), (450, .iload 7, 2), (452, .iadd, 1), (453, .if_icmp .ne 72, 3), (456, .aload_n 0, 1), (457, .iload 5, 2), (459, .bipush 10, 2), (461, .invokevirtual 26, 3), (464, .i2l, 1), (465, .lload 22, 2), (467, .lsub, 1), (468, .iload 18, 2), (470, .i2l, 1), (471, .ladd, 1), (472, .lload 16, 2), (474, .lcmp, 1), (475, .ifCond .ne 50, 3), (478, .lload 19, 2), (480, .iload 7, 2), (482, .i2l, 1), (483, .lcmp, 1), (484, .ifCond .lt 8, 3), (487, .iload 18, 2), (489, .ifCond .ne 36, 3), (492, .lload 19, 2), (494, .lconst 0, 1), (495, .lcmp, 1), (496, .ifCond .gt 12, 3), (499, .iload 18, 2), (501, .i2l, 1), (502, .lload 16, 2), (504, .lcmp, 1), (505, .ifCond .ne 20, 3), (508, .aload_n 0, 1), (509, .iload 8, 2), (511, .iconst 0, 1), (512, .invokevirtual 22, 3), (515, .lload 9, 2), (517, .iload 18, 2), (519, .i2l, 1), (520, .lsub, 1), (521, .lcmp, 1), (522, .ifCond .eq 5, 3), (525, .iconst 0, 1), (526, .ireturn, 1), (527, .goto 435, 3), (530, .iload_n 1, 1), (531, .iconst 2, 1)]
theorem dtL_moves_5_ok : ∀ q ∈ dtL_moves_5, decode cL_moves q.1 = .ok q.2 := by decide +kernel
theorem dL_moves_448 : decode cL_moves 448 = .ok (.iload 21, 2) := dg dtL_moves_5_ok 0 rfl
theorem dL_moves_450 : decode cL_moves 450 = .ok (.iload 7, 2) := dg dtL_moves_5_ok 1 rfl
theorem dL_moves_452 : decode cL_moves 452 = .ok (.iadd, 1) := dg dtL_moves_5_ok 2 rfl
theorem dL_moves_453 : decode cL_moves 453 = .ok (.if_icmp .ne 72, 3) := dg dtL_moves_5_ok 3 rfl
theorem dL_moves_456 : decode cL_moves 456 = .ok (.aload_n 0, 1) := dg dtL_moves_5_ok 4 rfl
theorem dL_moves_457 : decode cL_moves 457 = .ok (.iload 5, 2) := dg dtL_moves_5_ok 5 rfl
theorem dL_moves_459 : decode cL_moves 459 = .ok (.bipush 10, 2) := dg dtL_moves_5_ok 6 rfl
theorem dL_moves_461 : decode cL_moves 461 = .ok (.invokevirtual 26, 3) := dg dtL_moves_5_ok 7 rfl
theorem dL_moves_464 : decode cL_moves 464 = .ok (.i2l, 1) := dg dtL_moves_5_ok 8 rfl
theorem dL_moves_465 : decode cL_moves 465 = .ok (.lload 22, 2) := dg dtL_moves_5_ok 9 rfl
theorem dL_moves_467 : decode cL_moves 467 = .ok (.lsub, 1) := dg dtL_moves_5_ok 10 rfl
theorem dL_moves_468 : decode cL_moves 468 = .ok (.iload 18, 2) := dg dtL_moves_5_ok 11 rfl
theorem dL_moves_470 : decode cL_moves 470 = .ok (.i2l, 1) := dg dtL_moves_5_ok 12 rfl
theorem dL_moves_471 : decode cL_moves 471 = .ok (.ladd, 1) := dg dtL_moves_5_ok 13 rfl
theorem dL_moves_472 : decode cL_moves 472 = .ok (.lload 16, 2) := dg dtL_moves_5_ok 14 rfl
theorem dL_moves_474 : decode cL_moves 474 = .ok (.lcmp, 1) := dg dtL_moves_5_ok 15 rfl
theorem dL_moves_475 : decode cL_moves 475 = .ok (.ifCond .ne 50, 3) := dg dtL_moves_5_ok 16 rfl
theorem dL_moves_478 : decode cL_moves 478 = .ok (.lload 19, 2) := dg dtL_moves_5_ok 17 rfl
theorem dL_moves_480 : decode cL_moves 480 = .ok (.iload 7, 2) := dg dtL_moves_5_ok 18 rfl
theorem dL_moves_482 : decode cL_moves 482 = .ok (.i2l, 1) := dg dtL_moves_5_ok 19 rfl
theorem dL_moves_483 : decode cL_moves 483 = .ok (.lcmp, 1) := dg dtL_moves_5_ok 20 rfl
theorem dL_moves_484 : decode cL_moves 484 = .ok (.ifCond .lt 8, 3) := dg dtL_moves_5_ok 21 rfl
theorem dL_moves_487 : decode cL_moves 487 = .ok (.iload 18, 2) := dg dtL_moves_5_ok 22 rfl
theorem dL_moves_489 : decode cL_moves 489 = .ok (.ifCond .ne 36, 3) := dg dtL_moves_5_ok 23 rfl
theorem dL_moves_492 : decode cL_moves 492 = .ok (.lload 19, 2) := dg dtL_moves_5_ok 24 rfl
theorem dL_moves_494 : decode cL_moves 494 = .ok (.lconst 0, 1) := dg dtL_moves_5_ok 25 rfl
theorem dL_moves_495 : decode cL_moves 495 = .ok (.lcmp, 1) := dg dtL_moves_5_ok 26 rfl
theorem dL_moves_496 : decode cL_moves 496 = .ok (.ifCond .gt 12, 3) := dg dtL_moves_5_ok 27 rfl
theorem dL_moves_499 : decode cL_moves 499 = .ok (.iload 18, 2) := dg dtL_moves_5_ok 28 rfl
theorem dL_moves_501 : decode cL_moves 501 = .ok (.i2l, 1) := dg dtL_moves_5_ok 29 rfl
theorem dL_moves_502 : decode cL_moves 502 = .ok (.lload 16, 2) := dg dtL_moves_5_ok 30 rfl
theorem dL_moves_504 : decode cL_moves 504 = .ok (.lcmp, 1) := dg dtL_moves_5_ok 31 rfl
theorem dL_moves_505 : decode cL_moves 505 = .ok (.ifCond .ne 20, 3) := dg dtL_moves_5_ok 32 rfl
theorem dL_moves_508 : decode cL_moves 508 = .ok (.aload_n 0, 1) := dg dtL_moves_5_ok 33 rfl
theorem dL_moves_509 : decode cL_moves 509 = .ok (.iload 8, 2) := dg dtL_moves_5_ok 34 rfl
theorem dL_moves_511 : decode cL_moves 511 = .ok (.iconst 0, 1) := dg dtL_moves_5_ok 35 rfl
theorem dL_moves_512 : decode cL_moves 512 = .ok (.invokevirtual 22, 3) := dg dtL_moves_5_ok 36 rfl
theorem dL_moves_515 : decode cL_moves 515 = .ok (.lload 9, 2) := dg dtL_moves_5_ok 37 rfl
theorem dL_moves_517 : decode cL_moves 517 = .ok (.iload 18, 2) := dg dtL_moves_5_ok 38 rfl
theorem dL_moves_519 : decode cL_moves 519 = .ok (.i2l, 1) := dg dtL_moves_5_ok 39 rfl
theorem dL_moves_520 : decode cL_moves 520 = .ok (.lsub, 1) := dg dtL_moves_5_ok 40 rfl
theorem dL_moves_521 : decode cL_moves 521 = .ok (.lcmp, 1) := dg dtL_moves_5_ok 41 rfl
theorem dL_moves_522 : decode cL_moves 522 = .ok (.ifCond .eq 5, 3) := dg dtL_moves_5_ok 42 rfl
theorem dL_moves_525 : decode cL_moves 525 = .ok (.iconst 0, 1) := dg dtL_moves_5_ok 43 rfl
theorem dL_moves_526 : decode cL_moves 526 = .ok (.ireturn, 1) := dg dtL_moves_5_ok 44 rfl
theorem dL_moves_527 : decode cL_moves 527 = .ok (.goto 435, 3) := dg dtL_moves_5_ok 45 rfl
theorem dL_moves_530 : decode cL_moves 530 = .ok (.iload_n 1, 1) := dg dtL_moves_5_ok 46 rfl
theorem dL_moves_531 : decode cL_moves 531 = .ok (.iconst 2, 1) := dg dtL_moves_5_ok 47 rfl
def dtL_moves_6 : List (Nat × Instr × Nat) := [(532, .if_icmp .ne 134, 3), (535, .aload_n 0, 1), (536, .iconst 3, 1), (537, .invokevirtual 13, 3), (540, .istore 19, 2), (542, .aload_n 0, 1), (543, .iload 5, 2), (545, .iload 7, 2), (547, .invokevirtual 87, 3), (550, .istore 18, 2), (552, .iload 7, 2), (554, .iload 6, 2), (556, .if_icmp .le 23, 3), (559, .iload 18, 2), (561, .ldc 96, 2), (563, .if_icmp .ne 98, 3), (566, .aload_n 0, 1), (567, .bipush 11, 2), (569, .invokevirtual 13, 3), (572, .iconst 4, 1), (573, .if_icmp .eq 90, 3), (576, .goto 85, 3), (579, .iload 19, 2), (581, .bipush 30, 2), (583, .if_icmp .ne 23, 3), (586, .iload 18, 2), (588, .ldc 96, 2), (590, .if_icmp .ne 71, 3), (593, .aload_n 0, 1), (594, .bipush 11, 2), (596, .invokevirtual 13, 3), (599, .iconst 5, 1), (600, .if_icmp .eq 63, 3), (603, .goto 58, 3), (606, .iload 18, 2), (608, .iload 19, 2), (610, .if_icmp .ne 51, 3), (613, .aload_n 0, 1), (614, .iload 18, 2), (616, .iconst 2, 1), (617, .invokevirtual 30, 3), (620, .i2l, 1), (621, .lload 16, 2), (623, .lcmp, 1), (624, .ifCond .ne 37, 3), (627, .aload_n 0, 1), (628, .iload 18, 2), (630, .iconst 1, 1)]
theorem dtL_moves_6_ok : ∀ q ∈ dtL_moves_6, decode cL_moves q.1 = .ok q.2 := by decide +kernel
theorem dL_moves_532 : decode cL_moves 532 = .ok (.if_icmp .ne 134, 3) := dg dtL_moves_6_ok 0 rfl
theorem dL_moves_535 : decode cL_moves 535 = .ok (.aload_n 0, 1) := dg dtL_moves_6_ok 1 rfl
theorem dL_moves_536 : decode cL_moves 536 = .ok (.iconst 3, 1) := dg dtL_moves_6_ok 2 rfl
theorem dL_moves_537 : decode cL_moves 537 = .ok (.invokevirtual 13, 3) := dg dtL_moves_6_ok 3 rfl
theorem dL_moves_540 : decode cL_moves 540 = .ok (.istore 19, 2) := dg dtL_moves_6_ok 4 rfl
theorem dL_moves_542 : decode cL_moves 542 = .ok (.aload_n 0, 1) := dg dtL_moves_6_ok 5 rfl
theorem dL_moves_543 : decode cL_moves 543 = .ok (.iload 5, 2) := dg dtL_moves_6_ok 6 rfl
theorem dL_moves_545 : decode cL_moves 545 = .ok (.iload 7, 2) := dg dtL_moves_6_ok 7 rfl
theorem dL_moves_547 : decode cL_moves 547 = .ok (.invokevirtual 87, 3) := dg dtL_moves_6_ok 8 rfl
theorem dL_moves_550 : decode cL_moves 550 = .ok (.istore 18, 2) := dg dtL_moves_6_ok 9 rfl
theorem dL_moves_552 : decode cL_moves 552 = .ok (.iload 7, 2) := dg dtL_moves_6_ok 10 rfl
theorem dL_moves_554 : decode cL_moves 554 = .ok (.iload 6, 2) := dg dtL_moves_6_ok 11 rfl
theorem dL_moves_556 : decode cL_moves 556 = .ok (.if_icmp .le 23, 3) := dg dtL_moves_6_ok 12 rfl
theorem dL_moves_559 : decode cL_moves 559 = .ok (.iload 18, 2) := dg dtL_moves_6_ok 13 rfl
theorem dL_moves_561 : decode cL_moves 561 = .ok (.ldc 96, 2) := dg dtL_moves_6_ok 14 rfl
theorem dL_moves_563 : decode cL_moves 563 = .ok (.if_icmp .ne 98, 3) := dg dtL_moves_6_ok 15 rfl
theorem dL_moves_566 : decode cL_moves 566 = .ok (.aload_n 0, 1) := dg dtL_moves_6_ok 16 rfl
theorem dL_moves_567 : decode cL_moves 567 = .ok (.bipush 11, 2) := dg dtL_moves_6_ok 17 rfl
theorem dL_moves_569 : decode cL_moves 569 = .ok (.invokevirtual 13, 3) := dg dtL_moves_6_ok 18 rfl
theorem dL_moves_572 : decode cL_moves 572 = .ok (.iconst 4, 1) := dg dtL_moves_6_ok 19 rfl
theorem dL_moves_573 : decode cL_moves 573 = .ok (.if_icmp .eq 90, 3) := dg dtL_moves_6_ok 20 rfl
theorem dL_moves_576 : decode cL_moves 576 = .ok (.goto 85, 3) := dg dtL_moves_6_ok 21 rfl
theorem dL_moves_579 : decode cL_moves 579 = .ok (.iload 19, 2) := dg dtL_moves_6_ok 22 rfl
theorem dL_moves_581 : decode cL_moves 581 = .ok (.bipush 30, 2) := dg dtL_moves_6_ok 23 rfl
theorem dL_moves_583 : decode cL_moves 583 = .ok (.if_icmp .ne 23, 3) := dg dtL_moves_6_ok 24 rfl
theorem dL_moves_586 : decode cL_moves 586 = .ok (.iload 18, 2) := dg dtL_moves_6_ok 25 rfl
theorem dL_moves_588 : decode cL_moves 588 = .ok (.ldc 96, 2) := dg dtL_moves_6_ok 26 rfl
theorem dL_moves_590 : decode cL_moves 590 = .ok (.if_icmp .ne 71, 3) := dg dtL_moves_6_ok 27 rfl
theorem dL_moves_593 : decode cL_moves 593 = .ok (.aload_n 0, 1) := dg dtL_moves_6_ok 28 rfl
theorem dL_moves_594 : decode cL_moves 594 = .ok (.bipush 11, 2) := dg dtL_moves_6_ok 29 rfl
theorem dL_moves_596 : decode cL_moves 596 = .ok (.invokevirtual 13, 3) := dg dtL_moves_6_ok 30 rfl
theorem dL_moves_599 : decode cL_moves 599 = .ok (.iconst 5, 1) := dg dtL_moves_6_ok 31 rfl
theorem dL_moves_600 : decode cL_moves 600 = .ok (.if_icmp .eq 63, 3) := dg dtL_moves_6_ok 32 rfl
theorem dL_moves_603 : decode cL_moves 603 = .ok (.goto 58, 3) := dg dtL_moves_6_ok 33 rfl
theorem dL_moves_606 : decode cL_moves 606 = .ok (.iload 18, 2) := dg dtL_moves_6_ok 34 rfl
theorem dL_moves_608 : decode cL_moves 608 = .ok (.iload 19, 2) := dg dtL_moves_6_ok 35 rfl
theorem dL_moves_610 : decode cL_moves 610 = .ok (.if_icmp .ne 51, 3) := dg dtL_moves_6_ok 36 rfl
theorem dL_moves_613 : decode cL_moves 613 = .ok (.aload_n 0, 1) := dg dtL_moves_6_ok 37 rfl
theorem dL_moves_614 : decode cL_moves 614 = .ok (.iload 18, 2) := dg dtL_moves_6_ok 38 rfl
theorem dL_moves_616 : decode cL_moves 616 = .ok (.iconst 2, 1) := dg dtL_moves_6_ok 39 rfl
theorem dL_moves_617 : decode cL_moves 617 = .ok (.invokevirtual 30, 3) := dg dtL_moves_6_ok 40 rfl
theorem dL_moves_620 : decode cL_moves 620 = .ok (.i2l, 1) := dg dtL_moves_6_ok 41 rfl
theorem dL_moves_621 : decode cL_moves 621 = .ok (.lload 16, 2) := dg dtL_moves_6_ok 42 rfl
theorem dL_moves_623 : decode cL_moves 623 = .ok (.lcmp, 1) := dg dtL_moves_6_ok 43 rfl
theorem dL_moves_624 : decode cL_moves 624 = .ok (.ifCond .ne 37, 3) := dg dtL_moves_6_ok 44 rfl
theorem dL_moves_627 : decode cL_moves 627 = .ok (.aload_n 0, 1) := dg dtL_moves_6_ok 45 rfl
theorem dL_moves_628 : decode cL_moves 628 = .ok (.iload 18, 2) := dg dtL_moves_6_ok 46 rfl
theorem dL_moves_630 : decode cL_moves 630 = .ok (.iconst 1, 1) := dg dtL_moves_6_ok 47 rfl
def dtL_moves_7 : List (Nat × Instr × Nat) := [(631, .invokevirtual 30, 3), (634, .iload 7, 2), (636, .if_icmp .ne 25, 3), (639, .aload_n 0, 1), (640, .iload 18, 2), (642, .iconst 3, 1), (643, .invokevirtual 30, 3), (646, .aload_n 0, 1), (647, .iconst 0, 1), (648, .invokevirtual 13, 3), (651, .aload_n 0, 1), (652, .bipush 7, 2), (654, .invokevirtual 13, 3), (657, .iadd, 1), (658, .if_icmp .eq 5, 3), (661, .iconst 0, 1), (662, .ireturn, 1), (663, .goto 299, 3), (666, .iload_n 1, 1), (667, .iconst 3, 1), (668, .if_icmp .ne 111, 3), (671, .aload_n 0, 1), (672, .iload 5, 2), (674, .iload 7, 2), (676, .invokevirtual 90, 3), (679, .istore 18, 2), (681, .aload_n 0, 1), (682, .bipush 10, 2), (684, .invokevirtual 13, 3), (687, .i2l, 1), (688, .iload 7, 2), (690, .i2l, 1), (691, .lmul, 1), (692, .lstore 19, 2), (694, .iload 7, 2), (696, .iload 6, 2), (698, .if_icmp .le 23, 3), (701, .iload 18, 2), (703, .ldc 96, 2), (705, .if_icmp .ne 69, 3), (708, .aload_n 0, 1), (709, .bipush 11, 2), (711, .invokevirtual 13, 3), (714, .iconst 4, 1), (715, .if_icmp .eq 61, 3), (718, .goto 56, 3), (721, .lload 19, 2), (723, .lload 9, 2)]
theorem dtL_moves_7_ok : ∀ q ∈ dtL_moves_7, decode cL_moves q.1 = .ok q.2 := by decide +kernel
theorem dL_moves_631 : decode cL_moves 631 = .ok (.invokevirtual 30, 3) := dg dtL_moves_7_ok 0 rfl
theorem dL_moves_634 : decode cL_moves 634 = .ok (.iload 7, 2) := dg dtL_moves_7_ok 1 rfl
theorem dL_moves_636 : decode cL_moves 636 = .ok (.if_icmp .ne 25, 3) := dg dtL_moves_7_ok 2 rfl
theorem dL_moves_639 : decode cL_moves 639 = .ok (.aload_n 0, 1) := dg dtL_moves_7_ok 3 rfl
theorem dL_moves_640 : decode cL_moves 640 = .ok (.iload 18, 2) := dg dtL_moves_7_ok 4 rfl
theorem dL_moves_642 : decode cL_moves 642 = .ok (.iconst 3, 1) := dg dtL_moves_7_ok 5 rfl
theorem dL_moves_643 : decode cL_moves 643 = .ok (.invokevirtual 30, 3) := dg dtL_moves_7_ok 6 rfl
theorem dL_moves_646 : decode cL_moves 646 = .ok (.aload_n 0, 1) := dg dtL_moves_7_ok 7 rfl
theorem dL_moves_647 : decode cL_moves 647 = .ok (.iconst 0, 1) := dg dtL_moves_7_ok 8 rfl
theorem dL_moves_648 : decode cL_moves 648 = .ok (.invokevirtual 13, 3) := dg dtL_moves_7_ok 9 rfl
theorem dL_moves_651 : decode cL_moves 651 = .ok (.aload_n 0, 1) := dg dtL_moves_7_ok 10 rfl
theorem dL_moves_652 : decode cL_moves 652 = .ok (.bipush 7, 2) := dg dtL_moves_7_ok 11 rfl
theorem dL_moves_654 : decode cL_moves 654 = .ok (.invokevirtual 13, 3) := dg dtL_moves_7_ok 12 rfl
theorem dL_moves_657 : decode cL_moves 657 = .ok (.iadd, 1) := dg dtL_moves_7_ok 13 rfl
theorem dL_moves_658 : decode cL_moves 658 = .ok (.if_icmp .eq 5, 3) := dg dtL_moves_7_ok 14 rfl
theorem dL_moves_661 : decode cL_moves 661 = .ok (.iconst 0, 1) := dg dtL_moves_7_ok 15 rfl
theorem dL_moves_662 : decode cL_moves 662 = .ok (.ireturn, 1) := dg dtL_moves_7_ok 16 rfl
theorem dL_moves_663 : decode cL_moves 663 = .ok (.goto 299, 3) := dg dtL_moves_7_ok 17 rfl
theorem dL_moves_666 : decode cL_moves 666 = .ok (.iload_n 1, 1) := dg dtL_moves_7_ok 18 rfl
theorem dL_moves_667 : decode cL_moves 667 = .ok (.iconst 3, 1) := dg dtL_moves_7_ok 19 rfl
theorem dL_moves_668 : decode cL_moves 668 = .ok (.if_icmp .ne 111, 3) := dg dtL_moves_7_ok 20 rfl
theorem dL_moves_671 : decode cL_moves 671 = .ok (.aload_n 0, 1) := dg dtL_moves_7_ok 21 rfl
theorem dL_moves_672 : decode cL_moves 672 = .ok (.iload 5, 2) := dg dtL_moves_7_ok 22 rfl
theorem dL_moves_674 : decode cL_moves 674 = .ok (.iload 7, 2) := dg dtL_moves_7_ok 23 rfl
theorem dL_moves_676 : decode cL_moves 676 = .ok (.invokevirtual 90, 3) := dg dtL_moves_7_ok 24 rfl
theorem dL_moves_679 : decode cL_moves 679 = .ok (.istore 18, 2) := dg dtL_moves_7_ok 25 rfl
theorem dL_moves_681 : decode cL_moves 681 = .ok (.aload_n 0, 1) := dg dtL_moves_7_ok 26 rfl
theorem dL_moves_682 : decode cL_moves 682 = .ok (.bipush 10, 2) := dg dtL_moves_7_ok 27 rfl
theorem dL_moves_684 : decode cL_moves 684 = .ok (.invokevirtual 13, 3) := dg dtL_moves_7_ok 28 rfl
theorem dL_moves_687 : decode cL_moves 687 = .ok (.i2l, 1) := dg dtL_moves_7_ok 29 rfl
theorem dL_moves_688 : decode cL_moves 688 = .ok (.iload 7, 2) := dg dtL_moves_7_ok 30 rfl
theorem dL_moves_690 : decode cL_moves 690 = .ok (.i2l, 1) := dg dtL_moves_7_ok 31 rfl
theorem dL_moves_691 : decode cL_moves 691 = .ok (.lmul, 1) := dg dtL_moves_7_ok 32 rfl
theorem dL_moves_692 : decode cL_moves 692 = .ok (.lstore 19, 2) := dg dtL_moves_7_ok 33 rfl
theorem dL_moves_694 : decode cL_moves 694 = .ok (.iload 7, 2) := dg dtL_moves_7_ok 34 rfl
theorem dL_moves_696 : decode cL_moves 696 = .ok (.iload 6, 2) := dg dtL_moves_7_ok 35 rfl
theorem dL_moves_698 : decode cL_moves 698 = .ok (.if_icmp .le 23, 3) := dg dtL_moves_7_ok 36 rfl
theorem dL_moves_701 : decode cL_moves 701 = .ok (.iload 18, 2) := dg dtL_moves_7_ok 37 rfl
theorem dL_moves_703 : decode cL_moves 703 = .ok (.ldc 96, 2) := dg dtL_moves_7_ok 38 rfl
theorem dL_moves_705 : decode cL_moves 705 = .ok (.if_icmp .ne 69, 3) := dg dtL_moves_7_ok 39 rfl
theorem dL_moves_708 : decode cL_moves 708 = .ok (.aload_n 0, 1) := dg dtL_moves_7_ok 40 rfl
theorem dL_moves_709 : decode cL_moves 709 = .ok (.bipush 11, 2) := dg dtL_moves_7_ok 41 rfl
theorem dL_moves_711 : decode cL_moves 711 = .ok (.invokevirtual 13, 3) := dg dtL_moves_7_ok 42 rfl
theorem dL_moves_714 : decode cL_moves 714 = .ok (.iconst 4, 1) := dg dtL_moves_7_ok 43 rfl
theorem dL_moves_715 : decode cL_moves 715 = .ok (.if_icmp .eq 61, 3) := dg dtL_moves_7_ok 44 rfl
theorem dL_moves_718 : decode cL_moves 718 = .ok (.goto 56, 3) := dg dtL_moves_7_ok 45 rfl
theorem dL_moves_721 : decode cL_moves 721 = .ok (.lload 19, 2) := dg dtL_moves_7_ok 46 rfl
theorem dL_moves_723 : decode cL_moves 723 = .ok (.lload 9, 2) := dg dtL_moves_7_ok 47 rfl
def dtL_moves_8 : List (Nat × Instr × Nat) := [(725, .lcmp, 1), (726, .ifCond .le 23, 3), (729, .iload 18, 2), (731, .ldc 96, 2), (733, .if_icmp .ne 41, 3), (736, .aload_n 0, 1), (737, .bipush 11, 2), (739, .invokevirtual 13, 3), (742, .iconst 3, 1), (743, .if_icmp .eq 33, 3), (746, .goto 28, 3), (749, .iload 18, 2), (751, .i2l, 1), (752, .lload 16, 2), (754, .lcmp, 1), (755, .ifCond .ne 19, 3), (758, .aload_n 0, 1), (759, .iload 8, 2), (761, .iconst 0, 1), (762, .invokevirtual 22, 3), (765, .lload 9, 2), (767, .lload 19, 2), (769, .lsub, 1), (770, .lcmp, 1), (771, .ifCond .eq 5, 3), (774, .iconst 0, 1), (775, .ireturn, 1), (776, .goto 186, 3), (779, .iload_n 2, 1), (780, .bipush 7, 2), (782, .ishr, 1), (783, .aload_n 0, 1), (784, .iconst 1, 1), (785, .invokevirtual 13, 3), (788, .invokestatic 45, 3), (791, .istore 19, 2), (793, .aload_n 0, 1), (794, .iload 19, 2), (796, .iconst 3, 1), (797, .invokevirtual 22, 3), (800, .aload_n 0, 1), (801, .iload 5, 2), (803, .bipush 8, 2), (805, .invokevirtual 26, 3), (808, .i2l, 1), (809, .ladd, 1), (810, .lstore 20, 2), (812, .aload_n 0, 1)]
theorem dtL_moves_8_ok : ∀ q ∈ dtL_moves_8, decode cL_moves q.1 = .ok q.2 := by decide +kernel
theorem dL_moves_725 : decode cL_moves 725 = .ok (.lcmp, 1) := dg dtL_moves_8_ok 0 rfl
theorem dL_moves_726 : decode cL_moves 726 = .ok (.ifCond .le 23, 3) := dg dtL_moves_8_ok 1 rfl
theorem dL_moves_729 : decode cL_moves 729 = .ok (.iload 18, 2) := dg dtL_moves_8_ok 2 rfl
theorem dL_moves_731 : decode cL_moves 731 = .ok (.ldc 96, 2) := dg dtL_moves_8_ok 3 rfl
theorem dL_moves_733 : decode cL_moves 733 = .ok (.if_icmp .ne 41, 3) := dg dtL_moves_8_ok 4 rfl
theorem dL_moves_736 : decode cL_moves 736 = .ok (.aload_n 0, 1) := dg dtL_moves_8_ok 5 rfl
theorem dL_moves_737 : decode cL_moves 737 = .ok (.bipush 11, 2) := dg dtL_moves_8_ok 6 rfl
theorem dL_moves_739 : decode cL_moves 739 = .ok (.invokevirtual 13, 3) := dg dtL_moves_8_ok 7 rfl
theorem dL_moves_742 : decode cL_moves 742 = .ok (.iconst 3, 1) := dg dtL_moves_8_ok 8 rfl
theorem dL_moves_743 : decode cL_moves 743 = .ok (.if_icmp .eq 33, 3) := dg dtL_moves_8_ok 9 rfl
theorem dL_moves_746 : decode cL_moves 746 = .ok (.goto 28, 3) := dg dtL_moves_8_ok 10 rfl
theorem dL_moves_749 : decode cL_moves 749 = .ok (.iload 18, 2) := dg dtL_moves_8_ok 11 rfl
theorem dL_moves_751 : decode cL_moves 751 = .ok (.i2l, 1) := dg dtL_moves_8_ok 12 rfl
theorem dL_moves_752 : decode cL_moves 752 = .ok (.lload 16, 2) := dg dtL_moves_8_ok 13 rfl
theorem dL_moves_754 : decode cL_moves 754 = .ok (.lcmp, 1) := dg dtL_moves_8_ok 14 rfl
theorem dL_moves_755 : decode cL_moves 755 = .ok (.ifCond .ne 19, 3) := dg dtL_moves_8_ok 15 rfl
theorem dL_moves_758 : decode cL_moves 758 = .ok (.aload_n 0, 1) := dg dtL_moves_8_ok 16 rfl
theorem dL_moves_759 : decode cL_moves 759 = .ok (.iload 8, 2) := dg dtL_moves_8_ok 17 rfl
theorem dL_moves_761 : decode cL_moves 761 = .ok (.iconst 0, 1) := dg dtL_moves_8_ok 18 rfl
theorem dL_moves_762 : decode cL_moves 762 = .ok (.invokevirtual 22, 3) := dg dtL_moves_8_ok 19 rfl
theorem dL_moves_765 : decode cL_moves 765 = .ok (.lload 9, 2) := dg dtL_moves_8_ok 20 rfl
theorem dL_moves_767 : decode cL_moves 767 = .ok (.lload 19, 2) := dg dtL_moves_8_ok 21 rfl
theorem dL_moves_769 : decode cL_moves 769 = .ok (.lsub, 1) := dg dtL_moves_8_ok 22 rfl
theorem dL_moves_770 : decode cL_moves 770 = .ok (.lcmp, 1) := dg dtL_moves_8_ok 23 rfl
theorem dL_moves_771 : decode cL_moves 771 = .ok (.ifCond .eq 5, 3) := dg dtL_moves_8_ok 24 rfl
theorem dL_moves_774 : decode cL_moves 774 = .ok (.iconst 0, 1) := dg dtL_moves_8_ok 25 rfl
theorem dL_moves_775 : decode cL_moves 775 = .ok (.ireturn, 1) := dg dtL_moves_8_ok 26 rfl
theorem dL_moves_776 : decode cL_moves 776 = .ok (.goto 186, 3) := dg dtL_moves_8_ok 27 rfl
theorem dL_moves_779 : decode cL_moves 779 = .ok (.iload_n 2, 1) := dg dtL_moves_8_ok 28 rfl
theorem dL_moves_780 : decode cL_moves 780 = .ok (.bipush 7, 2) := dg dtL_moves_8_ok 29 rfl
theorem dL_moves_782 : decode cL_moves 782 = .ok (.ishr, 1) := dg dtL_moves_8_ok 30 rfl
theorem dL_moves_783 : decode cL_moves 783 = .ok (.aload_n 0, 1) := dg dtL_moves_8_ok 31 rfl
theorem dL_moves_784 : decode cL_moves 784 = .ok (.iconst 1, 1) := dg dtL_moves_8_ok 32 rfl
theorem dL_moves_785 : decode cL_moves 785 = .ok (.invokevirtual 13, 3) := dg dtL_moves_8_ok 33 rfl
theorem dL_moves_788 : decode cL_moves 788 = .ok (.invokestatic 45, 3) := dg dtL_moves_8_ok 34 rfl
theorem dL_moves_791 : decode cL_moves 791 = .ok (.istore 19, 2) := dg dtL_moves_8_ok 35 rfl
theorem dL_moves_793 : decode cL_moves 793 = .ok (.aload_n 0, 1) := dg dtL_moves_8_ok 36 rfl
theorem dL_moves_794 : decode cL_moves 794 = .ok (.iload 19, 2) := dg dtL_moves_8_ok 37 rfl
theorem dL_moves_796 : decode cL_moves 796 = .ok (.iconst 3, 1) := dg dtL_moves_8_ok 38 rfl
theorem dL_moves_797 : decode cL_moves 797 = .ok (.invokevirtual 22, 3) := dg dtL_moves_8_ok 39 rfl
theorem dL_moves_800 : decode cL_moves 800 = .ok (.aload_n 0, 1) := dg dtL_moves_8_ok 40 rfl
theorem dL_moves_801 : decode cL_moves 801 = .ok (.iload 5, 2) := dg dtL_moves_8_ok 41 rfl
theorem dL_moves_803 : decode cL_moves 803 = .ok (.bipush 8, 2) := dg dtL_moves_8_ok 42 rfl
theorem dL_moves_805 : decode cL_moves 805 = .ok (.invokevirtual 26, 3) := dg dtL_moves_8_ok 43 rfl
theorem dL_moves_808 : decode cL_moves 808 = .ok (.i2l, 1) := dg dtL_moves_8_ok 44 rfl
theorem dL_moves_809 : decode cL_moves 809 = .ok (.ladd, 1) := dg dtL_moves_8_ok 45 rfl
theorem dL_moves_810 : decode cL_moves 810 = .ok (.lstore 20, 2) := dg dtL_moves_8_ok 46 rfl
theorem dL_moves_812 : decode cL_moves 812 = .ok (.aload_n 0, 1) := dg dtL_moves_8_ok 47 rfl
def dtL_moves_9 : List (Nat × Instr × Nat) := [(813, .iload 19, 2), (815, .iconst 2, 1), (816, .invokevirtual 22, 3), (819, .lconst 0, 1), (820, .lcmp, 1), (821, .ifCond .le 7, 3), (824, .iconst 1, 1), (825, .goto 4, 3), (828, .iconst 0, 1), (829, .istore 22, 2), (831, .lload 20, 2), (833, .aload_n 0, 1), (834, .bipush 8, 2), (836, .invokevirtual 13, 3), (839, .i2l, 1), (840, .lmul, 1), (841, .ldc2_w 41, 3), (844, .ldiv, 1), (845, .aload_n 0, 1), (846, .iload 19, 2), (848, .iconst 1, 1), (849, .invokevirtual 22, 3), (852, .lcmp, 1), (853, .ifCond .gt 7, 3), (856, .iconst 1, 1), (857, .goto 4, 3), (860, .iconst 0, 1), (861, .istore 23, 2), (863, .aload_n 0, 1), (864, .iload 5, 2), (866, .iload 19, 2), (868, .invokevirtual 93, 3), (871, .istore 18, 2), (873, .iload 19, 2), (875, .iload 8, 2), (877, .if_icmp .ne 13, 3), (880, .iload 18, 2), (882, .ldc 37, 2), (884, .if_icmp .eq 78, 3), (887, .goto 73, 3), (890, .iload 22, 2), (892, .ifCond .eq 23, 3), (895, .iload 18, 2), (897, .ldc 96, 2), (899, .if_icmp .ne 61, 3), (902, .aload_n 0, 1), (903, .bipush 11, 2), (905, .invokevirtual 13, 3)]
theorem dtL_moves_9_ok : ∀ q ∈ dtL_moves_9, decode cL_moves q.1 = .ok q.2 := by decide +kernel
theorem dL_moves_813 : decode cL_moves 813 = .ok (.iload 19, 2) := dg dtL_moves_9_ok 0 rfl
theorem dL_moves_815 : decode cL_moves 815 = .ok (.iconst 2, 1) := dg dtL_moves_9_ok 1 rfl
theorem dL_moves_816 : decode cL_moves 816 = .ok (.invokevirtual 22, 3) := dg dtL_moves_9_ok 2 rfl
theorem dL_moves_819 : decode cL_moves 819 = .ok (.lconst 0, 1) := dg dtL_moves_9_ok 3 rfl
theorem dL_moves_820 : decode cL_moves 820 = .ok (.lcmp, 1) := dg dtL_moves_9_ok 4 rfl
theorem dL_moves_821 : decode cL_moves 821 = .ok (.ifCond .le 7, 3) := dg dtL_moves_9_ok 5 rfl
theorem dL_moves_824 : decode cL_moves 824 = .ok (.iconst 1, 1) := dg dtL_moves_9_ok 6 rfl
theorem dL_moves_825 : decode cL_moves 825 = .ok (.goto 4, 3) := dg dtL_moves_9_ok 7 rfl
theorem dL_moves_828 : decode cL_moves 828 = .ok (.iconst 0, 1) := dg dtL_moves_9_ok 8 rfl
theorem dL_moves_829 : decode cL_moves 829 = .ok (.istore 22, 2) := dg dtL_moves_9_ok 9 rfl
theorem dL_moves_831 : decode cL_moves 831 = .ok (.lload 20, 2) := dg dtL_moves_9_ok 10 rfl
theorem dL_moves_833 : decode cL_moves 833 = .ok (.aload_n 0, 1) := dg dtL_moves_9_ok 11 rfl
theorem dL_moves_834 : decode cL_moves 834 = .ok (.bipush 8, 2) := dg dtL_moves_9_ok 12 rfl
theorem dL_moves_836 : decode cL_moves 836 = .ok (.invokevirtual 13, 3) := dg dtL_moves_9_ok 13 rfl
theorem dL_moves_839 : decode cL_moves 839 = .ok (.i2l, 1) := dg dtL_moves_9_ok 14 rfl
theorem dL_moves_840 : decode cL_moves 840 = .ok (.lmul, 1) := dg dtL_moves_9_ok 15 rfl
theorem dL_moves_841 : decode cL_moves 841 = .ok (.ldc2_w 41, 3) := dg dtL_moves_9_ok 16 rfl
theorem dL_moves_844 : decode cL_moves 844 = .ok (.ldiv, 1) := dg dtL_moves_9_ok 17 rfl
theorem dL_moves_845 : decode cL_moves 845 = .ok (.aload_n 0, 1) := dg dtL_moves_9_ok 18 rfl
theorem dL_moves_846 : decode cL_moves 846 = .ok (.iload 19, 2) := dg dtL_moves_9_ok 19 rfl
theorem dL_moves_848 : decode cL_moves 848 = .ok (.iconst 1, 1) := dg dtL_moves_9_ok 20 rfl
theorem dL_moves_849 : decode cL_moves 849 = .ok (.invokevirtual 22, 3) := dg dtL_moves_9_ok 21 rfl
theorem dL_moves_852 : decode cL_moves 852 = .ok (.lcmp, 1) := dg dtL_moves_9_ok 22 rfl
theorem dL_moves_853 : decode cL_moves 853 = .ok (.ifCond .gt 7, 3) := dg dtL_moves_9_ok 23 rfl
theorem dL_moves_856 : decode cL_moves 856 = .ok (.iconst 1, 1) := dg dtL_moves_9_ok 24 rfl
theorem dL_moves_857 : decode cL_moves 857 = .ok (.goto 4, 3) := dg dtL_moves_9_ok 25 rfl
theorem dL_moves_860 : decode cL_moves 860 = .ok (.iconst 0, 1) := dg dtL_moves_9_ok 26 rfl
theorem dL_moves_861 : decode cL_moves 861 = .ok (.istore 23, 2) := dg dtL_moves_9_ok 27 rfl
theorem dL_moves_863 : decode cL_moves 863 = .ok (.aload_n 0, 1) := dg dtL_moves_9_ok 28 rfl
theorem dL_moves_864 : decode cL_moves 864 = .ok (.iload 5, 2) := dg dtL_moves_9_ok 29 rfl
theorem dL_moves_866 : decode cL_moves 866 = .ok (.iload 19, 2) := dg dtL_moves_9_ok 30 rfl
theorem dL_moves_868 : decode cL_moves 868 = .ok (.invokevirtual 93, 3) := dg dtL_moves_9_ok 31 rfl
theorem dL_moves_871 : decode cL_moves 871 = .ok (.istore 18, 2) := dg dtL_moves_9_ok 32 rfl
theorem dL_moves_873 : decode cL_moves 873 = .ok (.iload 19, 2) := dg dtL_moves_9_ok 33 rfl
theorem dL_moves_875 : decode cL_moves 875 = .ok (.iload 8, 2) := dg dtL_moves_9_ok 34 rfl
theorem dL_moves_877 : decode cL_moves 877 = .ok (.if_icmp .ne 13, 3) := dg dtL_moves_9_ok 35 rfl
theorem dL_moves_880 : decode cL_moves 880 = .ok (.iload 18, 2) := dg dtL_moves_9_ok 36 rfl
theorem dL_moves_882 : decode cL_moves 882 = .ok (.ldc 37, 2) := dg dtL_moves_9_ok 37 rfl
theorem dL_moves_884 : decode cL_moves 884 = .ok (.if_icmp .eq 78, 3) := dg dtL_moves_9_ok 38 rfl
theorem dL_moves_887 : decode cL_moves 887 = .ok (.goto 73, 3) := dg dtL_moves_9_ok 39 rfl
theorem dL_moves_890 : decode cL_moves 890 = .ok (.iload 22, 2) := dg dtL_moves_9_ok 40 rfl
theorem dL_moves_892 : decode cL_moves 892 = .ok (.ifCond .eq 23, 3) := dg dtL_moves_9_ok 41 rfl
theorem dL_moves_895 : decode cL_moves 895 = .ok (.iload 18, 2) := dg dtL_moves_9_ok 42 rfl
theorem dL_moves_897 : decode cL_moves 897 = .ok (.ldc 96, 2) := dg dtL_moves_9_ok 43 rfl
theorem dL_moves_899 : decode cL_moves 899 = .ok (.if_icmp .ne 61, 3) := dg dtL_moves_9_ok 44 rfl
theorem dL_moves_902 : decode cL_moves 902 = .ok (.aload_n 0, 1) := dg dtL_moves_9_ok 45 rfl
theorem dL_moves_903 : decode cL_moves 903 = .ok (.bipush 11, 2) := dg dtL_moves_9_ok 46 rfl
theorem dL_moves_905 : decode cL_moves 905 = .ok (.invokevirtual 13, 3) := dg dtL_moves_9_ok 47 rfl
def dtL_moves_10 : List (Nat × Instr × Nat) := [(908, .iconst 1, 1), (909, .if_icmp .eq 53, 3), (912, .goto 48, 3), (915, .iload 23, 2), (917, .ifCond .ne 23, 3), (920, .iload 18, 2), (922, .ldc 96, 2), (924, .if_icmp .ne 36, 3), (927, .aload_n 0, 1), (928, .bipush 11, 2), (930, .invokevirtual 13, 3), (933, .iconst 2, 1), (934, .if_icmp .eq 28, 3), (937, .goto 23, 3), (940, .iload 18, 2), (942, .iload 8, 2), (944, .if_icmp .ne 16, 3), (947, .aload_n 0, 1), (948, .iload 19, 2), (950, .iconst 3, 1), (951, .invokevirtual 22, 3), (954, .lload 20, 2), (956, .lcmp, 1), (957, .ifCond .eq 5, 3), (960, .iconst 0, 1), (961, .ireturn, 1), (962, .iload 18, 2), (964, .ifCond .ge 30, 3), (967, .aload_n 0, 1), (968, .bipush 12, 2), (970, .invokevirtual 13, 3), (973, .iload 13, 2), (975, .if_icmp .ne 17, 3), (978, .aload_n 0, 1), (979, .invokestatic 65, 3), (982, .lload 11, 2), (984, .lcmp, 1), (985, .ifCond .ne 7, 3), (988, .iconst 1, 1), (989, .goto 4, 3), (992, .iconst 0, 1), (993, .ireturn, 1), (994, .iload 13, 2), (996, .bipush 6, 2), (998, .if_icmp .ne 8, 3), (1001, .bipush 6, 2), (1003, .goto 7, 3), (1006, .iload 13, 2)]
theorem dtL_moves_10_ok : ∀ q ∈ dtL_moves_10, decode cL_moves q.1 = .ok q.2 := by decide +kernel
theorem dL_moves_908 : decode cL_moves 908 = .ok (.iconst 1, 1) := dg dtL_moves_10_ok 0 rfl
theorem dL_moves_909 : decode cL_moves 909 = .ok (.if_icmp .eq 53, 3) := dg dtL_moves_10_ok 1 rfl
theorem dL_moves_912 : decode cL_moves 912 = .ok (.goto 48, 3) := dg dtL_moves_10_ok 2 rfl
theorem dL_moves_915 : decode cL_moves 915 = .ok (.iload 23, 2) := dg dtL_moves_10_ok 3 rfl
theorem dL_moves_917 : decode cL_moves 917 = .ok (.ifCond .ne 23, 3) := dg dtL_moves_10_ok 4 rfl
theorem dL_moves_920 : decode cL_moves 920 = .ok (.iload 18, 2) := dg dtL_moves_10_ok 5 rfl
theorem dL_moves_922 : decode cL_moves 922 = .ok (.ldc 96, 2) := dg dtL_moves_10_ok 6 rfl
theorem dL_moves_924 : decode cL_moves 924 = .ok (.if_icmp .ne 36, 3) := dg dtL_moves_10_ok 7 rfl
theorem dL_moves_927 : decode cL_moves 927 = .ok (.aload_n 0, 1) := dg dtL_moves_10_ok 8 rfl
theorem dL_moves_928 : decode cL_moves 928 = .ok (.bipush 11, 2) := dg dtL_moves_10_ok 9 rfl
theorem dL_moves_930 : decode cL_moves 930 = .ok (.invokevirtual 13, 3) := dg dtL_moves_10_ok 10 rfl
theorem dL_moves_933 : decode cL_moves 933 = .ok (.iconst 2, 1) := dg dtL_moves_10_ok 11 rfl
theorem dL_moves_934 : decode cL_moves 934 = .ok (.if_icmp .eq 28, 3) := dg dtL_moves_10_ok 12 rfl
theorem dL_moves_937 : decode cL_moves 937 = .ok (.goto 23, 3) := dg dtL_moves_10_ok 13 rfl
theorem dL_moves_940 : decode cL_moves 940 = .ok (.iload 18, 2) := dg dtL_moves_10_ok 14 rfl
theorem dL_moves_942 : decode cL_moves 942 = .ok (.iload 8, 2) := dg dtL_moves_10_ok 15 rfl
theorem dL_moves_944 : decode cL_moves 944 = .ok (.if_icmp .ne 16, 3) := dg dtL_moves_10_ok 16 rfl
theorem dL_moves_947 : decode cL_moves 947 = .ok (.aload_n 0, 1) := dg dtL_moves_10_ok 17 rfl
theorem dL_moves_948 : decode cL_moves 948 = .ok (.iload 19, 2) := dg dtL_moves_10_ok 18 rfl
theorem dL_moves_950 : decode cL_moves 950 = .ok (.iconst 3, 1) := dg dtL_moves_10_ok 19 rfl
theorem dL_moves_951 : decode cL_moves 951 = .ok (.invokevirtual 22, 3) := dg dtL_moves_10_ok 20 rfl
theorem dL_moves_954 : decode cL_moves 954 = .ok (.lload 20, 2) := dg dtL_moves_10_ok 21 rfl
theorem dL_moves_956 : decode cL_moves 956 = .ok (.lcmp, 1) := dg dtL_moves_10_ok 22 rfl
theorem dL_moves_957 : decode cL_moves 957 = .ok (.ifCond .eq 5, 3) := dg dtL_moves_10_ok 23 rfl
theorem dL_moves_960 : decode cL_moves 960 = .ok (.iconst 0, 1) := dg dtL_moves_10_ok 24 rfl
theorem dL_moves_961 : decode cL_moves 961 = .ok (.ireturn, 1) := dg dtL_moves_10_ok 25 rfl
theorem dL_moves_962 : decode cL_moves 962 = .ok (.iload 18, 2) := dg dtL_moves_10_ok 26 rfl
theorem dL_moves_964 : decode cL_moves 964 = .ok (.ifCond .ge 30, 3) := dg dtL_moves_10_ok 27 rfl
theorem dL_moves_967 : decode cL_moves 967 = .ok (.aload_n 0, 1) := dg dtL_moves_10_ok 28 rfl
theorem dL_moves_968 : decode cL_moves 968 = .ok (.bipush 12, 2) := dg dtL_moves_10_ok 29 rfl
theorem dL_moves_970 : decode cL_moves 970 = .ok (.invokevirtual 13, 3) := dg dtL_moves_10_ok 30 rfl
theorem dL_moves_973 : decode cL_moves 973 = .ok (.iload 13, 2) := dg dtL_moves_10_ok 31 rfl
theorem dL_moves_975 : decode cL_moves 975 = .ok (.if_icmp .ne 17, 3) := dg dtL_moves_10_ok 32 rfl
theorem dL_moves_978 : decode cL_moves 978 = .ok (.aload_n 0, 1) := dg dtL_moves_10_ok 33 rfl
theorem dL_moves_979 : decode cL_moves 979 = .ok (.invokestatic 65, 3) := dg dtL_moves_10_ok 34 rfl
theorem dL_moves_982 : decode cL_moves 982 = .ok (.lload 11, 2) := dg dtL_moves_10_ok 35 rfl
theorem dL_moves_984 : decode cL_moves 984 = .ok (.lcmp, 1) := dg dtL_moves_10_ok 36 rfl
theorem dL_moves_985 : decode cL_moves 985 = .ok (.ifCond .ne 7, 3) := dg dtL_moves_10_ok 37 rfl
theorem dL_moves_988 : decode cL_moves 988 = .ok (.iconst 1, 1) := dg dtL_moves_10_ok 38 rfl
theorem dL_moves_989 : decode cL_moves 989 = .ok (.goto 4, 3) := dg dtL_moves_10_ok 39 rfl
theorem dL_moves_992 : decode cL_moves 992 = .ok (.iconst 0, 1) := dg dtL_moves_10_ok 40 rfl
theorem dL_moves_993 : decode cL_moves 993 = .ok (.ireturn, 1) := dg dtL_moves_10_ok 41 rfl
theorem dL_moves_994 : decode cL_moves 994 = .ok (.iload 13, 2) := dg dtL_moves_10_ok 42 rfl
theorem dL_moves_996 : decode cL_moves 996 = .ok (.bipush 6, 2) := dg dtL_moves_10_ok 43 rfl
theorem dL_moves_998 : decode cL_moves 998 = .ok (.if_icmp .ne 8, 3) := dg dtL_moves_10_ok 44 rfl
theorem dL_moves_1001 : decode cL_moves 1001 = .ok (.bipush 6, 2) := dg dtL_moves_10_ok 45 rfl
theorem dL_moves_1003 : decode cL_moves 1003 = .ok (.goto 7, 3) := dg dtL_moves_10_ok 46 rfl
theorem dL_moves_1006 : decode cL_moves 1006 = .ok (.iload 13, 2) := dg dtL_moves_10_ok 47 rfl
def dtL_moves_11 : List (Nat × Instr × Nat) := [(1008, .iconst 1, 1), (1009, .iadd, 1), (1010, .istore 19, 2), (1012, .aload_n 0, 1), (1013, .bipush 12, 2), (1015, .invokevirtual 13, 3), (1018, .iload 19, 2), (1020, .if_icmp .ne 37, 3), (1023, .iload_n 2, 1), (1024, .bipush 12, 2), (1026, .ishr, 1), (1027, .iconst 3, 1), (1028, .iand, 1), (1029, .ifCond .ne 24, 3), (1032, .aload_n 0, 1), (1033, .invokevirtual 72, 3), (1036, .iload 19, 2), (1038, .iconst 1, 1), (1039, .isub, 1), (1040, .if_icmp .ne 17, 3), (1043, .aload_n 0, 1), (1044, .invokestatic 65, 3), (1047, .lload 11, 2), (1049, .lcmp, 1), (1050, .ifCond .ne 7, 3), (1053, .iconst 1, 1), (1054, .goto 4, 3), (1057, .iconst 0, 1), (1058, .ireturn, 1)]
theorem dtL_moves_11_ok : ∀ q ∈ dtL_moves_11, decode cL_moves q.1 = .ok q.2 := by decide +kernel
theorem dL_moves_1008 : decode cL_moves 1008 = .ok (.iconst 1, 1) := dg dtL_moves_11_ok 0 rfl
theorem dL_moves_1009 : decode cL_moves 1009 = .ok (.iadd, 1) := dg dtL_moves_11_ok 1 rfl
theorem dL_moves_1010 : decode cL_moves 1010 = .ok (.istore 19, 2) := dg dtL_moves_11_ok 2 rfl
theorem dL_moves_1012 : decode cL_moves 1012 = .ok (.aload_n 0, 1) := dg dtL_moves_11_ok 3 rfl
theorem dL_moves_1013 : decode cL_moves 1013 = .ok (.bipush 12, 2) := dg dtL_moves_11_ok 4 rfl
theorem dL_moves_1015 : decode cL_moves 1015 = .ok (.invokevirtual 13, 3) := dg dtL_moves_11_ok 5 rfl
theorem dL_moves_1018 : decode cL_moves 1018 = .ok (.iload 19, 2) := dg dtL_moves_11_ok 6 rfl
theorem dL_moves_1020 : decode cL_moves 1020 = .ok (.if_icmp .ne 37, 3) := dg dtL_moves_11_ok 7 rfl
theorem dL_moves_1023 : decode cL_moves 1023 = .ok (.iload_n 2, 1) := dg dtL_moves_11_ok 8 rfl
theorem dL_moves_1024 : decode cL_moves 1024 = .ok (.bipush 12, 2) := dg dtL_moves_11_ok 9 rfl
theorem dL_moves_1026 : decode cL_moves 1026 = .ok (.ishr, 1) := dg dtL_moves_11_ok 10 rfl
theorem dL_moves_1027 : decode cL_moves 1027 = .ok (.iconst 3, 1) := dg dtL_moves_11_ok 11 rfl
theorem dL_moves_1028 : decode cL_moves 1028 = .ok (.iand, 1) := dg dtL_moves_11_ok 12 rfl
theorem dL_moves_1029 : decode cL_moves 1029 = .ok (.ifCond .ne 24, 3) := dg dtL_moves_11_ok 13 rfl
theorem dL_moves_1032 : decode cL_moves 1032 = .ok (.aload_n 0, 1) := dg dtL_moves_11_ok 14 rfl
theorem dL_moves_1033 : decode cL_moves 1033 = .ok (.invokevirtual 72, 3) := dg dtL_moves_11_ok 15 rfl
theorem dL_moves_1036 : decode cL_moves 1036 = .ok (.iload 19, 2) := dg dtL_moves_11_ok 16 rfl
theorem dL_moves_1038 : decode cL_moves 1038 = .ok (.iconst 1, 1) := dg dtL_moves_11_ok 17 rfl
theorem dL_moves_1039 : decode cL_moves 1039 = .ok (.isub, 1) := dg dtL_moves_11_ok 18 rfl
theorem dL_moves_1040 : decode cL_moves 1040 = .ok (.if_icmp .ne 17, 3) := dg dtL_moves_11_ok 19 rfl
theorem dL_moves_1043 : decode cL_moves 1043 = .ok (.aload_n 0, 1) := dg dtL_moves_11_ok 20 rfl
theorem dL_moves_1044 : decode cL_moves 1044 = .ok (.invokestatic 65, 3) := dg dtL_moves_11_ok 21 rfl
theorem dL_moves_1047 : decode cL_moves 1047 = .ok (.lload 11, 2) := dg dtL_moves_11_ok 22 rfl
theorem dL_moves_1049 : decode cL_moves 1049 = .ok (.lcmp, 1) := dg dtL_moves_11_ok 23 rfl
theorem dL_moves_1050 : decode cL_moves 1050 = .ok (.ifCond .ne 7, 3) := dg dtL_moves_11_ok 24 rfl
theorem dL_moves_1053 : decode cL_moves 1053 = .ok (.iconst 1, 1) := dg dtL_moves_11_ok 25 rfl
theorem dL_moves_1054 : decode cL_moves 1054 = .ok (.goto 4, 3) := dg dtL_moves_11_ok 26 rfl
theorem dL_moves_1057 : decode cL_moves 1057 = .ok (.iconst 0, 1) := dg dtL_moves_11_ok 27 rfl
theorem dL_moves_1058 : decode cL_moves 1058 = .ok (.ireturn, 1) := dg dtL_moves_11_ok 28 rfl
def dtL_enters_0 : List (Nat × Instr × Nat) := [(0, .aload_n 0, 1), (1, .iconst 2, 1), (2, .invokevirtual 13, 3), (5, .istore_n 3, 1), (6, .aload_n 0, 1), (7, .iconst 1, 1), (8, .invokevirtual 13, 3), (11, .ifCond .ne 33, 3), (14, .aload_n 0, 1), (15, .iconst 0, 1), (16, .iconst 0, 1), (17, .iconst 1, 1), (18, .iconst 0, 1), (19, .invokevirtual 97, 3), (22, .ldc 40, 2), (24, .if_icmp .ne 18, 3), (27, .aload_n 0, 1), (28, .iconst 0, 1), (29, .iconst 1, 1), (30, .invokevirtual 101, 3), (33, .ldc 40, 2), (35, .if_icmp .ne 7, 3), (38, .iconst 1, 1), (39, .goto 4, 3), (42, .iconst 0, 1), (43, .ireturn, 1), (44, .iload_n 1, 1), (45, .aload_n 0, 1), (46, .iconst 1, 1), (47, .invokevirtual 13, 3), (50, .invokestatic 45, 3), (53, .istore 4, 2), (55, .iload_n 1, 1), (56, .iconst 3, 1), (57, .ishr, 1), (58, .bipush 6, 2), (60, .invokestatic 45, 3), (63, .istore 5, 2), (65, .iconst 1, 1), (66, .iload_n 2, 1), (67, .iload_n 2, 1), (68, .iconst 1, 1), (69, .iand, 1), (70, .ifCond .ne 8, 3), (73, .bipush 30, 2), (75, .goto 6, 3), (78, .sipush 2000, 3), (81, .invokestatic 45, 3)]
theorem dtL_enters_0_ok : ∀ q ∈ dtL_enters_0, decode cL_enters q.1 = .ok q.2 := by decide +kernel
theorem dL_enters_0 : decode cL_enters 0 = .ok (.aload_n 0, 1) := dg dtL_enters_0_ok 0 rfl
theorem dL_enters_1 : decode cL_enters 1 = .ok (.iconst 2, 1) := dg dtL_enters_0_ok 1 rfl
theorem dL_enters_2 : decode cL_enters 2 = .ok (.invokevirtual 13, 3) := dg dtL_enters_0_ok 2 rfl
theorem dL_enters_5 : decode cL_enters 5 = .ok (.istore_n 3, 1) := dg dtL_enters_0_ok 3 rfl
theorem dL_enters_6 : decode cL_enters 6 = .ok (.aload_n 0, 1) := dg dtL_enters_0_ok 4 rfl
theorem dL_enters_7 : decode cL_enters 7 = .ok (.iconst 1, 1) := dg dtL_enters_0_ok 5 rfl
theorem dL_enters_8 : decode cL_enters 8 = .ok (.invokevirtual 13, 3) := dg dtL_enters_0_ok 6 rfl
theorem dL_enters_11 : decode cL_enters 11 = .ok (.ifCond .ne 33, 3) := dg dtL_enters_0_ok 7 rfl
theorem dL_enters_14 : decode cL_enters 14 = .ok (.aload_n 0, 1) := dg dtL_enters_0_ok 8 rfl
theorem dL_enters_15 : decode cL_enters 15 = .ok (.iconst 0, 1) := dg dtL_enters_0_ok 9 rfl
theorem dL_enters_16 : decode cL_enters 16 = .ok (.iconst 0, 1) := dg dtL_enters_0_ok 10 rfl
theorem dL_enters_17 : decode cL_enters 17 = .ok (.iconst 1, 1) := dg dtL_enters_0_ok 11 rfl
theorem dL_enters_18 : decode cL_enters 18 = .ok (.iconst 0, 1) := dg dtL_enters_0_ok 12 rfl
theorem dL_enters_19 : decode cL_enters 19 = .ok (.invokevirtual 97, 3) := dg dtL_enters_0_ok 13 rfl
theorem dL_enters_22 : decode cL_enters 22 = .ok (.ldc 40, 2) := dg dtL_enters_0_ok 14 rfl
theorem dL_enters_24 : decode cL_enters 24 = .ok (.if_icmp .ne 18, 3) := dg dtL_enters_0_ok 15 rfl
theorem dL_enters_27 : decode cL_enters 27 = .ok (.aload_n 0, 1) := dg dtL_enters_0_ok 16 rfl
theorem dL_enters_28 : decode cL_enters 28 = .ok (.iconst 0, 1) := dg dtL_enters_0_ok 17 rfl
theorem dL_enters_29 : decode cL_enters 29 = .ok (.iconst 1, 1) := dg dtL_enters_0_ok 18 rfl
theorem dL_enters_30 : decode cL_enters 30 = .ok (.invokevirtual 101, 3) := dg dtL_enters_0_ok 19 rfl
theorem dL_enters_33 : decode cL_enters 33 = .ok (.ldc 40, 2) := dg dtL_enters_0_ok 20 rfl
theorem dL_enters_35 : decode cL_enters 35 = .ok (.if_icmp .ne 7, 3) := dg dtL_enters_0_ok 21 rfl
theorem dL_enters_38 : decode cL_enters 38 = .ok (.iconst 1, 1) := dg dtL_enters_0_ok 22 rfl
theorem dL_enters_39 : decode cL_enters 39 = .ok (.goto 4, 3) := dg dtL_enters_0_ok 23 rfl
theorem dL_enters_42 : decode cL_enters 42 = .ok (.iconst 0, 1) := dg dtL_enters_0_ok 24 rfl
theorem dL_enters_43 : decode cL_enters 43 = .ok (.ireturn, 1) := dg dtL_enters_0_ok 25 rfl
theorem dL_enters_44 : decode cL_enters 44 = .ok (.iload_n 1, 1) := dg dtL_enters_0_ok 26 rfl
theorem dL_enters_45 : decode cL_enters 45 = .ok (.aload_n 0, 1) := dg dtL_enters_0_ok 27 rfl
theorem dL_enters_46 : decode cL_enters 46 = .ok (.iconst 1, 1) := dg dtL_enters_0_ok 28 rfl
theorem dL_enters_47 : decode cL_enters 47 = .ok (.invokevirtual 13, 3) := dg dtL_enters_0_ok 29 rfl
theorem dL_enters_50 : decode cL_enters 50 = .ok (.invokestatic 45, 3) := dg dtL_enters_0_ok 30 rfl
theorem dL_enters_53 : decode cL_enters 53 = .ok (.istore 4, 2) := dg dtL_enters_0_ok 31 rfl
theorem dL_enters_55 : decode cL_enters 55 = .ok (.iload_n 1, 1) := dg dtL_enters_0_ok 32 rfl
theorem dL_enters_56 : decode cL_enters 56 = .ok (.iconst 3, 1) := dg dtL_enters_0_ok 33 rfl
theorem dL_enters_57 : decode cL_enters 57 = .ok (.ishr, 1) := dg dtL_enters_0_ok 34 rfl
theorem dL_enters_58 : decode cL_enters 58 = .ok (.bipush 6, 2) := dg dtL_enters_0_ok 35 rfl
theorem dL_enters_60 : decode cL_enters 60 = .ok (.invokestatic 45, 3) := dg dtL_enters_0_ok 36 rfl
theorem dL_enters_63 : decode cL_enters 63 = .ok (.istore 5, 2) := dg dtL_enters_0_ok 37 rfl
theorem dL_enters_65 : decode cL_enters 65 = .ok (.iconst 1, 1) := dg dtL_enters_0_ok 38 rfl
theorem dL_enters_66 : decode cL_enters 66 = .ok (.iload_n 2, 1) := dg dtL_enters_0_ok 39 rfl
theorem dL_enters_67 : decode cL_enters 67 = .ok (.iload_n 2, 1) := dg dtL_enters_0_ok 40 rfl
theorem dL_enters_68 : decode cL_enters 68 = .ok (.iconst 1, 1) := dg dtL_enters_0_ok 41 rfl
theorem dL_enters_69 : decode cL_enters 69 = .ok (.iand, 1) := dg dtL_enters_0_ok 42 rfl
theorem dL_enters_70 : decode cL_enters 70 = .ok (.ifCond .ne 8, 3) := dg dtL_enters_0_ok 43 rfl
theorem dL_enters_73 : decode cL_enters 73 = .ok (.bipush 30, 2) := dg dtL_enters_0_ok 44 rfl
theorem dL_enters_75 : decode cL_enters 75 = .ok (.goto 6, 3) := dg dtL_enters_0_ok 45 rfl
theorem dL_enters_78 : decode cL_enters 78 = .ok (.sipush 2000, 3) := dg dtL_enters_0_ok 46 rfl
theorem dL_enters_81 : decode cL_enters 81 = .ok (.invokestatic 45, 3) := dg dtL_enters_0_ok 47 rfl
