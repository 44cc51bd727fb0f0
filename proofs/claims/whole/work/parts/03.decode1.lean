def dtX7_destroyUnits_1 : List (Nat × Instr × Nat) := [(89, .istore 8, 2), (91, .aload 7, 2), (93, .dup, 1), (94, .getfield 180, 3), (97, .lload 5, 2), (99, .lsub, 1), (100, .putfield 180, 3), (103, .aload_n 0, 1), (104, .getfield 10, 3), (107, .dup, 1), (108, .getfield 297, 3), (111, .lload 5, 2), (113, .ladd, 1), (114, .putfield 297, 3), (117, .aload_n 3, 1), (118, .dup, 1), (119, .getfield 227, 3), (122, .iload 8, 2), (124, .iadd, 1), (125, .putfield 227, 3), (128, .aload_n 3, 1), (129, .dup, 1), (130, .getfield 218, 3), (133, .iload_n 2, 1), (134, .isub, 1), (135, .putfield 218, 3), (138, .iload 8, 2), (140, .ireturn, 1)]
theorem dtX7_destroyUnits_1_ok : ∀ q ∈ dtX7_destroyUnits_1, decode cX7_destroyUnits q.1 = .ok q.2 := by decide +kernel
theorem dX7_destroyUnits_89 : decode cX7_destroyUnits 89 = .ok (.istore 8, 2) := dg dtX7_destroyUnits_1_ok 0 rfl
theorem dX7_destroyUnits_91 : decode cX7_destroyUnits 91 = .ok (.aload 7, 2) := dg dtX7_destroyUnits_1_ok 1 rfl
theorem dX7_destroyUnits_93 : decode cX7_destroyUnits 93 = .ok (.dup, 1) := dg dtX7_destroyUnits_1_ok 2 rfl
theorem dX7_destroyUnits_94 : decode cX7_destroyUnits 94 = .ok (.getfield 180, 3) := dg dtX7_destroyUnits_1_ok 3 rfl
theorem dX7_destroyUnits_97 : decode cX7_destroyUnits 97 = .ok (.lload 5, 2) := dg dtX7_destroyUnits_1_ok 4 rfl
theorem dX7_destroyUnits_99 : decode cX7_destroyUnits 99 = .ok (.lsub, 1) := dg dtX7_destroyUnits_1_ok 5 rfl
theorem dX7_destroyUnits_100 : decode cX7_destroyUnits 100 = .ok (.putfield 180, 3) := dg dtX7_destroyUnits_1_ok 6 rfl
theorem dX7_destroyUnits_103 : decode cX7_destroyUnits 103 = .ok (.aload_n 0, 1) := dg dtX7_destroyUnits_1_ok 7 rfl
theorem dX7_destroyUnits_104 : decode cX7_destroyUnits 104 = .ok (.getfield 10, 3) := dg dtX7_destroyUnits_1_ok 8 rfl
theorem dX7_destroyUnits_107 : decode cX7_destroyUnits 107 = .ok (.dup, 1) := dg dtX7_destroyUnits_1_ok 9 rfl
theorem dX7_destroyUnits_108 : decode cX7_destroyUnits 108 = .ok (.getfield 297, 3) := dg dtX7_destroyUnits_1_ok 10 rfl
theorem dX7_destroyUnits_111 : decode cX7_destroyUnits 111 = .ok (.lload 5, 2) := dg dtX7_destroyUnits_1_ok 11 rfl
theorem dX7_destroyUnits_113 : decode cX7_destroyUnits 113 = .ok (.ladd, 1) := dg dtX7_destroyUnits_1_ok 12 rfl
theorem dX7_destroyUnits_114 : decode cX7_destroyUnits 114 = .ok (.putfield 297, 3) := dg dtX7_destroyUnits_1_ok 13 rfl
theorem dX7_destroyUnits_117 : decode cX7_destroyUnits 117 = .ok (.aload_n 3, 1) := dg dtX7_destroyUnits_1_ok 14 rfl
theorem dX7_destroyUnits_118 : decode cX7_destroyUnits 118 = .ok (.dup, 1) := dg dtX7_destroyUnits_1_ok 15 rfl
theorem dX7_destroyUnits_119 : decode cX7_destroyUnits 119 = .ok (.getfield 227, 3) := dg dtX7_destroyUnits_1_ok 16 rfl
theorem dX7_destroyUnits_122 : decode cX7_destroyUnits 122 = .ok (.iload 8, 2) := dg dtX7_destroyUnits_1_ok 17 rfl
theorem dX7_destroyUnits_124 : decode cX7_destroyUnits 124 = .ok (.iadd, 1) := dg dtX7_destroyUnits_1_ok 18 rfl
theorem dX7_destroyUnits_125 : decode cX7_destroyUnits 125 = .ok (.putfield 227, 3) := dg dtX7_destroyUnits_1_ok 19 rfl
theorem dX7_destroyUnits_128 : decode cX7_destroyUnits 128 = .ok (.aload_n 3, 1) := dg dtX7_destroyUnits_1_ok 20 rfl
theorem dX7_destroyUnits_129 : decode cX7_destroyUnits 129 = .ok (.dup, 1) := dg dtX7_destroyUnits_1_ok 21 rfl
theorem dX7_destroyUnits_130 : decode cX7_destroyUnits 130 = .ok (.getfield 218, 3) := dg dtX7_destroyUnits_1_ok 22 rfl
theorem dX7_destroyUnits_133 : decode cX7_destroyUnits 133 = .ok (.iload_n 2, 1) := dg dtX7_destroyUnits_1_ok 23 rfl
theorem dX7_destroyUnits_134 : decode cX7_destroyUnits 134 = .ok (.isub, 1) := dg dtX7_destroyUnits_1_ok 24 rfl
theorem dX7_destroyUnits_135 : decode cX7_destroyUnits 135 = .ok (.putfield 218, 3) := dg dtX7_destroyUnits_1_ok 25 rfl
theorem dX7_destroyUnits_138 : decode cX7_destroyUnits 138 = .ok (.iload 8, 2) := dg dtX7_destroyUnits_1_ok 26 rfl
theorem dX7_destroyUnits_140 : decode cX7_destroyUnits 140 = .ok (.ireturn, 1) := dg dtX7_destroyUnits_1_ok 27 rfl
def dtX7_giveLot_0 : List (Nat × Instr × Nat) := [(0, .aload_n 0, 1), (1, .getfield 10, 3), (4, .iload_n 1, 1), (5, .invokevirtual 191, 3), (8, .astore_n 3, 1), (9, .aload_n 0, 1), (10, .getfield 10, 3), (13, .iload_n 2, 1), (14, .invokevirtual 61, 3), (17, .astore 4, 2), (19, .aload_n 3, 1), (20, .ifnull 8, 3), (23, .aload 4, 2), (25, .ifnonnull 6, 3), (28, .ldc 65, 2), (30, .ireturn, 1), (31, .aload_n 3, 1), (32, .getfield 195, 3), (35, .istore 5, 2), (37, .iload 5, 2), (39, .iload_n 2, 1), (40, .if_icmp .ne 6, 3), (43, .ldc 71, 2), (45, .ireturn, 1), (46, .aload 4, 2), (48, .getfield 82, 3), (51, .ifCond .le 9, 3), (54, .aload_n 0, 1), (55, .iconst 1, 1), (56, .invokevirtual 99, 3), (59, .ireturn, 1), (60, .aload_n 0, 1), (61, .getfield 10, 3), (64, .getfield 86, 3), (67, .aload 4, 2), (69, .getfield 102, 3), (72, .aload_n 0, 1), (73, .getfield 10, 3), (76, .iload_n 2, 1), (77, .invokevirtual 90, 3), (80, .aload_n 3, 1), (81, .invokevirtual 221, 3), (84, .iadd, 1), (85, .invokevirtual 93, 3), (88, .ifCond .ne 9, 3), (91, .aload_n 0, 1), (92, .iconst 2, 1), (93, .invokevirtual 99, 3)]
theorem dtX7_giveLot_0_ok : ∀ q ∈ dtX7_giveLot_0, decode cX7_giveLot q.1 = .ok q.2 := by decide +kernel
theorem dX7_giveLot_0 : decode cX7_giveLot 0 = .ok (.aload_n 0, 1) := dg dtX7_giveLot_0_ok 0 rfl
theorem dX7_giveLot_1 : decode cX7_giveLot 1 = .ok (.getfield 10, 3) := dg dtX7_giveLot_0_ok 1 rfl
theorem dX7_giveLot_4 : decode cX7_giveLot 4 = .ok (.iload_n 1, 1) := dg dtX7_giveLot_0_ok 2 rfl
theorem dX7_giveLot_5 : decode cX7_giveLot 5 = .ok (.invokevirtual 191, 3) := dg dtX7_giveLot_0_ok 3 rfl
theorem dX7_giveLot_8 : decode cX7_giveLot 8 = .ok (.astore_n 3, 1) := dg dtX7_giveLot_0_ok 4 rfl
theorem dX7_giveLot_9 : decode cX7_giveLot 9 = .ok (.aload_n 0, 1) := dg dtX7_giveLot_0_ok 5 rfl
theorem dX7_giveLot_10 : decode cX7_giveLot 10 = .ok (.getfield 10, 3) := dg dtX7_giveLot_0_ok 6 rfl
theorem dX7_giveLot_13 : decode cX7_giveLot 13 = .ok (.iload_n 2, 1) := dg dtX7_giveLot_0_ok 7 rfl
theorem dX7_giveLot_14 : decode cX7_giveLot 14 = .ok (.invokevirtual 61, 3) := dg dtX7_giveLot_0_ok 8 rfl
theorem dX7_giveLot_17 : decode cX7_giveLot 17 = .ok (.astore 4, 2) := dg dtX7_giveLot_0_ok 9 rfl
theorem dX7_giveLot_19 : decode cX7_giveLot 19 = .ok (.aload_n 3, 1) := dg dtX7_giveLot_0_ok 10 rfl
theorem dX7_giveLot_20 : decode cX7_giveLot 20 = .ok (.ifnull 8, 3) := dg dtX7_giveLot_0_ok 11 rfl
theorem dX7_giveLot_23 : decode cX7_giveLot 23 = .ok (.aload 4, 2) := dg dtX7_giveLot_0_ok 12 rfl
theorem dX7_giveLot_25 : decode cX7_giveLot 25 = .ok (.ifnonnull 6, 3) := dg dtX7_giveLot_0_ok 13 rfl
theorem dX7_giveLot_28 : decode cX7_giveLot 28 = .ok (.ldc 65, 2) := dg dtX7_giveLot_0_ok 14 rfl
theorem dX7_giveLot_30 : decode cX7_giveLot 30 = .ok (.ireturn, 1) := dg dtX7_giveLot_0_ok 15 rfl
theorem dX7_giveLot_31 : decode cX7_giveLot 31 = .ok (.aload_n 3, 1) := dg dtX7_giveLot_0_ok 16 rfl
theorem dX7_giveLot_32 : decode cX7_giveLot 32 = .ok (.getfield 195, 3) := dg dtX7_giveLot_0_ok 17 rfl
theorem dX7_giveLot_35 : decode cX7_giveLot 35 = .ok (.istore 5, 2) := dg dtX7_giveLot_0_ok 18 rfl
theorem dX7_giveLot_37 : decode cX7_giveLot 37 = .ok (.iload 5, 2) := dg dtX7_giveLot_0_ok 19 rfl
theorem dX7_giveLot_39 : decode cX7_giveLot 39 = .ok (.iload_n 2, 1) := dg dtX7_giveLot_0_ok 20 rfl
theorem dX7_giveLot_40 : decode cX7_giveLot 40 = .ok (.if_icmp .ne 6, 3) := dg dtX7_giveLot_0_ok 21 rfl
theorem dX7_giveLot_43 : decode cX7_giveLot 43 = .ok (.ldc 71, 2) := dg dtX7_giveLot_0_ok 22 rfl
theorem dX7_giveLot_45 : decode cX7_giveLot 45 = .ok (.ireturn, 1) := dg dtX7_giveLot_0_ok 23 rfl
theorem dX7_giveLot_46 : decode cX7_giveLot 46 = .ok (.aload 4, 2) := dg dtX7_giveLot_0_ok 24 rfl
theorem dX7_giveLot_48 : decode cX7_giveLot 48 = .ok (.getfield 82, 3) := dg dtX7_giveLot_0_ok 25 rfl
theorem dX7_giveLot_51 : decode cX7_giveLot 51 = .ok (.ifCond .le 9, 3) := dg dtX7_giveLot_0_ok 26 rfl
theorem dX7_giveLot_54 : decode cX7_giveLot 54 = .ok (.aload_n 0, 1) := dg dtX7_giveLot_0_ok 27 rfl
theorem dX7_giveLot_55 : decode cX7_giveLot 55 = .ok (.iconst 1, 1) := dg dtX7_giveLot_0_ok 28 rfl
theorem dX7_giveLot_56 : decode cX7_giveLot 56 = .ok (.invokevirtual 99, 3) := dg dtX7_giveLot_0_ok 29 rfl
theorem dX7_giveLot_59 : decode cX7_giveLot 59 = .ok (.ireturn, 1) := dg dtX7_giveLot_0_ok 30 rfl
theorem dX7_giveLot_60 : decode cX7_giveLot 60 = .ok (.aload_n 0, 1) := dg dtX7_giveLot_0_ok 31 rfl
theorem dX7_giveLot_61 : decode cX7_giveLot 61 = .ok (.getfield 10, 3) := dg dtX7_giveLot_0_ok 32 rfl
theorem dX7_giveLot_64 : decode cX7_giveLot 64 = .ok (.getfield 86, 3) := dg dtX7_giveLot_0_ok 33 rfl
theorem dX7_giveLot_67 : decode cX7_giveLot 67 = .ok (.aload 4, 2) := dg dtX7_giveLot_0_ok 34 rfl
theorem dX7_giveLot_69 : decode cX7_giveLot 69 = .ok (.getfield 102, 3) := dg dtX7_giveLot_0_ok 35 rfl
theorem dX7_giveLot_72 : decode cX7_giveLot 72 = .ok (.aload_n 0, 1) := dg dtX7_giveLot_0_ok 36 rfl
theorem dX7_giveLot_73 : decode cX7_giveLot 73 = .ok (.getfield 10, 3) := dg dtX7_giveLot_0_ok 37 rfl
theorem dX7_giveLot_76 : decode cX7_giveLot 76 = .ok (.iload_n 2, 1) := dg dtX7_giveLot_0_ok 38 rfl
theorem dX7_giveLot_77 : decode cX7_giveLot 77 = .ok (.invokevirtual 90, 3) := dg dtX7_giveLot_0_ok 39 rfl
theorem dX7_giveLot_80 : decode cX7_giveLot 80 = .ok (.aload_n 3, 1) := dg dtX7_giveLot_0_ok 40 rfl
theorem dX7_giveLot_81 : decode cX7_giveLot 81 = .ok (.invokevirtual 221, 3) := dg dtX7_giveLot_0_ok 41 rfl
theorem dX7_giveLot_84 : decode cX7_giveLot 84 = .ok (.iadd, 1) := dg dtX7_giveLot_0_ok 42 rfl
theorem dX7_giveLot_85 : decode cX7_giveLot 85 = .ok (.invokevirtual 93, 3) := dg dtX7_giveLot_0_ok 43 rfl
theorem dX7_giveLot_88 : decode cX7_giveLot 88 = .ok (.ifCond .ne 9, 3) := dg dtX7_giveLot_0_ok 44 rfl
theorem dX7_giveLot_91 : decode cX7_giveLot 91 = .ok (.aload_n 0, 1) := dg dtX7_giveLot_0_ok 45 rfl
theorem dX7_giveLot_92 : decode cX7_giveLot 92 = .ok (.iconst 2, 1) := dg dtX7_giveLot_0_ok 46 rfl
theorem dX7_giveLot_93 : decode cX7_giveLot 93 = .ok (.invokevirtual 99, 3) := dg dtX7_giveLot_0_ok 47 rfl
def dtX7_giveLot_1 : List (Nat × Instr × Nat) := [(96, .ireturn, 1), (97, .aload_n 3, 1), (98, .iload_n 2, 1), (99, .putfield 195, 3), (102, .iload 5, 2), (104, .ireturn, 1)]
theorem dtX7_giveLot_1_ok : ∀ q ∈ dtX7_giveLot_1, decode cX7_giveLot q.1 = .ok q.2 := by decide +kernel
theorem dX7_giveLot_96 : decode cX7_giveLot 96 = .ok (.ireturn, 1) := dg dtX7_giveLot_1_ok 0 rfl
theorem dX7_giveLot_97 : decode cX7_giveLot 97 = .ok (.aload_n 3, 1) := dg dtX7_giveLot_1_ok 1 rfl
theorem dX7_giveLot_98 : decode cX7_giveLot 98 = .ok (.iload_n 2, 1) := dg dtX7_giveLot_1_ok 2 rfl
theorem dX7_giveLot_99 : decode cX7_giveLot 99 = .ok (.putfield 195, 3) := dg dtX7_giveLot_1_ok 3 rfl
theorem dX7_giveLot_102 : decode cX7_giveLot 102 = .ok (.iload 5, 2) := dg dtX7_giveLot_1_ok 4 rfl
theorem dX7_giveLot_104 : decode cX7_giveLot 104 = .ok (.ireturn, 1) := dg dtX7_giveLot_1_ok 5 rfl
def dtX7_passDays_0 : List (Nat × Instr × Nat) := [(0, .iload_n 1, 1), (1, .iconst 1, 1), (2, .bipush 100, 2), (4, .invokestatic 67, 3), (7, .ifCond .eq 6, 3), (10, .ldc 71, 2), (12, .ireturn, 1), (13, .aload_n 0, 1), (14, .getfield 10, 3), (17, .dup, 1), (18, .getfield 265, 3), (21, .iload_n 1, 1), (22, .iadd, 1), (23, .putfield 265, 3), (26, .aload_n 0, 1), (27, .getfield 10, 3), (30, .invokevirtual 327, 3), (33, .aload_n 0, 1), (34, .getfield 10, 3), (37, .invokevirtual 330, 3), (40, .iadd, 1), (41, .ireturn, 1)]
theorem dtX7_passDays_0_ok : ∀ q ∈ dtX7_passDays_0, decode cX7_passDays q.1 = .ok q.2 := by decide +kernel
theorem dX7_passDays_0 : decode cX7_passDays 0 = .ok (.iload_n 1, 1) := dg dtX7_passDays_0_ok 0 rfl
theorem dX7_passDays_1 : decode cX7_passDays 1 = .ok (.iconst 1, 1) := dg dtX7_passDays_0_ok 1 rfl
theorem dX7_passDays_2 : decode cX7_passDays 2 = .ok (.bipush 100, 2) := dg dtX7_passDays_0_ok 2 rfl
theorem dX7_passDays_4 : decode cX7_passDays 4 = .ok (.invokestatic 67, 3) := dg dtX7_passDays_0_ok 3 rfl
theorem dX7_passDays_7 : decode cX7_passDays 7 = .ok (.ifCond .eq 6, 3) := dg dtX7_passDays_0_ok 4 rfl
theorem dX7_passDays_10 : decode cX7_passDays 10 = .ok (.ldc 71, 2) := dg dtX7_passDays_0_ok 5 rfl
theorem dX7_passDays_12 : decode cX7_passDays 12 = .ok (.ireturn, 1) := dg dtX7_passDays_0_ok 6 rfl
theorem dX7_passDays_13 : decode cX7_passDays 13 = .ok (.aload_n 0, 1) := dg dtX7_passDays_0_ok 7 rfl
theorem dX7_passDays_14 : decode cX7_passDays 14 = .ok (.getfield 10, 3) := dg dtX7_passDays_0_ok 8 rfl
theorem dX7_passDays_17 : decode cX7_passDays 17 = .ok (.dup, 1) := dg dtX7_passDays_0_ok 9 rfl
theorem dX7_passDays_18 : decode cX7_passDays 18 = .ok (.getfield 265, 3) := dg dtX7_passDays_0_ok 10 rfl
theorem dX7_passDays_21 : decode cX7_passDays 21 = .ok (.iload_n 1, 1) := dg dtX7_passDays_0_ok 11 rfl
theorem dX7_passDays_22 : decode cX7_passDays 22 = .ok (.iadd, 1) := dg dtX7_passDays_0_ok 12 rfl
theorem dX7_passDays_23 : decode cX7_passDays 23 = .ok (.putfield 265, 3) := dg dtX7_passDays_0_ok 13 rfl
theorem dX7_passDays_26 : decode cX7_passDays 26 = .ok (.aload_n 0, 1) := dg dtX7_passDays_0_ok 14 rfl
theorem dX7_passDays_27 : decode cX7_passDays 27 = .ok (.getfield 10, 3) := dg dtX7_passDays_0_ok 15 rfl
theorem dX7_passDays_30 : decode cX7_passDays 30 = .ok (.invokevirtual 327, 3) := dg dtX7_passDays_0_ok 16 rfl
theorem dX7_passDays_33 : decode cX7_passDays 33 = .ok (.aload_n 0, 1) := dg dtX7_passDays_0_ok 17 rfl
theorem dX7_passDays_34 : decode cX7_passDays 34 = .ok (.getfield 10, 3) := dg dtX7_passDays_0_ok 18 rfl
theorem dX7_passDays_37 : decode cX7_passDays 37 = .ok (.invokevirtual 330, 3) := dg dtX7_passDays_0_ok 19 rfl
theorem dX7_passDays_40 : decode cX7_passDays 40 = .ok (.iadd, 1) := dg dtX7_passDays_0_ok 20 rfl
theorem dX7_passDays_41 : decode cX7_passDays 41 = .ok (.ireturn, 1) := dg dtX7_passDays_0_ok 21 rfl
def dtX7_carryOutOrders_0 : List (Nat × Instr × Nat) := [(0, .iconst 0, 1), (1, .istore_n 1, 1), (2, .aload_n 0, 1), (3, .getfield 34, 3), (6, .invokevirtual 333, 3), (9, .iload_n 1, 1), (10, .bipush 80, 2), (12, .if_icmp .ge 43, 3), (15, .aload_n 0, 1), (16, .getfield 34, 3), (19, .invokevirtual 336, 3), (22, .ifCond .ne 33, 3), (25, .aload_n 0, 1), (26, .getfield 34, 3), (29, .invokevirtual 339, 3), (32, .ifCond .eq 23, 3), (35, .aload_n 0, 1), (36, .invokevirtual 342, 3), (39, .ifCond .lt 16, 3), (42, .iinc 1 1, 3), (45, .aload_n 0, 1), (46, .getfield 34, 3), (49, .invokevirtual 345, 3), (52, .goto (-43), 3), (55, .iload_n 1, 1), (56, .ireturn, 1)]
theorem dtX7_carryOutOrders_0_ok : ∀ q ∈ dtX7_carryOutOrders_0, decode cX7_carryOutOrders q.1 = .ok q.2 := by decide +kernel
theorem dX7_carryOutOrders_0 : decode cX7_carryOutOrders 0 = .ok (.iconst 0, 1) := dg dtX7_carryOutOrders_0_ok 0 rfl
theorem dX7_carryOutOrders_1 : decode cX7_carryOutOrders 1 = .ok (.istore_n 1, 1) := dg dtX7_carryOutOrders_0_ok 1 rfl
theorem dX7_carryOutOrders_2 : decode cX7_carryOutOrders 2 = .ok (.aload_n 0, 1) := dg dtX7_carryOutOrders_0_ok 2 rfl
theorem dX7_carryOutOrders_3 : decode cX7_carryOutOrders 3 = .ok (.getfield 34, 3) := dg dtX7_carryOutOrders_0_ok 3 rfl
theorem dX7_carryOutOrders_6 : decode cX7_carryOutOrders 6 = .ok (.invokevirtual 333, 3) := dg dtX7_carryOutOrders_0_ok 4 rfl
theorem dX7_carryOutOrders_9 : decode cX7_carryOutOrders 9 = .ok (.iload_n 1, 1) := dg dtX7_carryOutOrders_0_ok 5 rfl
theorem dX7_carryOutOrders_10 : decode cX7_carryOutOrders 10 = .ok (.bipush 80, 2) := dg dtX7_carryOutOrders_0_ok 6 rfl
theorem dX7_carryOutOrders_12 : decode cX7_carryOutOrders 12 = .ok (.if_icmp .ge 43, 3) := dg dtX7_carryOutOrders_0_ok 7 rfl
theorem dX7_carryOutOrders_15 : decode cX7_carryOutOrders 15 = .ok (.aload_n 0, 1) := dg dtX7_carryOutOrders_0_ok 8 rfl
theorem dX7_carryOutOrders_16 : decode cX7_carryOutOrders 16 = .ok (.getfield 34, 3) := dg dtX7_carryOutOrders_0_ok 9 rfl
theorem dX7_carryOutOrders_19 : decode cX7_carryOutOrders 19 = .ok (.invokevirtual 336, 3) := dg dtX7_carryOutOrders_0_ok 10 rfl
theorem dX7_carryOutOrders_22 : decode cX7_carryOutOrders 22 = .ok (.ifCond .ne 33, 3) := dg dtX7_carryOutOrders_0_ok 11 rfl
theorem dX7_carryOutOrders_25 : decode cX7_carryOutOrders 25 = .ok (.aload_n 0, 1) := dg dtX7_carryOutOrders_0_ok 12 rfl
theorem dX7_carryOutOrders_26 : decode cX7_carryOutOrders 26 = .ok (.getfield 34, 3) := dg dtX7_carryOutOrders_0_ok 13 rfl
theorem dX7_carryOutOrders_29 : decode cX7_carryOutOrders 29 = .ok (.invokevirtual 339, 3) := dg dtX7_carryOutOrders_0_ok 14 rfl
theorem dX7_carryOutOrders_32 : decode cX7_carryOutOrders 32 = .ok (.ifCond .eq 23, 3) := dg dtX7_carryOutOrders_0_ok 15 rfl
theorem dX7_carryOutOrders_35 : decode cX7_carryOutOrders 35 = .ok (.aload_n 0, 1) := dg dtX7_carryOutOrders_0_ok 16 rfl
theorem dX7_carryOutOrders_36 : decode cX7_carryOutOrders 36 = .ok (.invokevirtual 342, 3) := dg dtX7_carryOutOrders_0_ok 17 rfl
theorem dX7_carryOutOrders_39 : decode cX7_carryOutOrders 39 = .ok (.ifCond .lt 16, 3) := dg dtX7_carryOutOrders_0_ok 18 rfl
theorem dX7_carryOutOrders_42 : decode cX7_carryOutOrders 42 = .ok (.iinc 1 1, 3) := dg dtX7_carryOutOrders_0_ok 19 rfl
theorem dX7_carryOutOrders_45 : decode cX7_carryOutOrders 45 = .ok (.aload_n 0, 1) := dg dtX7_carryOutOrders_0_ok 20 rfl
theorem dX7_carryOutOrders_46 : decode cX7_carryOutOrders 46 = .ok (.getfield 34, 3) := dg dtX7_carryOutOrders_0_ok 21 rfl
theorem dX7_carryOutOrders_49 : decode cX7_carryOutOrders 49 = .ok (.invokevirtual 345, 3) := dg dtX7_carryOutOrders_0_ok 22 rfl
theorem dX7_carryOutOrders_52 : decode cX7_carryOutOrders 52 = .ok (.goto (-43), 3) := dg dtX7_carryOutOrders_0_ok 23 rfl
theorem dX7_carryOutOrders_55 : decode cX7_carryOutOrders 55 = .ok (.iload_n 1, 1) := dg dtX7_carryOutOrders_0_ok 24 rfl
theorem dX7_carryOutOrders_56 : decode cX7_carryOutOrders 56 = .ok (.ireturn, 1) := dg dtX7_carryOutOrders_0_ok 25 rfl
def dtX7_carryOutOrder_0 : List (Nat × Instr × Nat) := [(0, .aload_n 0, 1), (1, .getfield 34, 3), (4, .getfield 348, 3), (7, .astore_n 1, 1), (8, .aload_n 0, 1), (9, .getfield 34, 3), (12, .getfield 351, 3), (15, .tableswitch 121 0 6 #[41, 58, 69, 80, 91, 99, 110], 41), (56, .aload_n 0, 1), (57, .aload_n 1, 1), (58, .iconst 0, 1), (59, .iaload, 1), (60, .aload_n 1, 1), (61, .iconst 1, 1), (62, .iaload, 1), (63, .aload_n 1, 1), (64, .iconst 2, 1), (65, .iaload, 1), (66, .aload_n 1, 1), (67, .iconst 3, 1), (68, .iaload, 1), (69, .invokevirtual 124, 3), (72, .ireturn, 1), (73, .aload_n 0, 1), (74, .aload_n 1, 1), (75, .iconst 0, 1), (76, .iaload, 1), (77, .aload_n 1, 1), (78, .iconst 1, 1), (79, .iaload, 1), (80, .invokevirtual 128, 3), (83, .ireturn, 1), (84, .aload_n 0, 1), (85, .aload_n 1, 1), (86, .iconst 0, 1), (87, .iaload, 1), (88, .aload_n 1, 1), (89, .iconst 1, 1), (90, .iaload, 1), (91, .invokevirtual 132, 3), (94, .ireturn, 1), (95, .aload_n 0, 1), (96, .aload_n 1, 1), (97, .iconst 0, 1), (98, .iaload, 1), (99, .aload_n 1, 1), (100, .iconst 1, 1), (101, .iaload, 1)]
theorem dtX7_carryOutOrder_0_ok : ∀ q ∈ dtX7_carryOutOrder_0, decode cX7_carryOutOrder q.1 = .ok q.2 := by decide +kernel
theorem dX7_carryOutOrder_0 : decode cX7_carryOutOrder 0 = .ok (.aload_n 0, 1) := dg dtX7_carryOutOrder_0_ok 0 rfl
theorem dX7_carryOutOrder_1 : decode cX7_carryOutOrder 1 = .ok (.getfield 34, 3) := dg dtX7_carryOutOrder_0_ok 1 rfl
theorem dX7_carryOutOrder_4 : decode cX7_carryOutOrder 4 = .ok (.getfield 348, 3) := dg dtX7_carryOutOrder_0_ok 2 rfl
theorem dX7_carryOutOrder_7 : decode cX7_carryOutOrder 7 = .ok (.astore_n 1, 1) := dg dtX7_carryOutOrder_0_ok 3 rfl
theorem dX7_carryOutOrder_8 : decode cX7_carryOutOrder 8 = .ok (.aload_n 0, 1) := dg dtX7_carryOutOrder_0_ok 4 rfl
theorem dX7_carryOutOrder_9 : decode cX7_carryOutOrder 9 = .ok (.getfield 34, 3) := dg dtX7_carryOutOrder_0_ok 5 rfl
theorem dX7_carryOutOrder_12 : decode cX7_carryOutOrder 12 = .ok (.getfield 351, 3) := dg dtX7_carryOutOrder_0_ok 6 rfl
theorem dX7_carryOutOrder_15 : decode cX7_carryOutOrder 15 = .ok (.tableswitch 121 0 6 #[41, 58, 69, 80, 91, 99, 110], 41) := dg dtX7_carryOutOrder_0_ok 7 rfl
theorem dX7_carryOutOrder_56 : decode cX7_carryOutOrder 56 = .ok (.aload_n 0, 1) := dg dtX7_carryOutOrder_0_ok 8 rfl
theorem dX7_carryOutOrder_57 : decode cX7_carryOutOrder 57 = .ok (.aload_n 1, 1) := dg dtX7_carryOutOrder_0_ok 9 rfl
theorem dX7_carryOutOrder_58 : decode cX7_carryOutOrder 58 = .ok (.iconst 0, 1) := dg dtX7_carryOutOrder_0_ok 10 rfl
theorem dX7_carryOutOrder_59 : decode cX7_carryOutOrder 59 = .ok (.iaload, 1) := dg dtX7_carryOutOrder_0_ok 11 rfl
theorem dX7_carryOutOrder_60 : decode cX7_carryOutOrder 60 = .ok (.aload_n 1, 1) := dg dtX7_carryOutOrder_0_ok 12 rfl
theorem dX7_carryOutOrder_61 : decode cX7_carryOutOrder 61 = .ok (.iconst 1, 1) := dg dtX7_carryOutOrder_0_ok 13 rfl
theorem dX7_carryOutOrder_62 : decode cX7_carryOutOrder 62 = .ok (.iaload, 1) := dg dtX7_carryOutOrder_0_ok 14 rfl
theorem dX7_carryOutOrder_63 : decode cX7_carryOutOrder 63 = .ok (.aload_n 1, 1) := dg dtX7_carryOutOrder_0_ok 15 rfl
theorem dX7_carryOutOrder_64 : decode cX7_carryOutOrder 64 = .ok (.iconst 2, 1) := dg dtX7_carryOutOrder_0_ok 16 rfl
theorem dX7_carryOutOrder_65 : decode cX7_carryOutOrder 65 = .ok (.iaload, 1) := dg dtX7_carryOutOrder_0_ok 17 rfl
theorem dX7_carryOutOrder_66 : decode cX7_carryOutOrder 66 = .ok (.aload_n 1, 1) := dg dtX7_carryOutOrder_0_ok 18 rfl
theorem dX7_carryOutOrder_67 : decode cX7_carryOutOrder 67 = .ok (.iconst 3, 1) := dg dtX7_carryOutOrder_0_ok 19 rfl
theorem dX7_carryOutOrder_68 : decode cX7_carryOutOrder 68 = .ok (.iaload, 1) := dg dtX7_carryOutOrder_0_ok 20 rfl
theorem dX7_carryOutOrder_69 : decode cX7_carryOutOrder 69 = .ok (.invokevirtual 124, 3) := dg dtX7_carryOutOrder_0_ok 21 rfl
theorem dX7_carryOutOrder_72 : decode cX7_carryOutOrder 72 = .ok (.ireturn, 1) := dg dtX7_carryOutOrder_0_ok 22 rfl
theorem dX7_carryOutOrder_73 : decode cX7_carryOutOrder 73 = .ok (.aload_n 0, 1) := dg dtX7_carryOutOrder_0_ok 23 rfl
theorem dX7_carryOutOrder_74 : decode cX7_carryOutOrder 74 = .ok (.aload_n 1, 1) := dg dtX7_carryOutOrder_0_ok 24 rfl
theorem dX7_carryOutOrder_75 : decode cX7_carryOutOrder 75 = .ok (.iconst 0, 1) := dg dtX7_carryOutOrder_0_ok 25 rfl
theorem dX7_carryOutOrder_76 : decode cX7_carryOutOrder 76 = .ok (.iaload, 1) := dg dtX7_carryOutOrder_0_ok 26 rfl
theorem dX7_carryOutOrder_77 : decode cX7_carryOutOrder 77 = .ok (.aload_n 1, 1) := dg dtX7_carryOutOrder_0_ok 27 rfl
theorem dX7_carryOutOrder_78 : decode cX7_carryOutOrder 78 = .ok (.iconst 1, 1) := dg dtX7_carryOutOrder_0_ok 28 rfl
theorem dX7_carryOutOrder_79 : decode cX7_carryOutOrder 79 = .ok (.iaload, 1) := dg dtX7_carryOutOrder_0_ok 29 rfl
theorem dX7_carryOutOrder_80 : decode cX7_carryOutOrder 80 = .ok (.invokevirtual 128, 3) := dg dtX7_carryOutOrder_0_ok 30 rfl
theorem dX7_carryOutOrder_83 : decode cX7_carryOutOrder 83 = .ok (.ireturn, 1) := dg dtX7_carryOutOrder_0_ok 31 rfl
theorem dX7_carryOutOrder_84 : decode cX7_carryOutOrder 84 = .ok (.aload_n 0, 1) := dg dtX7_carryOutOrder_0_ok 32 rfl
theorem dX7_carryOutOrder_85 : decode cX7_carryOutOrder 85 = .ok (.aload_n 1, 1) := dg dtX7_carryOutOrder_0_ok 33 rfl
theorem dX7_carryOutOrder_86 : decode cX7_carryOutOrder 86 = .ok (.iconst 0, 1) := dg dtX7_carryOutOrder_0_ok 34 rfl
theorem dX7_carryOutOrder_87 : decode cX7_carryOutOrder 87 = .ok (.iaload, 1) := dg dtX7_carryOutOrder_0_ok 35 rfl
theorem dX7_carryOutOrder_88 : decode cX7_carryOutOrder 88 = .ok (.aload_n 1, 1) := dg dtX7_carryOutOrder_0_ok 36 rfl
theorem dX7_carryOutOrder_89 : decode cX7_carryOutOrder 89 = .ok (.iconst 1, 1) := dg dtX7_carryOutOrder_0_ok 37 rfl
theorem dX7_carryOutOrder_90 : decode cX7_carryOutOrder 90 = .ok (.iaload, 1) := dg dtX7_carryOutOrder_0_ok 38 rfl
theorem dX7_carryOutOrder_91 : decode cX7_carryOutOrder 91 = .ok (.invokevirtual 132, 3) := dg dtX7_carryOutOrder_0_ok 39 rfl
theorem dX7_carryOutOrder_94 : decode cX7_carryOutOrder 94 = .ok (.ireturn, 1) := dg dtX7_carryOutOrder_0_ok 40 rfl
theorem dX7_carryOutOrder_95 : decode cX7_carryOutOrder 95 = .ok (.aload_n 0, 1) := dg dtX7_carryOutOrder_0_ok 41 rfl
theorem dX7_carryOutOrder_96 : decode cX7_carryOutOrder 96 = .ok (.aload_n 1, 1) := dg dtX7_carryOutOrder_0_ok 42 rfl
theorem dX7_carryOutOrder_97 : decode cX7_carryOutOrder 97 = .ok (.iconst 0, 1) := dg dtX7_carryOutOrder_0_ok 43 rfl
theorem dX7_carryOutOrder_98 : decode cX7_carryOutOrder 98 = .ok (.iaload, 1) := dg dtX7_carryOutOrder_0_ok 44 rfl
theorem dX7_carryOutOrder_99 : decode cX7_carryOutOrder 99 = .ok (.aload_n 1, 1) := dg dtX7_carryOutOrder_0_ok 45 rfl
theorem dX7_carryOutOrder_100 : decode cX7_carryOutOrder 100 = .ok (.iconst 1, 1) := dg dtX7_carryOutOrder_0_ok 46 rfl
theorem dX7_carryOutOrder_101 : decode cX7_carryOutOrder 101 = .ok (.iaload, 1) := dg dtX7_carryOutOrder_0_ok 47 rfl
def dtX7_carryOutOrder_1 : List (Nat × Instr × Nat) := [(102, .invokevirtual 135, 3), (105, .ireturn, 1), (106, .aload_n 0, 1), (107, .aload_n 1, 1), (108, .iconst 0, 1), (109, .iaload, 1), (110, .invokevirtual 138, 3), (113, .ireturn, 1), (114, .aload_n 0, 1), (115, .aload_n 1, 1), (116, .iconst 0, 1), (117, .iaload, 1), (118, .aload_n 1, 1), (119, .iconst 1, 1), (120, .iaload, 1), (121, .invokevirtual 141, 3), (124, .ireturn, 1), (125, .aload_n 0, 1), (126, .aload_n 1, 1), (127, .iconst 0, 1), (128, .iaload, 1), (129, .aload_n 1, 1), (130, .iconst 1, 1), (131, .iaload, 1), (132, .invokevirtual 144, 3), (135, .ireturn, 1), (136, .aload_n 0, 1), (137, .aload_n 1, 1), (138, .iconst 0, 1), (139, .iaload, 1), (140, .invokevirtual 147, 3), (143, .ireturn, 1)]
theorem dtX7_carryOutOrder_1_ok : ∀ q ∈ dtX7_carryOutOrder_1, decode cX7_carryOutOrder q.1 = .ok q.2 := by decide +kernel
theorem dX7_carryOutOrder_102 : decode cX7_carryOutOrder 102 = .ok (.invokevirtual 135, 3) := dg dtX7_carryOutOrder_1_ok 0 rfl
theorem dX7_carryOutOrder_105 : decode cX7_carryOutOrder 105 = .ok (.ireturn, 1) := dg dtX7_carryOutOrder_1_ok 1 rfl
theorem dX7_carryOutOrder_106 : decode cX7_carryOutOrder 106 = .ok (.aload_n 0, 1) := dg dtX7_carryOutOrder_1_ok 2 rfl
theorem dX7_carryOutOrder_107 : decode cX7_carryOutOrder 107 = .ok (.aload_n 1, 1) := dg dtX7_carryOutOrder_1_ok 3 rfl
theorem dX7_carryOutOrder_108 : decode cX7_carryOutOrder 108 = .ok (.iconst 0, 1) := dg dtX7_carryOutOrder_1_ok 4 rfl
theorem dX7_carryOutOrder_109 : decode cX7_carryOutOrder 109 = .ok (.iaload, 1) := dg dtX7_carryOutOrder_1_ok 5 rfl
theorem dX7_carryOutOrder_110 : decode cX7_carryOutOrder 110 = .ok (.invokevirtual 138, 3) := dg dtX7_carryOutOrder_1_ok 6 rfl
theorem dX7_carryOutOrder_113 : decode cX7_carryOutOrder 113 = .ok (.ireturn, 1) := dg dtX7_carryOutOrder_1_ok 7 rfl
theorem dX7_carryOutOrder_114 : decode cX7_carryOutOrder 114 = .ok (.aload_n 0, 1) := dg dtX7_carryOutOrder_1_ok 8 rfl
theorem dX7_carryOutOrder_115 : decode cX7_carryOutOrder 115 = .ok (.aload_n 1, 1) := dg dtX7_carryOutOrder_1_ok 9 rfl
theorem dX7_carryOutOrder_116 : decode cX7_carryOutOrder 116 = .ok (.iconst 0, 1) := dg dtX7_carryOutOrder_1_ok 10 rfl
theorem dX7_carryOutOrder_117 : decode cX7_carryOutOrder 117 = .ok (.iaload, 1) := dg dtX7_carryOutOrder_1_ok 11 rfl
theorem dX7_carryOutOrder_118 : decode cX7_carryOutOrder 118 = .ok (.aload_n 1, 1) := dg dtX7_carryOutOrder_1_ok 12 rfl
theorem dX7_carryOutOrder_119 : decode cX7_carryOutOrder 119 = .ok (.iconst 1, 1) := dg dtX7_carryOutOrder_1_ok 13 rfl
theorem dX7_carryOutOrder_120 : decode cX7_carryOutOrder 120 = .ok (.iaload, 1) := dg dtX7_carryOutOrder_1_ok 14 rfl
theorem dX7_carryOutOrder_121 : decode cX7_carryOutOrder 121 = .ok (.invokevirtual 141, 3) := dg dtX7_carryOutOrder_1_ok 15 rfl
theorem dX7_carryOutOrder_124 : decode cX7_carryOutOrder 124 = .ok (.ireturn, 1) := dg dtX7_carryOutOrder_1_ok 16 rfl
theorem dX7_carryOutOrder_125 : decode cX7_carryOutOrder 125 = .ok (.aload_n 0, 1) := dg dtX7_carryOutOrder_1_ok 17 rfl
theorem dX7_carryOutOrder_126 : decode cX7_carryOutOrder 126 = .ok (.aload_n 1, 1) := dg dtX7_carryOutOrder_1_ok 18 rfl
theorem dX7_carryOutOrder_127 : decode cX7_carryOutOrder 127 = .ok (.iconst 0, 1) := dg dtX7_carryOutOrder_1_ok 19 rfl
theorem dX7_carryOutOrder_128 : decode cX7_carryOutOrder 128 = .ok (.iaload, 1) := dg dtX7_carryOutOrder_1_ok 20 rfl
theorem dX7_carryOutOrder_129 : decode cX7_carryOutOrder 129 = .ok (.aload_n 1, 1) := dg dtX7_carryOutOrder_1_ok 21 rfl
theorem dX7_carryOutOrder_130 : decode cX7_carryOutOrder 130 = .ok (.iconst 1, 1) := dg dtX7_carryOutOrder_1_ok 22 rfl
theorem dX7_carryOutOrder_131 : decode cX7_carryOutOrder 131 = .ok (.iaload, 1) := dg dtX7_carryOutOrder_1_ok 23 rfl
theorem dX7_carryOutOrder_132 : decode cX7_carryOutOrder 132 = .ok (.invokevirtual 144, 3) := dg dtX7_carryOutOrder_1_ok 24 rfl
theorem dX7_carryOutOrder_135 : decode cX7_carryOutOrder 135 = .ok (.ireturn, 1) := dg dtX7_carryOutOrder_1_ok 25 rfl
theorem dX7_carryOutOrder_136 : decode cX7_carryOutOrder 136 = .ok (.aload_n 0, 1) := dg dtX7_carryOutOrder_1_ok 26 rfl
theorem dX7_carryOutOrder_137 : decode cX7_carryOutOrder 137 = .ok (.aload_n 1, 1) := dg dtX7_carryOutOrder_1_ok 27 rfl
theorem dX7_carryOutOrder_138 : decode cX7_carryOutOrder 138 = .ok (.iconst 0, 1) := dg dtX7_carryOutOrder_1_ok 28 rfl
theorem dX7_carryOutOrder_139 : decode cX7_carryOutOrder 139 = .ok (.iaload, 1) := dg dtX7_carryOutOrder_1_ok 29 rfl
theorem dX7_carryOutOrder_140 : decode cX7_carryOutOrder 140 = .ok (.invokevirtual 147, 3) := dg dtX7_carryOutOrder_1_ok 30 rfl
theorem dX7_carryOutOrder_143 : decode cX7_carryOutOrder 143 = .ok (.ireturn, 1) := dg dtX7_carryOutOrder_1_ok 31 rfl
def dtX7_outside_0 : List (Nat × Instr × Nat) := [(0, .iload_n 0, 1), (1, .iload_n 1, 1), (2, .if_icmp .lt 8, 3), (5, .iload_n 0, 1), (6, .iload_n 2, 1), (7, .if_icmp .le 7, 3), (10, .iconst 1, 1), (11, .goto 4, 3), (14, .iconst 0, 1), (15, .ireturn, 1)]
theorem dtX7_outside_0_ok : ∀ q ∈ dtX7_outside_0, decode cX7_outside q.1 = .ok q.2 := by decide +kernel
theorem dX7_outside_0 : decode cX7_outside 0 = .ok (.iload_n 0, 1) := dg dtX7_outside_0_ok 0 rfl
theorem dX7_outside_1 : decode cX7_outside 1 = .ok (.iload_n 1, 1) := dg dtX7_outside_0_ok 1 rfl
theorem dX7_outside_2 : decode cX7_outside 2 = .ok (.if_icmp .lt 8, 3) := dg dtX7_outside_0_ok 2 rfl
theorem dX7_outside_5 : decode cX7_outside 5 = .ok (.iload_n 0, 1) := dg dtX7_outside_0_ok 3 rfl
theorem dX7_outside_6 : decode cX7_outside 6 = .ok (.iload_n 2, 1) := dg dtX7_outside_0_ok 4 rfl
theorem dX7_outside_7 : decode cX7_outside 7 = .ok (.if_icmp .le 7, 3) := dg dtX7_outside_0_ok 5 rfl
theorem dX7_outside_10 : decode cX7_outside 10 = .ok (.iconst 1, 1) := dg dtX7_outside_0_ok 6 rfl
theorem dX7_outside_11 : decode cX7_outside 11 = .ok (.goto 4, 3) := dg dtX7_outside_0_ok 7 rfl
theorem dX7_outside_14 : decode cX7_outside 14 = .ok (.iconst 0, 1) := dg dtX7_outside_0_ok 8 rfl
theorem dX7_outside_15 : decode cX7_outside 15 = .ok (.ireturn, 1) := dg dtX7_outside_0_ok 9 rfl
def dtX7_refuse_0 : List (Nat × Instr × Nat) := [(0, .aload_n 0, 1), (1, .iload_n 1, 1), (2, .putfield 45, 3), (5, .ldc_w 354, 3), (8, .ireturn, 1)]
theorem dtX7_refuse_0_ok : ∀ q ∈ dtX7_refuse_0, decode cX7_refuse q.1 = .ok q.2 := by decide +kernel
theorem dX7_refuse_0 : decode cX7_refuse 0 = .ok (.aload_n 0, 1) := dg dtX7_refuse_0_ok 0 rfl
theorem dX7_refuse_1 : decode cX7_refuse 1 = .ok (.iload_n 1, 1) := dg dtX7_refuse_0_ok 1 rfl
theorem dX7_refuse_2 : decode cX7_refuse 2 = .ok (.putfield 45, 3) := dg dtX7_refuse_0_ok 2 rfl
theorem dX7_refuse_5 : decode cX7_refuse 5 = .ok (.ldc_w 354, 3) := dg dtX7_refuse_0_ok 3 rfl
theorem dX7_refuse_8 : decode cX7_refuse 8 = .ok (.ireturn, 1) := dg dtX7_refuse_0_ok 4 rfl
def dtX7_finishAct_0 : List (Nat × Instr × Nat) := [(0, .iload_n 1, 1), (1, .ifCond .lt 10, 3), (4, .aload_n 0, 1), (5, .getfield 19, 3), (8, .invokevirtual 355, 3), (11, .iload_n 1, 1), (12, .ireturn, 1)]
theorem dtX7_finishAct_0_ok : ∀ q ∈ dtX7_finishAct_0, decode cX7_finishAct q.1 = .ok q.2 := by decide +kernel
theorem dX7_finishAct_0 : decode cX7_finishAct 0 = .ok (.iload_n 1, 1) := dg dtX7_finishAct_0_ok 0 rfl
theorem dX7_finishAct_1 : decode cX7_finishAct 1 = .ok (.ifCond .lt 10, 3) := dg dtX7_finishAct_0_ok 1 rfl
theorem dX7_finishAct_4 : decode cX7_finishAct 4 = .ok (.aload_n 0, 1) := dg dtX7_finishAct_0_ok 2 rfl
theorem dX7_finishAct_5 : decode cX7_finishAct 5 = .ok (.getfield 19, 3) := dg dtX7_finishAct_0_ok 3 rfl
theorem dX7_finishAct_8 : decode cX7_finishAct 8 = .ok (.invokevirtual 355, 3) := dg dtX7_finishAct_0_ok 4 rfl
theorem dX7_finishAct_11 : decode cX7_finishAct 11 = .ok (.iload_n 1, 1) := dg dtX7_finishAct_0_ok 5 rfl
theorem dX7_finishAct_12 : decode cX7_finishAct 12 = .ok (.ireturn, 1) := dg dtX7_finishAct_0_ok 6 rfl
def dtX7_errorOfTaking_0 : List (Nat × Instr × Nat) := [(0, .iload_n 2, 1), (1, .iconst 1, 1), (2, .ldc_w 306, 3), (5, .invokestatic 67, 3), (8, .ifCond .eq 6, 3), (11, .ldc 71, 2), (13, .ireturn, 1), (14, .iload_n 2, 1), (15, .aload_n 1, 1), (16, .getfield 218, 3), (19, .if_icmp .le 9, 3), (22, .aload_n 0, 1), (23, .iconst 4, 1), (24, .invokevirtual 99, 3), (27, .ireturn, 1), (28, .iconst 0, 1), (29, .ireturn, 1)]
theorem dtX7_errorOfTaking_0_ok : ∀ q ∈ dtX7_errorOfTaking_0, decode cX7_errorOfTaking q.1 = .ok q.2 := by decide +kernel
theorem dX7_errorOfTaking_0 : decode cX7_errorOfTaking 0 = .ok (.iload_n 2, 1) := dg dtX7_errorOfTaking_0_ok 0 rfl
theorem dX7_errorOfTaking_1 : decode cX7_errorOfTaking 1 = .ok (.iconst 1, 1) := dg dtX7_errorOfTaking_0_ok 1 rfl
theorem dX7_errorOfTaking_2 : decode cX7_errorOfTaking 2 = .ok (.ldc_w 306, 3) := dg dtX7_errorOfTaking_0_ok 2 rfl
theorem dX7_errorOfTaking_5 : decode cX7_errorOfTaking 5 = .ok (.invokestatic 67, 3) := dg dtX7_errorOfTaking_0_ok 3 rfl
theorem dX7_errorOfTaking_8 : decode cX7_errorOfTaking 8 = .ok (.ifCond .eq 6, 3) := dg dtX7_errorOfTaking_0_ok 4 rfl
theorem dX7_errorOfTaking_11 : decode cX7_errorOfTaking 11 = .ok (.ldc 71, 2) := dg dtX7_errorOfTaking_0_ok 5 rfl
theorem dX7_errorOfTaking_13 : decode cX7_errorOfTaking 13 = .ok (.ireturn, 1) := dg dtX7_errorOfTaking_0_ok 6 rfl
theorem dX7_errorOfTaking_14 : decode cX7_errorOfTaking 14 = .ok (.iload_n 2, 1) := dg dtX7_errorOfTaking_0_ok 7 rfl
theorem dX7_errorOfTaking_15 : decode cX7_errorOfTaking 15 = .ok (.aload_n 1, 1) := dg dtX7_errorOfTaking_0_ok 8 rfl
theorem dX7_errorOfTaking_16 : decode cX7_errorOfTaking 16 = .ok (.getfield 218, 3) := dg dtX7_errorOfTaking_0_ok 9 rfl
theorem dX7_errorOfTaking_19 : decode cX7_errorOfTaking 19 = .ok (.if_icmp .le 9, 3) := dg dtX7_errorOfTaking_0_ok 10 rfl
theorem dX7_errorOfTaking_22 : decode cX7_errorOfTaking 22 = .ok (.aload_n 0, 1) := dg dtX7_errorOfTaking_0_ok 11 rfl
theorem dX7_errorOfTaking_23 : decode cX7_errorOfTaking 23 = .ok (.iconst 4, 1) := dg dtX7_errorOfTaking_0_ok 12 rfl
theorem dX7_errorOfTaking_24 : decode cX7_errorOfTaking 24 = .ok (.invokevirtual 99, 3) := dg dtX7_errorOfTaking_0_ok 13 rfl
theorem dX7_errorOfTaking_27 : decode cX7_errorOfTaking 27 = .ok (.ireturn, 1) := dg dtX7_errorOfTaking_0_ok 14 rfl
theorem dX7_errorOfTaking_28 : decode cX7_errorOfTaking 28 = .ok (.iconst 0, 1) := dg dtX7_errorOfTaking_0_ok 15 rfl
theorem dX7_errorOfTaking_29 : decode cX7_errorOfTaking 29 = .ok (.ireturn, 1) := dg dtX7_errorOfTaking_0_ok 16 rfl
def dtX7_writeDocument_0 : List (Nat × Instr × Nat) := [(0, .aload_n 0, 1), (1, .getfield 41, 3), (4, .iconst 0, 1), (5, .invokevirtual 358, 3), (8, .aload_n 0, 1), (9, .getfield 41, 3), (12, .bipush 76, 2), (14, .invokevirtual 361, 3), (17, .iload_n 1, 1), (18, .invokevirtual 364, 3), (21, .pop, 1), (22, .aload_n 0, 1), (23, .getfield 41, 3), (26, .bipush 47, 2), (28, .invokevirtual 361, 3), (31, .aload_n 2, 1), (32, .getfield 195, 3), (35, .invokevirtual 364, 3), (38, .pop, 1), (39, .aload_n 0, 1), (40, .getfield 41, 3), (43, .bipush 58, 2), (45, .invokevirtual 361, 3), (48, .aload_n 2, 1), (49, .getfield 218, 3), (52, .invokevirtual 364, 3), (55, .pop, 1), (56, .aload_n 0, 1), (57, .getfield 41, 3), (60, .bipush 43, 2), (62, .invokevirtual 361, 3), (65, .aload_n 0, 1), (66, .getfield 10, 3), (69, .iload_n 1, 1), (70, .invokevirtual 233, 3), (73, .invokevirtual 364, 3), (76, .pop, 1), (77, .aload_n 0, 1), (78, .getfield 10, 3), (81, .getfield 265, 3), (84, .bipush 7, 2), (86, .iadd, 1), (87, .iconst 1, 1), (88, .iadd, 1), (89, .istore_n 3, 1), (90, .aload_n 2, 1), (91, .iload_n 3, 1), (92, .invokevirtual 272, 3)]
theorem dtX7_writeDocument_0_ok : ∀ q ∈ dtX7_writeDocument_0, decode cX7_writeDocument q.1 = .ok q.2 := by decide +kernel
theorem dX7_writeDocument_0 : decode cX7_writeDocument 0 = .ok (.aload_n 0, 1) := dg dtX7_writeDocument_0_ok 0 rfl
theorem dX7_writeDocument_1 : decode cX7_writeDocument 1 = .ok (.getfield 41, 3) := dg dtX7_writeDocument_0_ok 1 rfl
theorem dX7_writeDocument_4 : decode cX7_writeDocument 4 = .ok (.iconst 0, 1) := dg dtX7_writeDocument_0_ok 2 rfl
theorem dX7_writeDocument_5 : decode cX7_writeDocument 5 = .ok (.invokevirtual 358, 3) := dg dtX7_writeDocument_0_ok 3 rfl
theorem dX7_writeDocument_8 : decode cX7_writeDocument 8 = .ok (.aload_n 0, 1) := dg dtX7_writeDocument_0_ok 4 rfl
theorem dX7_writeDocument_9 : decode cX7_writeDocument 9 = .ok (.getfield 41, 3) := dg dtX7_writeDocument_0_ok 5 rfl
theorem dX7_writeDocument_12 : decode cX7_writeDocument 12 = .ok (.bipush 76, 2) := dg dtX7_writeDocument_0_ok 6 rfl
theorem dX7_writeDocument_14 : decode cX7_writeDocument 14 = .ok (.invokevirtual 361, 3) := dg dtX7_writeDocument_0_ok 7 rfl
theorem dX7_writeDocument_17 : decode cX7_writeDocument 17 = .ok (.iload_n 1, 1) := dg dtX7_writeDocument_0_ok 8 rfl
theorem dX7_writeDocument_18 : decode cX7_writeDocument 18 = .ok (.invokevirtual 364, 3) := dg dtX7_writeDocument_0_ok 9 rfl
theorem dX7_writeDocument_21 : decode cX7_writeDocument 21 = .ok (.pop, 1) := dg dtX7_writeDocument_0_ok 10 rfl
theorem dX7_writeDocument_22 : decode cX7_writeDocument 22 = .ok (.aload_n 0, 1) := dg dtX7_writeDocument_0_ok 11 rfl
theorem dX7_writeDocument_23 : decode cX7_writeDocument 23 = .ok (.getfield 41, 3) := dg dtX7_writeDocument_0_ok 12 rfl
theorem dX7_writeDocument_26 : decode cX7_writeDocument 26 = .ok (.bipush 47, 2) := dg dtX7_writeDocument_0_ok 13 rfl
theorem dX7_writeDocument_28 : decode cX7_writeDocument 28 = .ok (.invokevirtual 361, 3) := dg dtX7_writeDocument_0_ok 14 rfl
theorem dX7_writeDocument_31 : decode cX7_writeDocument 31 = .ok (.aload_n 2, 1) := dg dtX7_writeDocument_0_ok 15 rfl
theorem dX7_writeDocument_32 : decode cX7_writeDocument 32 = .ok (.getfield 195, 3) := dg dtX7_writeDocument_0_ok 16 rfl
theorem dX7_writeDocument_35 : decode cX7_writeDocument 35 = .ok (.invokevirtual 364, 3) := dg dtX7_writeDocument_0_ok 17 rfl
theorem dX7_writeDocument_38 : decode cX7_writeDocument 38 = .ok (.pop, 1) := dg dtX7_writeDocument_0_ok 18 rfl
theorem dX7_writeDocument_39 : decode cX7_writeDocument 39 = .ok (.aload_n 0, 1) := dg dtX7_writeDocument_0_ok 19 rfl
theorem dX7_writeDocument_40 : decode cX7_writeDocument 40 = .ok (.getfield 41, 3) := dg dtX7_writeDocument_0_ok 20 rfl
theorem dX7_writeDocument_43 : decode cX7_writeDocument 43 = .ok (.bipush 58, 2) := dg dtX7_writeDocument_0_ok 21 rfl
theorem dX7_writeDocument_45 : decode cX7_writeDocument 45 = .ok (.invokevirtual 361, 3) := dg dtX7_writeDocument_0_ok 22 rfl
theorem dX7_writeDocument_48 : decode cX7_writeDocument 48 = .ok (.aload_n 2, 1) := dg dtX7_writeDocument_0_ok 23 rfl
theorem dX7_writeDocument_49 : decode cX7_writeDocument 49 = .ok (.getfield 218, 3) := dg dtX7_writeDocument_0_ok 24 rfl
theorem dX7_writeDocument_52 : decode cX7_writeDocument 52 = .ok (.invokevirtual 364, 3) := dg dtX7_writeDocument_0_ok 25 rfl
theorem dX7_writeDocument_55 : decode cX7_writeDocument 55 = .ok (.pop, 1) := dg dtX7_writeDocument_0_ok 26 rfl
theorem dX7_writeDocument_56 : decode cX7_writeDocument 56 = .ok (.aload_n 0, 1) := dg dtX7_writeDocument_0_ok 27 rfl
theorem dX7_writeDocument_57 : decode cX7_writeDocument 57 = .ok (.getfield 41, 3) := dg dtX7_writeDocument_0_ok 28 rfl
theorem dX7_writeDocument_60 : decode cX7_writeDocument 60 = .ok (.bipush 43, 2) := dg dtX7_writeDocument_0_ok 29 rfl
theorem dX7_writeDocument_62 : decode cX7_writeDocument 62 = .ok (.invokevirtual 361, 3) := dg dtX7_writeDocument_0_ok 30 rfl
theorem dX7_writeDocument_65 : decode cX7_writeDocument 65 = .ok (.aload_n 0, 1) := dg dtX7_writeDocument_0_ok 31 rfl
theorem dX7_writeDocument_66 : decode cX7_writeDocument 66 = .ok (.getfield 10, 3) := dg dtX7_writeDocument_0_ok 32 rfl
theorem dX7_writeDocument_69 : decode cX7_writeDocument 69 = .ok (.iload_n 1, 1) := dg dtX7_writeDocument_0_ok 33 rfl
theorem dX7_writeDocument_70 : decode cX7_writeDocument 70 = .ok (.invokevirtual 233, 3) := dg dtX7_writeDocument_0_ok 34 rfl
theorem dX7_writeDocument_73 : decode cX7_writeDocument 73 = .ok (.invokevirtual 364, 3) := dg dtX7_writeDocument_0_ok 35 rfl
theorem dX7_writeDocument_76 : decode cX7_writeDocument 76 = .ok (.pop, 1) := dg dtX7_writeDocument_0_ok 36 rfl
theorem dX7_writeDocument_77 : decode cX7_writeDocument 77 = .ok (.aload_n 0, 1) := dg dtX7_writeDocument_0_ok 37 rfl
theorem dX7_writeDocument_78 : decode cX7_writeDocument 78 = .ok (.getfield 10, 3) := dg dtX7_writeDocument_0_ok 38 rfl
theorem dX7_writeDocument_81 : decode cX7_writeDocument 81 = .ok (.getfield 265, 3) := dg dtX7_writeDocument_0_ok 39 rfl
theorem dX7_writeDocument_84 : decode cX7_writeDocument 84 = .ok (.bipush 7, 2) := dg dtX7_writeDocument_0_ok 40 rfl
theorem dX7_writeDocument_86 : decode cX7_writeDocument 86 = .ok (.iadd, 1) := dg dtX7_writeDocument_0_ok 41 rfl
theorem dX7_writeDocument_87 : decode cX7_writeDocument 87 = .ok (.iconst 1, 1) := dg dtX7_writeDocument_0_ok 42 rfl
theorem dX7_writeDocument_88 : decode cX7_writeDocument 88 = .ok (.iadd, 1) := dg dtX7_writeDocument_0_ok 43 rfl
theorem dX7_writeDocument_89 : decode cX7_writeDocument 89 = .ok (.istore_n 3, 1) := dg dtX7_writeDocument_0_ok 44 rfl
theorem dX7_writeDocument_90 : decode cX7_writeDocument 90 = .ok (.aload_n 2, 1) := dg dtX7_writeDocument_0_ok 45 rfl
theorem dX7_writeDocument_91 : decode cX7_writeDocument 91 = .ok (.iload_n 3, 1) := dg dtX7_writeDocument_0_ok 46 rfl
theorem dX7_writeDocument_92 : decode cX7_writeDocument 92 = .ok (.invokevirtual 272, 3) := dg dtX7_writeDocument_0_ok 47 rfl
def dtX7_writeDocument_1 : List (Nat × Instr × Nat) := [(95, .ifCond .ne 15, 3), (98, .aload_n 0, 1), (99, .getfield 10, 3), (102, .iload_n 1, 1), (103, .iload_n 3, 1), (104, .invokevirtual 367, 3), (107, .ifCond .eq 13, 3), (110, .aload_n 0, 1), (111, .getfield 41, 3), (114, .bipush 33, 2), (116, .invokevirtual 361, 3), (119, .pop, 1), (120, .return_, 1)]
theorem dtX7_writeDocument_1_ok : ∀ q ∈ dtX7_writeDocument_1, decode cX7_writeDocument q.1 = .ok q.2 := by decide +kernel
theorem dX7_writeDocument_95 : decode cX7_writeDocument 95 = .ok (.ifCond .ne 15, 3) := dg dtX7_writeDocument_1_ok 0 rfl
theorem dX7_writeDocument_98 : decode cX7_writeDocument 98 = .ok (.aload_n 0, 1) := dg dtX7_writeDocument_1_ok 1 rfl
theorem dX7_writeDocument_99 : decode cX7_writeDocument 99 = .ok (.getfield 10, 3) := dg dtX7_writeDocument_1_ok 2 rfl
theorem dX7_writeDocument_102 : decode cX7_writeDocument 102 = .ok (.iload_n 1, 1) := dg dtX7_writeDocument_1_ok 3 rfl
theorem dX7_writeDocument_103 : decode cX7_writeDocument 103 = .ok (.iload_n 3, 1) := dg dtX7_writeDocument_1_ok 4 rfl
theorem dX7_writeDocument_104 : decode cX7_writeDocument 104 = .ok (.invokevirtual 367, 3) := dg dtX7_writeDocument_1_ok 5 rfl
theorem dX7_writeDocument_107 : decode cX7_writeDocument 107 = .ok (.ifCond .eq 13, 3) := dg dtX7_writeDocument_1_ok 6 rfl
theorem dX7_writeDocument_110 : decode cX7_writeDocument 110 = .ok (.aload_n 0, 1) := dg dtX7_writeDocument_1_ok 7 rfl
theorem dX7_writeDocument_111 : decode cX7_writeDocument 111 = .ok (.getfield 41, 3) := dg dtX7_writeDocument_1_ok 8 rfl
theorem dX7_writeDocument_114 : decode cX7_writeDocument 114 = .ok (.bipush 33, 2) := dg dtX7_writeDocument_1_ok 9 rfl
theorem dX7_writeDocument_116 : decode cX7_writeDocument 116 = .ok (.invokevirtual 361, 3) := dg dtX7_writeDocument_1_ok 10 rfl
theorem dX7_writeDocument_119 : decode cX7_writeDocument 119 = .ok (.pop, 1) := dg dtX7_writeDocument_1_ok 11 rfl
theorem dX7_writeDocument_120 : decode cX7_writeDocument 120 = .ok (.return_, 1) := dg dtX7_writeDocument_1_ok 12 rfl
def dtX8_init_0 : List (Nat × Instr × Nat) := [(0, .aload_n 0, 1), (1, .invokespecial 1, 3), (4, .aload_n 0, 1), (5, .sipush 520, 3), (8, .newarray .long, 2), (10, .putfield 7, 3), (13, .aload_n 0, 1), (14, .sipush 3120, 3), (17, .newarray .long, 2), (19, .putfield 13, 3), (22, .aload_n 0, 1), (23, .sipush 1040, 3), (26, .newarray .long, 2), (28, .putfield 16, 3), (31, .aload_n 0, 1), (32, .iconst 2, 1), (33, .newarray .boolean, 2), (35, .putfield 19, 3), (38, .aload_n 0, 1), (39, .bipush 80, 2), (41, .newarray .char, 2), (43, .putfield 23, 3), (46, .aload_n 0, 1), (47, .sipush 200, 3), (50, .newarray .int, 2), (52, .putfield 27, 3), (55, .aload_n 0, 1), (56, .bipush 60, 2), (58, .newarray .int, 2), (60, .putfield 31, 3), (63, .aload_n 0, 1), (64, .getfield 7, 3), (67, .iconst 5, 1), (68, .ldc2_w 34, 3), (71, .lastore, 1), (72, .aload_n 0, 1), (73, .getfield 7, 3), (76, .bipush 6, 2), (78, .ldc2_w 36, 3), (81, .lastore, 1), (82, .aload_n 0, 1), (83, .getfield 7, 3), (86, .bipush 7, 2), (88, .ldc2_w 38, 3), (91, .lastore, 1), (92, .aload_n 0, 1), (93, .getfield 7, 3), (96, .bipush 8, 2)]
theorem dtX8_init_0_ok : ∀ q ∈ dtX8_init_0, decode cX8_init q.1 = .ok q.2 := by decide +kernel
theorem dX8_init_0 : decode cX8_init 0 = .ok (.aload_n 0, 1) := dg dtX8_init_0_ok 0 rfl
theorem dX8_init_1 : decode cX8_init 1 = .ok (.invokespecial 1, 3) := dg dtX8_init_0_ok 1 rfl
theorem dX8_init_4 : decode cX8_init 4 = .ok (.aload_n 0, 1) := dg dtX8_init_0_ok 2 rfl
theorem dX8_init_5 : decode cX8_init 5 = .ok (.sipush 520, 3) := dg dtX8_init_0_ok 3 rfl
theorem dX8_init_8 : decode cX8_init 8 = .ok (.newarray .long, 2) := dg dtX8_init_0_ok 4 rfl
theorem dX8_init_10 : decode cX8_init 10 = .ok (.putfield 7, 3) := dg dtX8_init_0_ok 5 rfl
theorem dX8_init_13 : decode cX8_init 13 = .ok (.aload_n 0, 1) := dg dtX8_init_0_ok 6 rfl
theorem dX8_init_14 : decode cX8_init 14 = .ok (.sipush 3120, 3) := dg dtX8_init_0_ok 7 rfl
theorem dX8_init_17 : decode cX8_init 17 = .ok (.newarray .long, 2) := dg dtX8_init_0_ok 8 rfl
theorem dX8_init_19 : decode cX8_init 19 = .ok (.putfield 13, 3) := dg dtX8_init_0_ok 9 rfl
theorem dX8_init_22 : decode cX8_init 22 = .ok (.aload_n 0, 1) := dg dtX8_init_0_ok 10 rfl
theorem dX8_init_23 : decode cX8_init 23 = .ok (.sipush 1040, 3) := dg dtX8_init_0_ok 11 rfl
theorem dX8_init_26 : decode cX8_init 26 = .ok (.newarray .long, 2) := dg dtX8_init_0_ok 12 rfl
theorem dX8_init_28 : decode cX8_init 28 = .ok (.putfield 16, 3) := dg dtX8_init_0_ok 13 rfl
theorem dX8_init_31 : decode cX8_init 31 = .ok (.aload_n 0, 1) := dg dtX8_init_0_ok 14 rfl
theorem dX8_init_32 : decode cX8_init 32 = .ok (.iconst 2, 1) := dg dtX8_init_0_ok 15 rfl
theorem dX8_init_33 : decode cX8_init 33 = .ok (.newarray .boolean, 2) := dg dtX8_init_0_ok 16 rfl
theorem dX8_init_35 : decode cX8_init 35 = .ok (.putfield 19, 3) := dg dtX8_init_0_ok 17 rfl
theorem dX8_init_38 : decode cX8_init 38 = .ok (.aload_n 0, 1) := dg dtX8_init_0_ok 18 rfl
theorem dX8_init_39 : decode cX8_init 39 = .ok (.bipush 80, 2) := dg dtX8_init_0_ok 19 rfl
theorem dX8_init_41 : decode cX8_init 41 = .ok (.newarray .char, 2) := dg dtX8_init_0_ok 20 rfl
theorem dX8_init_43 : decode cX8_init 43 = .ok (.putfield 23, 3) := dg dtX8_init_0_ok 21 rfl
theorem dX8_init_46 : decode cX8_init 46 = .ok (.aload_n 0, 1) := dg dtX8_init_0_ok 22 rfl
theorem dX8_init_47 : decode cX8_init 47 = .ok (.sipush 200, 3) := dg dtX8_init_0_ok 23 rfl
theorem dX8_init_50 : decode cX8_init 50 = .ok (.newarray .int, 2) := dg dtX8_init_0_ok 24 rfl
theorem dX8_init_52 : decode cX8_init 52 = .ok (.putfield 27, 3) := dg dtX8_init_0_ok 25 rfl
theorem dX8_init_55 : decode cX8_init 55 = .ok (.aload_n 0, 1) := dg dtX8_init_0_ok 26 rfl
theorem dX8_init_56 : decode cX8_init 56 = .ok (.bipush 60, 2) := dg dtX8_init_0_ok 27 rfl
theorem dX8_init_58 : decode cX8_init 58 = .ok (.newarray .int, 2) := dg dtX8_init_0_ok 28 rfl
theorem dX8_init_60 : decode cX8_init 60 = .ok (.putfield 31, 3) := dg dtX8_init_0_ok 29 rfl
theorem dX8_init_63 : decode cX8_init 63 = .ok (.aload_n 0, 1) := dg dtX8_init_0_ok 30 rfl
theorem dX8_init_64 : decode cX8_init 64 = .ok (.getfield 7, 3) := dg dtX8_init_0_ok 31 rfl
theorem dX8_init_67 : decode cX8_init 67 = .ok (.iconst 5, 1) := dg dtX8_init_0_ok 32 rfl
theorem dX8_init_68 : decode cX8_init 68 = .ok (.ldc2_w 34, 3) := dg dtX8_init_0_ok 33 rfl
theorem dX8_init_71 : decode cX8_init 71 = .ok (.lastore, 1) := dg dtX8_init_0_ok 34 rfl
theorem dX8_init_72 : decode cX8_init 72 = .ok (.aload_n 0, 1) := dg dtX8_init_0_ok 35 rfl
theorem dX8_init_73 : decode cX8_init 73 = .ok (.getfield 7, 3) := dg dtX8_init_0_ok 36 rfl
theorem dX8_init_76 : decode cX8_init 76 = .ok (.bipush 6, 2) := dg dtX8_init_0_ok 37 rfl
theorem dX8_init_78 : decode cX8_init 78 = .ok (.ldc2_w 36, 3) := dg dtX8_init_0_ok 38 rfl
theorem dX8_init_81 : decode cX8_init 81 = .ok (.lastore, 1) := dg dtX8_init_0_ok 39 rfl
theorem dX8_init_82 : decode cX8_init 82 = .ok (.aload_n 0, 1) := dg dtX8_init_0_ok 40 rfl
theorem dX8_init_83 : decode cX8_init 83 = .ok (.getfield 7, 3) := dg dtX8_init_0_ok 41 rfl
theorem dX8_init_86 : decode cX8_init 86 = .ok (.bipush 7, 2) := dg dtX8_init_0_ok 42 rfl
theorem dX8_init_88 : decode cX8_init 88 = .ok (.ldc2_w 38, 3) := dg dtX8_init_0_ok 43 rfl
theorem dX8_init_91 : decode cX8_init 91 = .ok (.lastore, 1) := dg dtX8_init_0_ok 44 rfl
theorem dX8_init_92 : decode cX8_init 92 = .ok (.aload_n 0, 1) := dg dtX8_init_0_ok 45 rfl
theorem dX8_init_93 : decode cX8_init 93 = .ok (.getfield 7, 3) := dg dtX8_init_0_ok 46 rfl
theorem dX8_init_96 : decode cX8_init 96 = .ok (.bipush 8, 2) := dg dtX8_init_0_ok 47 rfl
def dtX8_init_1 : List (Nat × Instr × Nat) := [(98, .ldc2_w 38, 3), (101, .lastore, 1), (102, .aload_n 0, 1), (103, .getfield 7, 3), (106, .bipush 9, 2), (108, .ldc2_w 40, 3), (111, .lastore, 1), (112, .iconst 0, 1), (113, .istore_n 1, 1), (114, .iload_n 1, 1), (115, .bipush 6, 2), (117, .if_icmp .ge 21, 3), (120, .aload_n 0, 1), (121, .getfield 7, 3), (124, .bipush 14, 2), (126, .iload_n 1, 1), (127, .iadd, 1), (128, .ldc2_w 34, 3), (131, .lastore, 1), (132, .iinc 1 1, 3), (135, .goto (-21), 3), (138, .return_, 1)]
theorem dtX8_init_1_ok : ∀ q ∈ dtX8_init_1, decode cX8_init q.1 = .ok q.2 := by decide +kernel
theorem dX8_init_98 : decode cX8_init 98 = .ok (.ldc2_w 38, 3) := dg dtX8_init_1_ok 0 rfl
theorem dX8_init_101 : decode cX8_init 101 = .ok (.lastore, 1) := dg dtX8_init_1_ok 1 rfl
theorem dX8_init_102 : decode cX8_init 102 = .ok (.aload_n 0, 1) := dg dtX8_init_1_ok 2 rfl
theorem dX8_init_103 : decode cX8_init 103 = .ok (.getfield 7, 3) := dg dtX8_init_1_ok 3 rfl
theorem dX8_init_106 : decode cX8_init 106 = .ok (.bipush 9, 2) := dg dtX8_init_1_ok 4 rfl
theorem dX8_init_108 : decode cX8_init 108 = .ok (.ldc2_w 40, 3) := dg dtX8_init_1_ok 5 rfl
theorem dX8_init_111 : decode cX8_init 111 = .ok (.lastore, 1) := dg dtX8_init_1_ok 6 rfl
theorem dX8_init_112 : decode cX8_init 112 = .ok (.iconst 0, 1) := dg dtX8_init_1_ok 7 rfl
theorem dX8_init_113 : decode cX8_init 113 = .ok (.istore_n 1, 1) := dg dtX8_init_1_ok 8 rfl
theorem dX8_init_114 : decode cX8_init 114 = .ok (.iload_n 1, 1) := dg dtX8_init_1_ok 9 rfl
theorem dX8_init_115 : decode cX8_init 115 = .ok (.bipush 6, 2) := dg dtX8_init_1_ok 10 rfl
theorem dX8_init_117 : decode cX8_init 117 = .ok (.if_icmp .ge 21, 3) := dg dtX8_init_1_ok 11 rfl
theorem dX8_init_120 : decode cX8_init 120 = .ok (.aload_n 0, 1) := dg dtX8_init_1_ok 12 rfl
theorem dX8_init_121 : decode cX8_init 121 = .ok (.getfield 7, 3) := dg dtX8_init_1_ok 13 rfl
theorem dX8_init_124 : decode cX8_init 124 = .ok (.bipush 14, 2) := dg dtX8_init_1_ok 14 rfl
theorem dX8_init_126 : decode cX8_init 126 = .ok (.iload_n 1, 1) := dg dtX8_init_1_ok 15 rfl
theorem dX8_init_127 : decode cX8_init 127 = .ok (.iadd, 1) := dg dtX8_init_1_ok 16 rfl
theorem dX8_init_128 : decode cX8_init 128 = .ok (.ldc2_w 34, 3) := dg dtX8_init_1_ok 17 rfl
theorem dX8_init_131 : decode cX8_init 131 = .ok (.lastore, 1) := dg dtX8_init_1_ok 18 rfl
theorem dX8_init_132 : decode cX8_init 132 = .ok (.iinc 1 1, 3) := dg dtX8_init_1_ok 19 rfl
theorem dX8_init_135 : decode cX8_init 135 = .ok (.goto (-21), 3) := dg dtX8_init_1_ok 20 rfl
theorem dX8_init_138 : decode cX8_init 138 = .ok (.return_, 1) := dg dtX8_init_1_ok 21 rfl
def dtX8_in_0 : List (Nat × Instr × Nat) := [(0, .lload_n 0, 1), (1, .lload_n 2, 1), (2, .lcmp, 1), (3, .ifCond .lt 14, 3), (6, .lload_n 0, 1), (7, .lload 4, 2), (9, .lcmp, 1), (10, .ifCond .gt 7, 3), (13, .iconst 1, 1), (14, .goto 4, 3), (17, .iconst 0, 1), (18, .ireturn, 1)]
theorem dtX8_in_0_ok : ∀ q ∈ dtX8_in_0, decode cX8_in q.1 = .ok q.2 := by decide +kernel
theorem dX8_in_0 : decode cX8_in 0 = .ok (.lload_n 0, 1) := dg dtX8_in_0_ok 0 rfl
theorem dX8_in_1 : decode cX8_in 1 = .ok (.lload_n 2, 1) := dg dtX8_in_0_ok 1 rfl
theorem dX8_in_2 : decode cX8_in 2 = .ok (.lcmp, 1) := dg dtX8_in_0_ok 2 rfl
theorem dX8_in_3 : decode cX8_in 3 = .ok (.ifCond .lt 14, 3) := dg dtX8_in_0_ok 3 rfl
theorem dX8_in_6 : decode cX8_in 6 = .ok (.lload_n 0, 1) := dg dtX8_in_0_ok 4 rfl
theorem dX8_in_7 : decode cX8_in 7 = .ok (.lload 4, 2) := dg dtX8_in_0_ok 5 rfl
theorem dX8_in_9 : decode cX8_in 9 = .ok (.lcmp, 1) := dg dtX8_in_0_ok 6 rfl
theorem dX8_in_10 : decode cX8_in 10 = .ok (.ifCond .gt 7, 3) := dg dtX8_in_0_ok 7 rfl
theorem dX8_in_13 : decode cX8_in 13 = .ok (.iconst 1, 1) := dg dtX8_in_0_ok 8 rfl
theorem dX8_in_14 : decode cX8_in 14 = .ok (.goto 4, 3) := dg dtX8_in_0_ok 9 rfl
theorem dX8_in_17 : decode cX8_in 17 = .ok (.iconst 0, 1) := dg dtX8_in_0_ok 10 rfl
theorem dX8_in_18 : decode cX8_in 18 = .ok (.ireturn, 1) := dg dtX8_in_0_ok 11 rfl
def dtX8_number_0 : List (Nat × Instr × Nat) := [(0, .aload_n 0, 1), (1, .getfield 7, 3), (4, .iload_n 1, 1), (5, .laload, 1), (6, .l2i, 1), (7, .ireturn, 1)]
theorem dtX8_number_0_ok : ∀ q ∈ dtX8_number_0, decode cX8_number q.1 = .ok q.2 := by decide +kernel
theorem dX8_number_0 : decode cX8_number 0 = .ok (.aload_n 0, 1) := dg dtX8_number_0_ok 0 rfl
theorem dX8_number_1 : decode cX8_number 1 = .ok (.getfield 7, 3) := dg dtX8_number_0_ok 1 rfl
theorem dX8_number_4 : decode cX8_number 4 = .ok (.iload_n 1, 1) := dg dtX8_number_0_ok 2 rfl
theorem dX8_number_5 : decode cX8_number 5 = .ok (.laload, 1) := dg dtX8_number_0_ok 3 rfl
theorem dX8_number_6 : decode cX8_number 6 = .ok (.l2i, 1) := dg dtX8_number_0_ok 4 rfl
theorem dX8_number_7 : decode cX8_number 7 = .ok (.ireturn, 1) := dg dtX8_number_0_ok 5 rfl
def dtX8_record_0 : List (Nat × Instr × Nat) := [(0, .aload_n 0, 1), (1, .getfield 42, 3), (4, .bipush 6, 2), (6, .if_icmp .ne 49, 3), (9, .aload_n 0, 1), (10, .dup, 1), (11, .getfield 42, 3), (14, .iconst 1, 1), (15, .isub, 1), (16, .putfield 42, 3), (19, .iconst 0, 1), (20, .istore_n 1, 1), (21, .iload_n 1, 1), (22, .sipush 520, 3), (25, .aload_n 0, 1), (26, .getfield 42, 3), (29, .imul, 1), (30, .if_icmp .ge 25, 3), (33, .aload_n 0, 1), (34, .getfield 13, 3), (37, .iload_n 1, 1), (38, .aload_n 0, 1), (39, .getfield 13, 3), (42, .iload_n 1, 1), (43, .sipush 520, 3), (46, .iadd, 1), (47, .laload, 1), (48, .lastore, 1), (49, .iinc 1 1, 3), (52, .goto (-31), 3), (55, .iconst 0, 1), (56, .istore_n 1, 1), (57, .iload_n 1, 1), (58, .sipush 520, 3), (61, .if_icmp .ge 30, 3), (64, .aload_n 0, 1), (65, .getfield 13, 3), (68, .sipush 520, 3), (71, .aload_n 0, 1), (72, .getfield 42, 3), (75, .imul, 1), (76, .iload_n 1, 1), (77, .iadd, 1), (78, .aload_n 0, 1), (79, .getfield 7, 3), (82, .iload_n 1, 1), (83, .laload, 1), (84, .lastore, 1)]
theorem dtX8_record_0_ok : ∀ q ∈ dtX8_record_0, decode cX8_record q.1 = .ok q.2 := by decide +kernel
theorem dX8_record_0 : decode cX8_record 0 = .ok (.aload_n 0, 1) := dg dtX8_record_0_ok 0 rfl
theorem dX8_record_1 : decode cX8_record 1 = .ok (.getfield 42, 3) := dg dtX8_record_0_ok 1 rfl
theorem dX8_record_4 : decode cX8_record 4 = .ok (.bipush 6, 2) := dg dtX8_record_0_ok 2 rfl
theorem dX8_record_6 : decode cX8_record 6 = .ok (.if_icmp .ne 49, 3) := dg dtX8_record_0_ok 3 rfl
theorem dX8_record_9 : decode cX8_record 9 = .ok (.aload_n 0, 1) := dg dtX8_record_0_ok 4 rfl
theorem dX8_record_10 : decode cX8_record 10 = .ok (.dup, 1) := dg dtX8_record_0_ok 5 rfl
theorem dX8_record_11 : decode cX8_record 11 = .ok (.getfield 42, 3) := dg dtX8_record_0_ok 6 rfl
theorem dX8_record_14 : decode cX8_record 14 = .ok (.iconst 1, 1) := dg dtX8_record_0_ok 7 rfl
theorem dX8_record_15 : decode cX8_record 15 = .ok (.isub, 1) := dg dtX8_record_0_ok 8 rfl
theorem dX8_record_16 : decode cX8_record 16 = .ok (.putfield 42, 3) := dg dtX8_record_0_ok 9 rfl
theorem dX8_record_19 : decode cX8_record 19 = .ok (.iconst 0, 1) := dg dtX8_record_0_ok 10 rfl
theorem dX8_record_20 : decode cX8_record 20 = .ok (.istore_n 1, 1) := dg dtX8_record_0_ok 11 rfl
theorem dX8_record_21 : decode cX8_record 21 = .ok (.iload_n 1, 1) := dg dtX8_record_0_ok 12 rfl
theorem dX8_record_22 : decode cX8_record 22 = .ok (.sipush 520, 3) := dg dtX8_record_0_ok 13 rfl
theorem dX8_record_25 : decode cX8_record 25 = .ok (.aload_n 0, 1) := dg dtX8_record_0_ok 14 rfl
theorem dX8_record_26 : decode cX8_record 26 = .ok (.getfield 42, 3) := dg dtX8_record_0_ok 15 rfl
theorem dX8_record_29 : decode cX8_record 29 = .ok (.imul, 1) := dg dtX8_record_0_ok 16 rfl
theorem dX8_record_30 : decode cX8_record 30 = .ok (.if_icmp .ge 25, 3) := dg dtX8_record_0_ok 17 rfl
theorem dX8_record_33 : decode cX8_record 33 = .ok (.aload_n 0, 1) := dg dtX8_record_0_ok 18 rfl
theorem dX8_record_34 : decode cX8_record 34 = .ok (.getfield 13, 3) := dg dtX8_record_0_ok 19 rfl
theorem dX8_record_37 : decode cX8_record 37 = .ok (.iload_n 1, 1) := dg dtX8_record_0_ok 20 rfl
theorem dX8_record_38 : decode cX8_record 38 = .ok (.aload_n 0, 1) := dg dtX8_record_0_ok 21 rfl
theorem dX8_record_39 : decode cX8_record 39 = .ok (.getfield 13, 3) := dg dtX8_record_0_ok 22 rfl
theorem dX8_record_42 : decode cX8_record 42 = .ok (.iload_n 1, 1) := dg dtX8_record_0_ok 23 rfl
theorem dX8_record_43 : decode cX8_record 43 = .ok (.sipush 520, 3) := dg dtX8_record_0_ok 24 rfl
theorem dX8_record_46 : decode cX8_record 46 = .ok (.iadd, 1) := dg dtX8_record_0_ok 25 rfl
theorem dX8_record_47 : decode cX8_record 47 = .ok (.laload, 1) := dg dtX8_record_0_ok 26 rfl
theorem dX8_record_48 : decode cX8_record 48 = .ok (.lastore, 1) := dg dtX8_record_0_ok 27 rfl
theorem dX8_record_49 : decode cX8_record 49 = .ok (.iinc 1 1, 3) := dg dtX8_record_0_ok 28 rfl
theorem dX8_record_52 : decode cX8_record 52 = .ok (.goto (-31), 3) := dg dtX8_record_0_ok 29 rfl
theorem dX8_record_55 : decode cX8_record 55 = .ok (.iconst 0, 1) := dg dtX8_record_0_ok 30 rfl
theorem dX8_record_56 : decode cX8_record 56 = .ok (.istore_n 1, 1) := dg dtX8_record_0_ok 31 rfl
theorem dX8_record_57 : decode cX8_record 57 = .ok (.iload_n 1, 1) := dg dtX8_record_0_ok 32 rfl
theorem dX8_record_58 : decode cX8_record 58 = .ok (.sipush 520, 3) := dg dtX8_record_0_ok 33 rfl
theorem dX8_record_61 : decode cX8_record 61 = .ok (.if_icmp .ge 30, 3) := dg dtX8_record_0_ok 34 rfl
theorem dX8_record_64 : decode cX8_record 64 = .ok (.aload_n 0, 1) := dg dtX8_record_0_ok 35 rfl
theorem dX8_record_65 : decode cX8_record 65 = .ok (.getfield 13, 3) := dg dtX8_record_0_ok 36 rfl
theorem dX8_record_68 : decode cX8_record 68 = .ok (.sipush 520, 3) := dg dtX8_record_0_ok 37 rfl
theorem dX8_record_71 : decode cX8_record 71 = .ok (.aload_n 0, 1) := dg dtX8_record_0_ok 38 rfl
theorem dX8_record_72 : decode cX8_record 72 = .ok (.getfield 42, 3) := dg dtX8_record_0_ok 39 rfl
theorem dX8_record_75 : decode cX8_record 75 = .ok (.imul, 1) := dg dtX8_record_0_ok 40 rfl
theorem dX8_record_76 : decode cX8_record 76 = .ok (.iload_n 1, 1) := dg dtX8_record_0_ok 41 rfl
theorem dX8_record_77 : decode cX8_record 77 = .ok (.iadd, 1) := dg dtX8_record_0_ok 42 rfl
theorem dX8_record_78 : decode cX8_record 78 = .ok (.aload_n 0, 1) := dg dtX8_record_0_ok 43 rfl
theorem dX8_record_79 : decode cX8_record 79 = .ok (.getfield 7, 3) := dg dtX8_record_0_ok 44 rfl
theorem dX8_record_82 : decode cX8_record 82 = .ok (.iload_n 1, 1) := dg dtX8_record_0_ok 45 rfl
theorem dX8_record_83 : decode cX8_record 83 = .ok (.laload, 1) := dg dtX8_record_0_ok 46 rfl
theorem dX8_record_84 : decode cX8_record 84 = .ok (.lastore, 1) := dg dtX8_record_0_ok 47 rfl
def dtX8_record_1 : List (Nat × Instr × Nat) := [(85, .iinc 1 1, 3), (88, .goto (-31), 3), (91, .aload_n 0, 1), (92, .dup, 1), (93, .getfield 42, 3), (96, .iconst 1, 1), (97, .iadd, 1), (98, .putfield 42, 3), (101, .return_, 1)]
theorem dtX8_record_1_ok : ∀ q ∈ dtX8_record_1, decode cX8_record q.1 = .ok q.2 := by decide +kernel
theorem dX8_record_85 : decode cX8_record 85 = .ok (.iinc 1 1, 3) := dg dtX8_record_1_ok 0 rfl
theorem dX8_record_88 : decode cX8_record 88 = .ok (.goto (-31), 3) := dg dtX8_record_1_ok 1 rfl
theorem dX8_record_91 : decode cX8_record 91 = .ok (.aload_n 0, 1) := dg dtX8_record_1_ok 2 rfl
theorem dX8_record_92 : decode cX8_record 92 = .ok (.dup, 1) := dg dtX8_record_1_ok 3 rfl
theorem dX8_record_93 : decode cX8_record 93 = .ok (.getfield 42, 3) := dg dtX8_record_1_ok 4 rfl
theorem dX8_record_96 : decode cX8_record 96 = .ok (.iconst 1, 1) := dg dtX8_record_1_ok 5 rfl
theorem dX8_record_97 : decode cX8_record 97 = .ok (.iadd, 1) := dg dtX8_record_1_ok 6 rfl
theorem dX8_record_98 : decode cX8_record 98 = .ok (.putfield 42, 3) := dg dtX8_record_1_ok 7 rfl
theorem dX8_record_101 : decode cX8_record 101 = .ok (.return_, 1) := dg dtX8_record_1_ok 8 rfl
def dtX8_undo_0 : List (Nat × Instr × Nat) := [(0, .aload_n 0, 1), (1, .getfield 42, 3), (4, .ifCond .ne 6, 3), (7, .ldc 46, 2), (9, .ireturn, 1), (10, .aload_n 0, 1), (11, .dup, 1), (12, .getfield 42, 3), (15, .iconst 1, 1), (16, .isub, 1), (17, .putfield 42, 3), (20, .iconst 0, 1), (21, .istore_n 1, 1), (22, .iload_n 1, 1), (23, .sipush 520, 3), (26, .if_icmp .ge 30, 3), (29, .aload_n 0, 1), (30, .getfield 7, 3), (33, .iload_n 1, 1), (34, .aload_n 0, 1), (35, .getfield 13, 3), (38, .sipush 520, 3), (41, .aload_n 0, 1), (42, .getfield 42, 3), (45, .imul, 1), (46, .iload_n 1, 1), (47, .iadd, 1), (48, .laload, 1), (49, .lastore, 1), (50, .iinc 1 1, 3), (53, .goto (-31), 3), (56, .aload_n 0, 1), (57, .getfield 42, 3), (60, .ireturn, 1)]
theorem dtX8_undo_0_ok : ∀ q ∈ dtX8_undo_0, decode cX8_undo q.1 = .ok q.2 := by decide +kernel
theorem dX8_undo_0 : decode cX8_undo 0 = .ok (.aload_n 0, 1) := dg dtX8_undo_0_ok 0 rfl
theorem dX8_undo_1 : decode cX8_undo 1 = .ok (.getfield 42, 3) := dg dtX8_undo_0_ok 1 rfl
theorem dX8_undo_4 : decode cX8_undo 4 = .ok (.ifCond .ne 6, 3) := dg dtX8_undo_0_ok 2 rfl
theorem dX8_undo_7 : decode cX8_undo 7 = .ok (.ldc 46, 2) := dg dtX8_undo_0_ok 3 rfl
theorem dX8_undo_9 : decode cX8_undo 9 = .ok (.ireturn, 1) := dg dtX8_undo_0_ok 4 rfl
theorem dX8_undo_10 : decode cX8_undo 10 = .ok (.aload_n 0, 1) := dg dtX8_undo_0_ok 5 rfl
theorem dX8_undo_11 : decode cX8_undo 11 = .ok (.dup, 1) := dg dtX8_undo_0_ok 6 rfl
theorem dX8_undo_12 : decode cX8_undo 12 = .ok (.getfield 42, 3) := dg dtX8_undo_0_ok 7 rfl
theorem dX8_undo_15 : decode cX8_undo 15 = .ok (.iconst 1, 1) := dg dtX8_undo_0_ok 8 rfl
theorem dX8_undo_16 : decode cX8_undo 16 = .ok (.isub, 1) := dg dtX8_undo_0_ok 9 rfl
theorem dX8_undo_17 : decode cX8_undo 17 = .ok (.putfield 42, 3) := dg dtX8_undo_0_ok 10 rfl
theorem dX8_undo_20 : decode cX8_undo 20 = .ok (.iconst 0, 1) := dg dtX8_undo_0_ok 11 rfl
theorem dX8_undo_21 : decode cX8_undo 21 = .ok (.istore_n 1, 1) := dg dtX8_undo_0_ok 12 rfl
theorem dX8_undo_22 : decode cX8_undo 22 = .ok (.iload_n 1, 1) := dg dtX8_undo_0_ok 13 rfl
theorem dX8_undo_23 : decode cX8_undo 23 = .ok (.sipush 520, 3) := dg dtX8_undo_0_ok 14 rfl
theorem dX8_undo_26 : decode cX8_undo 26 = .ok (.if_icmp .ge 30, 3) := dg dtX8_undo_0_ok 15 rfl
theorem dX8_undo_29 : decode cX8_undo 29 = .ok (.aload_n 0, 1) := dg dtX8_undo_0_ok 16 rfl
theorem dX8_undo_30 : decode cX8_undo 30 = .ok (.getfield 7, 3) := dg dtX8_undo_0_ok 17 rfl
theorem dX8_undo_33 : decode cX8_undo 33 = .ok (.iload_n 1, 1) := dg dtX8_undo_0_ok 18 rfl
theorem dX8_undo_34 : decode cX8_undo 34 = .ok (.aload_n 0, 1) := dg dtX8_undo_0_ok 19 rfl
theorem dX8_undo_35 : decode cX8_undo 35 = .ok (.getfield 13, 3) := dg dtX8_undo_0_ok 20 rfl
theorem dX8_undo_38 : decode cX8_undo 38 = .ok (.sipush 520, 3) := dg dtX8_undo_0_ok 21 rfl
theorem dX8_undo_41 : decode cX8_undo 41 = .ok (.aload_n 0, 1) := dg dtX8_undo_0_ok 22 rfl
theorem dX8_undo_42 : decode cX8_undo 42 = .ok (.getfield 42, 3) := dg dtX8_undo_0_ok 23 rfl
theorem dX8_undo_45 : decode cX8_undo 45 = .ok (.imul, 1) := dg dtX8_undo_0_ok 24 rfl
theorem dX8_undo_46 : decode cX8_undo 46 = .ok (.iload_n 1, 1) := dg dtX8_undo_0_ok 25 rfl
theorem dX8_undo_47 : decode cX8_undo 47 = .ok (.iadd, 1) := dg dtX8_undo_0_ok 26 rfl
theorem dX8_undo_48 : decode cX8_undo 48 = .ok (.laload, 1) := dg dtX8_undo_0_ok 27 rfl
theorem dX8_undo_49 : decode cX8_undo 49 = .ok (.lastore, 1) := dg dtX8_undo_0_ok 28 rfl
theorem dX8_undo_50 : decode cX8_undo 50 = .ok (.iinc 1 1, 3) := dg dtX8_undo_0_ok 29 rfl
theorem dX8_undo_53 : decode cX8_undo 53 = .ok (.goto (-31), 3) := dg dtX8_undo_0_ok 30 rfl
theorem dX8_undo_56 : decode cX8_undo 56 = .ok (.aload_n 0, 1) := dg dtX8_undo_0_ok 31 rfl
theorem dX8_undo_57 : decode cX8_undo 57 = .ok (.getfield 42, 3) := dg dtX8_undo_0_ok 32 rfl
theorem dX8_undo_60 : decode cX8_undo 60 = .ok (.ireturn, 1) := dg dtX8_undo_0_ok 33 rfl
def dtX8_keep_0 : List (Nat × Instr × Nat) := [(0, .iload_n 1, 1), (1, .i2l, 1), (2, .lconst 0, 1), (3, .lconst 1, 1), (4, .invokestatic 47, 3), (7, .ifCond .ne 6, 3), (10, .ldc 51, 2), (12, .ireturn, 1), (13, .iconst 0, 1), (14, .istore_n 2, 1), (15, .iload_n 2, 1), (16, .sipush 520, 3), (19, .if_icmp .ge 27, 3), (22, .aload_n 0, 1), (23, .getfield 16, 3), (26, .sipush 520, 3), (29, .iload_n 1, 1), (30, .imul, 1), (31, .iload_n 2, 1), (32, .iadd, 1), (33, .aload_n 0, 1), (34, .getfield 7, 3), (37, .iload_n 2, 1), (38, .laload, 1), (39, .lastore, 1), (40, .iinc 2 1, 3), (43, .goto (-28), 3), (46, .aload_n 0, 1), (47, .getfield 19, 3), (50, .iload_n 1, 1), (51, .iconst 1, 1), (52, .bastore, 1), (53, .aload_n 0, 1), (54, .iconst 2, 1), (55, .invokevirtual 52, 3), (58, .ireturn, 1)]
theorem dtX8_keep_0_ok : ∀ q ∈ dtX8_keep_0, decode cX8_keep q.1 = .ok q.2 := by decide +kernel
theorem dX8_keep_0 : decode cX8_keep 0 = .ok (.iload_n 1, 1) := dg dtX8_keep_0_ok 0 rfl
theorem dX8_keep_1 : decode cX8_keep 1 = .ok (.i2l, 1) := dg dtX8_keep_0_ok 1 rfl
theorem dX8_keep_2 : decode cX8_keep 2 = .ok (.lconst 0, 1) := dg dtX8_keep_0_ok 2 rfl
theorem dX8_keep_3 : decode cX8_keep 3 = .ok (.lconst 1, 1) := dg dtX8_keep_0_ok 3 rfl
theorem dX8_keep_4 : decode cX8_keep 4 = .ok (.invokestatic 47, 3) := dg dtX8_keep_0_ok 4 rfl
theorem dX8_keep_7 : decode cX8_keep 7 = .ok (.ifCond .ne 6, 3) := dg dtX8_keep_0_ok 5 rfl
theorem dX8_keep_10 : decode cX8_keep 10 = .ok (.ldc 51, 2) := dg dtX8_keep_0_ok 6 rfl
theorem dX8_keep_12 : decode cX8_keep 12 = .ok (.ireturn, 1) := dg dtX8_keep_0_ok 7 rfl
theorem dX8_keep_13 : decode cX8_keep 13 = .ok (.iconst 0, 1) := dg dtX8_keep_0_ok 8 rfl
theorem dX8_keep_14 : decode cX8_keep 14 = .ok (.istore_n 2, 1) := dg dtX8_keep_0_ok 9 rfl
theorem dX8_keep_15 : decode cX8_keep 15 = .ok (.iload_n 2, 1) := dg dtX8_keep_0_ok 10 rfl
theorem dX8_keep_16 : decode cX8_keep 16 = .ok (.sipush 520, 3) := dg dtX8_keep_0_ok 11 rfl
theorem dX8_keep_19 : decode cX8_keep 19 = .ok (.if_icmp .ge 27, 3) := dg dtX8_keep_0_ok 12 rfl
theorem dX8_keep_22 : decode cX8_keep 22 = .ok (.aload_n 0, 1) := dg dtX8_keep_0_ok 13 rfl
theorem dX8_keep_23 : decode cX8_keep 23 = .ok (.getfield 16, 3) := dg dtX8_keep_0_ok 14 rfl
theorem dX8_keep_26 : decode cX8_keep 26 = .ok (.sipush 520, 3) := dg dtX8_keep_0_ok 15 rfl
theorem dX8_keep_29 : decode cX8_keep 29 = .ok (.iload_n 1, 1) := dg dtX8_keep_0_ok 16 rfl
theorem dX8_keep_30 : decode cX8_keep 30 = .ok (.imul, 1) := dg dtX8_keep_0_ok 17 rfl
theorem dX8_keep_31 : decode cX8_keep 31 = .ok (.iload_n 2, 1) := dg dtX8_keep_0_ok 18 rfl
theorem dX8_keep_32 : decode cX8_keep 32 = .ok (.iadd, 1) := dg dtX8_keep_0_ok 19 rfl
theorem dX8_keep_33 : decode cX8_keep 33 = .ok (.aload_n 0, 1) := dg dtX8_keep_0_ok 20 rfl
theorem dX8_keep_34 : decode cX8_keep 34 = .ok (.getfield 7, 3) := dg dtX8_keep_0_ok 21 rfl
theorem dX8_keep_37 : decode cX8_keep 37 = .ok (.iload_n 2, 1) := dg dtX8_keep_0_ok 22 rfl
theorem dX8_keep_38 : decode cX8_keep 38 = .ok (.laload, 1) := dg dtX8_keep_0_ok 23 rfl
theorem dX8_keep_39 : decode cX8_keep 39 = .ok (.lastore, 1) := dg dtX8_keep_0_ok 24 rfl
theorem dX8_keep_40 : decode cX8_keep 40 = .ok (.iinc 2 1, 3) := dg dtX8_keep_0_ok 25 rfl
theorem dX8_keep_43 : decode cX8_keep 43 = .ok (.goto (-28), 3) := dg dtX8_keep_0_ok 26 rfl
theorem dX8_keep_46 : decode cX8_keep 46 = .ok (.aload_n 0, 1) := dg dtX8_keep_0_ok 27 rfl
theorem dX8_keep_47 : decode cX8_keep 47 = .ok (.getfield 19, 3) := dg dtX8_keep_0_ok 28 rfl
theorem dX8_keep_50 : decode cX8_keep 50 = .ok (.iload_n 1, 1) := dg dtX8_keep_0_ok 29 rfl
theorem dX8_keep_51 : decode cX8_keep 51 = .ok (.iconst 1, 1) := dg dtX8_keep_0_ok 30 rfl
theorem dX8_keep_52 : decode cX8_keep 52 = .ok (.bastore, 1) := dg dtX8_keep_0_ok 31 rfl
theorem dX8_keep_53 : decode cX8_keep 53 = .ok (.aload_n 0, 1) := dg dtX8_keep_0_ok 32 rfl
theorem dX8_keep_54 : decode cX8_keep 54 = .ok (.iconst 2, 1) := dg dtX8_keep_0_ok 33 rfl
theorem dX8_keep_55 : decode cX8_keep 55 = .ok (.invokevirtual 52, 3) := dg dtX8_keep_0_ok 34 rfl
theorem dX8_keep_58 : decode cX8_keep 58 = .ok (.ireturn, 1) := dg dtX8_keep_0_ok 35 rfl
def dtX8_restore_0 : List (Nat × Instr × Nat) := [(0, .iload_n 1, 1), (1, .i2l, 1), (2, .lconst 0, 1), (3, .lconst 1, 1), (4, .invokestatic 47, 3), (7, .ifCond .ne 6, 3), (10, .ldc 51, 2), (12, .ireturn, 1), (13, .aload_n 0, 1), (14, .getfield 19, 3), (17, .iload_n 1, 1), (18, .baload, 1), (19, .ifCond .ne 6, 3), (22, .ldc 46, 2), (24, .ireturn, 1), (25, .aload_n 0, 1), (26, .invokevirtual 56, 3), (29, .iconst 0, 1), (30, .istore_n 2, 1), (31, .iload_n 2, 1), (32, .sipush 520, 3), (35, .if_icmp .ge 27, 3), (38, .aload_n 0, 1), (39, .getfield 7, 3), (42, .iload_n 2, 1), (43, .aload_n 0, 1), (44, .getfield 16, 3), (47, .sipush 520, 3), (50, .iload_n 1, 1), (51, .imul, 1), (52, .iload_n 2, 1), (53, .iadd, 1), (54, .laload, 1), (55, .lastore, 1), (56, .iinc 2 1, 3), (59, .goto (-28), 3), (62, .aload_n 0, 1), (63, .iconst 2, 1), (64, .invokevirtual 52, 3), (67, .ireturn, 1)]
theorem dtX8_restore_0_ok : ∀ q ∈ dtX8_restore_0, decode cX8_restore q.1 = .ok q.2 := by decide +kernel
theorem dX8_restore_0 : decode cX8_restore 0 = .ok (.iload_n 1, 1) := dg dtX8_restore_0_ok 0 rfl
theorem dX8_restore_1 : decode cX8_restore 1 = .ok (.i2l, 1) := dg dtX8_restore_0_ok 1 rfl
theorem dX8_restore_2 : decode cX8_restore 2 = .ok (.lconst 0, 1) := dg dtX8_restore_0_ok 2 rfl
theorem dX8_restore_3 : decode cX8_restore 3 = .ok (.lconst 1, 1) := dg dtX8_restore_0_ok 3 rfl
theorem dX8_restore_4 : decode cX8_restore 4 = .ok (.invokestatic 47, 3) := dg dtX8_restore_0_ok 4 rfl
theorem dX8_restore_7 : decode cX8_restore 7 = .ok (.ifCond .ne 6, 3) := dg dtX8_restore_0_ok 5 rfl
theorem dX8_restore_10 : decode cX8_restore 10 = .ok (.ldc 51, 2) := dg dtX8_restore_0_ok 6 rfl
theorem dX8_restore_12 : decode cX8_restore 12 = .ok (.ireturn, 1) := dg dtX8_restore_0_ok 7 rfl
theorem dX8_restore_13 : decode cX8_restore 13 = .ok (.aload_n 0, 1) := dg dtX8_restore_0_ok 8 rfl
theorem dX8_restore_14 : decode cX8_restore 14 = .ok (.getfield 19, 3) := dg dtX8_restore_0_ok 9 rfl
theorem dX8_restore_17 : decode cX8_restore 17 = .ok (.iload_n 1, 1) := dg dtX8_restore_0_ok 10 rfl
theorem dX8_restore_18 : decode cX8_restore 18 = .ok (.baload, 1) := dg dtX8_restore_0_ok 11 rfl
theorem dX8_restore_19 : decode cX8_restore 19 = .ok (.ifCond .ne 6, 3) := dg dtX8_restore_0_ok 12 rfl
theorem dX8_restore_22 : decode cX8_restore 22 = .ok (.ldc 46, 2) := dg dtX8_restore_0_ok 13 rfl
theorem dX8_restore_24 : decode cX8_restore 24 = .ok (.ireturn, 1) := dg dtX8_restore_0_ok 14 rfl
theorem dX8_restore_25 : decode cX8_restore 25 = .ok (.aload_n 0, 1) := dg dtX8_restore_0_ok 15 rfl
theorem dX8_restore_26 : decode cX8_restore 26 = .ok (.invokevirtual 56, 3) := dg dtX8_restore_0_ok 16 rfl
theorem dX8_restore_29 : decode cX8_restore 29 = .ok (.iconst 0, 1) := dg dtX8_restore_0_ok 17 rfl
theorem dX8_restore_30 : decode cX8_restore 30 = .ok (.istore_n 2, 1) := dg dtX8_restore_0_ok 18 rfl
theorem dX8_restore_31 : decode cX8_restore 31 = .ok (.iload_n 2, 1) := dg dtX8_restore_0_ok 19 rfl
theorem dX8_restore_32 : decode cX8_restore 32 = .ok (.sipush 520, 3) := dg dtX8_restore_0_ok 20 rfl
theorem dX8_restore_35 : decode cX8_restore 35 = .ok (.if_icmp .ge 27, 3) := dg dtX8_restore_0_ok 21 rfl
theorem dX8_restore_38 : decode cX8_restore 38 = .ok (.aload_n 0, 1) := dg dtX8_restore_0_ok 22 rfl
theorem dX8_restore_39 : decode cX8_restore 39 = .ok (.getfield 7, 3) := dg dtX8_restore_0_ok 23 rfl
theorem dX8_restore_42 : decode cX8_restore 42 = .ok (.iload_n 2, 1) := dg dtX8_restore_0_ok 24 rfl
theorem dX8_restore_43 : decode cX8_restore 43 = .ok (.aload_n 0, 1) := dg dtX8_restore_0_ok 25 rfl
theorem dX8_restore_44 : decode cX8_restore 44 = .ok (.getfield 16, 3) := dg dtX8_restore_0_ok 26 rfl
theorem dX8_restore_47 : decode cX8_restore 47 = .ok (.sipush 520, 3) := dg dtX8_restore_0_ok 27 rfl
theorem dX8_restore_50 : decode cX8_restore 50 = .ok (.iload_n 1, 1) := dg dtX8_restore_0_ok 28 rfl
theorem dX8_restore_51 : decode cX8_restore 51 = .ok (.imul, 1) := dg dtX8_restore_0_ok 29 rfl
theorem dX8_restore_52 : decode cX8_restore 52 = .ok (.iload_n 2, 1) := dg dtX8_restore_0_ok 30 rfl
theorem dX8_restore_53 : decode cX8_restore 53 = .ok (.iadd, 1) := dg dtX8_restore_0_ok 31 rfl
theorem dX8_restore_54 : decode cX8_restore 54 = .ok (.laload, 1) := dg dtX8_restore_0_ok 32 rfl
theorem dX8_restore_55 : decode cX8_restore 55 = .ok (.lastore, 1) := dg dtX8_restore_0_ok 33 rfl
theorem dX8_restore_56 : decode cX8_restore 56 = .ok (.iinc 2 1, 3) := dg dtX8_restore_0_ok 34 rfl
theorem dX8_restore_59 : decode cX8_restore 59 = .ok (.goto (-28), 3) := dg dtX8_restore_0_ok 35 rfl
theorem dX8_restore_62 : decode cX8_restore 62 = .ok (.aload_n 0, 1) := dg dtX8_restore_0_ok 36 rfl
theorem dX8_restore_63 : decode cX8_restore 63 = .ok (.iconst 2, 1) := dg dtX8_restore_0_ok 37 rfl
theorem dX8_restore_64 : decode cX8_restore 64 = .ok (.invokevirtual 52, 3) := dg dtX8_restore_0_ok 38 rfl
theorem dX8_restore_67 : decode cX8_restore 67 = .ok (.ireturn, 1) := dg dtX8_restore_0_ok 39 rfl
def dtX8_refuse_0 : List (Nat × Instr × Nat) := [(0, .aload_n 0, 1), (1, .iload_n 1, 1), (2, .putfield 59, 3), (5, .ldc 62, 2), (7, .ireturn, 1)]
theorem dtX8_refuse_0_ok : ∀ q ∈ dtX8_refuse_0, decode cX8_refuse q.1 = .ok q.2 := by decide +kernel
theorem dX8_refuse_0 : decode cX8_refuse 0 = .ok (.aload_n 0, 1) := dg dtX8_refuse_0_ok 0 rfl
theorem dX8_refuse_1 : decode cX8_refuse 1 = .ok (.iload_n 1, 1) := dg dtX8_refuse_0_ok 1 rfl
theorem dX8_refuse_2 : decode cX8_refuse 2 = .ok (.putfield 59, 3) := dg dtX8_refuse_0_ok 2 rfl
theorem dX8_refuse_5 : decode cX8_refuse 5 = .ok (.ldc 62, 2) := dg dtX8_refuse_0_ok 3 rfl
theorem dX8_refuse_7 : decode cX8_refuse 7 = .ok (.ireturn, 1) := dg dtX8_refuse_0_ok 4 rfl
def dtX8_noOwner_0 : List (Nat × Instr × Nat) := [(0, .iload_n 1, 1), (1, .i2l, 1), (2, .lconst 0, 1), (3, .aload_n 0, 1), (4, .getfield 7, 3), (7, .iconst 1, 1), (8, .laload, 1), (9, .lconst 1, 1), (10, .lsub, 1), (11, .invokestatic 47, 3), (14, .ifCond .ne 7, 3), (17, .iconst 1, 1), (18, .goto 4, 3), (21, .iconst 0, 1), (22, .ireturn, 1)]
theorem dtX8_noOwner_0_ok : ∀ q ∈ dtX8_noOwner_0, decode cX8_noOwner q.1 = .ok q.2 := by decide +kernel
theorem dX8_noOwner_0 : decode cX8_noOwner 0 = .ok (.iload_n 1, 1) := dg dtX8_noOwner_0_ok 0 rfl
theorem dX8_noOwner_1 : decode cX8_noOwner 1 = .ok (.i2l, 1) := dg dtX8_noOwner_0_ok 1 rfl
theorem dX8_noOwner_2 : decode cX8_noOwner 2 = .ok (.lconst 0, 1) := dg dtX8_noOwner_0_ok 2 rfl
theorem dX8_noOwner_3 : decode cX8_noOwner 3 = .ok (.aload_n 0, 1) := dg dtX8_noOwner_0_ok 3 rfl
theorem dX8_noOwner_4 : decode cX8_noOwner 4 = .ok (.getfield 7, 3) := dg dtX8_noOwner_0_ok 4 rfl
theorem dX8_noOwner_7 : decode cX8_noOwner 7 = .ok (.iconst 1, 1) := dg dtX8_noOwner_0_ok 5 rfl
theorem dX8_noOwner_8 : decode cX8_noOwner 8 = .ok (.laload, 1) := dg dtX8_noOwner_0_ok 6 rfl
theorem dX8_noOwner_9 : decode cX8_noOwner 9 = .ok (.lconst 1, 1) := dg dtX8_noOwner_0_ok 7 rfl
theorem dX8_noOwner_10 : decode cX8_noOwner 10 = .ok (.lsub, 1) := dg dtX8_noOwner_0_ok 8 rfl
theorem dX8_noOwner_11 : decode cX8_noOwner 11 = .ok (.invokestatic 47, 3) := dg dtX8_noOwner_0_ok 9 rfl
theorem dX8_noOwner_14 : decode cX8_noOwner 14 = .ok (.ifCond .ne 7, 3) := dg dtX8_noOwner_0_ok 10 rfl
theorem dX8_noOwner_17 : decode cX8_noOwner 17 = .ok (.iconst 1, 1) := dg dtX8_noOwner_0_ok 11 rfl
theorem dX8_noOwner_18 : decode cX8_noOwner 18 = .ok (.goto 4, 3) := dg dtX8_noOwner_0_ok 12 rfl
theorem dX8_noOwner_21 : decode cX8_noOwner 21 = .ok (.iconst 0, 1) := dg dtX8_noOwner_0_ok 13 rfl
theorem dX8_noOwner_22 : decode cX8_noOwner 22 = .ok (.ireturn, 1) := dg dtX8_noOwner_0_ok 14 rfl
def dtX8_noLot_0 : List (Nat × Instr × Nat) := [(0, .iload_n 1, 1), (1, .i2l, 1), (2, .lconst 0, 1), (3, .aload_n 0, 1), (4, .getfield 7, 3), (7, .iconst 2, 1), (8, .laload, 1), (9, .lconst 1, 1), (10, .lsub, 1), (11, .invokestatic 47, 3), (14, .ifCond .ne 7, 3), (17, .iconst 1, 1), (18, .goto 4, 3), (21, .iconst 0, 1), (22, .ireturn, 1)]
theorem dtX8_noLot_0_ok : ∀ q ∈ dtX8_noLot_0, decode cX8_noLot q.1 = .ok q.2 := by decide +kernel
theorem dX8_noLot_0 : decode cX8_noLot 0 = .ok (.iload_n 1, 1) := dg dtX8_noLot_0_ok 0 rfl
theorem dX8_noLot_1 : decode cX8_noLot 1 = .ok (.i2l, 1) := dg dtX8_noLot_0_ok 1 rfl
theorem dX8_noLot_2 : decode cX8_noLot 2 = .ok (.lconst 0, 1) := dg dtX8_noLot_0_ok 2 rfl
theorem dX8_noLot_3 : decode cX8_noLot 3 = .ok (.aload_n 0, 1) := dg dtX8_noLot_0_ok 3 rfl
theorem dX8_noLot_4 : decode cX8_noLot 4 = .ok (.getfield 7, 3) := dg dtX8_noLot_0_ok 4 rfl
theorem dX8_noLot_7 : decode cX8_noLot 7 = .ok (.iconst 2, 1) := dg dtX8_noLot_0_ok 5 rfl
theorem dX8_noLot_8 : decode cX8_noLot 8 = .ok (.laload, 1) := dg dtX8_noLot_0_ok 6 rfl
theorem dX8_noLot_9 : decode cX8_noLot 9 = .ok (.lconst 1, 1) := dg dtX8_noLot_0_ok 7 rfl
theorem dX8_noLot_10 : decode cX8_noLot 10 = .ok (.lsub, 1) := dg dtX8_noLot_0_ok 8 rfl
theorem dX8_noLot_11 : decode cX8_noLot 11 = .ok (.invokestatic 47, 3) := dg dtX8_noLot_0_ok 9 rfl
theorem dX8_noLot_14 : decode cX8_noLot 14 = .ok (.ifCond .ne 7, 3) := dg dtX8_noLot_0_ok 10 rfl
theorem dX8_noLot_17 : decode cX8_noLot 17 = .ok (.iconst 1, 1) := dg dtX8_noLot_0_ok 11 rfl
theorem dX8_noLot_18 : decode cX8_noLot 18 = .ok (.goto 4, 3) := dg dtX8_noLot_0_ok 12 rfl
theorem dX8_noLot_21 : decode cX8_noLot 21 = .ok (.iconst 0, 1) := dg dtX8_noLot_0_ok 13 rfl
theorem dX8_noLot_22 : decode cX8_noLot 22 = .ok (.ireturn, 1) := dg dtX8_noLot_0_ok 14 rfl
def dtX8_noExport_0 : List (Nat × Instr × Nat) := [(0, .iload_n 1, 1), (1, .i2l, 1), (2, .lconst 0, 1), (3, .aload_n 0, 1), (4, .getfield 7, 3), (7, .iconst 3, 1), (8, .laload, 1), (9, .lconst 1, 1), (10, .lsub, 1), (11, .invokestatic 47, 3), (14, .ifCond .ne 7, 3), (17, .iconst 1, 1), (18, .goto 4, 3), (21, .iconst 0, 1), (22, .ireturn, 1)]
theorem dtX8_noExport_0_ok : ∀ q ∈ dtX8_noExport_0, decode cX8_noExport q.1 = .ok q.2 := by decide +kernel
theorem dX8_noExport_0 : decode cX8_noExport 0 = .ok (.iload_n 1, 1) := dg dtX8_noExport_0_ok 0 rfl
theorem dX8_noExport_1 : decode cX8_noExport 1 = .ok (.i2l, 1) := dg dtX8_noExport_0_ok 1 rfl
theorem dX8_noExport_2 : decode cX8_noExport 2 = .ok (.lconst 0, 1) := dg dtX8_noExport_0_ok 2 rfl
theorem dX8_noExport_3 : decode cX8_noExport 3 = .ok (.aload_n 0, 1) := dg dtX8_noExport_0_ok 3 rfl
theorem dX8_noExport_4 : decode cX8_noExport 4 = .ok (.getfield 7, 3) := dg dtX8_noExport_0_ok 4 rfl
theorem dX8_noExport_7 : decode cX8_noExport 7 = .ok (.iconst 3, 1) := dg dtX8_noExport_0_ok 5 rfl
theorem dX8_noExport_8 : decode cX8_noExport 8 = .ok (.laload, 1) := dg dtX8_noExport_0_ok 6 rfl
theorem dX8_noExport_9 : decode cX8_noExport 9 = .ok (.lconst 1, 1) := dg dtX8_noExport_0_ok 7 rfl
theorem dX8_noExport_10 : decode cX8_noExport 10 = .ok (.lsub, 1) := dg dtX8_noExport_0_ok 8 rfl
theorem dX8_noExport_11 : decode cX8_noExport 11 = .ok (.invokestatic 47, 3) := dg dtX8_noExport_0_ok 9 rfl
theorem dX8_noExport_14 : decode cX8_noExport 14 = .ok (.ifCond .ne 7, 3) := dg dtX8_noExport_0_ok 10 rfl
theorem dX8_noExport_17 : decode cX8_noExport 17 = .ok (.iconst 1, 1) := dg dtX8_noExport_0_ok 11 rfl
theorem dX8_noExport_18 : decode cX8_noExport 18 = .ok (.goto 4, 3) := dg dtX8_noExport_0_ok 12 rfl
theorem dX8_noExport_21 : decode cX8_noExport 21 = .ok (.iconst 0, 1) := dg dtX8_noExport_0_ok 13 rfl
theorem dX8_noExport_22 : decode cX8_noExport 22 = .ok (.ireturn, 1) := dg dtX8_noExport_0_ok 14 rfl
def dtX8_noKind_0 : List (Nat × Instr × Nat) := [(0, .iload_n 0, 1), (1, .i2l, 1), (2, .lconst 0, 1), (3, .ldc2_w 63, 3), (6, .invokestatic 47, 3), (9, .ifCond .ne 7, 3), (12, .iconst 1, 1), (13, .goto 4, 3), (16, .iconst 0, 1), (17, .ireturn, 1)]
theorem dtX8_noKind_0_ok : ∀ q ∈ dtX8_noKind_0, decode cX8_noKind q.1 = .ok q.2 := by decide +kernel
theorem dX8_noKind_0 : decode cX8_noKind 0 = .ok (.iload_n 0, 1) := dg dtX8_noKind_0_ok 0 rfl
theorem dX8_noKind_1 : decode cX8_noKind 1 = .ok (.i2l, 1) := dg dtX8_noKind_0_ok 1 rfl
theorem dX8_noKind_2 : decode cX8_noKind 2 = .ok (.lconst 0, 1) := dg dtX8_noKind_0_ok 2 rfl
theorem dX8_noKind_3 : decode cX8_noKind 3 = .ok (.ldc2_w 63, 3) := dg dtX8_noKind_0_ok 3 rfl
theorem dX8_noKind_6 : decode cX8_noKind 6 = .ok (.invokestatic 47, 3) := dg dtX8_noKind_0_ok 4 rfl
theorem dX8_noKind_9 : decode cX8_noKind 9 = .ok (.ifCond .ne 7, 3) := dg dtX8_noKind_0_ok 5 rfl
theorem dX8_noKind_12 : decode cX8_noKind 12 = .ok (.iconst 1, 1) := dg dtX8_noKind_0_ok 6 rfl
theorem dX8_noKind_13 : decode cX8_noKind 13 = .ok (.goto 4, 3) := dg dtX8_noKind_0_ok 7 rfl
theorem dX8_noKind_16 : decode cX8_noKind 16 = .ok (.iconst 0, 1) := dg dtX8_noKind_0_ok 8 rfl
theorem dX8_noKind_17 : decode cX8_noKind 17 = .ok (.ireturn, 1) := dg dtX8_noKind_0_ok 9 rfl
def dtX8_ownerAt_0 : List (Nat × Instr × Nat) := [(0, .bipush 20, 2), (2, .iconst 4, 1), (3, .iload_n 0, 1), (4, .imul, 1), (5, .iadd, 1), (6, .ireturn, 1)]
theorem dtX8_ownerAt_0_ok : ∀ q ∈ dtX8_ownerAt_0, decode cX8_ownerAt q.1 = .ok q.2 := by decide +kernel
theorem dX8_ownerAt_0 : decode cX8_ownerAt 0 = .ok (.bipush 20, 2) := dg dtX8_ownerAt_0_ok 0 rfl
theorem dX8_ownerAt_2 : decode cX8_ownerAt 2 = .ok (.iconst 4, 1) := dg dtX8_ownerAt_0_ok 1 rfl
theorem dX8_ownerAt_3 : decode cX8_ownerAt 3 = .ok (.iload_n 0, 1) := dg dtX8_ownerAt_0_ok 2 rfl
theorem dX8_ownerAt_4 : decode cX8_ownerAt 4 = .ok (.imul, 1) := dg dtX8_ownerAt_0_ok 3 rfl
theorem dX8_ownerAt_5 : decode cX8_ownerAt 5 = .ok (.iadd, 1) := dg dtX8_ownerAt_0_ok 4 rfl
theorem dX8_ownerAt_6 : decode cX8_ownerAt 6 = .ok (.ireturn, 1) := dg dtX8_ownerAt_0_ok 5 rfl
def dtX8_lotAt_0 : List (Nat × Instr × Nat) := [(0, .bipush 40, 2), (2, .bipush 11, 2), (4, .iload_n 0, 1), (5, .imul, 1), (6, .iadd, 1), (7, .ireturn, 1)]
theorem dtX8_lotAt_0_ok : ∀ q ∈ dtX8_lotAt_0, decode cX8_lotAt q.1 = .ok q.2 := by decide +kernel
theorem dX8_lotAt_0 : decode cX8_lotAt 0 = .ok (.bipush 40, 2) := dg dtX8_lotAt_0_ok 0 rfl
theorem dX8_lotAt_2 : decode cX8_lotAt 2 = .ok (.bipush 11, 2) := dg dtX8_lotAt_0_ok 1 rfl
theorem dX8_lotAt_4 : decode cX8_lotAt 4 = .ok (.iload_n 0, 1) := dg dtX8_lotAt_0_ok 2 rfl
theorem dX8_lotAt_5 : decode cX8_lotAt 5 = .ok (.imul, 1) := dg dtX8_lotAt_0_ok 3 rfl
theorem dX8_lotAt_6 : decode cX8_lotAt 6 = .ok (.iadd, 1) := dg dtX8_lotAt_0_ok 4 rfl
theorem dX8_lotAt_7 : decode cX8_lotAt 7 = .ok (.ireturn, 1) := dg dtX8_lotAt_0_ok 5 rfl
def dtX8_exportAt_0 : List (Nat × Instr × Nat) := [(0, .sipush 370, 3), (3, .iconst 5, 1), (4, .iload_n 0, 1), (5, .imul, 1), (6, .iadd, 1), (7, .ireturn, 1)]
theorem dtX8_exportAt_0_ok : ∀ q ∈ dtX8_exportAt_0, decode cX8_exportAt q.1 = .ok q.2 := by decide +kernel
theorem dX8_exportAt_0 : decode cX8_exportAt 0 = .ok (.sipush 370, 3) := dg dtX8_exportAt_0_ok 0 rfl
theorem dX8_exportAt_3 : decode cX8_exportAt 3 = .ok (.iconst 5, 1) := dg dtX8_exportAt_0_ok 1 rfl
theorem dX8_exportAt_4 : decode cX8_exportAt 4 = .ok (.iload_n 0, 1) := dg dtX8_exportAt_0_ok 2 rfl
theorem dX8_exportAt_5 : decode cX8_exportAt 5 = .ok (.imul, 1) := dg dtX8_exportAt_0_ok 3 rfl
theorem dX8_exportAt_6 : decode cX8_exportAt 6 = .ok (.iadd, 1) := dg dtX8_exportAt_0_ok 4 rfl
theorem dX8_exportAt_7 : decode cX8_exportAt 7 = .ok (.ireturn, 1) := dg dtX8_exportAt_0_ok 5 rfl
def dtX8_units_0 : List (Nat × Instr × Nat) := [(0, .aload_n 0, 1), (1, .getfield 7, 3), (4, .iload_n 1, 1), (5, .invokestatic 65, 3), (8, .iconst 2, 1), (9, .iadd, 1), (10, .laload, 1), (11, .aload_n 0, 1), (12, .getfield 7, 3), (15, .iload_n 1, 1), (16, .invokestatic 65, 3), (19, .bipush 7, 2), (21, .iadd, 1), (22, .laload, 1), (23, .lsub, 1), (24, .lreturn, 1)]
theorem dtX8_units_0_ok : ∀ q ∈ dtX8_units_0, decode cX8_units q.1 = .ok q.2 := by decide +kernel
theorem dX8_units_0 : decode cX8_units 0 = .ok (.aload_n 0, 1) := dg dtX8_units_0_ok 0 rfl
theorem dX8_units_1 : decode cX8_units 1 = .ok (.getfield 7, 3) := dg dtX8_units_0_ok 1 rfl
theorem dX8_units_4 : decode cX8_units 4 = .ok (.iload_n 1, 1) := dg dtX8_units_0_ok 2 rfl
theorem dX8_units_5 : decode cX8_units 5 = .ok (.invokestatic 65, 3) := dg dtX8_units_0_ok 3 rfl
theorem dX8_units_8 : decode cX8_units 8 = .ok (.iconst 2, 1) := dg dtX8_units_0_ok 4 rfl
theorem dX8_units_9 : decode cX8_units 9 = .ok (.iadd, 1) := dg dtX8_units_0_ok 5 rfl
theorem dX8_units_10 : decode cX8_units 10 = .ok (.laload, 1) := dg dtX8_units_0_ok 6 rfl
theorem dX8_units_11 : decode cX8_units 11 = .ok (.aload_n 0, 1) := dg dtX8_units_0_ok 7 rfl
theorem dX8_units_12 : decode cX8_units 12 = .ok (.getfield 7, 3) := dg dtX8_units_0_ok 8 rfl
theorem dX8_units_15 : decode cX8_units 15 = .ok (.iload_n 1, 1) := dg dtX8_units_0_ok 9 rfl
theorem dX8_units_16 : decode cX8_units 16 = .ok (.invokestatic 65, 3) := dg dtX8_units_0_ok 10 rfl
theorem dX8_units_19 : decode cX8_units 19 = .ok (.bipush 7, 2) := dg dtX8_units_0_ok 11 rfl
theorem dX8_units_21 : decode cX8_units 21 = .ok (.iadd, 1) := dg dtX8_units_0_ok 12 rfl
theorem dX8_units_22 : decode cX8_units 22 = .ok (.laload, 1) := dg dtX8_units_0_ok 13 rfl
theorem dX8_units_23 : decode cX8_units 23 = .ok (.lsub, 1) := dg dtX8_units_0_ok 14 rfl
theorem dX8_units_24 : decode cX8_units 24 = .ok (.lreturn, 1) := dg dtX8_units_0_ok 15 rfl
def dtX8_duty_0 : List (Nat × Instr × Nat) := [(0, .aload_n 0, 1), (1, .getfield 7, 3), (4, .iload_n 1, 1), (5, .invokestatic 65, 3), (8, .bipush 6, 2), (10, .iadd, 1), (11, .laload, 1), (12, .lstore 6, 2), (14, .aload_n 0, 1), (15, .getfield 7, 3), (18, .iload_n 1, 1), (19, .invokestatic 65, 3), (22, .iconst 2, 1), (23, .iadd, 1), (24, .laload, 1), (25, .lstore 8, 2), (27, .lload 6, 2), (29, .lload_n 2, 1), (30, .lload 4, 2), (32, .ladd, 1), (33, .lmul, 1), (34, .lload 8, 2), (36, .ldiv, 1), (37, .lload 6, 2), (39, .lload_n 2, 1), (40, .lmul, 1), (41, .lload 8, 2), (43, .ldiv, 1), (44, .lsub, 1), (45, .lreturn, 1)]
theorem dtX8_duty_0_ok : ∀ q ∈ dtX8_duty_0, decode cX8_duty q.1 = .ok q.2 := by decide +kernel
theorem dX8_duty_0 : decode cX8_duty 0 = .ok (.aload_n 0, 1) := dg dtX8_duty_0_ok 0 rfl
theorem dX8_duty_1 : decode cX8_duty 1 = .ok (.getfield 7, 3) := dg dtX8_duty_0_ok 1 rfl
theorem dX8_duty_4 : decode cX8_duty 4 = .ok (.iload_n 1, 1) := dg dtX8_duty_0_ok 2 rfl
theorem dX8_duty_5 : decode cX8_duty 5 = .ok (.invokestatic 65, 3) := dg dtX8_duty_0_ok 3 rfl
theorem dX8_duty_8 : decode cX8_duty 8 = .ok (.bipush 6, 2) := dg dtX8_duty_0_ok 4 rfl
theorem dX8_duty_10 : decode cX8_duty 10 = .ok (.iadd, 1) := dg dtX8_duty_0_ok 5 rfl
theorem dX8_duty_11 : decode cX8_duty 11 = .ok (.laload, 1) := dg dtX8_duty_0_ok 6 rfl
theorem dX8_duty_12 : decode cX8_duty 12 = .ok (.lstore 6, 2) := dg dtX8_duty_0_ok 7 rfl
theorem dX8_duty_14 : decode cX8_duty 14 = .ok (.aload_n 0, 1) := dg dtX8_duty_0_ok 8 rfl
theorem dX8_duty_15 : decode cX8_duty 15 = .ok (.getfield 7, 3) := dg dtX8_duty_0_ok 9 rfl
theorem dX8_duty_18 : decode cX8_duty 18 = .ok (.iload_n 1, 1) := dg dtX8_duty_0_ok 10 rfl
theorem dX8_duty_19 : decode cX8_duty 19 = .ok (.invokestatic 65, 3) := dg dtX8_duty_0_ok 11 rfl
theorem dX8_duty_22 : decode cX8_duty 22 = .ok (.iconst 2, 1) := dg dtX8_duty_0_ok 12 rfl
theorem dX8_duty_23 : decode cX8_duty 23 = .ok (.iadd, 1) := dg dtX8_duty_0_ok 13 rfl
theorem dX8_duty_24 : decode cX8_duty 24 = .ok (.laload, 1) := dg dtX8_duty_0_ok 14 rfl
theorem dX8_duty_25 : decode cX8_duty 25 = .ok (.lstore 8, 2) := dg dtX8_duty_0_ok 15 rfl
theorem dX8_duty_27 : decode cX8_duty 27 = .ok (.lload 6, 2) := dg dtX8_duty_0_ok 16 rfl
theorem dX8_duty_29 : decode cX8_duty 29 = .ok (.lload_n 2, 1) := dg dtX8_duty_0_ok 17 rfl
theorem dX8_duty_30 : decode cX8_duty 30 = .ok (.lload 4, 2) := dg dtX8_duty_0_ok 18 rfl
theorem dX8_duty_32 : decode cX8_duty 32 = .ok (.ladd, 1) := dg dtX8_duty_0_ok 19 rfl
theorem dX8_duty_33 : decode cX8_duty 33 = .ok (.lmul, 1) := dg dtX8_duty_0_ok 20 rfl
theorem dX8_duty_34 : decode cX8_duty 34 = .ok (.lload 8, 2) := dg dtX8_duty_0_ok 21 rfl
theorem dX8_duty_36 : decode cX8_duty 36 = .ok (.ldiv, 1) := dg dtX8_duty_0_ok 22 rfl
theorem dX8_duty_37 : decode cX8_duty 37 = .ok (.lload 6, 2) := dg dtX8_duty_0_ok 23 rfl
theorem dX8_duty_39 : decode cX8_duty 39 = .ok (.lload_n 2, 1) := dg dtX8_duty_0_ok 24 rfl
theorem dX8_duty_40 : decode cX8_duty 40 = .ok (.lmul, 1) := dg dtX8_duty_0_ok 25 rfl
theorem dX8_duty_41 : decode cX8_duty 41 = .ok (.lload 8, 2) := dg dtX8_duty_0_ok 26 rfl
theorem dX8_duty_43 : decode cX8_duty 43 = .ok (.ldiv, 1) := dg dtX8_duty_0_ok 27 rfl
theorem dX8_duty_44 : decode cX8_duty 44 = .ok (.lsub, 1) := dg dtX8_duty_0_ok 28 rfl
theorem dX8_duty_45 : decode cX8_duty 45 = .ok (.lreturn, 1) := dg dtX8_duty_0_ok 29 rfl
def dtX8_dutyNow_0 : List (Nat × Instr × Nat) := [(0, .aload_n 0, 1), (1, .iload_n 1, 1), (2, .aload_n 0, 1), (3, .getfield 7, 3), (6, .iload_n 1, 1), (7, .invokestatic 65, 3), (10, .bipush 7, 2), (12, .iadd, 1), (13, .laload, 1), (14, .lload_n 2, 1), (15, .invokevirtual 68, 3), (18, .lreturn, 1)]
theorem dtX8_dutyNow_0_ok : ∀ q ∈ dtX8_dutyNow_0, decode cX8_dutyNow q.1 = .ok q.2 := by decide +kernel
theorem dX8_dutyNow_0 : decode cX8_dutyNow 0 = .ok (.aload_n 0, 1) := dg dtX8_dutyNow_0_ok 0 rfl
theorem dX8_dutyNow_1 : decode cX8_dutyNow 1 = .ok (.iload_n 1, 1) := dg dtX8_dutyNow_0_ok 1 rfl
theorem dX8_dutyNow_2 : decode cX8_dutyNow 2 = .ok (.aload_n 0, 1) := dg dtX8_dutyNow_0_ok 2 rfl
theorem dX8_dutyNow_3 : decode cX8_dutyNow 3 = .ok (.getfield 7, 3) := dg dtX8_dutyNow_0_ok 3 rfl
theorem dX8_dutyNow_6 : decode cX8_dutyNow 6 = .ok (.iload_n 1, 1) := dg dtX8_dutyNow_0_ok 4 rfl
theorem dX8_dutyNow_7 : decode cX8_dutyNow 7 = .ok (.invokestatic 65, 3) := dg dtX8_dutyNow_0_ok 5 rfl
theorem dX8_dutyNow_10 : decode cX8_dutyNow 10 = .ok (.bipush 7, 2) := dg dtX8_dutyNow_0_ok 6 rfl
theorem dX8_dutyNow_12 : decode cX8_dutyNow 12 = .ok (.iadd, 1) := dg dtX8_dutyNow_0_ok 7 rfl
theorem dX8_dutyNow_13 : decode cX8_dutyNow 13 = .ok (.laload, 1) := dg dtX8_dutyNow_0_ok 8 rfl
theorem dX8_dutyNow_14 : decode cX8_dutyNow 14 = .ok (.lload_n 2, 1) := dg dtX8_dutyNow_0_ok 9 rfl
theorem dX8_dutyNow_15 : decode cX8_dutyNow 15 = .ok (.invokevirtual 68, 3) := dg dtX8_dutyNow_0_ok 10 rfl
theorem dX8_dutyNow_18 : decode cX8_dutyNow 18 = .ok (.lreturn, 1) := dg dtX8_dutyNow_0_ok 11 rfl
def dtX8_waits_0 : List (Nat × Instr × Nat) := [(0, .aload_n 0, 1), (1, .getfield 7, 3), (4, .iload_n 1, 1), (5, .invokestatic 72, 3), (8, .iconst 4, 1), (9, .iadd, 1), (10, .laload, 1), (11, .lconst 0, 1), (12, .lcmp, 1), (13, .ifCond .ne 7, 3), (16, .iconst 1, 1), (17, .goto 4, 3), (20, .iconst 0, 1), (21, .ireturn, 1)]
theorem dtX8_waits_0_ok : ∀ q ∈ dtX8_waits_0, decode cX8_waits q.1 = .ok q.2 := by decide +kernel
theorem dX8_waits_0 : decode cX8_waits 0 = .ok (.aload_n 0, 1) := dg dtX8_waits_0_ok 0 rfl
theorem dX8_waits_1 : decode cX8_waits 1 = .ok (.getfield 7, 3) := dg dtX8_waits_0_ok 1 rfl
theorem dX8_waits_4 : decode cX8_waits 4 = .ok (.iload_n 1, 1) := dg dtX8_waits_0_ok 2 rfl
theorem dX8_waits_5 : decode cX8_waits 5 = .ok (.invokestatic 72, 3) := dg dtX8_waits_0_ok 3 rfl
theorem dX8_waits_8 : decode cX8_waits 8 = .ok (.iconst 4, 1) := dg dtX8_waits_0_ok 4 rfl
theorem dX8_waits_9 : decode cX8_waits 9 = .ok (.iadd, 1) := dg dtX8_waits_0_ok 5 rfl
theorem dX8_waits_10 : decode cX8_waits 10 = .ok (.laload, 1) := dg dtX8_waits_0_ok 6 rfl
theorem dX8_waits_11 : decode cX8_waits 11 = .ok (.lconst 0, 1) := dg dtX8_waits_0_ok 7 rfl
theorem dX8_waits_12 : decode cX8_waits 12 = .ok (.lcmp, 1) := dg dtX8_waits_0_ok 8 rfl
theorem dX8_waits_13 : decode cX8_waits 13 = .ok (.ifCond .ne 7, 3) := dg dtX8_waits_0_ok 9 rfl
theorem dX8_waits_16 : decode cX8_waits 16 = .ok (.iconst 1, 1) := dg dtX8_waits_0_ok 10 rfl
theorem dX8_waits_17 : decode cX8_waits 17 = .ok (.goto 4, 3) := dg dtX8_waits_0_ok 11 rfl
theorem dX8_waits_20 : decode cX8_waits 20 = .ok (.iconst 0, 1) := dg dtX8_waits_0_ok 12 rfl
theorem dX8_waits_21 : decode cX8_waits 21 = .ok (.ireturn, 1) := dg dtX8_waits_0_ok 13 rfl
def dtX8_waiting_0 : List (Nat × Instr × Nat) := [(0, .lconst 0, 1), (1, .lstore_n 3, 1), (2, .iconst 0, 1), (3, .istore 5, 2), (5, .iload 5, 2), (7, .i2l, 1), (8, .aload_n 0, 1), (9, .getfield 7, 3), (12, .iconst 3, 1), (13, .laload, 1), (14, .lcmp, 1), (15, .ifCond .ge 53, 3), (18, .lload_n 3, 1), (19, .aload_n 0, 1), (20, .iload 5, 2), (22, .invokevirtual 75, 3), (25, .ifCond .eq 34, 3), (28, .aload_n 0, 1), (29, .getfield 7, 3), (32, .iload 5, 2), (34, .invokestatic 72, 3), (37, .laload, 1), (38, .iload_n 1, 1), (39, .i2l, 1), (40, .lcmp, 1), (41, .ifCond .ne 18, 3), (44, .aload_n 0, 1), (45, .getfield 7, 3), (48, .iload 5, 2), (50, .invokestatic 72, 3), (53, .iload_n 2, 1), (54, .iadd, 1), (55, .laload, 1), (56, .goto 4, 3), (59, .lconst 0, 1), (60, .ladd, 1), (61, .lstore_n 3, 1), (62, .iinc 5 1, 3), (65, .goto (-60), 3), (68, .lload_n 3, 1), (69, .lreturn, 1)]
theorem dtX8_waiting_0_ok : ∀ q ∈ dtX8_waiting_0, decode cX8_waiting q.1 = .ok q.2 := by decide +kernel
theorem dX8_waiting_0 : decode cX8_waiting 0 = .ok (.lconst 0, 1) := dg dtX8_waiting_0_ok 0 rfl
theorem dX8_waiting_1 : decode cX8_waiting 1 = .ok (.lstore_n 3, 1) := dg dtX8_waiting_0_ok 1 rfl
theorem dX8_waiting_2 : decode cX8_waiting 2 = .ok (.iconst 0, 1) := dg dtX8_waiting_0_ok 2 rfl
theorem dX8_waiting_3 : decode cX8_waiting 3 = .ok (.istore 5, 2) := dg dtX8_waiting_0_ok 3 rfl
theorem dX8_waiting_5 : decode cX8_waiting 5 = .ok (.iload 5, 2) := dg dtX8_waiting_0_ok 4 rfl
theorem dX8_waiting_7 : decode cX8_waiting 7 = .ok (.i2l, 1) := dg dtX8_waiting_0_ok 5 rfl
theorem dX8_waiting_8 : decode cX8_waiting 8 = .ok (.aload_n 0, 1) := dg dtX8_waiting_0_ok 6 rfl
theorem dX8_waiting_9 : decode cX8_waiting 9 = .ok (.getfield 7, 3) := dg dtX8_waiting_0_ok 7 rfl
theorem dX8_waiting_12 : decode cX8_waiting 12 = .ok (.iconst 3, 1) := dg dtX8_waiting_0_ok 8 rfl
theorem dX8_waiting_13 : decode cX8_waiting 13 = .ok (.laload, 1) := dg dtX8_waiting_0_ok 9 rfl
theorem dX8_waiting_14 : decode cX8_waiting 14 = .ok (.lcmp, 1) := dg dtX8_waiting_0_ok 10 rfl
theorem dX8_waiting_15 : decode cX8_waiting 15 = .ok (.ifCond .ge 53, 3) := dg dtX8_waiting_0_ok 11 rfl
theorem dX8_waiting_18 : decode cX8_waiting 18 = .ok (.lload_n 3, 1) := dg dtX8_waiting_0_ok 12 rfl
theorem dX8_waiting_19 : decode cX8_waiting 19 = .ok (.aload_n 0, 1) := dg dtX8_waiting_0_ok 13 rfl
theorem dX8_waiting_20 : decode cX8_waiting 20 = .ok (.iload 5, 2) := dg dtX8_waiting_0_ok 14 rfl
theorem dX8_waiting_22 : decode cX8_waiting 22 = .ok (.invokevirtual 75, 3) := dg dtX8_waiting_0_ok 15 rfl
theorem dX8_waiting_25 : decode cX8_waiting 25 = .ok (.ifCond .eq 34, 3) := dg dtX8_waiting_0_ok 16 rfl
theorem dX8_waiting_28 : decode cX8_waiting 28 = .ok (.aload_n 0, 1) := dg dtX8_waiting_0_ok 17 rfl
theorem dX8_waiting_29 : decode cX8_waiting 29 = .ok (.getfield 7, 3) := dg dtX8_waiting_0_ok 18 rfl
theorem dX8_waiting_32 : decode cX8_waiting 32 = .ok (.iload 5, 2) := dg dtX8_waiting_0_ok 19 rfl
theorem dX8_waiting_34 : decode cX8_waiting 34 = .ok (.invokestatic 72, 3) := dg dtX8_waiting_0_ok 20 rfl
theorem dX8_waiting_37 : decode cX8_waiting 37 = .ok (.laload, 1) := dg dtX8_waiting_0_ok 21 rfl
theorem dX8_waiting_38 : decode cX8_waiting 38 = .ok (.iload_n 1, 1) := dg dtX8_waiting_0_ok 22 rfl
theorem dX8_waiting_39 : decode cX8_waiting 39 = .ok (.i2l, 1) := dg dtX8_waiting_0_ok 23 rfl
theorem dX8_waiting_40 : decode cX8_waiting 40 = .ok (.lcmp, 1) := dg dtX8_waiting_0_ok 24 rfl
theorem dX8_waiting_41 : decode cX8_waiting 41 = .ok (.ifCond .ne 18, 3) := dg dtX8_waiting_0_ok 25 rfl
theorem dX8_waiting_44 : decode cX8_waiting 44 = .ok (.aload_n 0, 1) := dg dtX8_waiting_0_ok 26 rfl
theorem dX8_waiting_45 : decode cX8_waiting 45 = .ok (.getfield 7, 3) := dg dtX8_waiting_0_ok 27 rfl
theorem dX8_waiting_48 : decode cX8_waiting 48 = .ok (.iload 5, 2) := dg dtX8_waiting_0_ok 28 rfl
theorem dX8_waiting_50 : decode cX8_waiting 50 = .ok (.invokestatic 72, 3) := dg dtX8_waiting_0_ok 29 rfl
theorem dX8_waiting_53 : decode cX8_waiting 53 = .ok (.iload_n 2, 1) := dg dtX8_waiting_0_ok 30 rfl
theorem dX8_waiting_54 : decode cX8_waiting 54 = .ok (.iadd, 1) := dg dtX8_waiting_0_ok 31 rfl
theorem dX8_waiting_55 : decode cX8_waiting 55 = .ok (.laload, 1) := dg dtX8_waiting_0_ok 32 rfl
theorem dX8_waiting_56 : decode cX8_waiting 56 = .ok (.goto 4, 3) := dg dtX8_waiting_0_ok 33 rfl
theorem dX8_waiting_59 : decode cX8_waiting 59 = .ok (.lconst 0, 1) := dg dtX8_waiting_0_ok 34 rfl
theorem dX8_waiting_60 : decode cX8_waiting 60 = .ok (.ladd, 1) := dg dtX8_waiting_0_ok 35 rfl
theorem dX8_waiting_61 : decode cX8_waiting 61 = .ok (.lstore_n 3, 1) := dg dtX8_waiting_0_ok 36 rfl
theorem dX8_waiting_62 : decode cX8_waiting 62 = .ok (.iinc 5 1, 3) := dg dtX8_waiting_0_ok 37 rfl
theorem dX8_waiting_65 : decode cX8_waiting 65 = .ok (.goto (-60), 3) := dg dtX8_waiting_0_ok 38 rfl
theorem dX8_waiting_68 : decode cX8_waiting 68 = .ok (.lload_n 3, 1) := dg dtX8_waiting_0_ok 39 rfl
theorem dX8_waiting_69 : decode cX8_waiting 69 = .ok (.lreturn, 1) := dg dtX8_waiting_0_ok 40 rfl
def dtX8_suspended_0 : List (Nat × Instr × Nat) := [(0, .aload_n 0, 1), (1, .iload_n 1, 1), (2, .aload_n 0, 1), (3, .iload_n 1, 1), (4, .invokevirtual 79, 3), (7, .invokevirtual 83, 3), (10, .aload_n 0, 1), (11, .iload_n 1, 1), (12, .iconst 2, 1), (13, .invokevirtual 87, 3), (16, .ladd, 1), (17, .lreturn, 1)]
theorem dtX8_suspended_0_ok : ∀ q ∈ dtX8_suspended_0, decode cX8_suspended q.1 = .ok q.2 := by decide +kernel
theorem dX8_suspended_0 : decode cX8_suspended 0 = .ok (.aload_n 0, 1) := dg dtX8_suspended_0_ok 0 rfl
theorem dX8_suspended_1 : decode cX8_suspended 1 = .ok (.iload_n 1, 1) := dg dtX8_suspended_0_ok 1 rfl
theorem dX8_suspended_2 : decode cX8_suspended 2 = .ok (.aload_n 0, 1) := dg dtX8_suspended_0_ok 2 rfl
theorem dX8_suspended_3 : decode cX8_suspended 3 = .ok (.iload_n 1, 1) := dg dtX8_suspended_0_ok 3 rfl
theorem dX8_suspended_4 : decode cX8_suspended 4 = .ok (.invokevirtual 79, 3) := dg dtX8_suspended_0_ok 4 rfl
theorem dX8_suspended_7 : decode cX8_suspended 7 = .ok (.invokevirtual 83, 3) := dg dtX8_suspended_0_ok 5 rfl
theorem dX8_suspended_10 : decode cX8_suspended 10 = .ok (.aload_n 0, 1) := dg dtX8_suspended_0_ok 6 rfl
theorem dX8_suspended_11 : decode cX8_suspended 11 = .ok (.iload_n 1, 1) := dg dtX8_suspended_0_ok 7 rfl
theorem dX8_suspended_12 : decode cX8_suspended 12 = .ok (.iconst 2, 1) := dg dtX8_suspended_0_ok 8 rfl
theorem dX8_suspended_13 : decode cX8_suspended 13 = .ok (.invokevirtual 87, 3) := dg dtX8_suspended_0_ok 9 rfl
theorem dX8_suspended_16 : decode cX8_suspended 16 = .ok (.ladd, 1) := dg dtX8_suspended_0_ok 10 rfl
theorem dX8_suspended_17 : decode cX8_suspended 17 = .ok (.lreturn, 1) := dg dtX8_suspended_0_ok 11 rfl
def dtX8_use_0 : List (Nat × Instr × Nat) := [(0, .lconst 0, 1), (1, .lstore_n 2, 1), (2, .iconst 0, 1), (3, .istore 4, 2), (5, .iload 4, 2), (7, .i2l, 1), (8, .aload_n 0, 1), (9, .getfield 7, 3), (12, .iconst 2, 1), (13, .laload, 1), (14, .lcmp, 1), (15, .ifCond .ge 38, 3), (18, .lload_n 2, 1), (19, .aload_n 0, 1), (20, .getfield 7, 3), (23, .iload 4, 2), (25, .invokestatic 65, 3), (28, .laload, 1), (29, .iload_n 1, 1), (30, .i2l, 1), (31, .lcmp, 1), (32, .ifCond .ne 12, 3), (35, .aload_n 0, 1), (36, .iload 4, 2), (38, .invokevirtual 91, 3), (41, .goto 4, 3), (44, .lconst 0, 1), (45, .ladd, 1), (46, .lstore_n 2, 1), (47, .iinc 4 1, 3), (50, .goto (-45), 3), (53, .lload_n 2, 1), (54, .lreturn, 1)]
theorem dtX8_use_0_ok : ∀ q ∈ dtX8_use_0, decode cX8_use q.1 = .ok q.2 := by decide +kernel
theorem dX8_use_0 : decode cX8_use 0 = .ok (.lconst 0, 1) := dg dtX8_use_0_ok 0 rfl
theorem dX8_use_1 : decode cX8_use 1 = .ok (.lstore_n 2, 1) := dg dtX8_use_0_ok 1 rfl
theorem dX8_use_2 : decode cX8_use 2 = .ok (.iconst 0, 1) := dg dtX8_use_0_ok 2 rfl
theorem dX8_use_3 : decode cX8_use 3 = .ok (.istore 4, 2) := dg dtX8_use_0_ok 3 rfl
theorem dX8_use_5 : decode cX8_use 5 = .ok (.iload 4, 2) := dg dtX8_use_0_ok 4 rfl
theorem dX8_use_7 : decode cX8_use 7 = .ok (.i2l, 1) := dg dtX8_use_0_ok 5 rfl
theorem dX8_use_8 : decode cX8_use 8 = .ok (.aload_n 0, 1) := dg dtX8_use_0_ok 6 rfl
theorem dX8_use_9 : decode cX8_use 9 = .ok (.getfield 7, 3) := dg dtX8_use_0_ok 7 rfl
theorem dX8_use_12 : decode cX8_use 12 = .ok (.iconst 2, 1) := dg dtX8_use_0_ok 8 rfl
theorem dX8_use_13 : decode cX8_use 13 = .ok (.laload, 1) := dg dtX8_use_0_ok 9 rfl
theorem dX8_use_14 : decode cX8_use 14 = .ok (.lcmp, 1) := dg dtX8_use_0_ok 10 rfl
theorem dX8_use_15 : decode cX8_use 15 = .ok (.ifCond .ge 38, 3) := dg dtX8_use_0_ok 11 rfl
theorem dX8_use_18 : decode cX8_use 18 = .ok (.lload_n 2, 1) := dg dtX8_use_0_ok 12 rfl
theorem dX8_use_19 : decode cX8_use 19 = .ok (.aload_n 0, 1) := dg dtX8_use_0_ok 13 rfl
theorem dX8_use_20 : decode cX8_use 20 = .ok (.getfield 7, 3) := dg dtX8_use_0_ok 14 rfl
theorem dX8_use_23 : decode cX8_use 23 = .ok (.iload 4, 2) := dg dtX8_use_0_ok 15 rfl
theorem dX8_use_25 : decode cX8_use 25 = .ok (.invokestatic 65, 3) := dg dtX8_use_0_ok 16 rfl
theorem dX8_use_28 : decode cX8_use 28 = .ok (.laload, 1) := dg dtX8_use_0_ok 17 rfl
theorem dX8_use_29 : decode cX8_use 29 = .ok (.iload_n 1, 1) := dg dtX8_use_0_ok 18 rfl
theorem dX8_use_30 : decode cX8_use 30 = .ok (.i2l, 1) := dg dtX8_use_0_ok 19 rfl
theorem dX8_use_31 : decode cX8_use 31 = .ok (.lcmp, 1) := dg dtX8_use_0_ok 20 rfl
theorem dX8_use_32 : decode cX8_use 32 = .ok (.ifCond .ne 12, 3) := dg dtX8_use_0_ok 21 rfl
theorem dX8_use_35 : decode cX8_use 35 = .ok (.aload_n 0, 1) := dg dtX8_use_0_ok 22 rfl
theorem dX8_use_36 : decode cX8_use 36 = .ok (.iload 4, 2) := dg dtX8_use_0_ok 23 rfl
theorem dX8_use_38 : decode cX8_use 38 = .ok (.invokevirtual 91, 3) := dg dtX8_use_0_ok 24 rfl
theorem dX8_use_41 : decode cX8_use 41 = .ok (.goto 4, 3) := dg dtX8_use_0_ok 25 rfl
theorem dX8_use_44 : decode cX8_use 44 = .ok (.lconst 0, 1) := dg dtX8_use_0_ok 26 rfl
theorem dX8_use_45 : decode cX8_use 45 = .ok (.ladd, 1) := dg dtX8_use_0_ok 27 rfl
theorem dX8_use_46 : decode cX8_use 46 = .ok (.lstore_n 2, 1) := dg dtX8_use_0_ok 28 rfl
theorem dX8_use_47 : decode cX8_use 47 = .ok (.iinc 4 1, 3) := dg dtX8_use_0_ok 29 rfl
theorem dX8_use_50 : decode cX8_use 50 = .ok (.goto (-45), 3) := dg dtX8_use_0_ok 30 rfl
theorem dX8_use_53 : decode cX8_use 53 = .ok (.lload_n 2, 1) := dg dtX8_use_0_ok 31 rfl
theorem dX8_use_54 : decode cX8_use 54 = .ok (.lreturn, 1) := dg dtX8_use_0_ok 32 rfl
def dtX8_isCovered_0 : List (Nat × Instr × Nat) := [(0, .lload_n 1, 1), (1, .aload_n 0, 1), (2, .getfield 7, 3), (5, .bipush 7, 2), (7, .laload, 1), (8, .lmul, 1), (9, .ldc2_w 34, 3), (12, .ldiv, 1), (13, .lload_n 3, 1), (14, .lcmp, 1), (15, .ifCond .gt 7, 3), (18, .iconst 1, 1), (19, .goto 4, 3), (22, .iconst 0, 1), (23, .ireturn, 1)]
theorem dtX8_isCovered_0_ok : ∀ q ∈ dtX8_isCovered_0, decode cX8_isCovered q.1 = .ok q.2 := by decide +kernel
theorem dX8_isCovered_0 : decode cX8_isCovered 0 = .ok (.lload_n 1, 1) := dg dtX8_isCovered_0_ok 0 rfl
theorem dX8_isCovered_1 : decode cX8_isCovered 1 = .ok (.aload_n 0, 1) := dg dtX8_isCovered_0_ok 1 rfl
theorem dX8_isCovered_2 : decode cX8_isCovered 2 = .ok (.getfield 7, 3) := dg dtX8_isCovered_0_ok 2 rfl
theorem dX8_isCovered_5 : decode cX8_isCovered 5 = .ok (.bipush 7, 2) := dg dtX8_isCovered_0_ok 3 rfl
theorem dX8_isCovered_7 : decode cX8_isCovered 7 = .ok (.laload, 1) := dg dtX8_isCovered_0_ok 4 rfl
theorem dX8_isCovered_8 : decode cX8_isCovered 8 = .ok (.lmul, 1) := dg dtX8_isCovered_0_ok 5 rfl
theorem dX8_isCovered_9 : decode cX8_isCovered 9 = .ok (.ldc2_w 34, 3) := dg dtX8_isCovered_0_ok 6 rfl
theorem dX8_isCovered_12 : decode cX8_isCovered 12 = .ok (.ldiv, 1) := dg dtX8_isCovered_0_ok 7 rfl
theorem dX8_isCovered_13 : decode cX8_isCovered 13 = .ok (.lload_n 3, 1) := dg dtX8_isCovered_0_ok 8 rfl
theorem dX8_isCovered_14 : decode cX8_isCovered 14 = .ok (.lcmp, 1) := dg dtX8_isCovered_0_ok 9 rfl
theorem dX8_isCovered_15 : decode cX8_isCovered 15 = .ok (.ifCond .gt 7, 3) := dg dtX8_isCovered_0_ok 10 rfl
theorem dX8_isCovered_18 : decode cX8_isCovered 18 = .ok (.iconst 1, 1) := dg dtX8_isCovered_0_ok 11 rfl
theorem dX8_isCovered_19 : decode cX8_isCovered 19 = .ok (.goto 4, 3) := dg dtX8_isCovered_0_ok 12 rfl
theorem dX8_isCovered_22 : decode cX8_isCovered 22 = .ok (.iconst 0, 1) := dg dtX8_isCovered_0_ok 13 rfl
theorem dX8_isCovered_23 : decode cX8_isCovered 23 = .ok (.ireturn, 1) := dg dtX8_isCovered_0_ok 14 rfl
def dtX8_take_0 : List (Nat × Instr × Nat) := [(0, .aload_n 0, 1), (1, .getfield 7, 3), (4, .iload_n 1, 1), (5, .invokestatic 65, 3), (8, .bipush 7, 2), (10, .iadd, 1), (11, .dup2, 1), (12, .laload, 1), (13, .lload_n 2, 1), (14, .ladd, 1), (15, .lastore, 1), (16, .return_, 1)]
theorem dtX8_take_0_ok : ∀ q ∈ dtX8_take_0, decode cX8_take q.1 = .ok q.2 := by decide +kernel
theorem dX8_take_0 : decode cX8_take 0 = .ok (.aload_n 0, 1) := dg dtX8_take_0_ok 0 rfl
theorem dX8_take_1 : decode cX8_take 1 = .ok (.getfield 7, 3) := dg dtX8_take_0_ok 1 rfl
theorem dX8_take_4 : decode cX8_take 4 = .ok (.iload_n 1, 1) := dg dtX8_take_0_ok 2 rfl
theorem dX8_take_5 : decode cX8_take 5 = .ok (.invokestatic 65, 3) := dg dtX8_take_0_ok 3 rfl
theorem dX8_take_8 : decode cX8_take 8 = .ok (.bipush 7, 2) := dg dtX8_take_0_ok 4 rfl
theorem dX8_take_10 : decode cX8_take 10 = .ok (.iadd, 1) := dg dtX8_take_0_ok 5 rfl
theorem dX8_take_11 : decode cX8_take 11 = .ok (.dup2, 1) := dg dtX8_take_0_ok 6 rfl
theorem dX8_take_12 : decode cX8_take 12 = .ok (.laload, 1) := dg dtX8_take_0_ok 7 rfl
theorem dX8_take_13 : decode cX8_take 13 = .ok (.lload_n 2, 1) := dg dtX8_take_0_ok 8 rfl
theorem dX8_take_14 : decode cX8_take 14 = .ok (.ladd, 1) := dg dtX8_take_0_ok 9 rfl
theorem dX8_take_15 : decode cX8_take 15 = .ok (.lastore, 1) := dg dtX8_take_0_ok 10 rfl
theorem dX8_take_16 : decode cX8_take 16 = .ok (.return_, 1) := dg dtX8_take_0_ok 11 rfl
def dtX8_pay_0 : List (Nat × Instr × Nat) := [(0, .aload_n 0, 1), (1, .getfield 7, 3), (4, .aload_n 0, 1), (5, .getfield 7, 3), (8, .iload_n 1, 1), (9, .invokestatic 65, 3), (12, .laload, 1), (13, .l2i, 1), (14, .invokestatic 94, 3), (17, .dup2, 1), (18, .laload, 1), (19, .lload_n 2, 1), (20, .lsub, 1), (21, .lastore, 1), (22, .aload_n 0, 1), (23, .getfield 7, 3), (26, .iload_n 1, 1), (27, .invokestatic 65, 3), (30, .bipush 8, 2), (32, .iadd, 1), (33, .dup2, 1), (34, .laload, 1), (35, .lload_n 2, 1), (36, .ladd, 1), (37, .lastore, 1), (38, .return_, 1)]
theorem dtX8_pay_0_ok : ∀ q ∈ dtX8_pay_0, decode cX8_pay q.1 = .ok q.2 := by decide +kernel
theorem dX8_pay_0 : decode cX8_pay 0 = .ok (.aload_n 0, 1) := dg dtX8_pay_0_ok 0 rfl
theorem dX8_pay_1 : decode cX8_pay 1 = .ok (.getfield 7, 3) := dg dtX8_pay_0_ok 1 rfl
theorem dX8_pay_4 : decode cX8_pay 4 = .ok (.aload_n 0, 1) := dg dtX8_pay_0_ok 2 rfl
theorem dX8_pay_5 : decode cX8_pay 5 = .ok (.getfield 7, 3) := dg dtX8_pay_0_ok 3 rfl
theorem dX8_pay_8 : decode cX8_pay 8 = .ok (.iload_n 1, 1) := dg dtX8_pay_0_ok 4 rfl
theorem dX8_pay_9 : decode cX8_pay 9 = .ok (.invokestatic 65, 3) := dg dtX8_pay_0_ok 5 rfl
theorem dX8_pay_12 : decode cX8_pay 12 = .ok (.laload, 1) := dg dtX8_pay_0_ok 6 rfl
theorem dX8_pay_13 : decode cX8_pay 13 = .ok (.l2i, 1) := dg dtX8_pay_0_ok 7 rfl
theorem dX8_pay_14 : decode cX8_pay 14 = .ok (.invokestatic 94, 3) := dg dtX8_pay_0_ok 8 rfl
theorem dX8_pay_17 : decode cX8_pay 17 = .ok (.dup2, 1) := dg dtX8_pay_0_ok 9 rfl
theorem dX8_pay_18 : decode cX8_pay 18 = .ok (.laload, 1) := dg dtX8_pay_0_ok 10 rfl
theorem dX8_pay_19 : decode cX8_pay 19 = .ok (.lload_n 2, 1) := dg dtX8_pay_0_ok 11 rfl
theorem dX8_pay_20 : decode cX8_pay 20 = .ok (.lsub, 1) := dg dtX8_pay_0_ok 12 rfl
theorem dX8_pay_21 : decode cX8_pay 21 = .ok (.lastore, 1) := dg dtX8_pay_0_ok 13 rfl
theorem dX8_pay_22 : decode cX8_pay 22 = .ok (.aload_n 0, 1) := dg dtX8_pay_0_ok 14 rfl
theorem dX8_pay_23 : decode cX8_pay 23 = .ok (.getfield 7, 3) := dg dtX8_pay_0_ok 15 rfl
theorem dX8_pay_26 : decode cX8_pay 26 = .ok (.iload_n 1, 1) := dg dtX8_pay_0_ok 16 rfl
theorem dX8_pay_27 : decode cX8_pay 27 = .ok (.invokestatic 65, 3) := dg dtX8_pay_0_ok 17 rfl
theorem dX8_pay_30 : decode cX8_pay 30 = .ok (.bipush 8, 2) := dg dtX8_pay_0_ok 18 rfl
theorem dX8_pay_32 : decode cX8_pay 32 = .ok (.iadd, 1) := dg dtX8_pay_0_ok 19 rfl
theorem dX8_pay_33 : decode cX8_pay 33 = .ok (.dup2, 1) := dg dtX8_pay_0_ok 20 rfl
theorem dX8_pay_34 : decode cX8_pay 34 = .ok (.laload, 1) := dg dtX8_pay_0_ok 21 rfl
theorem dX8_pay_35 : decode cX8_pay 35 = .ok (.lload_n 2, 1) := dg dtX8_pay_0_ok 22 rfl
theorem dX8_pay_36 : decode cX8_pay 36 = .ok (.ladd, 1) := dg dtX8_pay_0_ok 23 rfl
theorem dX8_pay_37 : decode cX8_pay 37 = .ok (.lastore, 1) := dg dtX8_pay_0_ok 24 rfl
theorem dX8_pay_38 : decode cX8_pay 38 = .ok (.return_, 1) := dg dtX8_pay_0_ok 25 rfl
def dtX8_addOwner_0 : List (Nat × Instr × Nat) := [(0, .aload_n 0, 1), (1, .getfield 7, 3), (4, .iconst 1, 1), (5, .laload, 1), (6, .ldc2_w 63, 3), (9, .lcmp, 1), (10, .ifCond .ne 6, 3), (13, .ldc 97, 2), (15, .ireturn, 1), (16, .aload_n 0, 1), (17, .invokevirtual 56, 3), (20, .aload_n 0, 1), (21, .iconst 1, 1), (22, .invokevirtual 52, 3), (25, .istore_n 1, 1), (26, .iconst 0, 1), (27, .istore_n 2, 1), (28, .iload_n 2, 1), (29, .iconst 4, 1), (30, .if_icmp .ge 21, 3), (33, .aload_n 0, 1), (34, .getfield 7, 3), (37, .iload_n 1, 1), (38, .invokestatic 94, 3), (41, .iload_n 2, 1), (42, .iadd, 1), (43, .lconst 0, 1), (44, .lastore, 1), (45, .iinc 2 1, 3), (48, .goto (-20), 3), (51, .aload_n 0, 1), (52, .getfield 7, 3), (55, .iconst 1, 1), (56, .dup2, 1), (57, .laload, 1), (58, .lconst 1, 1), (59, .ladd, 1), (60, .lastore, 1), (61, .iload_n 1, 1), (62, .ireturn, 1)]
theorem dtX8_addOwner_0_ok : ∀ q ∈ dtX8_addOwner_0, decode cX8_addOwner q.1 = .ok q.2 := by decide +kernel
theorem dX8_addOwner_0 : decode cX8_addOwner 0 = .ok (.aload_n 0, 1) := dg dtX8_addOwner_0_ok 0 rfl
theorem dX8_addOwner_1 : decode cX8_addOwner 1 = .ok (.getfield 7, 3) := dg dtX8_addOwner_0_ok 1 rfl
theorem dX8_addOwner_4 : decode cX8_addOwner 4 = .ok (.iconst 1, 1) := dg dtX8_addOwner_0_ok 2 rfl
theorem dX8_addOwner_5 : decode cX8_addOwner 5 = .ok (.laload, 1) := dg dtX8_addOwner_0_ok 3 rfl
theorem dX8_addOwner_6 : decode cX8_addOwner 6 = .ok (.ldc2_w 63, 3) := dg dtX8_addOwner_0_ok 4 rfl
theorem dX8_addOwner_9 : decode cX8_addOwner 9 = .ok (.lcmp, 1) := dg dtX8_addOwner_0_ok 5 rfl
theorem dX8_addOwner_10 : decode cX8_addOwner 10 = .ok (.ifCond .ne 6, 3) := dg dtX8_addOwner_0_ok 6 rfl
theorem dX8_addOwner_13 : decode cX8_addOwner 13 = .ok (.ldc 97, 2) := dg dtX8_addOwner_0_ok 7 rfl
theorem dX8_addOwner_15 : decode cX8_addOwner 15 = .ok (.ireturn, 1) := dg dtX8_addOwner_0_ok 8 rfl
theorem dX8_addOwner_16 : decode cX8_addOwner 16 = .ok (.aload_n 0, 1) := dg dtX8_addOwner_0_ok 9 rfl
theorem dX8_addOwner_17 : decode cX8_addOwner 17 = .ok (.invokevirtual 56, 3) := dg dtX8_addOwner_0_ok 10 rfl
theorem dX8_addOwner_20 : decode cX8_addOwner 20 = .ok (.aload_n 0, 1) := dg dtX8_addOwner_0_ok 11 rfl
theorem dX8_addOwner_21 : decode cX8_addOwner 21 = .ok (.iconst 1, 1) := dg dtX8_addOwner_0_ok 12 rfl
theorem dX8_addOwner_22 : decode cX8_addOwner 22 = .ok (.invokevirtual 52, 3) := dg dtX8_addOwner_0_ok 13 rfl
theorem dX8_addOwner_25 : decode cX8_addOwner 25 = .ok (.istore_n 1, 1) := dg dtX8_addOwner_0_ok 14 rfl
theorem dX8_addOwner_26 : decode cX8_addOwner 26 = .ok (.iconst 0, 1) := dg dtX8_addOwner_0_ok 15 rfl
theorem dX8_addOwner_27 : decode cX8_addOwner 27 = .ok (.istore_n 2, 1) := dg dtX8_addOwner_0_ok 16 rfl
theorem dX8_addOwner_28 : decode cX8_addOwner 28 = .ok (.iload_n 2, 1) := dg dtX8_addOwner_0_ok 17 rfl
theorem dX8_addOwner_29 : decode cX8_addOwner 29 = .ok (.iconst 4, 1) := dg dtX8_addOwner_0_ok 18 rfl
theorem dX8_addOwner_30 : decode cX8_addOwner 30 = .ok (.if_icmp .ge 21, 3) := dg dtX8_addOwner_0_ok 19 rfl
theorem dX8_addOwner_33 : decode cX8_addOwner 33 = .ok (.aload_n 0, 1) := dg dtX8_addOwner_0_ok 20 rfl
theorem dX8_addOwner_34 : decode cX8_addOwner 34 = .ok (.getfield 7, 3) := dg dtX8_addOwner_0_ok 21 rfl
theorem dX8_addOwner_37 : decode cX8_addOwner 37 = .ok (.iload_n 1, 1) := dg dtX8_addOwner_0_ok 22 rfl
theorem dX8_addOwner_38 : decode cX8_addOwner 38 = .ok (.invokestatic 94, 3) := dg dtX8_addOwner_0_ok 23 rfl
theorem dX8_addOwner_41 : decode cX8_addOwner 41 = .ok (.iload_n 2, 1) := dg dtX8_addOwner_0_ok 24 rfl
theorem dX8_addOwner_42 : decode cX8_addOwner 42 = .ok (.iadd, 1) := dg dtX8_addOwner_0_ok 25 rfl
theorem dX8_addOwner_43 : decode cX8_addOwner 43 = .ok (.lconst 0, 1) := dg dtX8_addOwner_0_ok 26 rfl
theorem dX8_addOwner_44 : decode cX8_addOwner 44 = .ok (.lastore, 1) := dg dtX8_addOwner_0_ok 27 rfl
theorem dX8_addOwner_45 : decode cX8_addOwner 45 = .ok (.iinc 2 1, 3) := dg dtX8_addOwner_0_ok 28 rfl
theorem dX8_addOwner_48 : decode cX8_addOwner 48 = .ok (.goto (-20), 3) := dg dtX8_addOwner_0_ok 29 rfl
theorem dX8_addOwner_51 : decode cX8_addOwner 51 = .ok (.aload_n 0, 1) := dg dtX8_addOwner_0_ok 30 rfl
theorem dX8_addOwner_52 : decode cX8_addOwner 52 = .ok (.getfield 7, 3) := dg dtX8_addOwner_0_ok 31 rfl
theorem dX8_addOwner_55 : decode cX8_addOwner 55 = .ok (.iconst 1, 1) := dg dtX8_addOwner_0_ok 32 rfl
theorem dX8_addOwner_56 : decode cX8_addOwner 56 = .ok (.dup2, 1) := dg dtX8_addOwner_0_ok 33 rfl
theorem dX8_addOwner_57 : decode cX8_addOwner 57 = .ok (.laload, 1) := dg dtX8_addOwner_0_ok 34 rfl
theorem dX8_addOwner_58 : decode cX8_addOwner 58 = .ok (.lconst 1, 1) := dg dtX8_addOwner_0_ok 35 rfl
theorem dX8_addOwner_59 : decode cX8_addOwner 59 = .ok (.ladd, 1) := dg dtX8_addOwner_0_ok 36 rfl
theorem dX8_addOwner_60 : decode cX8_addOwner 60 = .ok (.lastore, 1) := dg dtX8_addOwner_0_ok 37 rfl
theorem dX8_addOwner_61 : decode cX8_addOwner 61 = .ok (.iload_n 1, 1) := dg dtX8_addOwner_0_ok 38 rfl
theorem dX8_addOwner_62 : decode cX8_addOwner 62 = .ok (.ireturn, 1) := dg dtX8_addOwner_0_ok 39 rfl
def dtX8_deposit_0 : List (Nat × Instr × Nat) := [(0, .aload_n 0, 1), (1, .iload_n 1, 1), (2, .invokevirtual 98, 3), (5, .ifCond .eq 6, 3), (8, .ldc 51, 2), (10, .ireturn, 1), (11, .iload_n 2, 1), (12, .i2l, 1), (13, .lconst 1, 1), (14, .ldc2_w 101, 3), (17, .invokestatic 47, 3), (20, .ifCond .ne 6, 3), (23, .ldc 103, 2), (25, .ireturn, 1), (26, .aload_n 0, 1), (27, .invokevirtual 56, 3), (30, .aload_n 0, 1), (31, .getfield 7, 3), (34, .iload_n 1, 1), (35, .invokestatic 94, 3), (38, .iconst 2, 1), (39, .iadd, 1), (40, .laload, 1), (41, .lstore_n 3, 1), (42, .lload_n 3, 1), (43, .iload_n 2, 1), (44, .i2l, 1), (45, .lcmp, 1), (46, .ifCond .ge 7, 3), (49, .lload_n 3, 1), (50, .goto 5, 3), (53, .iload_n 2, 1), (54, .i2l, 1), (55, .lstore 5, 2), (57, .aload_n 0, 1), (58, .getfield 7, 3), (61, .iload_n 1, 1), (62, .invokestatic 94, 3), (65, .iconst 2, 1), (66, .iadd, 1), (67, .dup2, 1), (68, .laload, 1), (69, .lload 5, 2), (71, .lsub, 1), (72, .lastore, 1), (73, .aload_n 0, 1), (74, .getfield 7, 3), (77, .iload_n 1, 1)]
theorem dtX8_deposit_0_ok : ∀ q ∈ dtX8_deposit_0, decode cX8_deposit q.1 = .ok q.2 := by decide +kernel
theorem dX8_deposit_0 : decode cX8_deposit 0 = .ok (.aload_n 0, 1) := dg dtX8_deposit_0_ok 0 rfl
theorem dX8_deposit_1 : decode cX8_deposit 1 = .ok (.iload_n 1, 1) := dg dtX8_deposit_0_ok 1 rfl
theorem dX8_deposit_2 : decode cX8_deposit 2 = .ok (.invokevirtual 98, 3) := dg dtX8_deposit_0_ok 2 rfl
theorem dX8_deposit_5 : decode cX8_deposit 5 = .ok (.ifCond .eq 6, 3) := dg dtX8_deposit_0_ok 3 rfl
theorem dX8_deposit_8 : decode cX8_deposit 8 = .ok (.ldc 51, 2) := dg dtX8_deposit_0_ok 4 rfl
theorem dX8_deposit_10 : decode cX8_deposit 10 = .ok (.ireturn, 1) := dg dtX8_deposit_0_ok 5 rfl
theorem dX8_deposit_11 : decode cX8_deposit 11 = .ok (.iload_n 2, 1) := dg dtX8_deposit_0_ok 6 rfl
theorem dX8_deposit_12 : decode cX8_deposit 12 = .ok (.i2l, 1) := dg dtX8_deposit_0_ok 7 rfl
theorem dX8_deposit_13 : decode cX8_deposit 13 = .ok (.lconst 1, 1) := dg dtX8_deposit_0_ok 8 rfl
theorem dX8_deposit_14 : decode cX8_deposit 14 = .ok (.ldc2_w 101, 3) := dg dtX8_deposit_0_ok 9 rfl
theorem dX8_deposit_17 : decode cX8_deposit 17 = .ok (.invokestatic 47, 3) := dg dtX8_deposit_0_ok 10 rfl
theorem dX8_deposit_20 : decode cX8_deposit 20 = .ok (.ifCond .ne 6, 3) := dg dtX8_deposit_0_ok 11 rfl
theorem dX8_deposit_23 : decode cX8_deposit 23 = .ok (.ldc 103, 2) := dg dtX8_deposit_0_ok 12 rfl
theorem dX8_deposit_25 : decode cX8_deposit 25 = .ok (.ireturn, 1) := dg dtX8_deposit_0_ok 13 rfl
theorem dX8_deposit_26 : decode cX8_deposit 26 = .ok (.aload_n 0, 1) := dg dtX8_deposit_0_ok 14 rfl
theorem dX8_deposit_27 : decode cX8_deposit 27 = .ok (.invokevirtual 56, 3) := dg dtX8_deposit_0_ok 15 rfl
theorem dX8_deposit_30 : decode cX8_deposit 30 = .ok (.aload_n 0, 1) := dg dtX8_deposit_0_ok 16 rfl
theorem dX8_deposit_31 : decode cX8_deposit 31 = .ok (.getfield 7, 3) := dg dtX8_deposit_0_ok 17 rfl
theorem dX8_deposit_34 : decode cX8_deposit 34 = .ok (.iload_n 1, 1) := dg dtX8_deposit_0_ok 18 rfl
theorem dX8_deposit_35 : decode cX8_deposit 35 = .ok (.invokestatic 94, 3) := dg dtX8_deposit_0_ok 19 rfl
theorem dX8_deposit_38 : decode cX8_deposit 38 = .ok (.iconst 2, 1) := dg dtX8_deposit_0_ok 20 rfl
theorem dX8_deposit_39 : decode cX8_deposit 39 = .ok (.iadd, 1) := dg dtX8_deposit_0_ok 21 rfl
theorem dX8_deposit_40 : decode cX8_deposit 40 = .ok (.laload, 1) := dg dtX8_deposit_0_ok 22 rfl
theorem dX8_deposit_41 : decode cX8_deposit 41 = .ok (.lstore_n 3, 1) := dg dtX8_deposit_0_ok 23 rfl
theorem dX8_deposit_42 : decode cX8_deposit 42 = .ok (.lload_n 3, 1) := dg dtX8_deposit_0_ok 24 rfl
theorem dX8_deposit_43 : decode cX8_deposit 43 = .ok (.iload_n 2, 1) := dg dtX8_deposit_0_ok 25 rfl
theorem dX8_deposit_44 : decode cX8_deposit 44 = .ok (.i2l, 1) := dg dtX8_deposit_0_ok 26 rfl
theorem dX8_deposit_45 : decode cX8_deposit 45 = .ok (.lcmp, 1) := dg dtX8_deposit_0_ok 27 rfl
theorem dX8_deposit_46 : decode cX8_deposit 46 = .ok (.ifCond .ge 7, 3) := dg dtX8_deposit_0_ok 28 rfl
theorem dX8_deposit_49 : decode cX8_deposit 49 = .ok (.lload_n 3, 1) := dg dtX8_deposit_0_ok 29 rfl
theorem dX8_deposit_50 : decode cX8_deposit 50 = .ok (.goto 5, 3) := dg dtX8_deposit_0_ok 30 rfl
theorem dX8_deposit_53 : decode cX8_deposit 53 = .ok (.iload_n 2, 1) := dg dtX8_deposit_0_ok 31 rfl
theorem dX8_deposit_54 : decode cX8_deposit 54 = .ok (.i2l, 1) := dg dtX8_deposit_0_ok 32 rfl
theorem dX8_deposit_55 : decode cX8_deposit 55 = .ok (.lstore 5, 2) := dg dtX8_deposit_0_ok 33 rfl
theorem dX8_deposit_57 : decode cX8_deposit 57 = .ok (.aload_n 0, 1) := dg dtX8_deposit_0_ok 34 rfl
theorem dX8_deposit_58 : decode cX8_deposit 58 = .ok (.getfield 7, 3) := dg dtX8_deposit_0_ok 35 rfl
theorem dX8_deposit_61 : decode cX8_deposit 61 = .ok (.iload_n 1, 1) := dg dtX8_deposit_0_ok 36 rfl
theorem dX8_deposit_62 : decode cX8_deposit 62 = .ok (.invokestatic 94, 3) := dg dtX8_deposit_0_ok 37 rfl
theorem dX8_deposit_65 : decode cX8_deposit 65 = .ok (.iconst 2, 1) := dg dtX8_deposit_0_ok 38 rfl
theorem dX8_deposit_66 : decode cX8_deposit 66 = .ok (.iadd, 1) := dg dtX8_deposit_0_ok 39 rfl
theorem dX8_deposit_67 : decode cX8_deposit 67 = .ok (.dup2, 1) := dg dtX8_deposit_0_ok 40 rfl
theorem dX8_deposit_68 : decode cX8_deposit 68 = .ok (.laload, 1) := dg dtX8_deposit_0_ok 41 rfl
theorem dX8_deposit_69 : decode cX8_deposit 69 = .ok (.lload 5, 2) := dg dtX8_deposit_0_ok 42 rfl
theorem dX8_deposit_71 : decode cX8_deposit 71 = .ok (.lsub, 1) := dg dtX8_deposit_0_ok 43 rfl
theorem dX8_deposit_72 : decode cX8_deposit 72 = .ok (.lastore, 1) := dg dtX8_deposit_0_ok 44 rfl
theorem dX8_deposit_73 : decode cX8_deposit 73 = .ok (.aload_n 0, 1) := dg dtX8_deposit_0_ok 45 rfl
theorem dX8_deposit_74 : decode cX8_deposit 74 = .ok (.getfield 7, 3) := dg dtX8_deposit_0_ok 46 rfl
theorem dX8_deposit_77 : decode cX8_deposit 77 = .ok (.iload_n 1, 1) := dg dtX8_deposit_0_ok 47 rfl
def dtX8_deposit_1 : List (Nat × Instr × Nat) := [(78, .invokestatic 94, 3), (81, .dup2, 1), (82, .laload, 1), (83, .iload_n 2, 1), (84, .i2l, 1), (85, .lload 5, 2), (87, .lsub, 1), (88, .ladd, 1), (89, .lastore, 1), (90, .aload_n 0, 1), (91, .getfield 7, 3), (94, .bipush 12, 2), (96, .dup2, 1), (97, .laload, 1), (98, .iload_n 2, 1), (99, .i2l, 1), (100, .ladd, 1), (101, .lastore, 1), (102, .aload_n 0, 1), (103, .iload_n 1, 1), (104, .invokestatic 94, 3), (107, .iconst 2, 1), (108, .iadd, 1), (109, .invokevirtual 52, 3), (112, .ireturn, 1)]
theorem dtX8_deposit_1_ok : ∀ q ∈ dtX8_deposit_1, decode cX8_deposit q.1 = .ok q.2 := by decide +kernel
theorem dX8_deposit_78 : decode cX8_deposit 78 = .ok (.invokestatic 94, 3) := dg dtX8_deposit_1_ok 0 rfl
theorem dX8_deposit_81 : decode cX8_deposit 81 = .ok (.dup2, 1) := dg dtX8_deposit_1_ok 1 rfl
theorem dX8_deposit_82 : decode cX8_deposit 82 = .ok (.laload, 1) := dg dtX8_deposit_1_ok 2 rfl
theorem dX8_deposit_83 : decode cX8_deposit 83 = .ok (.iload_n 2, 1) := dg dtX8_deposit_1_ok 3 rfl
theorem dX8_deposit_84 : decode cX8_deposit 84 = .ok (.i2l, 1) := dg dtX8_deposit_1_ok 4 rfl
theorem dX8_deposit_85 : decode cX8_deposit 85 = .ok (.lload 5, 2) := dg dtX8_deposit_1_ok 5 rfl
theorem dX8_deposit_87 : decode cX8_deposit 87 = .ok (.lsub, 1) := dg dtX8_deposit_1_ok 6 rfl
theorem dX8_deposit_88 : decode cX8_deposit 88 = .ok (.ladd, 1) := dg dtX8_deposit_1_ok 7 rfl
theorem dX8_deposit_89 : decode cX8_deposit 89 = .ok (.lastore, 1) := dg dtX8_deposit_1_ok 8 rfl
theorem dX8_deposit_90 : decode cX8_deposit 90 = .ok (.aload_n 0, 1) := dg dtX8_deposit_1_ok 9 rfl
theorem dX8_deposit_91 : decode cX8_deposit 91 = .ok (.getfield 7, 3) := dg dtX8_deposit_1_ok 10 rfl
theorem dX8_deposit_94 : decode cX8_deposit 94 = .ok (.bipush 12, 2) := dg dtX8_deposit_1_ok 11 rfl
theorem dX8_deposit_96 : decode cX8_deposit 96 = .ok (.dup2, 1) := dg dtX8_deposit_1_ok 12 rfl
theorem dX8_deposit_97 : decode cX8_deposit 97 = .ok (.laload, 1) := dg dtX8_deposit_1_ok 13 rfl
theorem dX8_deposit_98 : decode cX8_deposit 98 = .ok (.iload_n 2, 1) := dg dtX8_deposit_1_ok 14 rfl
theorem dX8_deposit_99 : decode cX8_deposit 99 = .ok (.i2l, 1) := dg dtX8_deposit_1_ok 15 rfl
theorem dX8_deposit_100 : decode cX8_deposit 100 = .ok (.ladd, 1) := dg dtX8_deposit_1_ok 16 rfl
theorem dX8_deposit_101 : decode cX8_deposit 101 = .ok (.lastore, 1) := dg dtX8_deposit_1_ok 17 rfl
theorem dX8_deposit_102 : decode cX8_deposit 102 = .ok (.aload_n 0, 1) := dg dtX8_deposit_1_ok 18 rfl
theorem dX8_deposit_103 : decode cX8_deposit 103 = .ok (.iload_n 1, 1) := dg dtX8_deposit_1_ok 19 rfl
theorem dX8_deposit_104 : decode cX8_deposit 104 = .ok (.invokestatic 94, 3) := dg dtX8_deposit_1_ok 20 rfl
theorem dX8_deposit_107 : decode cX8_deposit 107 = .ok (.iconst 2, 1) := dg dtX8_deposit_1_ok 21 rfl
theorem dX8_deposit_108 : decode cX8_deposit 108 = .ok (.iadd, 1) := dg dtX8_deposit_1_ok 22 rfl
theorem dX8_deposit_109 : decode cX8_deposit 109 = .ok (.invokevirtual 52, 3) := dg dtX8_deposit_1_ok 23 rfl
theorem dX8_deposit_112 : decode cX8_deposit 112 = .ok (.ireturn, 1) := dg dtX8_deposit_1_ok 24 rfl
def dtX8_setGuarantee_0 : List (Nat × Instr × Nat) := [(0, .aload_n 0, 1), (1, .iload_n 1, 1), (2, .invokevirtual 98, 3), (5, .ifCond .eq 6, 3), (8, .ldc 51, 2), (10, .ireturn, 1), (11, .iload_n 2, 1), (12, .i2l, 1), (13, .lconst 0, 1), (14, .ldc2_w 104, 3), (17, .invokestatic 47, 3), (20, .ifCond .ne 6, 3), (23, .ldc 103, 2), (25, .ireturn, 1), (26, .aload_n 0, 1), (27, .aload_n 0, 1), (28, .iload_n 1, 1), (29, .invokevirtual 106, 3), (32, .iload_n 2, 1), (33, .i2l, 1), (34, .invokevirtual 109, 3), (37, .ifCond .ne 9, 3), (40, .aload_n 0, 1), (41, .iconst 2, 1), (42, .invokevirtual 113, 3), (45, .ireturn, 1), (46, .aload_n 0, 1), (47, .invokevirtual 56, 3), (50, .aload_n 0, 1), (51, .iload_n 1, 1), (52, .invokestatic 94, 3), (55, .iconst 1, 1), (56, .iadd, 1), (57, .invokevirtual 52, 3), (60, .istore_n 3, 1), (61, .aload_n 0, 1), (62, .getfield 7, 3), (65, .iload_n 1, 1), (66, .invokestatic 94, 3), (69, .iconst 1, 1), (70, .iadd, 1), (71, .iload_n 2, 1), (72, .i2l, 1), (73, .lastore, 1), (74, .iload_n 3, 1), (75, .ireturn, 1)]
theorem dtX8_setGuarantee_0_ok : ∀ q ∈ dtX8_setGuarantee_0, decode cX8_setGuarantee q.1 = .ok q.2 := by decide +kernel
theorem dX8_setGuarantee_0 : decode cX8_setGuarantee 0 = .ok (.aload_n 0, 1) := dg dtX8_setGuarantee_0_ok 0 rfl
theorem dX8_setGuarantee_1 : decode cX8_setGuarantee 1 = .ok (.iload_n 1, 1) := dg dtX8_setGuarantee_0_ok 1 rfl
theorem dX8_setGuarantee_2 : decode cX8_setGuarantee 2 = .ok (.invokevirtual 98, 3) := dg dtX8_setGuarantee_0_ok 2 rfl
theorem dX8_setGuarantee_5 : decode cX8_setGuarantee 5 = .ok (.ifCond .eq 6, 3) := dg dtX8_setGuarantee_0_ok 3 rfl
theorem dX8_setGuarantee_8 : decode cX8_setGuarantee 8 = .ok (.ldc 51, 2) := dg dtX8_setGuarantee_0_ok 4 rfl
theorem dX8_setGuarantee_10 : decode cX8_setGuarantee 10 = .ok (.ireturn, 1) := dg dtX8_setGuarantee_0_ok 5 rfl
theorem dX8_setGuarantee_11 : decode cX8_setGuarantee 11 = .ok (.iload_n 2, 1) := dg dtX8_setGuarantee_0_ok 6 rfl
theorem dX8_setGuarantee_12 : decode cX8_setGuarantee 12 = .ok (.i2l, 1) := dg dtX8_setGuarantee_0_ok 7 rfl
theorem dX8_setGuarantee_13 : decode cX8_setGuarantee 13 = .ok (.lconst 0, 1) := dg dtX8_setGuarantee_0_ok 8 rfl
theorem dX8_setGuarantee_14 : decode cX8_setGuarantee 14 = .ok (.ldc2_w 104, 3) := dg dtX8_setGuarantee_0_ok 9 rfl
theorem dX8_setGuarantee_17 : decode cX8_setGuarantee 17 = .ok (.invokestatic 47, 3) := dg dtX8_setGuarantee_0_ok 10 rfl
theorem dX8_setGuarantee_20 : decode cX8_setGuarantee 20 = .ok (.ifCond .ne 6, 3) := dg dtX8_setGuarantee_0_ok 11 rfl
theorem dX8_setGuarantee_23 : decode cX8_setGuarantee 23 = .ok (.ldc 103, 2) := dg dtX8_setGuarantee_0_ok 12 rfl
theorem dX8_setGuarantee_25 : decode cX8_setGuarantee 25 = .ok (.ireturn, 1) := dg dtX8_setGuarantee_0_ok 13 rfl
theorem dX8_setGuarantee_26 : decode cX8_setGuarantee 26 = .ok (.aload_n 0, 1) := dg dtX8_setGuarantee_0_ok 14 rfl
theorem dX8_setGuarantee_27 : decode cX8_setGuarantee 27 = .ok (.aload_n 0, 1) := dg dtX8_setGuarantee_0_ok 15 rfl
theorem dX8_setGuarantee_28 : decode cX8_setGuarantee 28 = .ok (.iload_n 1, 1) := dg dtX8_setGuarantee_0_ok 16 rfl
theorem dX8_setGuarantee_29 : decode cX8_setGuarantee 29 = .ok (.invokevirtual 106, 3) := dg dtX8_setGuarantee_0_ok 17 rfl
theorem dX8_setGuarantee_32 : decode cX8_setGuarantee 32 = .ok (.iload_n 2, 1) := dg dtX8_setGuarantee_0_ok 18 rfl
theorem dX8_setGuarantee_33 : decode cX8_setGuarantee 33 = .ok (.i2l, 1) := dg dtX8_setGuarantee_0_ok 19 rfl
theorem dX8_setGuarantee_34 : decode cX8_setGuarantee 34 = .ok (.invokevirtual 109, 3) := dg dtX8_setGuarantee_0_ok 20 rfl
theorem dX8_setGuarantee_37 : decode cX8_setGuarantee 37 = .ok (.ifCond .ne 9, 3) := dg dtX8_setGuarantee_0_ok 21 rfl
theorem dX8_setGuarantee_40 : decode cX8_setGuarantee 40 = .ok (.aload_n 0, 1) := dg dtX8_setGuarantee_0_ok 22 rfl
theorem dX8_setGuarantee_41 : decode cX8_setGuarantee 41 = .ok (.iconst 2, 1) := dg dtX8_setGuarantee_0_ok 23 rfl
theorem dX8_setGuarantee_42 : decode cX8_setGuarantee 42 = .ok (.invokevirtual 113, 3) := dg dtX8_setGuarantee_0_ok 24 rfl
theorem dX8_setGuarantee_45 : decode cX8_setGuarantee 45 = .ok (.ireturn, 1) := dg dtX8_setGuarantee_0_ok 25 rfl
theorem dX8_setGuarantee_46 : decode cX8_setGuarantee 46 = .ok (.aload_n 0, 1) := dg dtX8_setGuarantee_0_ok 26 rfl
theorem dX8_setGuarantee_47 : decode cX8_setGuarantee 47 = .ok (.invokevirtual 56, 3) := dg dtX8_setGuarantee_0_ok 27 rfl
theorem dX8_setGuarantee_50 : decode cX8_setGuarantee 50 = .ok (.aload_n 0, 1) := dg dtX8_setGuarantee_0_ok 28 rfl
theorem dX8_setGuarantee_51 : decode cX8_setGuarantee 51 = .ok (.iload_n 1, 1) := dg dtX8_setGuarantee_0_ok 29 rfl
theorem dX8_setGuarantee_52 : decode cX8_setGuarantee 52 = .ok (.invokestatic 94, 3) := dg dtX8_setGuarantee_0_ok 30 rfl
theorem dX8_setGuarantee_55 : decode cX8_setGuarantee 55 = .ok (.iconst 1, 1) := dg dtX8_setGuarantee_0_ok 31 rfl
theorem dX8_setGuarantee_56 : decode cX8_setGuarantee 56 = .ok (.iadd, 1) := dg dtX8_setGuarantee_0_ok 32 rfl
theorem dX8_setGuarantee_57 : decode cX8_setGuarantee 57 = .ok (.invokevirtual 52, 3) := dg dtX8_setGuarantee_0_ok 33 rfl
theorem dX8_setGuarantee_60 : decode cX8_setGuarantee 60 = .ok (.istore_n 3, 1) := dg dtX8_setGuarantee_0_ok 34 rfl
theorem dX8_setGuarantee_61 : decode cX8_setGuarantee 61 = .ok (.aload_n 0, 1) := dg dtX8_setGuarantee_0_ok 35 rfl
theorem dX8_setGuarantee_62 : decode cX8_setGuarantee 62 = .ok (.getfield 7, 3) := dg dtX8_setGuarantee_0_ok 36 rfl
theorem dX8_setGuarantee_65 : decode cX8_setGuarantee 65 = .ok (.iload_n 1, 1) := dg dtX8_setGuarantee_0_ok 37 rfl
theorem dX8_setGuarantee_66 : decode cX8_setGuarantee 66 = .ok (.invokestatic 94, 3) := dg dtX8_setGuarantee_0_ok 38 rfl
theorem dX8_setGuarantee_69 : decode cX8_setGuarantee 69 = .ok (.iconst 1, 1) := dg dtX8_setGuarantee_0_ok 39 rfl
theorem dX8_setGuarantee_70 : decode cX8_setGuarantee 70 = .ok (.iadd, 1) := dg dtX8_setGuarantee_0_ok 40 rfl
theorem dX8_setGuarantee_71 : decode cX8_setGuarantee 71 = .ok (.iload_n 2, 1) := dg dtX8_setGuarantee_0_ok 41 rfl
theorem dX8_setGuarantee_72 : decode cX8_setGuarantee 72 = .ok (.i2l, 1) := dg dtX8_setGuarantee_0_ok 42 rfl
theorem dX8_setGuarantee_73 : decode cX8_setGuarantee 73 = .ok (.lastore, 1) := dg dtX8_setGuarantee_0_ok 43 rfl
theorem dX8_setGuarantee_74 : decode cX8_setGuarantee 74 = .ok (.iload_n 3, 1) := dg dtX8_setGuarantee_0_ok 44 rfl
theorem dX8_setGuarantee_75 : decode cX8_setGuarantee 75 = .ok (.ireturn, 1) := dg dtX8_setGuarantee_0_ok 45 rfl
def dtX8_setRate_0 : List (Nat × Instr × Nat) := [(0, .iload_n 1, 1), (1, .invokestatic 116, 3), (4, .ifCond .eq 6, 3), (7, .ldc 51, 2), (9, .ireturn, 1), (10, .iload_n 2, 1), (11, .i2l, 1), (12, .lconst 0, 1), (13, .ldc2_w 119, 3), (16, .invokestatic 47, 3), (19, .ifCond .ne 6, 3), (22, .ldc 103, 2), (24, .ireturn, 1), (25, .aload_n 0, 1), (26, .invokevirtual 56, 3), (29, .aload_n 0, 1), (30, .bipush 14, 2), (32, .iload_n 1, 1), (33, .iadd, 1), (34, .invokevirtual 52, 3), (37, .istore_n 3, 1), (38, .aload_n 0, 1), (39, .getfield 7, 3), (42, .bipush 14, 2), (44, .iload_n 1, 1), (45, .iadd, 1), (46, .iload_n 2, 1), (47, .i2l, 1), (48, .lastore, 1), (49, .iload_n 3, 1), (50, .ireturn, 1)]
theorem dtX8_setRate_0_ok : ∀ q ∈ dtX8_setRate_0, decode cX8_setRate q.1 = .ok q.2 := by decide +kernel
theorem dX8_setRate_0 : decode cX8_setRate 0 = .ok (.iload_n 1, 1) := dg dtX8_setRate_0_ok 0 rfl
theorem dX8_setRate_1 : decode cX8_setRate 1 = .ok (.invokestatic 116, 3) := dg dtX8_setRate_0_ok 1 rfl
theorem dX8_setRate_4 : decode cX8_setRate 4 = .ok (.ifCond .eq 6, 3) := dg dtX8_setRate_0_ok 2 rfl
theorem dX8_setRate_7 : decode cX8_setRate 7 = .ok (.ldc 51, 2) := dg dtX8_setRate_0_ok 3 rfl
theorem dX8_setRate_9 : decode cX8_setRate 9 = .ok (.ireturn, 1) := dg dtX8_setRate_0_ok 4 rfl
theorem dX8_setRate_10 : decode cX8_setRate 10 = .ok (.iload_n 2, 1) := dg dtX8_setRate_0_ok 5 rfl
theorem dX8_setRate_11 : decode cX8_setRate 11 = .ok (.i2l, 1) := dg dtX8_setRate_0_ok 6 rfl
theorem dX8_setRate_12 : decode cX8_setRate 12 = .ok (.lconst 0, 1) := dg dtX8_setRate_0_ok 7 rfl
theorem dX8_setRate_13 : decode cX8_setRate 13 = .ok (.ldc2_w 119, 3) := dg dtX8_setRate_0_ok 8 rfl
theorem dX8_setRate_16 : decode cX8_setRate 16 = .ok (.invokestatic 47, 3) := dg dtX8_setRate_0_ok 9 rfl
theorem dX8_setRate_19 : decode cX8_setRate 19 = .ok (.ifCond .ne 6, 3) := dg dtX8_setRate_0_ok 10 rfl
theorem dX8_setRate_22 : decode cX8_setRate 22 = .ok (.ldc 103, 2) := dg dtX8_setRate_0_ok 11 rfl
theorem dX8_setRate_24 : decode cX8_setRate 24 = .ok (.ireturn, 1) := dg dtX8_setRate_0_ok 12 rfl
theorem dX8_setRate_25 : decode cX8_setRate 25 = .ok (.aload_n 0, 1) := dg dtX8_setRate_0_ok 13 rfl
theorem dX8_setRate_26 : decode cX8_setRate 26 = .ok (.invokevirtual 56, 3) := dg dtX8_setRate_0_ok 14 rfl
theorem dX8_setRate_29 : decode cX8_setRate 29 = .ok (.aload_n 0, 1) := dg dtX8_setRate_0_ok 15 rfl
theorem dX8_setRate_30 : decode cX8_setRate 30 = .ok (.bipush 14, 2) := dg dtX8_setRate_0_ok 16 rfl
theorem dX8_setRate_32 : decode cX8_setRate 32 = .ok (.iload_n 1, 1) := dg dtX8_setRate_0_ok 17 rfl
theorem dX8_setRate_33 : decode cX8_setRate 33 = .ok (.iadd, 1) := dg dtX8_setRate_0_ok 18 rfl
theorem dX8_setRate_34 : decode cX8_setRate 34 = .ok (.invokevirtual 52, 3) := dg dtX8_setRate_0_ok 19 rfl
theorem dX8_setRate_37 : decode cX8_setRate 37 = .ok (.istore_n 3, 1) := dg dtX8_setRate_0_ok 20 rfl
theorem dX8_setRate_38 : decode cX8_setRate 38 = .ok (.aload_n 0, 1) := dg dtX8_setRate_0_ok 21 rfl
theorem dX8_setRate_39 : decode cX8_setRate 39 = .ok (.getfield 7, 3) := dg dtX8_setRate_0_ok 22 rfl
theorem dX8_setRate_42 : decode cX8_setRate 42 = .ok (.bipush 14, 2) := dg dtX8_setRate_0_ok 23 rfl
theorem dX8_setRate_44 : decode cX8_setRate 44 = .ok (.iload_n 1, 1) := dg dtX8_setRate_0_ok 24 rfl
theorem dX8_setRate_45 : decode cX8_setRate 45 = .ok (.iadd, 1) := dg dtX8_setRate_0_ok 25 rfl
theorem dX8_setRate_46 : decode cX8_setRate 46 = .ok (.iload_n 2, 1) := dg dtX8_setRate_0_ok 26 rfl
theorem dX8_setRate_47 : decode cX8_setRate 47 = .ok (.i2l, 1) := dg dtX8_setRate_0_ok 27 rfl
theorem dX8_setRate_48 : decode cX8_setRate 48 = .ok (.lastore, 1) := dg dtX8_setRate_0_ok 28 rfl
theorem dX8_setRate_49 : decode cX8_setRate 49 = .ok (.iload_n 3, 1) := dg dtX8_setRate_0_ok 29 rfl
theorem dX8_setRate_50 : decode cX8_setRate 50 = .ok (.ireturn, 1) := dg dtX8_setRate_0_ok 30 rfl
def dtX8_setTerms_0 : List (Nat × Instr × Nat) := [(0, .iload_n 1, 1), (1, .i2l, 1), (2, .lconst 1, 1), (3, .ldc2_w 119, 3), (6, .invokestatic 47, 3), (9, .ifCond .eq 15, 3), (12, .iload_n 2, 1), (13, .i2l, 1), (14, .lconst 1, 1), (15, .ldc2_w 121, 3), (18, .invokestatic 47, 3), (21, .ifCond .ne 6, 3), (24, .ldc 103, 2), (26, .ireturn, 1), (27, .aload_n 0, 1), (28, .invokevirtual 56, 3), (31, .aload_n 0, 1), (32, .iconst 5, 1), (33, .invokevirtual 52, 3), (36, .istore_n 3, 1), (37, .aload_n 0, 1), (38, .getfield 7, 3), (41, .iconst 5, 1), (42, .iload_n 1, 1), (43, .i2l, 1), (44, .lastore, 1), (45, .aload_n 0, 1), (46, .getfield 7, 3), (49, .bipush 6, 2), (51, .iload_n 2, 1), (52, .i2l, 1), (53, .lastore, 1), (54, .iload_n 3, 1), (55, .ireturn, 1)]
theorem dtX8_setTerms_0_ok : ∀ q ∈ dtX8_setTerms_0, decode cX8_setTerms q.1 = .ok q.2 := by decide +kernel
theorem dX8_setTerms_0 : decode cX8_setTerms 0 = .ok (.iload_n 1, 1) := dg dtX8_setTerms_0_ok 0 rfl
theorem dX8_setTerms_1 : decode cX8_setTerms 1 = .ok (.i2l, 1) := dg dtX8_setTerms_0_ok 1 rfl
theorem dX8_setTerms_2 : decode cX8_setTerms 2 = .ok (.lconst 1, 1) := dg dtX8_setTerms_0_ok 2 rfl
theorem dX8_setTerms_3 : decode cX8_setTerms 3 = .ok (.ldc2_w 119, 3) := dg dtX8_setTerms_0_ok 3 rfl
theorem dX8_setTerms_6 : decode cX8_setTerms 6 = .ok (.invokestatic 47, 3) := dg dtX8_setTerms_0_ok 4 rfl
theorem dX8_setTerms_9 : decode cX8_setTerms 9 = .ok (.ifCond .eq 15, 3) := dg dtX8_setTerms_0_ok 5 rfl
theorem dX8_setTerms_12 : decode cX8_setTerms 12 = .ok (.iload_n 2, 1) := dg dtX8_setTerms_0_ok 6 rfl
theorem dX8_setTerms_13 : decode cX8_setTerms 13 = .ok (.i2l, 1) := dg dtX8_setTerms_0_ok 7 rfl
theorem dX8_setTerms_14 : decode cX8_setTerms 14 = .ok (.lconst 1, 1) := dg dtX8_setTerms_0_ok 8 rfl
theorem dX8_setTerms_15 : decode cX8_setTerms 15 = .ok (.ldc2_w 121, 3) := dg dtX8_setTerms_0_ok 9 rfl
theorem dX8_setTerms_18 : decode cX8_setTerms 18 = .ok (.invokestatic 47, 3) := dg dtX8_setTerms_0_ok 10 rfl
theorem dX8_setTerms_21 : decode cX8_setTerms 21 = .ok (.ifCond .ne 6, 3) := dg dtX8_setTerms_0_ok 11 rfl
theorem dX8_setTerms_24 : decode cX8_setTerms 24 = .ok (.ldc 103, 2) := dg dtX8_setTerms_0_ok 12 rfl
theorem dX8_setTerms_26 : decode cX8_setTerms 26 = .ok (.ireturn, 1) := dg dtX8_setTerms_0_ok 13 rfl
theorem dX8_setTerms_27 : decode cX8_setTerms 27 = .ok (.aload_n 0, 1) := dg dtX8_setTerms_0_ok 14 rfl
theorem dX8_setTerms_28 : decode cX8_setTerms 28 = .ok (.invokevirtual 56, 3) := dg dtX8_setTerms_0_ok 15 rfl
theorem dX8_setTerms_31 : decode cX8_setTerms 31 = .ok (.aload_n 0, 1) := dg dtX8_setTerms_0_ok 16 rfl
theorem dX8_setTerms_32 : decode cX8_setTerms 32 = .ok (.iconst 5, 1) := dg dtX8_setTerms_0_ok 17 rfl
theorem dX8_setTerms_33 : decode cX8_setTerms 33 = .ok (.invokevirtual 52, 3) := dg dtX8_setTerms_0_ok 18 rfl
theorem dX8_setTerms_36 : decode cX8_setTerms 36 = .ok (.istore_n 3, 1) := dg dtX8_setTerms_0_ok 19 rfl
theorem dX8_setTerms_37 : decode cX8_setTerms 37 = .ok (.aload_n 0, 1) := dg dtX8_setTerms_0_ok 20 rfl
theorem dX8_setTerms_38 : decode cX8_setTerms 38 = .ok (.getfield 7, 3) := dg dtX8_setTerms_0_ok 21 rfl
theorem dX8_setTerms_41 : decode cX8_setTerms 41 = .ok (.iconst 5, 1) := dg dtX8_setTerms_0_ok 22 rfl
theorem dX8_setTerms_42 : decode cX8_setTerms 42 = .ok (.iload_n 1, 1) := dg dtX8_setTerms_0_ok 23 rfl
theorem dX8_setTerms_43 : decode cX8_setTerms 43 = .ok (.i2l, 1) := dg dtX8_setTerms_0_ok 24 rfl
theorem dX8_setTerms_44 : decode cX8_setTerms 44 = .ok (.lastore, 1) := dg dtX8_setTerms_0_ok 25 rfl
theorem dX8_setTerms_45 : decode cX8_setTerms 45 = .ok (.aload_n 0, 1) := dg dtX8_setTerms_0_ok 26 rfl
theorem dX8_setTerms_46 : decode cX8_setTerms 46 = .ok (.getfield 7, 3) := dg dtX8_setTerms_0_ok 27 rfl
theorem dX8_setTerms_49 : decode cX8_setTerms 49 = .ok (.bipush 6, 2) := dg dtX8_setTerms_0_ok 28 rfl
theorem dX8_setTerms_51 : decode cX8_setTerms 51 = .ok (.iload_n 2, 1) := dg dtX8_setTerms_0_ok 29 rfl
theorem dX8_setTerms_52 : decode cX8_setTerms 52 = .ok (.i2l, 1) := dg dtX8_setTerms_0_ok 30 rfl
theorem dX8_setTerms_53 : decode cX8_setTerms 53 = .ok (.lastore, 1) := dg dtX8_setTerms_0_ok 31 rfl
theorem dX8_setTerms_54 : decode cX8_setTerms 54 = .ok (.iload_n 3, 1) := dg dtX8_setTerms_0_ok 32 rfl
theorem dX8_setTerms_55 : decode cX8_setTerms 55 = .ok (.ireturn, 1) := dg dtX8_setTerms_0_ok 33 rfl
def dtX8_setRules_0 : List (Nat × Instr × Nat) := [(0, .iload_n 1, 1), (1, .i2l, 1), (2, .lconst 0, 1), (3, .ldc2_w 34, 3), (6, .invokestatic 47, 3), (9, .ifCond .eq 27, 3), (12, .iload_n 2, 1), (13, .i2l, 1), (14, .lconst 0, 1), (15, .ldc2_w 119, 3), (18, .invokestatic 47, 3), (21, .ifCond .eq 15, 3), (24, .iload_n 3, 1), (25, .i2l, 1), (26, .lconst 0, 1), (27, .ldc2_w 119, 3), (30, .invokestatic 47, 3), (33, .ifCond .ne 6, 3), (36, .ldc 103, 2), (38, .ireturn, 1), (39, .aload_n 0, 1), (40, .invokevirtual 56, 3), (43, .aload_n 0, 1), (44, .bipush 7, 2), (46, .invokevirtual 52, 3), (49, .istore 4, 2), (51, .aload_n 0, 1), (52, .getfield 7, 3), (55, .bipush 7, 2), (57, .iload_n 1, 1), (58, .i2l, 1), (59, .lastore, 1), (60, .aload_n 0, 1), (61, .getfield 7, 3), (64, .bipush 8, 2), (66, .iload_n 2, 1), (67, .i2l, 1), (68, .lastore, 1), (69, .aload_n 0, 1), (70, .getfield 7, 3), (73, .bipush 9, 2), (75, .iload_n 3, 1), (76, .i2l, 1), (77, .lastore, 1), (78, .iload 4, 2), (80, .ireturn, 1)]
theorem dtX8_setRules_0_ok : ∀ q ∈ dtX8_setRules_0, decode cX8_setRules q.1 = .ok q.2 := by decide +kernel
theorem dX8_setRules_0 : decode cX8_setRules 0 = .ok (.iload_n 1, 1) := dg dtX8_setRules_0_ok 0 rfl
theorem dX8_setRules_1 : decode cX8_setRules 1 = .ok (.i2l, 1) := dg dtX8_setRules_0_ok 1 rfl
theorem dX8_setRules_2 : decode cX8_setRules 2 = .ok (.lconst 0, 1) := dg dtX8_setRules_0_ok 2 rfl
theorem dX8_setRules_3 : decode cX8_setRules 3 = .ok (.ldc2_w 34, 3) := dg dtX8_setRules_0_ok 3 rfl
theorem dX8_setRules_6 : decode cX8_setRules 6 = .ok (.invokestatic 47, 3) := dg dtX8_setRules_0_ok 4 rfl
theorem dX8_setRules_9 : decode cX8_setRules 9 = .ok (.ifCond .eq 27, 3) := dg dtX8_setRules_0_ok 5 rfl
theorem dX8_setRules_12 : decode cX8_setRules 12 = .ok (.iload_n 2, 1) := dg dtX8_setRules_0_ok 6 rfl
theorem dX8_setRules_13 : decode cX8_setRules 13 = .ok (.i2l, 1) := dg dtX8_setRules_0_ok 7 rfl
theorem dX8_setRules_14 : decode cX8_setRules 14 = .ok (.lconst 0, 1) := dg dtX8_setRules_0_ok 8 rfl
theorem dX8_setRules_15 : decode cX8_setRules 15 = .ok (.ldc2_w 119, 3) := dg dtX8_setRules_0_ok 9 rfl
theorem dX8_setRules_18 : decode cX8_setRules 18 = .ok (.invokestatic 47, 3) := dg dtX8_setRules_0_ok 10 rfl
theorem dX8_setRules_21 : decode cX8_setRules 21 = .ok (.ifCond .eq 15, 3) := dg dtX8_setRules_0_ok 11 rfl
theorem dX8_setRules_24 : decode cX8_setRules 24 = .ok (.iload_n 3, 1) := dg dtX8_setRules_0_ok 12 rfl
theorem dX8_setRules_25 : decode cX8_setRules 25 = .ok (.i2l, 1) := dg dtX8_setRules_0_ok 13 rfl
theorem dX8_setRules_26 : decode cX8_setRules 26 = .ok (.lconst 0, 1) := dg dtX8_setRules_0_ok 14 rfl
theorem dX8_setRules_27 : decode cX8_setRules 27 = .ok (.ldc2_w 119, 3) := dg dtX8_setRules_0_ok 15 rfl
theorem dX8_setRules_30 : decode cX8_setRules 30 = .ok (.invokestatic 47, 3) := dg dtX8_setRules_0_ok 16 rfl
theorem dX8_setRules_33 : decode cX8_setRules 33 = .ok (.ifCond .ne 6, 3) := dg dtX8_setRules_0_ok 17 rfl
theorem dX8_setRules_36 : decode cX8_setRules 36 = .ok (.ldc 103, 2) := dg dtX8_setRules_0_ok 18 rfl
theorem dX8_setRules_38 : decode cX8_setRules 38 = .ok (.ireturn, 1) := dg dtX8_setRules_0_ok 19 rfl
theorem dX8_setRules_39 : decode cX8_setRules 39 = .ok (.aload_n 0, 1) := dg dtX8_setRules_0_ok 20 rfl
theorem dX8_setRules_40 : decode cX8_setRules 40 = .ok (.invokevirtual 56, 3) := dg dtX8_setRules_0_ok 21 rfl
theorem dX8_setRules_43 : decode cX8_setRules 43 = .ok (.aload_n 0, 1) := dg dtX8_setRules_0_ok 22 rfl
theorem dX8_setRules_44 : decode cX8_setRules 44 = .ok (.bipush 7, 2) := dg dtX8_setRules_0_ok 23 rfl
theorem dX8_setRules_46 : decode cX8_setRules 46 = .ok (.invokevirtual 52, 3) := dg dtX8_setRules_0_ok 24 rfl
theorem dX8_setRules_49 : decode cX8_setRules 49 = .ok (.istore 4, 2) := dg dtX8_setRules_0_ok 25 rfl
theorem dX8_setRules_51 : decode cX8_setRules 51 = .ok (.aload_n 0, 1) := dg dtX8_setRules_0_ok 26 rfl
theorem dX8_setRules_52 : decode cX8_setRules 52 = .ok (.getfield 7, 3) := dg dtX8_setRules_0_ok 27 rfl
theorem dX8_setRules_55 : decode cX8_setRules 55 = .ok (.bipush 7, 2) := dg dtX8_setRules_0_ok 28 rfl
theorem dX8_setRules_57 : decode cX8_setRules 57 = .ok (.iload_n 1, 1) := dg dtX8_setRules_0_ok 29 rfl
theorem dX8_setRules_58 : decode cX8_setRules 58 = .ok (.i2l, 1) := dg dtX8_setRules_0_ok 30 rfl
theorem dX8_setRules_59 : decode cX8_setRules 59 = .ok (.lastore, 1) := dg dtX8_setRules_0_ok 31 rfl
theorem dX8_setRules_60 : decode cX8_setRules 60 = .ok (.aload_n 0, 1) := dg dtX8_setRules_0_ok 32 rfl
theorem dX8_setRules_61 : decode cX8_setRules 61 = .ok (.getfield 7, 3) := dg dtX8_setRules_0_ok 33 rfl
theorem dX8_setRules_64 : decode cX8_setRules 64 = .ok (.bipush 8, 2) := dg dtX8_setRules_0_ok 34 rfl
theorem dX8_setRules_66 : decode cX8_setRules 66 = .ok (.iload_n 2, 1) := dg dtX8_setRules_0_ok 35 rfl
theorem dX8_setRules_67 : decode cX8_setRules 67 = .ok (.i2l, 1) := dg dtX8_setRules_0_ok 36 rfl
theorem dX8_setRules_68 : decode cX8_setRules 68 = .ok (.lastore, 1) := dg dtX8_setRules_0_ok 37 rfl
theorem dX8_setRules_69 : decode cX8_setRules 69 = .ok (.aload_n 0, 1) := dg dtX8_setRules_0_ok 38 rfl
theorem dX8_setRules_70 : decode cX8_setRules 70 = .ok (.getfield 7, 3) := dg dtX8_setRules_0_ok 39 rfl
theorem dX8_setRules_73 : decode cX8_setRules 73 = .ok (.bipush 9, 2) := dg dtX8_setRules_0_ok 40 rfl
theorem dX8_setRules_75 : decode cX8_setRules 75 = .ok (.iload_n 3, 1) := dg dtX8_setRules_0_ok 41 rfl
theorem dX8_setRules_76 : decode cX8_setRules 76 = .ok (.i2l, 1) := dg dtX8_setRules_0_ok 42 rfl
theorem dX8_setRules_77 : decode cX8_setRules 77 = .ok (.lastore, 1) := dg dtX8_setRules_0_ok 43 rfl
theorem dX8_setRules_78 : decode cX8_setRules 78 = .ok (.iload 4, 2) := dg dtX8_setRules_0_ok 44 rfl
theorem dX8_setRules_80 : decode cX8_setRules 80 = .ok (.ireturn, 1) := dg dtX8_setRules_0_ok 45 rfl
def dtX8_areUnits_0 : List (Nat × Instr × Nat) := [(0, .iload_n 0, 1), (1, .i2l, 1), (2, .lconst 1, 1), (3, .ldc2_w 123, 3), (6, .invokestatic 47, 3), (9, .ireturn, 1)]
theorem dtX8_areUnits_0_ok : ∀ q ∈ dtX8_areUnits_0, decode cX8_areUnits q.1 = .ok q.2 := by decide +kernel
theorem dX8_areUnits_0 : decode cX8_areUnits 0 = .ok (.iload_n 0, 1) := dg dtX8_areUnits_0_ok 0 rfl
theorem dX8_areUnits_1 : decode cX8_areUnits 1 = .ok (.i2l, 1) := dg dtX8_areUnits_0_ok 1 rfl
theorem dX8_areUnits_2 : decode cX8_areUnits 2 = .ok (.lconst 1, 1) := dg dtX8_areUnits_0_ok 2 rfl
theorem dX8_areUnits_3 : decode cX8_areUnits 3 = .ok (.ldc2_w 123, 3) := dg dtX8_areUnits_0_ok 3 rfl
theorem dX8_areUnits_6 : decode cX8_areUnits 6 = .ok (.invokestatic 47, 3) := dg dtX8_areUnits_0_ok 4 rfl
theorem dX8_areUnits_9 : decode cX8_areUnits 9 = .ok (.ireturn, 1) := dg dtX8_areUnits_0_ok 5 rfl
def dtX8_checkEnter_0 : List (Nat × Instr × Nat) := [(0, .aload_n 0, 1), (1, .iload_n 1, 1), (2, .invokevirtual 98, 3), (5, .ifCond .ne 10, 3), (8, .iload_n 2, 1), (9, .invokestatic 116, 3), (12, .ifCond .eq 6, 3), (15, .ldc 51, 2), (17, .ireturn, 1), (18, .iload_n 3, 1), (19, .invokestatic 125, 3), (22, .ifCond .eq 16, 3), (25, .iload 4, 2), (27, .i2l, 1), (28, .lconst 0, 1), (29, .ldc2_w 101, 3), (32, .invokestatic 47, 3), (35, .ifCond .ne 6, 3), (38, .ldc 103, 2), (40, .ireturn, 1), (41, .aload_n 0, 1), (42, .getfield 7, 3), (45, .iload_n 1, 1), (46, .invokestatic 94, 3), (49, .iconst 2, 1), (50, .iadd, 1), (51, .laload, 1), (52, .lconst 0, 1), (53, .lcmp, 1), (54, .ifCond .le 9, 3), (57, .aload_n 0, 1), (58, .iconst 1, 1), (59, .invokevirtual 113, 3), (62, .ireturn, 1), (63, .aload_n 0, 1), (64, .getfield 7, 3), (67, .iconst 2, 1), (68, .laload, 1), (69, .ldc2_w 36, 3), (72, .lcmp, 1), (73, .ifCond .ne 9, 3), (76, .aload_n 0, 1), (77, .iconst 5, 1), (78, .invokevirtual 113, 3), (81, .ireturn, 1), (82, .aload_n 0, 1), (83, .aload_n 0, 1), (84, .iload_n 1, 1)]
theorem dtX8_checkEnter_0_ok : ∀ q ∈ dtX8_checkEnter_0, decode cX8_checkEnter q.1 = .ok q.2 := by decide +kernel
theorem dX8_checkEnter_0 : decode cX8_checkEnter 0 = .ok (.aload_n 0, 1) := dg dtX8_checkEnter_0_ok 0 rfl
theorem dX8_checkEnter_1 : decode cX8_checkEnter 1 = .ok (.iload_n 1, 1) := dg dtX8_checkEnter_0_ok 1 rfl
theorem dX8_checkEnter_2 : decode cX8_checkEnter 2 = .ok (.invokevirtual 98, 3) := dg dtX8_checkEnter_0_ok 2 rfl
theorem dX8_checkEnter_5 : decode cX8_checkEnter 5 = .ok (.ifCond .ne 10, 3) := dg dtX8_checkEnter_0_ok 3 rfl
theorem dX8_checkEnter_8 : decode cX8_checkEnter 8 = .ok (.iload_n 2, 1) := dg dtX8_checkEnter_0_ok 4 rfl
theorem dX8_checkEnter_9 : decode cX8_checkEnter 9 = .ok (.invokestatic 116, 3) := dg dtX8_checkEnter_0_ok 5 rfl
theorem dX8_checkEnter_12 : decode cX8_checkEnter 12 = .ok (.ifCond .eq 6, 3) := dg dtX8_checkEnter_0_ok 6 rfl
theorem dX8_checkEnter_15 : decode cX8_checkEnter 15 = .ok (.ldc 51, 2) := dg dtX8_checkEnter_0_ok 7 rfl
theorem dX8_checkEnter_17 : decode cX8_checkEnter 17 = .ok (.ireturn, 1) := dg dtX8_checkEnter_0_ok 8 rfl
theorem dX8_checkEnter_18 : decode cX8_checkEnter 18 = .ok (.iload_n 3, 1) := dg dtX8_checkEnter_0_ok 9 rfl
theorem dX8_checkEnter_19 : decode cX8_checkEnter 19 = .ok (.invokestatic 125, 3) := dg dtX8_checkEnter_0_ok 10 rfl
theorem dX8_checkEnter_22 : decode cX8_checkEnter 22 = .ok (.ifCond .eq 16, 3) := dg dtX8_checkEnter_0_ok 11 rfl
theorem dX8_checkEnter_25 : decode cX8_checkEnter 25 = .ok (.iload 4, 2) := dg dtX8_checkEnter_0_ok 12 rfl
theorem dX8_checkEnter_27 : decode cX8_checkEnter 27 = .ok (.i2l, 1) := dg dtX8_checkEnter_0_ok 13 rfl
theorem dX8_checkEnter_28 : decode cX8_checkEnter 28 = .ok (.lconst 0, 1) := dg dtX8_checkEnter_0_ok 14 rfl
theorem dX8_checkEnter_29 : decode cX8_checkEnter 29 = .ok (.ldc2_w 101, 3) := dg dtX8_checkEnter_0_ok 15 rfl
theorem dX8_checkEnter_32 : decode cX8_checkEnter 32 = .ok (.invokestatic 47, 3) := dg dtX8_checkEnter_0_ok 16 rfl
theorem dX8_checkEnter_35 : decode cX8_checkEnter 35 = .ok (.ifCond .ne 6, 3) := dg dtX8_checkEnter_0_ok 17 rfl
theorem dX8_checkEnter_38 : decode cX8_checkEnter 38 = .ok (.ldc 103, 2) := dg dtX8_checkEnter_0_ok 18 rfl
theorem dX8_checkEnter_40 : decode cX8_checkEnter 40 = .ok (.ireturn, 1) := dg dtX8_checkEnter_0_ok 19 rfl
theorem dX8_checkEnter_41 : decode cX8_checkEnter 41 = .ok (.aload_n 0, 1) := dg dtX8_checkEnter_0_ok 20 rfl
theorem dX8_checkEnter_42 : decode cX8_checkEnter 42 = .ok (.getfield 7, 3) := dg dtX8_checkEnter_0_ok 21 rfl
theorem dX8_checkEnter_45 : decode cX8_checkEnter 45 = .ok (.iload_n 1, 1) := dg dtX8_checkEnter_0_ok 22 rfl
theorem dX8_checkEnter_46 : decode cX8_checkEnter 46 = .ok (.invokestatic 94, 3) := dg dtX8_checkEnter_0_ok 23 rfl
theorem dX8_checkEnter_49 : decode cX8_checkEnter 49 = .ok (.iconst 2, 1) := dg dtX8_checkEnter_0_ok 24 rfl
theorem dX8_checkEnter_50 : decode cX8_checkEnter 50 = .ok (.iadd, 1) := dg dtX8_checkEnter_0_ok 25 rfl
theorem dX8_checkEnter_51 : decode cX8_checkEnter 51 = .ok (.laload, 1) := dg dtX8_checkEnter_0_ok 26 rfl
theorem dX8_checkEnter_52 : decode cX8_checkEnter 52 = .ok (.lconst 0, 1) := dg dtX8_checkEnter_0_ok 27 rfl
theorem dX8_checkEnter_53 : decode cX8_checkEnter 53 = .ok (.lcmp, 1) := dg dtX8_checkEnter_0_ok 28 rfl
theorem dX8_checkEnter_54 : decode cX8_checkEnter 54 = .ok (.ifCond .le 9, 3) := dg dtX8_checkEnter_0_ok 29 rfl
theorem dX8_checkEnter_57 : decode cX8_checkEnter 57 = .ok (.aload_n 0, 1) := dg dtX8_checkEnter_0_ok 30 rfl
theorem dX8_checkEnter_58 : decode cX8_checkEnter 58 = .ok (.iconst 1, 1) := dg dtX8_checkEnter_0_ok 31 rfl
theorem dX8_checkEnter_59 : decode cX8_checkEnter 59 = .ok (.invokevirtual 113, 3) := dg dtX8_checkEnter_0_ok 32 rfl
theorem dX8_checkEnter_62 : decode cX8_checkEnter 62 = .ok (.ireturn, 1) := dg dtX8_checkEnter_0_ok 33 rfl
theorem dX8_checkEnter_63 : decode cX8_checkEnter 63 = .ok (.aload_n 0, 1) := dg dtX8_checkEnter_0_ok 34 rfl
theorem dX8_checkEnter_64 : decode cX8_checkEnter 64 = .ok (.getfield 7, 3) := dg dtX8_checkEnter_0_ok 35 rfl
theorem dX8_checkEnter_67 : decode cX8_checkEnter 67 = .ok (.iconst 2, 1) := dg dtX8_checkEnter_0_ok 36 rfl
theorem dX8_checkEnter_68 : decode cX8_checkEnter 68 = .ok (.laload, 1) := dg dtX8_checkEnter_0_ok 37 rfl
theorem dX8_checkEnter_69 : decode cX8_checkEnter 69 = .ok (.ldc2_w 36, 3) := dg dtX8_checkEnter_0_ok 38 rfl
theorem dX8_checkEnter_72 : decode cX8_checkEnter 72 = .ok (.lcmp, 1) := dg dtX8_checkEnter_0_ok 39 rfl
theorem dX8_checkEnter_73 : decode cX8_checkEnter 73 = .ok (.ifCond .ne 9, 3) := dg dtX8_checkEnter_0_ok 40 rfl
theorem dX8_checkEnter_76 : decode cX8_checkEnter 76 = .ok (.aload_n 0, 1) := dg dtX8_checkEnter_0_ok 41 rfl
theorem dX8_checkEnter_77 : decode cX8_checkEnter 77 = .ok (.iconst 5, 1) := dg dtX8_checkEnter_0_ok 42 rfl
theorem dX8_checkEnter_78 : decode cX8_checkEnter 78 = .ok (.invokevirtual 113, 3) := dg dtX8_checkEnter_0_ok 43 rfl
theorem dX8_checkEnter_81 : decode cX8_checkEnter 81 = .ok (.ireturn, 1) := dg dtX8_checkEnter_0_ok 44 rfl
theorem dX8_checkEnter_82 : decode cX8_checkEnter 82 = .ok (.aload_n 0, 1) := dg dtX8_checkEnter_0_ok 45 rfl
theorem dX8_checkEnter_83 : decode cX8_checkEnter 83 = .ok (.aload_n 0, 1) := dg dtX8_checkEnter_0_ok 46 rfl
theorem dX8_checkEnter_84 : decode cX8_checkEnter 84 = .ok (.iload_n 1, 1) := dg dtX8_checkEnter_0_ok 47 rfl
def dtX8_checkEnter_1 : List (Nat × Instr × Nat) := [(85, .invokevirtual 106, 3), (88, .iload 4, 2), (90, .i2l, 1), (91, .aload_n 0, 1), (92, .getfield 7, 3), (95, .bipush 14, 2), (97, .iload_n 2, 1), (98, .iadd, 1), (99, .laload, 1), (100, .lmul, 1), (101, .ldc2_w 119, 3), (104, .ldiv, 1), (105, .ladd, 1), (106, .aload_n 0, 1), (107, .getfield 7, 3), (110, .iload_n 1, 1), (111, .invokestatic 94, 3), (114, .iconst 1, 1), (115, .iadd, 1), (116, .laload, 1), (117, .invokevirtual 109, 3), (120, .ifCond .eq 7, 3), (123, .iconst 0, 1), (124, .goto 8, 3), (127, .aload_n 0, 1), (128, .iconst 2, 1), (129, .invokevirtual 113, 3), (132, .ireturn, 1)]
theorem dtX8_checkEnter_1_ok : ∀ q ∈ dtX8_checkEnter_1, decode cX8_checkEnter q.1 = .ok q.2 := by decide +kernel
theorem dX8_checkEnter_85 : decode cX8_checkEnter 85 = .ok (.invokevirtual 106, 3) := dg dtX8_checkEnter_1_ok 0 rfl
theorem dX8_checkEnter_88 : decode cX8_checkEnter 88 = .ok (.iload 4, 2) := dg dtX8_checkEnter_1_ok 1 rfl
theorem dX8_checkEnter_90 : decode cX8_checkEnter 90 = .ok (.i2l, 1) := dg dtX8_checkEnter_1_ok 2 rfl
theorem dX8_checkEnter_91 : decode cX8_checkEnter 91 = .ok (.aload_n 0, 1) := dg dtX8_checkEnter_1_ok 3 rfl
theorem dX8_checkEnter_92 : decode cX8_checkEnter 92 = .ok (.getfield 7, 3) := dg dtX8_checkEnter_1_ok 4 rfl
theorem dX8_checkEnter_95 : decode cX8_checkEnter 95 = .ok (.bipush 14, 2) := dg dtX8_checkEnter_1_ok 5 rfl
theorem dX8_checkEnter_97 : decode cX8_checkEnter 97 = .ok (.iload_n 2, 1) := dg dtX8_checkEnter_1_ok 6 rfl
theorem dX8_checkEnter_98 : decode cX8_checkEnter 98 = .ok (.iadd, 1) := dg dtX8_checkEnter_1_ok 7 rfl
theorem dX8_checkEnter_99 : decode cX8_checkEnter 99 = .ok (.laload, 1) := dg dtX8_checkEnter_1_ok 8 rfl
theorem dX8_checkEnter_100 : decode cX8_checkEnter 100 = .ok (.lmul, 1) := dg dtX8_checkEnter_1_ok 9 rfl
theorem dX8_checkEnter_101 : decode cX8_checkEnter 101 = .ok (.ldc2_w 119, 3) := dg dtX8_checkEnter_1_ok 10 rfl
theorem dX8_checkEnter_104 : decode cX8_checkEnter 104 = .ok (.ldiv, 1) := dg dtX8_checkEnter_1_ok 11 rfl
theorem dX8_checkEnter_105 : decode cX8_checkEnter 105 = .ok (.ladd, 1) := dg dtX8_checkEnter_1_ok 12 rfl
theorem dX8_checkEnter_106 : decode cX8_checkEnter 106 = .ok (.aload_n 0, 1) := dg dtX8_checkEnter_1_ok 13 rfl
theorem dX8_checkEnter_107 : decode cX8_checkEnter 107 = .ok (.getfield 7, 3) := dg dtX8_checkEnter_1_ok 14 rfl
theorem dX8_checkEnter_110 : decode cX8_checkEnter 110 = .ok (.iload_n 1, 1) := dg dtX8_checkEnter_1_ok 15 rfl
theorem dX8_checkEnter_111 : decode cX8_checkEnter 111 = .ok (.invokestatic 94, 3) := dg dtX8_checkEnter_1_ok 16 rfl
theorem dX8_checkEnter_114 : decode cX8_checkEnter 114 = .ok (.iconst 1, 1) := dg dtX8_checkEnter_1_ok 17 rfl
theorem dX8_checkEnter_115 : decode cX8_checkEnter 115 = .ok (.iadd, 1) := dg dtX8_checkEnter_1_ok 18 rfl
theorem dX8_checkEnter_116 : decode cX8_checkEnter 116 = .ok (.laload, 1) := dg dtX8_checkEnter_1_ok 19 rfl
theorem dX8_checkEnter_117 : decode cX8_checkEnter 117 = .ok (.invokevirtual 109, 3) := dg dtX8_checkEnter_1_ok 20 rfl
theorem dX8_checkEnter_120 : decode cX8_checkEnter 120 = .ok (.ifCond .eq 7, 3) := dg dtX8_checkEnter_1_ok 21 rfl
theorem dX8_checkEnter_123 : decode cX8_checkEnter 123 = .ok (.iconst 0, 1) := dg dtX8_checkEnter_1_ok 22 rfl
theorem dX8_checkEnter_124 : decode cX8_checkEnter 124 = .ok (.goto 8, 3) := dg dtX8_checkEnter_1_ok 23 rfl
theorem dX8_checkEnter_127 : decode cX8_checkEnter 127 = .ok (.aload_n 0, 1) := dg dtX8_checkEnter_1_ok 24 rfl
theorem dX8_checkEnter_128 : decode cX8_checkEnter 128 = .ok (.iconst 2, 1) := dg dtX8_checkEnter_1_ok 25 rfl
theorem dX8_checkEnter_129 : decode cX8_checkEnter 129 = .ok (.invokevirtual 113, 3) := dg dtX8_checkEnter_1_ok 26 rfl
theorem dX8_checkEnter_132 : decode cX8_checkEnter 132 = .ok (.ireturn, 1) := dg dtX8_checkEnter_1_ok 27 rfl
def dtX8_enters_0 : List (Nat × Instr × Nat) := [(0, .aload_n 0, 1), (1, .iconst 2, 1), (2, .invokevirtual 52, 3), (5, .istore 5, 2), (7, .iload 5, 2), (9, .invokestatic 65, 3), (12, .istore 6, 2), (14, .aload_n 0, 1), (15, .getfield 7, 3), (18, .iload 6, 2), (20, .iload_n 1, 1), (21, .i2l, 1), (22, .lastore, 1), (23, .aload_n 0, 1), (24, .getfield 7, 3), (27, .iload 6, 2), (29, .iconst 1, 1), (30, .iadd, 1), (31, .iload_n 2, 1), (32, .i2l, 1), (33, .lastore, 1), (34, .aload_n 0, 1), (35, .getfield 7, 3), (38, .iload 6, 2), (40, .iconst 2, 1), (41, .iadd, 1), (42, .iload_n 3, 1), (43, .i2l, 1), (44, .lastore, 1), (45, .aload_n 0, 1), (46, .getfield 7, 3), (49, .iload 6, 2), (51, .iconst 3, 1), (52, .iadd, 1), (53, .iload 4, 2), (55, .i2l, 1), (56, .lastore, 1), (57, .aload_n 0, 1), (58, .getfield 7, 3), (61, .iload 6, 2), (63, .iconst 4, 1), (64, .iadd, 1), (65, .aload_n 0, 1), (66, .getfield 7, 3), (69, .iconst 0, 1), (70, .laload, 1), (71, .lastore, 1), (72, .aload_n 0, 1)]
theorem dtX8_enters_0_ok : ∀ q ∈ dtX8_enters_0, decode cX8_enters q.1 = .ok q.2 := by decide +kernel
theorem dX8_enters_0 : decode cX8_enters 0 = .ok (.aload_n 0, 1) := dg dtX8_enters_0_ok 0 rfl
theorem dX8_enters_1 : decode cX8_enters 1 = .ok (.iconst 2, 1) := dg dtX8_enters_0_ok 1 rfl
theorem dX8_enters_2 : decode cX8_enters 2 = .ok (.invokevirtual 52, 3) := dg dtX8_enters_0_ok 2 rfl
theorem dX8_enters_5 : decode cX8_enters 5 = .ok (.istore 5, 2) := dg dtX8_enters_0_ok 3 rfl
theorem dX8_enters_7 : decode cX8_enters 7 = .ok (.iload 5, 2) := dg dtX8_enters_0_ok 4 rfl
theorem dX8_enters_9 : decode cX8_enters 9 = .ok (.invokestatic 65, 3) := dg dtX8_enters_0_ok 5 rfl
theorem dX8_enters_12 : decode cX8_enters 12 = .ok (.istore 6, 2) := dg dtX8_enters_0_ok 6 rfl
theorem dX8_enters_14 : decode cX8_enters 14 = .ok (.aload_n 0, 1) := dg dtX8_enters_0_ok 7 rfl
theorem dX8_enters_15 : decode cX8_enters 15 = .ok (.getfield 7, 3) := dg dtX8_enters_0_ok 8 rfl
theorem dX8_enters_18 : decode cX8_enters 18 = .ok (.iload 6, 2) := dg dtX8_enters_0_ok 9 rfl
theorem dX8_enters_20 : decode cX8_enters 20 = .ok (.iload_n 1, 1) := dg dtX8_enters_0_ok 10 rfl
theorem dX8_enters_21 : decode cX8_enters 21 = .ok (.i2l, 1) := dg dtX8_enters_0_ok 11 rfl
theorem dX8_enters_22 : decode cX8_enters 22 = .ok (.lastore, 1) := dg dtX8_enters_0_ok 12 rfl
theorem dX8_enters_23 : decode cX8_enters 23 = .ok (.aload_n 0, 1) := dg dtX8_enters_0_ok 13 rfl
theorem dX8_enters_24 : decode cX8_enters 24 = .ok (.getfield 7, 3) := dg dtX8_enters_0_ok 14 rfl
theorem dX8_enters_27 : decode cX8_enters 27 = .ok (.iload 6, 2) := dg dtX8_enters_0_ok 15 rfl
theorem dX8_enters_29 : decode cX8_enters 29 = .ok (.iconst 1, 1) := dg dtX8_enters_0_ok 16 rfl
theorem dX8_enters_30 : decode cX8_enters 30 = .ok (.iadd, 1) := dg dtX8_enters_0_ok 17 rfl
theorem dX8_enters_31 : decode cX8_enters 31 = .ok (.iload_n 2, 1) := dg dtX8_enters_0_ok 18 rfl
theorem dX8_enters_32 : decode cX8_enters 32 = .ok (.i2l, 1) := dg dtX8_enters_0_ok 19 rfl
theorem dX8_enters_33 : decode cX8_enters 33 = .ok (.lastore, 1) := dg dtX8_enters_0_ok 20 rfl
theorem dX8_enters_34 : decode cX8_enters 34 = .ok (.aload_n 0, 1) := dg dtX8_enters_0_ok 21 rfl
theorem dX8_enters_35 : decode cX8_enters 35 = .ok (.getfield 7, 3) := dg dtX8_enters_0_ok 22 rfl
theorem dX8_enters_38 : decode cX8_enters 38 = .ok (.iload 6, 2) := dg dtX8_enters_0_ok 23 rfl
theorem dX8_enters_40 : decode cX8_enters 40 = .ok (.iconst 2, 1) := dg dtX8_enters_0_ok 24 rfl
theorem dX8_enters_41 : decode cX8_enters 41 = .ok (.iadd, 1) := dg dtX8_enters_0_ok 25 rfl
theorem dX8_enters_42 : decode cX8_enters 42 = .ok (.iload_n 3, 1) := dg dtX8_enters_0_ok 26 rfl
theorem dX8_enters_43 : decode cX8_enters 43 = .ok (.i2l, 1) := dg dtX8_enters_0_ok 27 rfl
theorem dX8_enters_44 : decode cX8_enters 44 = .ok (.lastore, 1) := dg dtX8_enters_0_ok 28 rfl
theorem dX8_enters_45 : decode cX8_enters 45 = .ok (.aload_n 0, 1) := dg dtX8_enters_0_ok 29 rfl
theorem dX8_enters_46 : decode cX8_enters 46 = .ok (.getfield 7, 3) := dg dtX8_enters_0_ok 30 rfl
theorem dX8_enters_49 : decode cX8_enters 49 = .ok (.iload 6, 2) := dg dtX8_enters_0_ok 31 rfl
theorem dX8_enters_51 : decode cX8_enters 51 = .ok (.iconst 3, 1) := dg dtX8_enters_0_ok 32 rfl
theorem dX8_enters_52 : decode cX8_enters 52 = .ok (.iadd, 1) := dg dtX8_enters_0_ok 33 rfl
theorem dX8_enters_53 : decode cX8_enters 53 = .ok (.iload 4, 2) := dg dtX8_enters_0_ok 34 rfl
theorem dX8_enters_55 : decode cX8_enters 55 = .ok (.i2l, 1) := dg dtX8_enters_0_ok 35 rfl
theorem dX8_enters_56 : decode cX8_enters 56 = .ok (.lastore, 1) := dg dtX8_enters_0_ok 36 rfl
theorem dX8_enters_57 : decode cX8_enters 57 = .ok (.aload_n 0, 1) := dg dtX8_enters_0_ok 37 rfl
theorem dX8_enters_58 : decode cX8_enters 58 = .ok (.getfield 7, 3) := dg dtX8_enters_0_ok 38 rfl
theorem dX8_enters_61 : decode cX8_enters 61 = .ok (.iload 6, 2) := dg dtX8_enters_0_ok 39 rfl
theorem dX8_enters_63 : decode cX8_enters 63 = .ok (.iconst 4, 1) := dg dtX8_enters_0_ok 40 rfl
theorem dX8_enters_64 : decode cX8_enters 64 = .ok (.iadd, 1) := dg dtX8_enters_0_ok 41 rfl
theorem dX8_enters_65 : decode cX8_enters 65 = .ok (.aload_n 0, 1) := dg dtX8_enters_0_ok 42 rfl
theorem dX8_enters_66 : decode cX8_enters 66 = .ok (.getfield 7, 3) := dg dtX8_enters_0_ok 43 rfl
theorem dX8_enters_69 : decode cX8_enters 69 = .ok (.iconst 0, 1) := dg dtX8_enters_0_ok 44 rfl
theorem dX8_enters_70 : decode cX8_enters 70 = .ok (.laload, 1) := dg dtX8_enters_0_ok 45 rfl
theorem dX8_enters_71 : decode cX8_enters 71 = .ok (.lastore, 1) := dg dtX8_enters_0_ok 46 rfl
theorem dX8_enters_72 : decode cX8_enters 72 = .ok (.aload_n 0, 1) := dg dtX8_enters_0_ok 47 rfl
def dtX8_enters_1 : List (Nat × Instr × Nat) := [(73, .getfield 7, 3), (76, .iload 6, 2), (78, .iconst 5, 1), (79, .iadd, 1), (80, .aload_n 0, 1), (81, .getfield 7, 3), (84, .iconst 0, 1), (85, .laload, 1), (86, .aload_n 0, 1), (87, .getfield 7, 3), (90, .iconst 5, 1), (91, .laload, 1), (92, .ladd, 1), (93, .lastore, 1), (94, .aload_n 0, 1), (95, .getfield 7, 3), (98, .iload 6, 2), (100, .bipush 6, 2), (102, .iadd, 1), (103, .iload 4, 2), (105, .i2l, 1), (106, .aload_n 0, 1), (107, .getfield 7, 3), (110, .bipush 14, 2), (112, .iload_n 2, 1), (113, .iadd, 1), (114, .laload, 1), (115, .lmul, 1), (116, .ldc2_w 119, 3), (119, .ldiv, 1), (120, .lastore, 1), (121, .bipush 7, 2), (123, .istore 7, 2), (125, .iload 7, 2), (127, .bipush 11, 2), (129, .if_icmp .ge 20, 3), (132, .aload_n 0, 1), (133, .getfield 7, 3), (136, .iload 6, 2), (138, .iload 7, 2), (140, .iadd, 1), (141, .lconst 0, 1), (142, .lastore, 1), (143, .iinc 7 1, 3), (146, .goto (-21), 3), (149, .aload_n 0, 1), (150, .getfield 7, 3), (153, .iconst 2, 1)]
theorem dtX8_enters_1_ok : ∀ q ∈ dtX8_enters_1, decode cX8_enters q.1 = .ok q.2 := by decide +kernel
theorem dX8_enters_73 : decode cX8_enters 73 = .ok (.getfield 7, 3) := dg dtX8_enters_1_ok 0 rfl
theorem dX8_enters_76 : decode cX8_enters 76 = .ok (.iload 6, 2) := dg dtX8_enters_1_ok 1 rfl
theorem dX8_enters_78 : decode cX8_enters 78 = .ok (.iconst 5, 1) := dg dtX8_enters_1_ok 2 rfl
theorem dX8_enters_79 : decode cX8_enters 79 = .ok (.iadd, 1) := dg dtX8_enters_1_ok 3 rfl
theorem dX8_enters_80 : decode cX8_enters 80 = .ok (.aload_n 0, 1) := dg dtX8_enters_1_ok 4 rfl
theorem dX8_enters_81 : decode cX8_enters 81 = .ok (.getfield 7, 3) := dg dtX8_enters_1_ok 5 rfl
theorem dX8_enters_84 : decode cX8_enters 84 = .ok (.iconst 0, 1) := dg dtX8_enters_1_ok 6 rfl
theorem dX8_enters_85 : decode cX8_enters 85 = .ok (.laload, 1) := dg dtX8_enters_1_ok 7 rfl
theorem dX8_enters_86 : decode cX8_enters 86 = .ok (.aload_n 0, 1) := dg dtX8_enters_1_ok 8 rfl
theorem dX8_enters_87 : decode cX8_enters 87 = .ok (.getfield 7, 3) := dg dtX8_enters_1_ok 9 rfl
theorem dX8_enters_90 : decode cX8_enters 90 = .ok (.iconst 5, 1) := dg dtX8_enters_1_ok 10 rfl
theorem dX8_enters_91 : decode cX8_enters 91 = .ok (.laload, 1) := dg dtX8_enters_1_ok 11 rfl
theorem dX8_enters_92 : decode cX8_enters 92 = .ok (.ladd, 1) := dg dtX8_enters_1_ok 12 rfl
theorem dX8_enters_93 : decode cX8_enters 93 = .ok (.lastore, 1) := dg dtX8_enters_1_ok 13 rfl
theorem dX8_enters_94 : decode cX8_enters 94 = .ok (.aload_n 0, 1) := dg dtX8_enters_1_ok 14 rfl
theorem dX8_enters_95 : decode cX8_enters 95 = .ok (.getfield 7, 3) := dg dtX8_enters_1_ok 15 rfl
theorem dX8_enters_98 : decode cX8_enters 98 = .ok (.iload 6, 2) := dg dtX8_enters_1_ok 16 rfl
theorem dX8_enters_100 : decode cX8_enters 100 = .ok (.bipush 6, 2) := dg dtX8_enters_1_ok 17 rfl
theorem dX8_enters_102 : decode cX8_enters 102 = .ok (.iadd, 1) := dg dtX8_enters_1_ok 18 rfl
theorem dX8_enters_103 : decode cX8_enters 103 = .ok (.iload 4, 2) := dg dtX8_enters_1_ok 19 rfl
theorem dX8_enters_105 : decode cX8_enters 105 = .ok (.i2l, 1) := dg dtX8_enters_1_ok 20 rfl
theorem dX8_enters_106 : decode cX8_enters 106 = .ok (.aload_n 0, 1) := dg dtX8_enters_1_ok 21 rfl
theorem dX8_enters_107 : decode cX8_enters 107 = .ok (.getfield 7, 3) := dg dtX8_enters_1_ok 22 rfl
theorem dX8_enters_110 : decode cX8_enters 110 = .ok (.bipush 14, 2) := dg dtX8_enters_1_ok 23 rfl
theorem dX8_enters_112 : decode cX8_enters 112 = .ok (.iload_n 2, 1) := dg dtX8_enters_1_ok 24 rfl
theorem dX8_enters_113 : decode cX8_enters 113 = .ok (.iadd, 1) := dg dtX8_enters_1_ok 25 rfl
theorem dX8_enters_114 : decode cX8_enters 114 = .ok (.laload, 1) := dg dtX8_enters_1_ok 26 rfl
theorem dX8_enters_115 : decode cX8_enters 115 = .ok (.lmul, 1) := dg dtX8_enters_1_ok 27 rfl
theorem dX8_enters_116 : decode cX8_enters 116 = .ok (.ldc2_w 119, 3) := dg dtX8_enters_1_ok 28 rfl
theorem dX8_enters_119 : decode cX8_enters 119 = .ok (.ldiv, 1) := dg dtX8_enters_1_ok 29 rfl
theorem dX8_enters_120 : decode cX8_enters 120 = .ok (.lastore, 1) := dg dtX8_enters_1_ok 30 rfl
theorem dX8_enters_121 : decode cX8_enters 121 = .ok (.bipush 7, 2) := dg dtX8_enters_1_ok 31 rfl
theorem dX8_enters_123 : decode cX8_enters 123 = .ok (.istore 7, 2) := dg dtX8_enters_1_ok 32 rfl
theorem dX8_enters_125 : decode cX8_enters 125 = .ok (.iload 7, 2) := dg dtX8_enters_1_ok 33 rfl
theorem dX8_enters_127 : decode cX8_enters 127 = .ok (.bipush 11, 2) := dg dtX8_enters_1_ok 34 rfl
theorem dX8_enters_129 : decode cX8_enters 129 = .ok (.if_icmp .ge 20, 3) := dg dtX8_enters_1_ok 35 rfl
theorem dX8_enters_132 : decode cX8_enters 132 = .ok (.aload_n 0, 1) := dg dtX8_enters_1_ok 36 rfl
theorem dX8_enters_133 : decode cX8_enters 133 = .ok (.getfield 7, 3) := dg dtX8_enters_1_ok 37 rfl
theorem dX8_enters_136 : decode cX8_enters 136 = .ok (.iload 6, 2) := dg dtX8_enters_1_ok 38 rfl
theorem dX8_enters_138 : decode cX8_enters 138 = .ok (.iload 7, 2) := dg dtX8_enters_1_ok 39 rfl
theorem dX8_enters_140 : decode cX8_enters 140 = .ok (.iadd, 1) := dg dtX8_enters_1_ok 40 rfl
theorem dX8_enters_141 : decode cX8_enters 141 = .ok (.lconst 0, 1) := dg dtX8_enters_1_ok 41 rfl
theorem dX8_enters_142 : decode cX8_enters 142 = .ok (.lastore, 1) := dg dtX8_enters_1_ok 42 rfl
theorem dX8_enters_143 : decode cX8_enters 143 = .ok (.iinc 7 1, 3) := dg dtX8_enters_1_ok 43 rfl
theorem dX8_enters_146 : decode cX8_enters 146 = .ok (.goto (-21), 3) := dg dtX8_enters_1_ok 44 rfl
theorem dX8_enters_149 : decode cX8_enters 149 = .ok (.aload_n 0, 1) := dg dtX8_enters_1_ok 45 rfl
theorem dX8_enters_150 : decode cX8_enters 150 = .ok (.getfield 7, 3) := dg dtX8_enters_1_ok 46 rfl
theorem dX8_enters_153 : decode cX8_enters 153 = .ok (.iconst 2, 1) := dg dtX8_enters_1_ok 47 rfl
def dtX8_enters_2 : List (Nat × Instr × Nat) := [(154, .dup2, 1), (155, .laload, 1), (156, .lconst 1, 1), (157, .ladd, 1), (158, .lastore, 1), (159, .iload 5, 2), (161, .ireturn, 1)]
theorem dtX8_enters_2_ok : ∀ q ∈ dtX8_enters_2, decode cX8_enters q.1 = .ok q.2 := by decide +kernel
theorem dX8_enters_154 : decode cX8_enters 154 = .ok (.dup2, 1) := dg dtX8_enters_2_ok 0 rfl
theorem dX8_enters_155 : decode cX8_enters 155 = .ok (.laload, 1) := dg dtX8_enters_2_ok 1 rfl
theorem dX8_enters_156 : decode cX8_enters 156 = .ok (.lconst 1, 1) := dg dtX8_enters_2_ok 2 rfl
theorem dX8_enters_157 : decode cX8_enters 157 = .ok (.ladd, 1) := dg dtX8_enters_2_ok 3 rfl
theorem dX8_enters_158 : decode cX8_enters 158 = .ok (.lastore, 1) := dg dtX8_enters_2_ok 4 rfl
theorem dX8_enters_159 : decode cX8_enters 159 = .ok (.iload 5, 2) := dg dtX8_enters_2_ok 5 rfl
theorem dX8_enters_161 : decode cX8_enters 161 = .ok (.ireturn, 1) := dg dtX8_enters_2_ok 6 rfl
def dtX8_cash_0 : List (Nat × Instr × Nat) := [(0, .aload_n 0, 1), (1, .getfield 7, 3), (4, .aload_n 0, 1), (5, .getfield 7, 3), (8, .iload_n 1, 1), (9, .invokestatic 65, 3), (12, .laload, 1), (13, .l2i, 1), (14, .invokestatic 94, 3), (17, .laload, 1), (18, .lreturn, 1)]
theorem dtX8_cash_0_ok : ∀ q ∈ dtX8_cash_0, decode cX8_cash q.1 = .ok q.2 := by decide +kernel
theorem dX8_cash_0 : decode cX8_cash 0 = .ok (.aload_n 0, 1) := dg dtX8_cash_0_ok 0 rfl
theorem dX8_cash_1 : decode cX8_cash 1 = .ok (.getfield 7, 3) := dg dtX8_cash_0_ok 1 rfl
theorem dX8_cash_4 : decode cX8_cash 4 = .ok (.aload_n 0, 1) := dg dtX8_cash_0_ok 2 rfl
theorem dX8_cash_5 : decode cX8_cash 5 = .ok (.getfield 7, 3) := dg dtX8_cash_0_ok 3 rfl
theorem dX8_cash_8 : decode cX8_cash 8 = .ok (.iload_n 1, 1) := dg dtX8_cash_0_ok 4 rfl
theorem dX8_cash_9 : decode cX8_cash 9 = .ok (.invokestatic 65, 3) := dg dtX8_cash_0_ok 5 rfl
theorem dX8_cash_12 : decode cX8_cash 12 = .ok (.laload, 1) := dg dtX8_cash_0_ok 6 rfl
theorem dX8_cash_13 : decode cX8_cash 13 = .ok (.l2i, 1) := dg dtX8_cash_0_ok 7 rfl
theorem dX8_cash_14 : decode cX8_cash 14 = .ok (.invokestatic 94, 3) := dg dtX8_cash_0_ok 8 rfl
theorem dX8_cash_17 : decode cX8_cash 17 = .ok (.laload, 1) := dg dtX8_cash_0_ok 9 rfl
theorem dX8_cash_18 : decode cX8_cash 18 = .ok (.lreturn, 1) := dg dtX8_cash_0_ok 10 rfl
def dtX8_checkUnits_0 : List (Nat × Instr × Nat) := [(0, .aload_n 0, 1), (1, .iload_n 1, 1), (2, .invokevirtual 128, 3), (5, .ifCond .eq 6, 3), (8, .ldc 51, 2), (10, .ireturn, 1), (11, .iload_n 2, 1), (12, .invokestatic 125, 3), (15, .ifCond .ne 6, 3), (18, .ldc 103, 2), (20, .ireturn, 1), (21, .iload_n 2, 1), (22, .i2l, 1), (23, .aload_n 0, 1), (24, .iload_n 1, 1), (25, .invokevirtual 79, 3), (28, .lcmp, 1), (29, .ifCond .le 11, 3), (32, .aload_n 0, 1), (33, .iconst 4, 1), (34, .invokevirtual 113, 3), (37, .goto 4, 3), (40, .iconst 0, 1), (41, .ireturn, 1)]
theorem dtX8_checkUnits_0_ok : ∀ q ∈ dtX8_checkUnits_0, decode cX8_checkUnits q.1 = .ok q.2 := by decide +kernel
theorem dX8_checkUnits_0 : decode cX8_checkUnits 0 = .ok (.aload_n 0, 1) := dg dtX8_checkUnits_0_ok 0 rfl
theorem dX8_checkUnits_1 : decode cX8_checkUnits 1 = .ok (.iload_n 1, 1) := dg dtX8_checkUnits_0_ok 1 rfl
theorem dX8_checkUnits_2 : decode cX8_checkUnits 2 = .ok (.invokevirtual 128, 3) := dg dtX8_checkUnits_0_ok 2 rfl
theorem dX8_checkUnits_5 : decode cX8_checkUnits 5 = .ok (.ifCond .eq 6, 3) := dg dtX8_checkUnits_0_ok 3 rfl
theorem dX8_checkUnits_8 : decode cX8_checkUnits 8 = .ok (.ldc 51, 2) := dg dtX8_checkUnits_0_ok 4 rfl
theorem dX8_checkUnits_10 : decode cX8_checkUnits 10 = .ok (.ireturn, 1) := dg dtX8_checkUnits_0_ok 5 rfl
theorem dX8_checkUnits_11 : decode cX8_checkUnits 11 = .ok (.iload_n 2, 1) := dg dtX8_checkUnits_0_ok 6 rfl
theorem dX8_checkUnits_12 : decode cX8_checkUnits 12 = .ok (.invokestatic 125, 3) := dg dtX8_checkUnits_0_ok 7 rfl
theorem dX8_checkUnits_15 : decode cX8_checkUnits 15 = .ok (.ifCond .ne 6, 3) := dg dtX8_checkUnits_0_ok 8 rfl
theorem dX8_checkUnits_18 : decode cX8_checkUnits 18 = .ok (.ldc 103, 2) := dg dtX8_checkUnits_0_ok 9 rfl
theorem dX8_checkUnits_20 : decode cX8_checkUnits 20 = .ok (.ireturn, 1) := dg dtX8_checkUnits_0_ok 10 rfl
theorem dX8_checkUnits_21 : decode cX8_checkUnits 21 = .ok (.iload_n 2, 1) := dg dtX8_checkUnits_0_ok 11 rfl
theorem dX8_checkUnits_22 : decode cX8_checkUnits 22 = .ok (.i2l, 1) := dg dtX8_checkUnits_0_ok 12 rfl
theorem dX8_checkUnits_23 : decode cX8_checkUnits 23 = .ok (.aload_n 0, 1) := dg dtX8_checkUnits_0_ok 13 rfl
theorem dX8_checkUnits_24 : decode cX8_checkUnits 24 = .ok (.iload_n 1, 1) := dg dtX8_checkUnits_0_ok 14 rfl
theorem dX8_checkUnits_25 : decode cX8_checkUnits 25 = .ok (.invokevirtual 79, 3) := dg dtX8_checkUnits_0_ok 15 rfl
theorem dX8_checkUnits_28 : decode cX8_checkUnits 28 = .ok (.lcmp, 1) := dg dtX8_checkUnits_0_ok 16 rfl
theorem dX8_checkUnits_29 : decode cX8_checkUnits 29 = .ok (.ifCond .le 11, 3) := dg dtX8_checkUnits_0_ok 17 rfl
theorem dX8_checkUnits_32 : decode cX8_checkUnits 32 = .ok (.aload_n 0, 1) := dg dtX8_checkUnits_0_ok 18 rfl
theorem dX8_checkUnits_33 : decode cX8_checkUnits 33 = .ok (.iconst 4, 1) := dg dtX8_checkUnits_0_ok 19 rfl
theorem dX8_checkUnits_34 : decode cX8_checkUnits 34 = .ok (.invokevirtual 113, 3) := dg dtX8_checkUnits_0_ok 20 rfl
theorem dX8_checkUnits_37 : decode cX8_checkUnits 37 = .ok (.goto 4, 3) := dg dtX8_checkUnits_0_ok 21 rfl
theorem dX8_checkUnits_40 : decode cX8_checkUnits 40 = .ok (.iconst 0, 1) := dg dtX8_checkUnits_0_ok 22 rfl
theorem dX8_checkUnits_41 : decode cX8_checkUnits 41 = .ok (.ireturn, 1) := dg dtX8_checkUnits_0_ok 23 rfl
def dtX8_checkRelease_0 : List (Nat × Instr × Nat) := [(0, .aload_n 0, 1), (1, .iload_n 1, 1), (2, .iload_n 2, 1), (3, .invokevirtual 131, 3), (6, .istore_n 3, 1), (7, .iload_n 3, 1), (8, .ifCond .ge 7, 3), (11, .iload_n 3, 1), (12, .goto 28, 3), (15, .aload_n 0, 1), (16, .iload_n 1, 1), (17, .iload_n 2, 1), (18, .i2l, 1), (19, .invokevirtual 83, 3), (22, .aload_n 0, 1), (23, .iload_n 1, 1), (24, .invokevirtual 135, 3), (27, .lcmp, 1), (28, .ifCond .le 11, 3), (31, .aload_n 0, 1), (32, .iconst 3, 1), (33, .invokevirtual 113, 3), (36, .goto 4, 3), (39, .iconst 0, 1), (40, .ireturn, 1)]
theorem dtX8_checkRelease_0_ok : ∀ q ∈ dtX8_checkRelease_0, decode cX8_checkRelease q.1 = .ok q.2 := by decide +kernel
theorem dX8_checkRelease_0 : decode cX8_checkRelease 0 = .ok (.aload_n 0, 1) := dg dtX8_checkRelease_0_ok 0 rfl
theorem dX8_checkRelease_1 : decode cX8_checkRelease 1 = .ok (.iload_n 1, 1) := dg dtX8_checkRelease_0_ok 1 rfl
theorem dX8_checkRelease_2 : decode cX8_checkRelease 2 = .ok (.iload_n 2, 1) := dg dtX8_checkRelease_0_ok 2 rfl
theorem dX8_checkRelease_3 : decode cX8_checkRelease 3 = .ok (.invokevirtual 131, 3) := dg dtX8_checkRelease_0_ok 3 rfl
theorem dX8_checkRelease_6 : decode cX8_checkRelease 6 = .ok (.istore_n 3, 1) := dg dtX8_checkRelease_0_ok 4 rfl
theorem dX8_checkRelease_7 : decode cX8_checkRelease 7 = .ok (.iload_n 3, 1) := dg dtX8_checkRelease_0_ok 5 rfl
theorem dX8_checkRelease_8 : decode cX8_checkRelease 8 = .ok (.ifCond .ge 7, 3) := dg dtX8_checkRelease_0_ok 6 rfl
theorem dX8_checkRelease_11 : decode cX8_checkRelease 11 = .ok (.iload_n 3, 1) := dg dtX8_checkRelease_0_ok 7 rfl
theorem dX8_checkRelease_12 : decode cX8_checkRelease 12 = .ok (.goto 28, 3) := dg dtX8_checkRelease_0_ok 8 rfl
theorem dX8_checkRelease_15 : decode cX8_checkRelease 15 = .ok (.aload_n 0, 1) := dg dtX8_checkRelease_0_ok 9 rfl
theorem dX8_checkRelease_16 : decode cX8_checkRelease 16 = .ok (.iload_n 1, 1) := dg dtX8_checkRelease_0_ok 10 rfl
theorem dX8_checkRelease_17 : decode cX8_checkRelease 17 = .ok (.iload_n 2, 1) := dg dtX8_checkRelease_0_ok 11 rfl
theorem dX8_checkRelease_18 : decode cX8_checkRelease 18 = .ok (.i2l, 1) := dg dtX8_checkRelease_0_ok 12 rfl
theorem dX8_checkRelease_19 : decode cX8_checkRelease 19 = .ok (.invokevirtual 83, 3) := dg dtX8_checkRelease_0_ok 13 rfl
theorem dX8_checkRelease_22 : decode cX8_checkRelease 22 = .ok (.aload_n 0, 1) := dg dtX8_checkRelease_0_ok 14 rfl
theorem dX8_checkRelease_23 : decode cX8_checkRelease 23 = .ok (.iload_n 1, 1) := dg dtX8_checkRelease_0_ok 15 rfl
theorem dX8_checkRelease_24 : decode cX8_checkRelease 24 = .ok (.invokevirtual 135, 3) := dg dtX8_checkRelease_0_ok 16 rfl
theorem dX8_checkRelease_27 : decode cX8_checkRelease 27 = .ok (.lcmp, 1) := dg dtX8_checkRelease_0_ok 17 rfl
theorem dX8_checkRelease_28 : decode cX8_checkRelease 28 = .ok (.ifCond .le 11, 3) := dg dtX8_checkRelease_0_ok 18 rfl
theorem dX8_checkRelease_31 : decode cX8_checkRelease 31 = .ok (.aload_n 0, 1) := dg dtX8_checkRelease_0_ok 19 rfl
theorem dX8_checkRelease_32 : decode cX8_checkRelease 32 = .ok (.iconst 3, 1) := dg dtX8_checkRelease_0_ok 20 rfl
theorem dX8_checkRelease_33 : decode cX8_checkRelease 33 = .ok (.invokevirtual 113, 3) := dg dtX8_checkRelease_0_ok 21 rfl
theorem dX8_checkRelease_36 : decode cX8_checkRelease 36 = .ok (.goto 4, 3) := dg dtX8_checkRelease_0_ok 22 rfl
theorem dX8_checkRelease_39 : decode cX8_checkRelease 39 = .ok (.iconst 0, 1) := dg dtX8_checkRelease_0_ok 23 rfl
theorem dX8_checkRelease_40 : decode cX8_checkRelease 40 = .ok (.ireturn, 1) := dg dtX8_checkRelease_0_ok 24 rfl
def dtX8_releases_0 : List (Nat × Instr × Nat) := [(0, .aload_n 0, 1), (1, .iload_n 1, 1), (2, .iload_n 2, 1), (3, .i2l, 1), (4, .invokevirtual 83, 3), (7, .lstore_n 3, 1), (8, .aload_n 0, 1), (9, .iload_n 1, 1), (10, .iload_n 2, 1), (11, .i2l, 1), (12, .invokevirtual 138, 3), (15, .aload_n 0, 1), (16, .iload_n 1, 1), (17, .lload_n 3, 1), (18, .invokevirtual 142, 3), (21, .lload_n 3, 1), (22, .l2i, 1), (23, .ireturn, 1)]
theorem dtX8_releases_0_ok : ∀ q ∈ dtX8_releases_0, decode cX8_releases q.1 = .ok q.2 := by decide +kernel
theorem dX8_releases_0 : decode cX8_releases 0 = .ok (.aload_n 0, 1) := dg dtX8_releases_0_ok 0 rfl
theorem dX8_releases_1 : decode cX8_releases 1 = .ok (.iload_n 1, 1) := dg dtX8_releases_0_ok 1 rfl
theorem dX8_releases_2 : decode cX8_releases 2 = .ok (.iload_n 2, 1) := dg dtX8_releases_0_ok 2 rfl
theorem dX8_releases_3 : decode cX8_releases 3 = .ok (.i2l, 1) := dg dtX8_releases_0_ok 3 rfl
theorem dX8_releases_4 : decode cX8_releases 4 = .ok (.invokevirtual 83, 3) := dg dtX8_releases_0_ok 4 rfl
theorem dX8_releases_7 : decode cX8_releases 7 = .ok (.lstore_n 3, 1) := dg dtX8_releases_0_ok 5 rfl
theorem dX8_releases_8 : decode cX8_releases 8 = .ok (.aload_n 0, 1) := dg dtX8_releases_0_ok 6 rfl
theorem dX8_releases_9 : decode cX8_releases 9 = .ok (.iload_n 1, 1) := dg dtX8_releases_0_ok 7 rfl
theorem dX8_releases_10 : decode cX8_releases 10 = .ok (.iload_n 2, 1) := dg dtX8_releases_0_ok 8 rfl
theorem dX8_releases_11 : decode cX8_releases 11 = .ok (.i2l, 1) := dg dtX8_releases_0_ok 9 rfl
theorem dX8_releases_12 : decode cX8_releases 12 = .ok (.invokevirtual 138, 3) := dg dtX8_releases_0_ok 10 rfl
theorem dX8_releases_15 : decode cX8_releases 15 = .ok (.aload_n 0, 1) := dg dtX8_releases_0_ok 11 rfl
theorem dX8_releases_16 : decode cX8_releases 16 = .ok (.iload_n 1, 1) := dg dtX8_releases_0_ok 12 rfl
theorem dX8_releases_17 : decode cX8_releases 17 = .ok (.lload_n 3, 1) := dg dtX8_releases_0_ok 13 rfl
theorem dX8_releases_18 : decode cX8_releases 18 = .ok (.invokevirtual 142, 3) := dg dtX8_releases_0_ok 14 rfl
theorem dX8_releases_21 : decode cX8_releases 21 = .ok (.lload_n 3, 1) := dg dtX8_releases_0_ok 15 rfl
theorem dX8_releases_22 : decode cX8_releases 22 = .ok (.l2i, 1) := dg dtX8_releases_0_ok 16 rfl
theorem dX8_releases_23 : decode cX8_releases 23 = .ok (.ireturn, 1) := dg dtX8_releases_0_ok 17 rfl
def dtX8_free_0 : List (Nat × Instr × Nat) := [(0, .aload_n 0, 1), (1, .getfield 7, 3), (4, .iload_n 1, 1), (5, .invokestatic 65, 3), (8, .iconst 2, 1), (9, .iadd, 1), (10, .laload, 1), (11, .aload_n 0, 1), (12, .getfield 7, 3), (15, .bipush 8, 2), (17, .laload, 1), (18, .lmul, 1), (19, .ldc2_w 119, 3), (22, .ldiv, 1), (23, .aload_n 0, 1), (24, .getfield 7, 3), (27, .iload_n 1, 1), (28, .invokestatic 65, 3), (31, .bipush 10, 2), (33, .iadd, 1), (34, .laload, 1), (35, .lsub, 1), (36, .lstore 4, 2), (38, .lload 4, 2), (40, .lconst 0, 1), (41, .lcmp, 1), (42, .ifCond .ge 7, 3), (45, .lconst 0, 1), (46, .goto 16, 3), (49, .lload 4, 2), (51, .lload_n 2, 1), (52, .lcmp, 1), (53, .ifCond .ge 8, 3), (56, .lload 4, 2), (58, .goto 4, 3), (61, .lload_n 2, 1), (62, .lreturn, 1)]
theorem dtX8_free_0_ok : ∀ q ∈ dtX8_free_0, decode cX8_free q.1 = .ok q.2 := by decide +kernel
theorem dX8_free_0 : decode cX8_free 0 = .ok (.aload_n 0, 1) := dg dtX8_free_0_ok 0 rfl
theorem dX8_free_1 : decode cX8_free 1 = .ok (.getfield 7, 3) := dg dtX8_free_0_ok 1 rfl
theorem dX8_free_4 : decode cX8_free 4 = .ok (.iload_n 1, 1) := dg dtX8_free_0_ok 2 rfl
theorem dX8_free_5 : decode cX8_free 5 = .ok (.invokestatic 65, 3) := dg dtX8_free_0_ok 3 rfl
theorem dX8_free_8 : decode cX8_free 8 = .ok (.iconst 2, 1) := dg dtX8_free_0_ok 4 rfl
theorem dX8_free_9 : decode cX8_free 9 = .ok (.iadd, 1) := dg dtX8_free_0_ok 5 rfl
theorem dX8_free_10 : decode cX8_free 10 = .ok (.laload, 1) := dg dtX8_free_0_ok 6 rfl
theorem dX8_free_11 : decode cX8_free 11 = .ok (.aload_n 0, 1) := dg dtX8_free_0_ok 7 rfl
theorem dX8_free_12 : decode cX8_free 12 = .ok (.getfield 7, 3) := dg dtX8_free_0_ok 8 rfl
theorem dX8_free_15 : decode cX8_free 15 = .ok (.bipush 8, 2) := dg dtX8_free_0_ok 9 rfl
theorem dX8_free_17 : decode cX8_free 17 = .ok (.laload, 1) := dg dtX8_free_0_ok 10 rfl
theorem dX8_free_18 : decode cX8_free 18 = .ok (.lmul, 1) := dg dtX8_free_0_ok 11 rfl
theorem dX8_free_19 : decode cX8_free 19 = .ok (.ldc2_w 119, 3) := dg dtX8_free_0_ok 12 rfl
theorem dX8_free_22 : decode cX8_free 22 = .ok (.ldiv, 1) := dg dtX8_free_0_ok 13 rfl
theorem dX8_free_23 : decode cX8_free 23 = .ok (.aload_n 0, 1) := dg dtX8_free_0_ok 14 rfl
theorem dX8_free_24 : decode cX8_free 24 = .ok (.getfield 7, 3) := dg dtX8_free_0_ok 15 rfl
theorem dX8_free_27 : decode cX8_free 27 = .ok (.iload_n 1, 1) := dg dtX8_free_0_ok 16 rfl
theorem dX8_free_28 : decode cX8_free 28 = .ok (.invokestatic 65, 3) := dg dtX8_free_0_ok 17 rfl
theorem dX8_free_31 : decode cX8_free 31 = .ok (.bipush 10, 2) := dg dtX8_free_0_ok 18 rfl
theorem dX8_free_33 : decode cX8_free 33 = .ok (.iadd, 1) := dg dtX8_free_0_ok 19 rfl
theorem dX8_free_34 : decode cX8_free 34 = .ok (.laload, 1) := dg dtX8_free_0_ok 20 rfl
theorem dX8_free_35 : decode cX8_free 35 = .ok (.lsub, 1) := dg dtX8_free_0_ok 21 rfl
theorem dX8_free_36 : decode cX8_free 36 = .ok (.lstore 4, 2) := dg dtX8_free_0_ok 22 rfl
theorem dX8_free_38 : decode cX8_free 38 = .ok (.lload 4, 2) := dg dtX8_free_0_ok 23 rfl
theorem dX8_free_40 : decode cX8_free 40 = .ok (.lconst 0, 1) := dg dtX8_free_0_ok 24 rfl
theorem dX8_free_41 : decode cX8_free 41 = .ok (.lcmp, 1) := dg dtX8_free_0_ok 25 rfl
theorem dX8_free_42 : decode cX8_free 42 = .ok (.ifCond .ge 7, 3) := dg dtX8_free_0_ok 26 rfl
theorem dX8_free_45 : decode cX8_free 45 = .ok (.lconst 0, 1) := dg dtX8_free_0_ok 27 rfl
theorem dX8_free_46 : decode cX8_free 46 = .ok (.goto 16, 3) := dg dtX8_free_0_ok 28 rfl
theorem dX8_free_49 : decode cX8_free 49 = .ok (.lload 4, 2) := dg dtX8_free_0_ok 29 rfl
theorem dX8_free_51 : decode cX8_free 51 = .ok (.lload_n 2, 1) := dg dtX8_free_0_ok 30 rfl
theorem dX8_free_52 : decode cX8_free 52 = .ok (.lcmp, 1) := dg dtX8_free_0_ok 31 rfl
theorem dX8_free_53 : decode cX8_free 53 = .ok (.ifCond .ge 8, 3) := dg dtX8_free_0_ok 32 rfl
theorem dX8_free_56 : decode cX8_free 56 = .ok (.lload 4, 2) := dg dtX8_free_0_ok 33 rfl
theorem dX8_free_58 : decode cX8_free 58 = .ok (.goto 4, 3) := dg dtX8_free_0_ok 34 rfl
theorem dX8_free_61 : decode cX8_free 61 = .ok (.lload_n 2, 1) := dg dtX8_free_0_ok 35 rfl
theorem dX8_free_62 : decode cX8_free 62 = .ok (.lreturn, 1) := dg dtX8_free_0_ok 36 rfl
def dtX8_paidFor_0 : List (Nat × Instr × Nat) := [(0, .aload_n 0, 1), (1, .iload_n 1, 1), (2, .lload_n 2, 1), (3, .invokevirtual 145, 3), (6, .lstore 4, 2), (8, .aload_n 0, 1), (9, .iload_n 1, 1), (10, .aload_n 0, 1), (11, .getfield 7, 3), (14, .iload_n 1, 1), (15, .invokestatic 65, 3), (18, .bipush 7, 2), (20, .iadd, 1), (21, .laload, 1), (22, .lload 4, 2), (24, .ladd, 1), (25, .lload_n 2, 1), (26, .lload 4, 2), (28, .lsub, 1), (29, .invokevirtual 68, 3), (32, .lreturn, 1)]
theorem dtX8_paidFor_0_ok : ∀ q ∈ dtX8_paidFor_0, decode cX8_paidFor q.1 = .ok q.2 := by decide +kernel
theorem dX8_paidFor_0 : decode cX8_paidFor 0 = .ok (.aload_n 0, 1) := dg dtX8_paidFor_0_ok 0 rfl
theorem dX8_paidFor_1 : decode cX8_paidFor 1 = .ok (.iload_n 1, 1) := dg dtX8_paidFor_0_ok 1 rfl
theorem dX8_paidFor_2 : decode cX8_paidFor 2 = .ok (.lload_n 2, 1) := dg dtX8_paidFor_0_ok 2 rfl
theorem dX8_paidFor_3 : decode cX8_paidFor 3 = .ok (.invokevirtual 145, 3) := dg dtX8_paidFor_0_ok 3 rfl
theorem dX8_paidFor_6 : decode cX8_paidFor 6 = .ok (.lstore 4, 2) := dg dtX8_paidFor_0_ok 4 rfl
theorem dX8_paidFor_8 : decode cX8_paidFor 8 = .ok (.aload_n 0, 1) := dg dtX8_paidFor_0_ok 5 rfl
theorem dX8_paidFor_9 : decode cX8_paidFor 9 = .ok (.iload_n 1, 1) := dg dtX8_paidFor_0_ok 6 rfl
theorem dX8_paidFor_10 : decode cX8_paidFor 10 = .ok (.aload_n 0, 1) := dg dtX8_paidFor_0_ok 7 rfl
theorem dX8_paidFor_11 : decode cX8_paidFor 11 = .ok (.getfield 7, 3) := dg dtX8_paidFor_0_ok 8 rfl
theorem dX8_paidFor_14 : decode cX8_paidFor 14 = .ok (.iload_n 1, 1) := dg dtX8_paidFor_0_ok 9 rfl
theorem dX8_paidFor_15 : decode cX8_paidFor 15 = .ok (.invokestatic 65, 3) := dg dtX8_paidFor_0_ok 10 rfl
theorem dX8_paidFor_18 : decode cX8_paidFor 18 = .ok (.bipush 7, 2) := dg dtX8_paidFor_0_ok 11 rfl
theorem dX8_paidFor_20 : decode cX8_paidFor 20 = .ok (.iadd, 1) := dg dtX8_paidFor_0_ok 12 rfl
theorem dX8_paidFor_21 : decode cX8_paidFor 21 = .ok (.laload, 1) := dg dtX8_paidFor_0_ok 13 rfl
theorem dX8_paidFor_22 : decode cX8_paidFor 22 = .ok (.lload 4, 2) := dg dtX8_paidFor_0_ok 14 rfl
theorem dX8_paidFor_24 : decode cX8_paidFor 24 = .ok (.ladd, 1) := dg dtX8_paidFor_0_ok 15 rfl
theorem dX8_paidFor_25 : decode cX8_paidFor 25 = .ok (.lload_n 2, 1) := dg dtX8_paidFor_0_ok 16 rfl
theorem dX8_paidFor_26 : decode cX8_paidFor 26 = .ok (.lload 4, 2) := dg dtX8_paidFor_0_ok 17 rfl
theorem dX8_paidFor_28 : decode cX8_paidFor 28 = .ok (.lsub, 1) := dg dtX8_paidFor_0_ok 18 rfl
theorem dX8_paidFor_29 : decode cX8_paidFor 29 = .ok (.invokevirtual 68, 3) := dg dtX8_paidFor_0_ok 19 rfl
theorem dX8_paidFor_32 : decode cX8_paidFor 32 = .ok (.lreturn, 1) := dg dtX8_paidFor_0_ok 20 rfl
def dtX8_checkSample_0 : List (Nat × Instr × Nat) := [(0, .aload_n 0, 1), (1, .iload_n 1, 1), (2, .iload_n 2, 1), (3, .invokevirtual 131, 3), (6, .istore_n 3, 1), (7, .iload_n 3, 1), (8, .ifCond .ge 7, 3), (11, .iload_n 3, 1), (12, .goto 28, 3), (15, .aload_n 0, 1), (16, .iload_n 1, 1), (17, .iload_n 2, 1), (18, .i2l, 1), (19, .invokevirtual 148, 3), (22, .aload_n 0, 1), (23, .iload_n 1, 1), (24, .invokevirtual 135, 3), (27, .lcmp, 1), (28, .ifCond .le 11, 3), (31, .aload_n 0, 1), (32, .iconst 3, 1), (33, .invokevirtual 113, 3), (36, .goto 4, 3), (39, .iconst 0, 1), (40, .ireturn, 1)]
theorem dtX8_checkSample_0_ok : ∀ q ∈ dtX8_checkSample_0, decode cX8_checkSample q.1 = .ok q.2 := by decide +kernel
theorem dX8_checkSample_0 : decode cX8_checkSample 0 = .ok (.aload_n 0, 1) := dg dtX8_checkSample_0_ok 0 rfl
theorem dX8_checkSample_1 : decode cX8_checkSample 1 = .ok (.iload_n 1, 1) := dg dtX8_checkSample_0_ok 1 rfl
theorem dX8_checkSample_2 : decode cX8_checkSample 2 = .ok (.iload_n 2, 1) := dg dtX8_checkSample_0_ok 2 rfl
theorem dX8_checkSample_3 : decode cX8_checkSample 3 = .ok (.invokevirtual 131, 3) := dg dtX8_checkSample_0_ok 3 rfl
theorem dX8_checkSample_6 : decode cX8_checkSample 6 = .ok (.istore_n 3, 1) := dg dtX8_checkSample_0_ok 4 rfl
theorem dX8_checkSample_7 : decode cX8_checkSample 7 = .ok (.iload_n 3, 1) := dg dtX8_checkSample_0_ok 5 rfl
theorem dX8_checkSample_8 : decode cX8_checkSample 8 = .ok (.ifCond .ge 7, 3) := dg dtX8_checkSample_0_ok 6 rfl
theorem dX8_checkSample_11 : decode cX8_checkSample 11 = .ok (.iload_n 3, 1) := dg dtX8_checkSample_0_ok 7 rfl
theorem dX8_checkSample_12 : decode cX8_checkSample 12 = .ok (.goto 28, 3) := dg dtX8_checkSample_0_ok 8 rfl
theorem dX8_checkSample_15 : decode cX8_checkSample 15 = .ok (.aload_n 0, 1) := dg dtX8_checkSample_0_ok 9 rfl
theorem dX8_checkSample_16 : decode cX8_checkSample 16 = .ok (.iload_n 1, 1) := dg dtX8_checkSample_0_ok 10 rfl
theorem dX8_checkSample_17 : decode cX8_checkSample 17 = .ok (.iload_n 2, 1) := dg dtX8_checkSample_0_ok 11 rfl
theorem dX8_checkSample_18 : decode cX8_checkSample 18 = .ok (.i2l, 1) := dg dtX8_checkSample_0_ok 12 rfl
theorem dX8_checkSample_19 : decode cX8_checkSample 19 = .ok (.invokevirtual 148, 3) := dg dtX8_checkSample_0_ok 13 rfl
theorem dX8_checkSample_22 : decode cX8_checkSample 22 = .ok (.aload_n 0, 1) := dg dtX8_checkSample_0_ok 14 rfl
theorem dX8_checkSample_23 : decode cX8_checkSample 23 = .ok (.iload_n 1, 1) := dg dtX8_checkSample_0_ok 15 rfl
theorem dX8_checkSample_24 : decode cX8_checkSample 24 = .ok (.invokevirtual 135, 3) := dg dtX8_checkSample_0_ok 16 rfl
theorem dX8_checkSample_27 : decode cX8_checkSample 27 = .ok (.lcmp, 1) := dg dtX8_checkSample_0_ok 17 rfl
theorem dX8_checkSample_28 : decode cX8_checkSample 28 = .ok (.ifCond .le 11, 3) := dg dtX8_checkSample_0_ok 18 rfl
theorem dX8_checkSample_31 : decode cX8_checkSample 31 = .ok (.aload_n 0, 1) := dg dtX8_checkSample_0_ok 19 rfl
theorem dX8_checkSample_32 : decode cX8_checkSample 32 = .ok (.iconst 3, 1) := dg dtX8_checkSample_0_ok 20 rfl
theorem dX8_checkSample_33 : decode cX8_checkSample 33 = .ok (.invokevirtual 113, 3) := dg dtX8_checkSample_0_ok 21 rfl
theorem dX8_checkSample_36 : decode cX8_checkSample 36 = .ok (.goto 4, 3) := dg dtX8_checkSample_0_ok 22 rfl
theorem dX8_checkSample_39 : decode cX8_checkSample 39 = .ok (.iconst 0, 1) := dg dtX8_checkSample_0_ok 23 rfl
theorem dX8_checkSample_40 : decode cX8_checkSample 40 = .ok (.ireturn, 1) := dg dtX8_checkSample_0_ok 24 rfl
def dtX8_samples_0 : List (Nat × Instr × Nat) := [(0, .aload_n 0, 1), (1, .iload_n 1, 1), (2, .iload_n 2, 1), (3, .i2l, 1), (4, .invokevirtual 148, 3), (7, .lstore_n 3, 1), (8, .aload_n 0, 1), (9, .getfield 7, 3), (12, .iload_n 1, 1), (13, .invokestatic 65, 3), (16, .bipush 9, 2), (18, .iadd, 1), (19, .dup2, 1), (20, .laload, 1), (21, .aload_n 0, 1), (22, .iload_n 1, 1), (23, .aload_n 0, 1), (24, .iload_n 1, 1), (25, .iload_n 2, 1), (26, .i2l, 1), (27, .invokevirtual 145, 3), (30, .invokevirtual 83, 3), (33, .ladd, 1), (34, .lastore, 1), (35, .aload_n 0, 1), (36, .iload_n 1, 1), (37, .iload_n 2, 1), (38, .i2l, 1), (39, .invokevirtual 138, 3), (42, .aload_n 0, 1), (43, .getfield 7, 3), (46, .iload_n 1, 1), (47, .invokestatic 65, 3), (50, .bipush 10, 2), (52, .iadd, 1), (53, .dup2, 1), (54, .laload, 1), (55, .iload_n 2, 1), (56, .i2l, 1), (57, .ladd, 1), (58, .lastore, 1), (59, .aload_n 0, 1), (60, .iload_n 1, 1), (61, .lload_n 3, 1), (62, .invokevirtual 142, 3), (65, .lload_n 3, 1), (66, .l2i, 1), (67, .ireturn, 1)]
theorem dtX8_samples_0_ok : ∀ q ∈ dtX8_samples_0, decode cX8_samples q.1 = .ok q.2 := by decide +kernel
theorem dX8_samples_0 : decode cX8_samples 0 = .ok (.aload_n 0, 1) := dg dtX8_samples_0_ok 0 rfl
theorem dX8_samples_1 : decode cX8_samples 1 = .ok (.iload_n 1, 1) := dg dtX8_samples_0_ok 1 rfl
theorem dX8_samples_2 : decode cX8_samples 2 = .ok (.iload_n 2, 1) := dg dtX8_samples_0_ok 2 rfl
theorem dX8_samples_3 : decode cX8_samples 3 = .ok (.i2l, 1) := dg dtX8_samples_0_ok 3 rfl
theorem dX8_samples_4 : decode cX8_samples 4 = .ok (.invokevirtual 148, 3) := dg dtX8_samples_0_ok 4 rfl
theorem dX8_samples_7 : decode cX8_samples 7 = .ok (.lstore_n 3, 1) := dg dtX8_samples_0_ok 5 rfl
theorem dX8_samples_8 : decode cX8_samples 8 = .ok (.aload_n 0, 1) := dg dtX8_samples_0_ok 6 rfl
theorem dX8_samples_9 : decode cX8_samples 9 = .ok (.getfield 7, 3) := dg dtX8_samples_0_ok 7 rfl
theorem dX8_samples_12 : decode cX8_samples 12 = .ok (.iload_n 1, 1) := dg dtX8_samples_0_ok 8 rfl
theorem dX8_samples_13 : decode cX8_samples 13 = .ok (.invokestatic 65, 3) := dg dtX8_samples_0_ok 9 rfl
theorem dX8_samples_16 : decode cX8_samples 16 = .ok (.bipush 9, 2) := dg dtX8_samples_0_ok 10 rfl
theorem dX8_samples_18 : decode cX8_samples 18 = .ok (.iadd, 1) := dg dtX8_samples_0_ok 11 rfl
theorem dX8_samples_19 : decode cX8_samples 19 = .ok (.dup2, 1) := dg dtX8_samples_0_ok 12 rfl
theorem dX8_samples_20 : decode cX8_samples 20 = .ok (.laload, 1) := dg dtX8_samples_0_ok 13 rfl
theorem dX8_samples_21 : decode cX8_samples 21 = .ok (.aload_n 0, 1) := dg dtX8_samples_0_ok 14 rfl
theorem dX8_samples_22 : decode cX8_samples 22 = .ok (.iload_n 1, 1) := dg dtX8_samples_0_ok 15 rfl
theorem dX8_samples_23 : decode cX8_samples 23 = .ok (.aload_n 0, 1) := dg dtX8_samples_0_ok 16 rfl
theorem dX8_samples_24 : decode cX8_samples 24 = .ok (.iload_n 1, 1) := dg dtX8_samples_0_ok 17 rfl
theorem dX8_samples_25 : decode cX8_samples 25 = .ok (.iload_n 2, 1) := dg dtX8_samples_0_ok 18 rfl
theorem dX8_samples_26 : decode cX8_samples 26 = .ok (.i2l, 1) := dg dtX8_samples_0_ok 19 rfl
theorem dX8_samples_27 : decode cX8_samples 27 = .ok (.invokevirtual 145, 3) := dg dtX8_samples_0_ok 20 rfl
theorem dX8_samples_30 : decode cX8_samples 30 = .ok (.invokevirtual 83, 3) := dg dtX8_samples_0_ok 21 rfl
theorem dX8_samples_33 : decode cX8_samples 33 = .ok (.ladd, 1) := dg dtX8_samples_0_ok 22 rfl
theorem dX8_samples_34 : decode cX8_samples 34 = .ok (.lastore, 1) := dg dtX8_samples_0_ok 23 rfl
theorem dX8_samples_35 : decode cX8_samples 35 = .ok (.aload_n 0, 1) := dg dtX8_samples_0_ok 24 rfl
theorem dX8_samples_36 : decode cX8_samples 36 = .ok (.iload_n 1, 1) := dg dtX8_samples_0_ok 25 rfl
theorem dX8_samples_37 : decode cX8_samples 37 = .ok (.iload_n 2, 1) := dg dtX8_samples_0_ok 26 rfl
theorem dX8_samples_38 : decode cX8_samples 38 = .ok (.i2l, 1) := dg dtX8_samples_0_ok 27 rfl
theorem dX8_samples_39 : decode cX8_samples 39 = .ok (.invokevirtual 138, 3) := dg dtX8_samples_0_ok 28 rfl
theorem dX8_samples_42 : decode cX8_samples 42 = .ok (.aload_n 0, 1) := dg dtX8_samples_0_ok 29 rfl
theorem dX8_samples_43 : decode cX8_samples 43 = .ok (.getfield 7, 3) := dg dtX8_samples_0_ok 30 rfl
theorem dX8_samples_46 : decode cX8_samples 46 = .ok (.iload_n 1, 1) := dg dtX8_samples_0_ok 31 rfl
theorem dX8_samples_47 : decode cX8_samples 47 = .ok (.invokestatic 65, 3) := dg dtX8_samples_0_ok 32 rfl
theorem dX8_samples_50 : decode cX8_samples 50 = .ok (.bipush 10, 2) := dg dtX8_samples_0_ok 33 rfl
theorem dX8_samples_52 : decode cX8_samples 52 = .ok (.iadd, 1) := dg dtX8_samples_0_ok 34 rfl
theorem dX8_samples_53 : decode cX8_samples 53 = .ok (.dup2, 1) := dg dtX8_samples_0_ok 35 rfl
theorem dX8_samples_54 : decode cX8_samples 54 = .ok (.laload, 1) := dg dtX8_samples_0_ok 36 rfl
theorem dX8_samples_55 : decode cX8_samples 55 = .ok (.iload_n 2, 1) := dg dtX8_samples_0_ok 37 rfl
theorem dX8_samples_56 : decode cX8_samples 56 = .ok (.i2l, 1) := dg dtX8_samples_0_ok 38 rfl
theorem dX8_samples_57 : decode cX8_samples 57 = .ok (.ladd, 1) := dg dtX8_samples_0_ok 39 rfl
theorem dX8_samples_58 : decode cX8_samples 58 = .ok (.lastore, 1) := dg dtX8_samples_0_ok 40 rfl
theorem dX8_samples_59 : decode cX8_samples 59 = .ok (.aload_n 0, 1) := dg dtX8_samples_0_ok 41 rfl
theorem dX8_samples_60 : decode cX8_samples 60 = .ok (.iload_n 1, 1) := dg dtX8_samples_0_ok 42 rfl
theorem dX8_samples_61 : decode cX8_samples 61 = .ok (.lload_n 3, 1) := dg dtX8_samples_0_ok 43 rfl
theorem dX8_samples_62 : decode cX8_samples 62 = .ok (.invokevirtual 142, 3) := dg dtX8_samples_0_ok 44 rfl
theorem dX8_samples_65 : decode cX8_samples 65 = .ok (.lload_n 3, 1) := dg dtX8_samples_0_ok 45 rfl
theorem dX8_samples_66 : decode cX8_samples 66 = .ok (.l2i, 1) := dg dtX8_samples_0_ok 46 rfl
theorem dX8_samples_67 : decode cX8_samples 67 = .ok (.ireturn, 1) := dg dtX8_samples_0_ok 47 rfl
def dtX8_checkExport_0 : List (Nat × Instr × Nat) := [(0, .aload_n 0, 1), (1, .iload_n 1, 1), (2, .iload_n 2, 1), (3, .invokevirtual 131, 3), (6, .istore_n 3, 1), (7, .iload_n 3, 1), (8, .ifCond .ge 7, 3), (11, .iload_n 3, 1), (12, .goto 25, 3), (15, .aload_n 0, 1), (16, .getfield 7, 3), (19, .iconst 3, 1), (20, .laload, 1), (21, .ldc2_w 36, 3), (24, .lcmp, 1), (25, .ifCond .ne 11, 3), (28, .aload_n 0, 1), (29, .iconst 5, 1), (30, .invokevirtual 113, 3), (33, .goto 4, 3), (36, .iconst 0, 1), (37, .ireturn, 1)]
theorem dtX8_checkExport_0_ok : ∀ q ∈ dtX8_checkExport_0, decode cX8_checkExport q.1 = .ok q.2 := by decide +kernel
theorem dX8_checkExport_0 : decode cX8_checkExport 0 = .ok (.aload_n 0, 1) := dg dtX8_checkExport_0_ok 0 rfl
theorem dX8_checkExport_1 : decode cX8_checkExport 1 = .ok (.iload_n 1, 1) := dg dtX8_checkExport_0_ok 1 rfl
theorem dX8_checkExport_2 : decode cX8_checkExport 2 = .ok (.iload_n 2, 1) := dg dtX8_checkExport_0_ok 2 rfl
theorem dX8_checkExport_3 : decode cX8_checkExport 3 = .ok (.invokevirtual 131, 3) := dg dtX8_checkExport_0_ok 3 rfl
theorem dX8_checkExport_6 : decode cX8_checkExport 6 = .ok (.istore_n 3, 1) := dg dtX8_checkExport_0_ok 4 rfl
theorem dX8_checkExport_7 : decode cX8_checkExport 7 = .ok (.iload_n 3, 1) := dg dtX8_checkExport_0_ok 5 rfl
theorem dX8_checkExport_8 : decode cX8_checkExport 8 = .ok (.ifCond .ge 7, 3) := dg dtX8_checkExport_0_ok 6 rfl
theorem dX8_checkExport_11 : decode cX8_checkExport 11 = .ok (.iload_n 3, 1) := dg dtX8_checkExport_0_ok 7 rfl
theorem dX8_checkExport_12 : decode cX8_checkExport 12 = .ok (.goto 25, 3) := dg dtX8_checkExport_0_ok 8 rfl
theorem dX8_checkExport_15 : decode cX8_checkExport 15 = .ok (.aload_n 0, 1) := dg dtX8_checkExport_0_ok 9 rfl
theorem dX8_checkExport_16 : decode cX8_checkExport 16 = .ok (.getfield 7, 3) := dg dtX8_checkExport_0_ok 10 rfl
theorem dX8_checkExport_19 : decode cX8_checkExport 19 = .ok (.iconst 3, 1) := dg dtX8_checkExport_0_ok 11 rfl
theorem dX8_checkExport_20 : decode cX8_checkExport 20 = .ok (.laload, 1) := dg dtX8_checkExport_0_ok 12 rfl
theorem dX8_checkExport_21 : decode cX8_checkExport 21 = .ok (.ldc2_w 36, 3) := dg dtX8_checkExport_0_ok 13 rfl
theorem dX8_checkExport_24 : decode cX8_checkExport 24 = .ok (.lcmp, 1) := dg dtX8_checkExport_0_ok 14 rfl
theorem dX8_checkExport_25 : decode cX8_checkExport 25 = .ok (.ifCond .ne 11, 3) := dg dtX8_checkExport_0_ok 15 rfl
theorem dX8_checkExport_28 : decode cX8_checkExport 28 = .ok (.aload_n 0, 1) := dg dtX8_checkExport_0_ok 16 rfl
theorem dX8_checkExport_29 : decode cX8_checkExport 29 = .ok (.iconst 5, 1) := dg dtX8_checkExport_0_ok 17 rfl
theorem dX8_checkExport_30 : decode cX8_checkExport 30 = .ok (.invokevirtual 113, 3) := dg dtX8_checkExport_0_ok 18 rfl
theorem dX8_checkExport_33 : decode cX8_checkExport 33 = .ok (.goto 4, 3) := dg dtX8_checkExport_0_ok 19 rfl
theorem dX8_checkExport_36 : decode cX8_checkExport 36 = .ok (.iconst 0, 1) := dg dtX8_checkExport_0_ok 20 rfl
theorem dX8_checkExport_37 : decode cX8_checkExport 37 = .ok (.ireturn, 1) := dg dtX8_checkExport_0_ok 21 rfl
def dtX8_exports_0 : List (Nat × Instr × Nat) := [(0, .aload_n 0, 1), (1, .iconst 3, 1), (2, .invokevirtual 52, 3), (5, .istore_n 3, 1), (6, .iload_n 3, 1), (7, .invokestatic 72, 3), (10, .istore 4, 2), (12, .aload_n 0, 1), (13, .getfield 7, 3), (16, .iload 4, 2), (18, .iload_n 1, 1), (19, .i2l, 1), (20, .lastore, 1), (21, .aload_n 0, 1), (22, .getfield 7, 3), (25, .iload 4, 2), (27, .iconst 1, 1), (28, .iadd, 1), (29, .iload_n 2, 1), (30, .i2l, 1), (31, .lastore, 1), (32, .aload_n 0, 1), (33, .getfield 7, 3), (36, .iload 4, 2), (38, .iconst 2, 1), (39, .iadd, 1), (40, .aload_n 0, 1), (41, .iload_n 1, 1), (42, .iload_n 2, 1), (43, .i2l, 1), (44, .invokevirtual 83, 3), (47, .lastore, 1), (48, .aload_n 0, 1), (49, .getfield 7, 3), (52, .iload 4, 2), (54, .iconst 3, 1), (55, .iadd, 1), (56, .aload_n 0, 1), (57, .getfield 7, 3), (60, .iconst 0, 1), (61, .laload, 1), (62, .aload_n 0, 1), (63, .getfield 7, 3), (66, .bipush 6, 2), (68, .laload, 1), (69, .ladd, 1), (70, .lastore, 1), (71, .aload_n 0, 1)]
theorem dtX8_exports_0_ok : ∀ q ∈ dtX8_exports_0, decode cX8_exports q.1 = .ok q.2 := by decide +kernel
theorem dX8_exports_0 : decode cX8_exports 0 = .ok (.aload_n 0, 1) := dg dtX8_exports_0_ok 0 rfl
theorem dX8_exports_1 : decode cX8_exports 1 = .ok (.iconst 3, 1) := dg dtX8_exports_0_ok 1 rfl
theorem dX8_exports_2 : decode cX8_exports 2 = .ok (.invokevirtual 52, 3) := dg dtX8_exports_0_ok 2 rfl
theorem dX8_exports_5 : decode cX8_exports 5 = .ok (.istore_n 3, 1) := dg dtX8_exports_0_ok 3 rfl
theorem dX8_exports_6 : decode cX8_exports 6 = .ok (.iload_n 3, 1) := dg dtX8_exports_0_ok 4 rfl
theorem dX8_exports_7 : decode cX8_exports 7 = .ok (.invokestatic 72, 3) := dg dtX8_exports_0_ok 5 rfl
theorem dX8_exports_10 : decode cX8_exports 10 = .ok (.istore 4, 2) := dg dtX8_exports_0_ok 6 rfl
theorem dX8_exports_12 : decode cX8_exports 12 = .ok (.aload_n 0, 1) := dg dtX8_exports_0_ok 7 rfl
theorem dX8_exports_13 : decode cX8_exports 13 = .ok (.getfield 7, 3) := dg dtX8_exports_0_ok 8 rfl
theorem dX8_exports_16 : decode cX8_exports 16 = .ok (.iload 4, 2) := dg dtX8_exports_0_ok 9 rfl
theorem dX8_exports_18 : decode cX8_exports 18 = .ok (.iload_n 1, 1) := dg dtX8_exports_0_ok 10 rfl
theorem dX8_exports_19 : decode cX8_exports 19 = .ok (.i2l, 1) := dg dtX8_exports_0_ok 11 rfl
theorem dX8_exports_20 : decode cX8_exports 20 = .ok (.lastore, 1) := dg dtX8_exports_0_ok 12 rfl
theorem dX8_exports_21 : decode cX8_exports 21 = .ok (.aload_n 0, 1) := dg dtX8_exports_0_ok 13 rfl
theorem dX8_exports_22 : decode cX8_exports 22 = .ok (.getfield 7, 3) := dg dtX8_exports_0_ok 14 rfl
theorem dX8_exports_25 : decode cX8_exports 25 = .ok (.iload 4, 2) := dg dtX8_exports_0_ok 15 rfl
theorem dX8_exports_27 : decode cX8_exports 27 = .ok (.iconst 1, 1) := dg dtX8_exports_0_ok 16 rfl
theorem dX8_exports_28 : decode cX8_exports 28 = .ok (.iadd, 1) := dg dtX8_exports_0_ok 17 rfl
theorem dX8_exports_29 : decode cX8_exports 29 = .ok (.iload_n 2, 1) := dg dtX8_exports_0_ok 18 rfl
theorem dX8_exports_30 : decode cX8_exports 30 = .ok (.i2l, 1) := dg dtX8_exports_0_ok 19 rfl
theorem dX8_exports_31 : decode cX8_exports 31 = .ok (.lastore, 1) := dg dtX8_exports_0_ok 20 rfl
theorem dX8_exports_32 : decode cX8_exports 32 = .ok (.aload_n 0, 1) := dg dtX8_exports_0_ok 21 rfl
theorem dX8_exports_33 : decode cX8_exports 33 = .ok (.getfield 7, 3) := dg dtX8_exports_0_ok 22 rfl
theorem dX8_exports_36 : decode cX8_exports 36 = .ok (.iload 4, 2) := dg dtX8_exports_0_ok 23 rfl
theorem dX8_exports_38 : decode cX8_exports 38 = .ok (.iconst 2, 1) := dg dtX8_exports_0_ok 24 rfl
theorem dX8_exports_39 : decode cX8_exports 39 = .ok (.iadd, 1) := dg dtX8_exports_0_ok 25 rfl
theorem dX8_exports_40 : decode cX8_exports 40 = .ok (.aload_n 0, 1) := dg dtX8_exports_0_ok 26 rfl
theorem dX8_exports_41 : decode cX8_exports 41 = .ok (.iload_n 1, 1) := dg dtX8_exports_0_ok 27 rfl
theorem dX8_exports_42 : decode cX8_exports 42 = .ok (.iload_n 2, 1) := dg dtX8_exports_0_ok 28 rfl
theorem dX8_exports_43 : decode cX8_exports 43 = .ok (.i2l, 1) := dg dtX8_exports_0_ok 29 rfl
theorem dX8_exports_44 : decode cX8_exports 44 = .ok (.invokevirtual 83, 3) := dg dtX8_exports_0_ok 30 rfl
theorem dX8_exports_47 : decode cX8_exports 47 = .ok (.lastore, 1) := dg dtX8_exports_0_ok 31 rfl
theorem dX8_exports_48 : decode cX8_exports 48 = .ok (.aload_n 0, 1) := dg dtX8_exports_0_ok 32 rfl
theorem dX8_exports_49 : decode cX8_exports 49 = .ok (.getfield 7, 3) := dg dtX8_exports_0_ok 33 rfl
theorem dX8_exports_52 : decode cX8_exports 52 = .ok (.iload 4, 2) := dg dtX8_exports_0_ok 34 rfl
theorem dX8_exports_54 : decode cX8_exports 54 = .ok (.iconst 3, 1) := dg dtX8_exports_0_ok 35 rfl
theorem dX8_exports_55 : decode cX8_exports 55 = .ok (.iadd, 1) := dg dtX8_exports_0_ok 36 rfl
theorem dX8_exports_56 : decode cX8_exports 56 = .ok (.aload_n 0, 1) := dg dtX8_exports_0_ok 37 rfl
theorem dX8_exports_57 : decode cX8_exports 57 = .ok (.getfield 7, 3) := dg dtX8_exports_0_ok 38 rfl
theorem dX8_exports_60 : decode cX8_exports 60 = .ok (.iconst 0, 1) := dg dtX8_exports_0_ok 39 rfl
theorem dX8_exports_61 : decode cX8_exports 61 = .ok (.laload, 1) := dg dtX8_exports_0_ok 40 rfl
theorem dX8_exports_62 : decode cX8_exports 62 = .ok (.aload_n 0, 1) := dg dtX8_exports_0_ok 41 rfl
theorem dX8_exports_63 : decode cX8_exports 63 = .ok (.getfield 7, 3) := dg dtX8_exports_0_ok 42 rfl
theorem dX8_exports_66 : decode cX8_exports 66 = .ok (.bipush 6, 2) := dg dtX8_exports_0_ok 43 rfl
theorem dX8_exports_68 : decode cX8_exports 68 = .ok (.laload, 1) := dg dtX8_exports_0_ok 44 rfl
theorem dX8_exports_69 : decode cX8_exports 69 = .ok (.ladd, 1) := dg dtX8_exports_0_ok 45 rfl
theorem dX8_exports_70 : decode cX8_exports 70 = .ok (.lastore, 1) := dg dtX8_exports_0_ok 46 rfl
theorem dX8_exports_71 : decode cX8_exports 71 = .ok (.aload_n 0, 1) := dg dtX8_exports_0_ok 47 rfl
def dtX8_exports_1 : List (Nat × Instr × Nat) := [(72, .getfield 7, 3), (75, .iload 4, 2), (77, .iconst 4, 1), (78, .iadd, 1), (79, .lconst 0, 1), (80, .lastore, 1), (81, .aload_n 0, 1), (82, .iload_n 1, 1), (83, .iload_n 2, 1), (84, .i2l, 1), (85, .invokevirtual 138, 3), (88, .aload_n 0, 1), (89, .getfield 7, 3), (92, .iconst 3, 1), (93, .dup2, 1), (94, .laload, 1), (95, .lconst 1, 1), (96, .ladd, 1), (97, .lastore, 1), (98, .iload_n 3, 1), (99, .ireturn, 1)]
theorem dtX8_exports_1_ok : ∀ q ∈ dtX8_exports_1, decode cX8_exports q.1 = .ok q.2 := by decide +kernel
theorem dX8_exports_72 : decode cX8_exports 72 = .ok (.getfield 7, 3) := dg dtX8_exports_1_ok 0 rfl
theorem dX8_exports_75 : decode cX8_exports 75 = .ok (.iload 4, 2) := dg dtX8_exports_1_ok 1 rfl
theorem dX8_exports_77 : decode cX8_exports 77 = .ok (.iconst 4, 1) := dg dtX8_exports_1_ok 2 rfl
theorem dX8_exports_78 : decode cX8_exports 78 = .ok (.iadd, 1) := dg dtX8_exports_1_ok 3 rfl
theorem dX8_exports_79 : decode cX8_exports 79 = .ok (.lconst 0, 1) := dg dtX8_exports_1_ok 4 rfl
theorem dX8_exports_80 : decode cX8_exports 80 = .ok (.lastore, 1) := dg dtX8_exports_1_ok 5 rfl
theorem dX8_exports_81 : decode cX8_exports 81 = .ok (.aload_n 0, 1) := dg dtX8_exports_1_ok 6 rfl
theorem dX8_exports_82 : decode cX8_exports 82 = .ok (.iload_n 1, 1) := dg dtX8_exports_1_ok 7 rfl
theorem dX8_exports_83 : decode cX8_exports 83 = .ok (.iload_n 2, 1) := dg dtX8_exports_1_ok 8 rfl
theorem dX8_exports_84 : decode cX8_exports 84 = .ok (.i2l, 1) := dg dtX8_exports_1_ok 9 rfl
theorem dX8_exports_85 : decode cX8_exports 85 = .ok (.invokevirtual 138, 3) := dg dtX8_exports_1_ok 10 rfl
theorem dX8_exports_88 : decode cX8_exports 88 = .ok (.aload_n 0, 1) := dg dtX8_exports_1_ok 11 rfl
theorem dX8_exports_89 : decode cX8_exports 89 = .ok (.getfield 7, 3) := dg dtX8_exports_1_ok 12 rfl
theorem dX8_exports_92 : decode cX8_exports 92 = .ok (.iconst 3, 1) := dg dtX8_exports_1_ok 13 rfl
theorem dX8_exports_93 : decode cX8_exports 93 = .ok (.dup2, 1) := dg dtX8_exports_1_ok 14 rfl
theorem dX8_exports_94 : decode cX8_exports 94 = .ok (.laload, 1) := dg dtX8_exports_1_ok 15 rfl
theorem dX8_exports_95 : decode cX8_exports 95 = .ok (.lconst 1, 1) := dg dtX8_exports_1_ok 16 rfl
theorem dX8_exports_96 : decode cX8_exports 96 = .ok (.ladd, 1) := dg dtX8_exports_1_ok 17 rfl
theorem dX8_exports_97 : decode cX8_exports 97 = .ok (.lastore, 1) := dg dtX8_exports_1_ok 18 rfl
theorem dX8_exports_98 : decode cX8_exports 98 = .ok (.iload_n 3, 1) := dg dtX8_exports_1_ok 19 rfl
theorem dX8_exports_99 : decode cX8_exports 99 = .ok (.ireturn, 1) := dg dtX8_exports_1_ok 20 rfl
def dtX8_checkProve_0 : List (Nat × Instr × Nat) := [(0, .aload_n 0, 1), (1, .iload_n 1, 1), (2, .invokevirtual 151, 3), (5, .ifCond .eq 8, 3), (8, .ldc 51, 2), (10, .goto 21, 3), (13, .aload_n 0, 1), (14, .iload_n 1, 1), (15, .invokevirtual 75, 3), (18, .ifCond .eq 7, 3), (21, .iconst 0, 1), (22, .goto 9, 3), (25, .aload_n 0, 1), (26, .bipush 6, 2), (28, .invokevirtual 113, 3), (31, .ireturn, 1)]
theorem dtX8_checkProve_0_ok : ∀ q ∈ dtX8_checkProve_0, decode cX8_checkProve q.1 = .ok q.2 := by decide +kernel
theorem dX8_checkProve_0 : decode cX8_checkProve 0 = .ok (.aload_n 0, 1) := dg dtX8_checkProve_0_ok 0 rfl
theorem dX8_checkProve_1 : decode cX8_checkProve 1 = .ok (.iload_n 1, 1) := dg dtX8_checkProve_0_ok 1 rfl
theorem dX8_checkProve_2 : decode cX8_checkProve 2 = .ok (.invokevirtual 151, 3) := dg dtX8_checkProve_0_ok 2 rfl
theorem dX8_checkProve_5 : decode cX8_checkProve 5 = .ok (.ifCond .eq 8, 3) := dg dtX8_checkProve_0_ok 3 rfl
theorem dX8_checkProve_8 : decode cX8_checkProve 8 = .ok (.ldc 51, 2) := dg dtX8_checkProve_0_ok 4 rfl
theorem dX8_checkProve_10 : decode cX8_checkProve 10 = .ok (.goto 21, 3) := dg dtX8_checkProve_0_ok 5 rfl
theorem dX8_checkProve_13 : decode cX8_checkProve 13 = .ok (.aload_n 0, 1) := dg dtX8_checkProve_0_ok 6 rfl
theorem dX8_checkProve_14 : decode cX8_checkProve 14 = .ok (.iload_n 1, 1) := dg dtX8_checkProve_0_ok 7 rfl
theorem dX8_checkProve_15 : decode cX8_checkProve 15 = .ok (.invokevirtual 75, 3) := dg dtX8_checkProve_0_ok 8 rfl
theorem dX8_checkProve_18 : decode cX8_checkProve 18 = .ok (.ifCond .eq 7, 3) := dg dtX8_checkProve_0_ok 9 rfl
theorem dX8_checkProve_21 : decode cX8_checkProve 21 = .ok (.iconst 0, 1) := dg dtX8_checkProve_0_ok 10 rfl
theorem dX8_checkProve_22 : decode cX8_checkProve 22 = .ok (.goto 9, 3) := dg dtX8_checkProve_0_ok 11 rfl
theorem dX8_checkProve_25 : decode cX8_checkProve 25 = .ok (.aload_n 0, 1) := dg dtX8_checkProve_0_ok 12 rfl
theorem dX8_checkProve_26 : decode cX8_checkProve 26 = .ok (.bipush 6, 2) := dg dtX8_checkProve_0_ok 13 rfl
theorem dX8_checkProve_28 : decode cX8_checkProve 28 = .ok (.invokevirtual 113, 3) := dg dtX8_checkProve_0_ok 14 rfl
theorem dX8_checkProve_31 : decode cX8_checkProve 31 = .ok (.ireturn, 1) := dg dtX8_checkProve_0_ok 15 rfl
def dtX8_proves_0 : List (Nat × Instr × Nat) := [(0, .aload_n 0, 1), (1, .getfield 7, 3), (4, .iload_n 1, 1), (5, .invokestatic 72, 3), (8, .iconst 4, 1), (9, .iadd, 1), (10, .lconst 1, 1), (11, .lastore, 1), (12, .aload_n 0, 1), (13, .getfield 7, 3), (16, .aload_n 0, 1), (17, .getfield 7, 3), (20, .iload_n 1, 1), (21, .invokestatic 72, 3), (24, .laload, 1), (25, .l2i, 1), (26, .invokestatic 65, 3), (29, .bipush 9, 2), (31, .iadd, 1), (32, .dup2, 1), (33, .laload, 1), (34, .aload_n 0, 1), (35, .getfield 7, 3), (38, .iload_n 1, 1), (39, .invokestatic 72, 3), (42, .iconst 2, 1), (43, .iadd, 1), (44, .laload, 1), (45, .ladd, 1), (46, .lastore, 1), (47, .aload_n 0, 1), (48, .iload_n 1, 1), (49, .invokestatic 72, 3), (52, .iconst 2, 1), (53, .iadd, 1), (54, .invokevirtual 52, 3), (57, .ireturn, 1)]
theorem dtX8_proves_0_ok : ∀ q ∈ dtX8_proves_0, decode cX8_proves q.1 = .ok q.2 := by decide +kernel
theorem dX8_proves_0 : decode cX8_proves 0 = .ok (.aload_n 0, 1) := dg dtX8_proves_0_ok 0 rfl
theorem dX8_proves_1 : decode cX8_proves 1 = .ok (.getfield 7, 3) := dg dtX8_proves_0_ok 1 rfl
theorem dX8_proves_4 : decode cX8_proves 4 = .ok (.iload_n 1, 1) := dg dtX8_proves_0_ok 2 rfl
theorem dX8_proves_5 : decode cX8_proves 5 = .ok (.invokestatic 72, 3) := dg dtX8_proves_0_ok 3 rfl
theorem dX8_proves_8 : decode cX8_proves 8 = .ok (.iconst 4, 1) := dg dtX8_proves_0_ok 4 rfl
theorem dX8_proves_9 : decode cX8_proves 9 = .ok (.iadd, 1) := dg dtX8_proves_0_ok 5 rfl
theorem dX8_proves_10 : decode cX8_proves 10 = .ok (.lconst 1, 1) := dg dtX8_proves_0_ok 6 rfl
theorem dX8_proves_11 : decode cX8_proves 11 = .ok (.lastore, 1) := dg dtX8_proves_0_ok 7 rfl
theorem dX8_proves_12 : decode cX8_proves 12 = .ok (.aload_n 0, 1) := dg dtX8_proves_0_ok 8 rfl
theorem dX8_proves_13 : decode cX8_proves 13 = .ok (.getfield 7, 3) := dg dtX8_proves_0_ok 9 rfl
theorem dX8_proves_16 : decode cX8_proves 16 = .ok (.aload_n 0, 1) := dg dtX8_proves_0_ok 10 rfl
theorem dX8_proves_17 : decode cX8_proves 17 = .ok (.getfield 7, 3) := dg dtX8_proves_0_ok 11 rfl
theorem dX8_proves_20 : decode cX8_proves 20 = .ok (.iload_n 1, 1) := dg dtX8_proves_0_ok 12 rfl
theorem dX8_proves_21 : decode cX8_proves 21 = .ok (.invokestatic 72, 3) := dg dtX8_proves_0_ok 13 rfl
theorem dX8_proves_24 : decode cX8_proves 24 = .ok (.laload, 1) := dg dtX8_proves_0_ok 14 rfl
theorem dX8_proves_25 : decode cX8_proves 25 = .ok (.l2i, 1) := dg dtX8_proves_0_ok 15 rfl
theorem dX8_proves_26 : decode cX8_proves 26 = .ok (.invokestatic 65, 3) := dg dtX8_proves_0_ok 16 rfl
theorem dX8_proves_29 : decode cX8_proves 29 = .ok (.bipush 9, 2) := dg dtX8_proves_0_ok 17 rfl
theorem dX8_proves_31 : decode cX8_proves 31 = .ok (.iadd, 1) := dg dtX8_proves_0_ok 18 rfl
theorem dX8_proves_32 : decode cX8_proves 32 = .ok (.dup2, 1) := dg dtX8_proves_0_ok 19 rfl
theorem dX8_proves_33 : decode cX8_proves 33 = .ok (.laload, 1) := dg dtX8_proves_0_ok 20 rfl
theorem dX8_proves_34 : decode cX8_proves 34 = .ok (.aload_n 0, 1) := dg dtX8_proves_0_ok 21 rfl
theorem dX8_proves_35 : decode cX8_proves 35 = .ok (.getfield 7, 3) := dg dtX8_proves_0_ok 22 rfl
theorem dX8_proves_38 : decode cX8_proves 38 = .ok (.iload_n 1, 1) := dg dtX8_proves_0_ok 23 rfl
theorem dX8_proves_39 : decode cX8_proves 39 = .ok (.invokestatic 72, 3) := dg dtX8_proves_0_ok 24 rfl
theorem dX8_proves_42 : decode cX8_proves 42 = .ok (.iconst 2, 1) := dg dtX8_proves_0_ok 25 rfl
theorem dX8_proves_43 : decode cX8_proves 43 = .ok (.iadd, 1) := dg dtX8_proves_0_ok 26 rfl
theorem dX8_proves_44 : decode cX8_proves 44 = .ok (.laload, 1) := dg dtX8_proves_0_ok 27 rfl
theorem dX8_proves_45 : decode cX8_proves 45 = .ok (.ladd, 1) := dg dtX8_proves_0_ok 28 rfl
theorem dX8_proves_46 : decode cX8_proves 46 = .ok (.lastore, 1) := dg dtX8_proves_0_ok 29 rfl
theorem dX8_proves_47 : decode cX8_proves 47 = .ok (.aload_n 0, 1) := dg dtX8_proves_0_ok 30 rfl
theorem dX8_proves_48 : decode cX8_proves 48 = .ok (.iload_n 1, 1) := dg dtX8_proves_0_ok 31 rfl
theorem dX8_proves_49 : decode cX8_proves 49 = .ok (.invokestatic 72, 3) := dg dtX8_proves_0_ok 32 rfl
theorem dX8_proves_52 : decode cX8_proves 52 = .ok (.iconst 2, 1) := dg dtX8_proves_0_ok 33 rfl
theorem dX8_proves_53 : decode cX8_proves 53 = .ok (.iadd, 1) := dg dtX8_proves_0_ok 34 rfl
theorem dX8_proves_54 : decode cX8_proves 54 = .ok (.invokevirtual 52, 3) := dg dtX8_proves_0_ok 35 rfl
theorem dX8_proves_57 : decode cX8_proves 57 = .ok (.ireturn, 1) := dg dtX8_proves_0_ok 36 rfl
def dtX8_checkDestroy_0 : List (Nat × Instr × Nat) := [(0, .aload_n 0, 1), (1, .iload_n 1, 1), (2, .iload_n 2, 1), (3, .invokevirtual 131, 3), (6, .istore_n 3, 1), (7, .iload_n 3, 1), (8, .ifCond .ge 7, 3), (11, .iload_n 3, 1), (12, .goto 31, 3), (15, .iload_n 2, 1), (16, .i2l, 1), (17, .aload_n 0, 1), (18, .getfield 7, 3), (21, .bipush 9, 2), (23, .laload, 1), (24, .lmul, 1), (25, .aload_n 0, 1), (26, .iload_n 1, 1), (27, .invokevirtual 135, 3), (30, .lcmp, 1), (31, .ifCond .le 11, 3), (34, .aload_n 0, 1), (35, .iconst 3, 1), (36, .invokevirtual 113, 3), (39, .goto 4, 3), (42, .iconst 0, 1), (43, .ireturn, 1)]
theorem dtX8_checkDestroy_0_ok : ∀ q ∈ dtX8_checkDestroy_0, decode cX8_checkDestroy q.1 = .ok q.2 := by decide +kernel
theorem dX8_checkDestroy_0 : decode cX8_checkDestroy 0 = .ok (.aload_n 0, 1) := dg dtX8_checkDestroy_0_ok 0 rfl
theorem dX8_checkDestroy_1 : decode cX8_checkDestroy 1 = .ok (.iload_n 1, 1) := dg dtX8_checkDestroy_0_ok 1 rfl
theorem dX8_checkDestroy_2 : decode cX8_checkDestroy 2 = .ok (.iload_n 2, 1) := dg dtX8_checkDestroy_0_ok 2 rfl
theorem dX8_checkDestroy_3 : decode cX8_checkDestroy 3 = .ok (.invokevirtual 131, 3) := dg dtX8_checkDestroy_0_ok 3 rfl
theorem dX8_checkDestroy_6 : decode cX8_checkDestroy 6 = .ok (.istore_n 3, 1) := dg dtX8_checkDestroy_0_ok 4 rfl
theorem dX8_checkDestroy_7 : decode cX8_checkDestroy 7 = .ok (.iload_n 3, 1) := dg dtX8_checkDestroy_0_ok 5 rfl
theorem dX8_checkDestroy_8 : decode cX8_checkDestroy 8 = .ok (.ifCond .ge 7, 3) := dg dtX8_checkDestroy_0_ok 6 rfl
theorem dX8_checkDestroy_11 : decode cX8_checkDestroy 11 = .ok (.iload_n 3, 1) := dg dtX8_checkDestroy_0_ok 7 rfl
theorem dX8_checkDestroy_12 : decode cX8_checkDestroy 12 = .ok (.goto 31, 3) := dg dtX8_checkDestroy_0_ok 8 rfl
theorem dX8_checkDestroy_15 : decode cX8_checkDestroy 15 = .ok (.iload_n 2, 1) := dg dtX8_checkDestroy_0_ok 9 rfl
theorem dX8_checkDestroy_16 : decode cX8_checkDestroy 16 = .ok (.i2l, 1) := dg dtX8_checkDestroy_0_ok 10 rfl
theorem dX8_checkDestroy_17 : decode cX8_checkDestroy 17 = .ok (.aload_n 0, 1) := dg dtX8_checkDestroy_0_ok 11 rfl
theorem dX8_checkDestroy_18 : decode cX8_checkDestroy 18 = .ok (.getfield 7, 3) := dg dtX8_checkDestroy_0_ok 12 rfl
theorem dX8_checkDestroy_21 : decode cX8_checkDestroy 21 = .ok (.bipush 9, 2) := dg dtX8_checkDestroy_0_ok 13 rfl
theorem dX8_checkDestroy_23 : decode cX8_checkDestroy 23 = .ok (.laload, 1) := dg dtX8_checkDestroy_0_ok 14 rfl
theorem dX8_checkDestroy_24 : decode cX8_checkDestroy 24 = .ok (.lmul, 1) := dg dtX8_checkDestroy_0_ok 15 rfl
theorem dX8_checkDestroy_25 : decode cX8_checkDestroy 25 = .ok (.aload_n 0, 1) := dg dtX8_checkDestroy_0_ok 16 rfl
theorem dX8_checkDestroy_26 : decode cX8_checkDestroy 26 = .ok (.iload_n 1, 1) := dg dtX8_checkDestroy_0_ok 17 rfl
theorem dX8_checkDestroy_27 : decode cX8_checkDestroy 27 = .ok (.invokevirtual 135, 3) := dg dtX8_checkDestroy_0_ok 18 rfl
theorem dX8_checkDestroy_30 : decode cX8_checkDestroy 30 = .ok (.lcmp, 1) := dg dtX8_checkDestroy_0_ok 19 rfl
theorem dX8_checkDestroy_31 : decode cX8_checkDestroy 31 = .ok (.ifCond .le 11, 3) := dg dtX8_checkDestroy_0_ok 20 rfl
theorem dX8_checkDestroy_34 : decode cX8_checkDestroy 34 = .ok (.aload_n 0, 1) := dg dtX8_checkDestroy_0_ok 21 rfl
theorem dX8_checkDestroy_35 : decode cX8_checkDestroy 35 = .ok (.iconst 3, 1) := dg dtX8_checkDestroy_0_ok 22 rfl
theorem dX8_checkDestroy_36 : decode cX8_checkDestroy 36 = .ok (.invokevirtual 113, 3) := dg dtX8_checkDestroy_0_ok 23 rfl
theorem dX8_checkDestroy_39 : decode cX8_checkDestroy 39 = .ok (.goto 4, 3) := dg dtX8_checkDestroy_0_ok 24 rfl
theorem dX8_checkDestroy_42 : decode cX8_checkDestroy 42 = .ok (.iconst 0, 1) := dg dtX8_checkDestroy_0_ok 25 rfl
theorem dX8_checkDestroy_43 : decode cX8_checkDestroy 43 = .ok (.ireturn, 1) := dg dtX8_checkDestroy_0_ok 26 rfl
def dtX8_destroys_0 : List (Nat × Instr × Nat) := [(0, .aload_n 0, 1), (1, .iload_n 1, 1), (2, .iload_n 2, 1), (3, .i2l, 1), (4, .invokevirtual 83, 3), (7, .lstore_n 3, 1), (8, .aload_n 0, 1), (9, .iload_n 1, 1), (10, .iload_n 2, 1), (11, .i2l, 1), (12, .invokevirtual 138, 3), (15, .aload_n 0, 1), (16, .getfield 7, 3), (19, .iload_n 1, 1), (20, .invokestatic 65, 3), (23, .bipush 9, 2), (25, .iadd, 1), (26, .dup2, 1), (27, .laload, 1), (28, .lload_n 3, 1), (29, .ladd, 1), (30, .lastore, 1), (31, .aload_n 0, 1), (32, .getfield 7, 3), (35, .aload_n 0, 1), (36, .getfield 7, 3), (39, .iload_n 1, 1), (40, .invokestatic 65, 3), (43, .laload, 1), (44, .l2i, 1), (45, .invokestatic 94, 3), (48, .dup2, 1), (49, .laload, 1), (50, .iload_n 2, 1), (51, .i2l, 1), (52, .aload_n 0, 1), (53, .getfield 7, 3), (56, .bipush 9, 2), (58, .laload, 1), (59, .lmul, 1), (60, .lsub, 1), (61, .lastore, 1), (62, .aload_n 0, 1), (63, .getfield 7, 3), (66, .bipush 11, 2), (68, .dup2, 1), (69, .laload, 1), (70, .iload_n 2, 1)]
theorem dtX8_destroys_0_ok : ∀ q ∈ dtX8_destroys_0, decode cX8_destroys q.1 = .ok q.2 := by decide +kernel
theorem dX8_destroys_0 : decode cX8_destroys 0 = .ok (.aload_n 0, 1) := dg dtX8_destroys_0_ok 0 rfl
theorem dX8_destroys_1 : decode cX8_destroys 1 = .ok (.iload_n 1, 1) := dg dtX8_destroys_0_ok 1 rfl
theorem dX8_destroys_2 : decode cX8_destroys 2 = .ok (.iload_n 2, 1) := dg dtX8_destroys_0_ok 2 rfl
theorem dX8_destroys_3 : decode cX8_destroys 3 = .ok (.i2l, 1) := dg dtX8_destroys_0_ok 3 rfl
theorem dX8_destroys_4 : decode cX8_destroys 4 = .ok (.invokevirtual 83, 3) := dg dtX8_destroys_0_ok 4 rfl
theorem dX8_destroys_7 : decode cX8_destroys 7 = .ok (.lstore_n 3, 1) := dg dtX8_destroys_0_ok 5 rfl
theorem dX8_destroys_8 : decode cX8_destroys 8 = .ok (.aload_n 0, 1) := dg dtX8_destroys_0_ok 6 rfl
theorem dX8_destroys_9 : decode cX8_destroys 9 = .ok (.iload_n 1, 1) := dg dtX8_destroys_0_ok 7 rfl
theorem dX8_destroys_10 : decode cX8_destroys 10 = .ok (.iload_n 2, 1) := dg dtX8_destroys_0_ok 8 rfl
theorem dX8_destroys_11 : decode cX8_destroys 11 = .ok (.i2l, 1) := dg dtX8_destroys_0_ok 9 rfl
theorem dX8_destroys_12 : decode cX8_destroys 12 = .ok (.invokevirtual 138, 3) := dg dtX8_destroys_0_ok 10 rfl
theorem dX8_destroys_15 : decode cX8_destroys 15 = .ok (.aload_n 0, 1) := dg dtX8_destroys_0_ok 11 rfl
theorem dX8_destroys_16 : decode cX8_destroys 16 = .ok (.getfield 7, 3) := dg dtX8_destroys_0_ok 12 rfl
theorem dX8_destroys_19 : decode cX8_destroys 19 = .ok (.iload_n 1, 1) := dg dtX8_destroys_0_ok 13 rfl
theorem dX8_destroys_20 : decode cX8_destroys 20 = .ok (.invokestatic 65, 3) := dg dtX8_destroys_0_ok 14 rfl
theorem dX8_destroys_23 : decode cX8_destroys 23 = .ok (.bipush 9, 2) := dg dtX8_destroys_0_ok 15 rfl
theorem dX8_destroys_25 : decode cX8_destroys 25 = .ok (.iadd, 1) := dg dtX8_destroys_0_ok 16 rfl
theorem dX8_destroys_26 : decode cX8_destroys 26 = .ok (.dup2, 1) := dg dtX8_destroys_0_ok 17 rfl
theorem dX8_destroys_27 : decode cX8_destroys 27 = .ok (.laload, 1) := dg dtX8_destroys_0_ok 18 rfl
theorem dX8_destroys_28 : decode cX8_destroys 28 = .ok (.lload_n 3, 1) := dg dtX8_destroys_0_ok 19 rfl
theorem dX8_destroys_29 : decode cX8_destroys 29 = .ok (.ladd, 1) := dg dtX8_destroys_0_ok 20 rfl
theorem dX8_destroys_30 : decode cX8_destroys 30 = .ok (.lastore, 1) := dg dtX8_destroys_0_ok 21 rfl
theorem dX8_destroys_31 : decode cX8_destroys 31 = .ok (.aload_n 0, 1) := dg dtX8_destroys_0_ok 22 rfl
theorem dX8_destroys_32 : decode cX8_destroys 32 = .ok (.getfield 7, 3) := dg dtX8_destroys_0_ok 23 rfl
theorem dX8_destroys_35 : decode cX8_destroys 35 = .ok (.aload_n 0, 1) := dg dtX8_destroys_0_ok 24 rfl
theorem dX8_destroys_36 : decode cX8_destroys 36 = .ok (.getfield 7, 3) := dg dtX8_destroys_0_ok 25 rfl
theorem dX8_destroys_39 : decode cX8_destroys 39 = .ok (.iload_n 1, 1) := dg dtX8_destroys_0_ok 26 rfl
theorem dX8_destroys_40 : decode cX8_destroys 40 = .ok (.invokestatic 65, 3) := dg dtX8_destroys_0_ok 27 rfl
theorem dX8_destroys_43 : decode cX8_destroys 43 = .ok (.laload, 1) := dg dtX8_destroys_0_ok 28 rfl
theorem dX8_destroys_44 : decode cX8_destroys 44 = .ok (.l2i, 1) := dg dtX8_destroys_0_ok 29 rfl
theorem dX8_destroys_45 : decode cX8_destroys 45 = .ok (.invokestatic 94, 3) := dg dtX8_destroys_0_ok 30 rfl
theorem dX8_destroys_48 : decode cX8_destroys 48 = .ok (.dup2, 1) := dg dtX8_destroys_0_ok 31 rfl
theorem dX8_destroys_49 : decode cX8_destroys 49 = .ok (.laload, 1) := dg dtX8_destroys_0_ok 32 rfl
theorem dX8_destroys_50 : decode cX8_destroys 50 = .ok (.iload_n 2, 1) := dg dtX8_destroys_0_ok 33 rfl
theorem dX8_destroys_51 : decode cX8_destroys 51 = .ok (.i2l, 1) := dg dtX8_destroys_0_ok 34 rfl
theorem dX8_destroys_52 : decode cX8_destroys 52 = .ok (.aload_n 0, 1) := dg dtX8_destroys_0_ok 35 rfl
theorem dX8_destroys_53 : decode cX8_destroys 53 = .ok (.getfield 7, 3) := dg dtX8_destroys_0_ok 36 rfl
theorem dX8_destroys_56 : decode cX8_destroys 56 = .ok (.bipush 9, 2) := dg dtX8_destroys_0_ok 37 rfl
theorem dX8_destroys_58 : decode cX8_destroys 58 = .ok (.laload, 1) := dg dtX8_destroys_0_ok 38 rfl
theorem dX8_destroys_59 : decode cX8_destroys 59 = .ok (.lmul, 1) := dg dtX8_destroys_0_ok 39 rfl
theorem dX8_destroys_60 : decode cX8_destroys 60 = .ok (.lsub, 1) := dg dtX8_destroys_0_ok 40 rfl
theorem dX8_destroys_61 : decode cX8_destroys 61 = .ok (.lastore, 1) := dg dtX8_destroys_0_ok 41 rfl
theorem dX8_destroys_62 : decode cX8_destroys 62 = .ok (.aload_n 0, 1) := dg dtX8_destroys_0_ok 42 rfl
theorem dX8_destroys_63 : decode cX8_destroys 63 = .ok (.getfield 7, 3) := dg dtX8_destroys_0_ok 43 rfl
theorem dX8_destroys_66 : decode cX8_destroys 66 = .ok (.bipush 11, 2) := dg dtX8_destroys_0_ok 44 rfl
theorem dX8_destroys_68 : decode cX8_destroys 68 = .ok (.dup2, 1) := dg dtX8_destroys_0_ok 45 rfl
theorem dX8_destroys_69 : decode cX8_destroys 69 = .ok (.laload, 1) := dg dtX8_destroys_0_ok 46 rfl
theorem dX8_destroys_70 : decode cX8_destroys 70 = .ok (.iload_n 2, 1) := dg dtX8_destroys_0_ok 47 rfl
def dtX8_destroys_1 : List (Nat × Instr × Nat) := [(71, .i2l, 1), (72, .aload_n 0, 1), (73, .getfield 7, 3), (76, .bipush 9, 2), (78, .laload, 1), (79, .lmul, 1), (80, .ladd, 1), (81, .lastore, 1), (82, .lload_n 3, 1), (83, .l2i, 1), (84, .ireturn, 1)]
theorem dtX8_destroys_1_ok : ∀ q ∈ dtX8_destroys_1, decode cX8_destroys q.1 = .ok q.2 := by decide +kernel
theorem dX8_destroys_71 : decode cX8_destroys 71 = .ok (.i2l, 1) := dg dtX8_destroys_1_ok 0 rfl
theorem dX8_destroys_72 : decode cX8_destroys 72 = .ok (.aload_n 0, 1) := dg dtX8_destroys_1_ok 1 rfl
theorem dX8_destroys_73 : decode cX8_destroys 73 = .ok (.getfield 7, 3) := dg dtX8_destroys_1_ok 2 rfl
theorem dX8_destroys_76 : decode cX8_destroys 76 = .ok (.bipush 9, 2) := dg dtX8_destroys_1_ok 3 rfl
theorem dX8_destroys_78 : decode cX8_destroys 78 = .ok (.laload, 1) := dg dtX8_destroys_1_ok 4 rfl
theorem dX8_destroys_79 : decode cX8_destroys 79 = .ok (.lmul, 1) := dg dtX8_destroys_1_ok 5 rfl
theorem dX8_destroys_80 : decode cX8_destroys 80 = .ok (.ladd, 1) := dg dtX8_destroys_1_ok 6 rfl
theorem dX8_destroys_81 : decode cX8_destroys 81 = .ok (.lastore, 1) := dg dtX8_destroys_1_ok 7 rfl
theorem dX8_destroys_82 : decode cX8_destroys 82 = .ok (.lload_n 3, 1) := dg dtX8_destroys_1_ok 8 rfl
theorem dX8_destroys_83 : decode cX8_destroys 83 = .ok (.l2i, 1) := dg dtX8_destroys_1_ok 9 rfl
theorem dX8_destroys_84 : decode cX8_destroys 84 = .ok (.ireturn, 1) := dg dtX8_destroys_1_ok 10 rfl
def dtX8_checkGive_0 : List (Nat × Instr × Nat) := [(0, .aload_n 0, 1), (1, .iload_n 1, 1), (2, .invokevirtual 128, 3), (5, .ifCond .ne 11, 3), (8, .aload_n 0, 1), (9, .iload_n 2, 1), (10, .invokevirtual 98, 3), (13, .ifCond .eq 6, 3), (16, .ldc 51, 2), (18, .ireturn, 1), (19, .aload_n 0, 1), (20, .getfield 7, 3), (23, .iload_n 1, 1), (24, .invokestatic 65, 3), (27, .laload, 1), (28, .iload_n 2, 1), (29, .i2l, 1), (30, .lcmp, 1), (31, .ifCond .ne 6, 3), (34, .ldc 103, 2), (36, .ireturn, 1), (37, .aload_n 0, 1), (38, .getfield 7, 3), (41, .iload_n 2, 1), (42, .invokestatic 94, 3), (45, .iconst 2, 1), (46, .iadd, 1), (47, .laload, 1), (48, .lconst 0, 1), (49, .lcmp, 1), (50, .ifCond .le 9, 3), (53, .aload_n 0, 1), (54, .iconst 1, 1), (55, .invokevirtual 113, 3), (58, .ireturn, 1), (59, .aload_n 0, 1), (60, .aload_n 0, 1), (61, .iload_n 2, 1), (62, .invokevirtual 106, 3), (65, .aload_n 0, 1), (66, .iload_n 1, 1), (67, .invokevirtual 91, 3), (70, .ladd, 1), (71, .aload_n 0, 1), (72, .getfield 7, 3), (75, .iload_n 2, 1), (76, .invokestatic 94, 3), (79, .iconst 1, 1)]
theorem dtX8_checkGive_0_ok : ∀ q ∈ dtX8_checkGive_0, decode cX8_checkGive q.1 = .ok q.2 := by decide +kernel
theorem dX8_checkGive_0 : decode cX8_checkGive 0 = .ok (.aload_n 0, 1) := dg dtX8_checkGive_0_ok 0 rfl
theorem dX8_checkGive_1 : decode cX8_checkGive 1 = .ok (.iload_n 1, 1) := dg dtX8_checkGive_0_ok 1 rfl
theorem dX8_checkGive_2 : decode cX8_checkGive 2 = .ok (.invokevirtual 128, 3) := dg dtX8_checkGive_0_ok 2 rfl
theorem dX8_checkGive_5 : decode cX8_checkGive 5 = .ok (.ifCond .ne 11, 3) := dg dtX8_checkGive_0_ok 3 rfl
theorem dX8_checkGive_8 : decode cX8_checkGive 8 = .ok (.aload_n 0, 1) := dg dtX8_checkGive_0_ok 4 rfl
theorem dX8_checkGive_9 : decode cX8_checkGive 9 = .ok (.iload_n 2, 1) := dg dtX8_checkGive_0_ok 5 rfl
theorem dX8_checkGive_10 : decode cX8_checkGive 10 = .ok (.invokevirtual 98, 3) := dg dtX8_checkGive_0_ok 6 rfl
theorem dX8_checkGive_13 : decode cX8_checkGive 13 = .ok (.ifCond .eq 6, 3) := dg dtX8_checkGive_0_ok 7 rfl
theorem dX8_checkGive_16 : decode cX8_checkGive 16 = .ok (.ldc 51, 2) := dg dtX8_checkGive_0_ok 8 rfl
theorem dX8_checkGive_18 : decode cX8_checkGive 18 = .ok (.ireturn, 1) := dg dtX8_checkGive_0_ok 9 rfl
theorem dX8_checkGive_19 : decode cX8_checkGive 19 = .ok (.aload_n 0, 1) := dg dtX8_checkGive_0_ok 10 rfl
theorem dX8_checkGive_20 : decode cX8_checkGive 20 = .ok (.getfield 7, 3) := dg dtX8_checkGive_0_ok 11 rfl
theorem dX8_checkGive_23 : decode cX8_checkGive 23 = .ok (.iload_n 1, 1) := dg dtX8_checkGive_0_ok 12 rfl
theorem dX8_checkGive_24 : decode cX8_checkGive 24 = .ok (.invokestatic 65, 3) := dg dtX8_checkGive_0_ok 13 rfl
theorem dX8_checkGive_27 : decode cX8_checkGive 27 = .ok (.laload, 1) := dg dtX8_checkGive_0_ok 14 rfl
theorem dX8_checkGive_28 : decode cX8_checkGive 28 = .ok (.iload_n 2, 1) := dg dtX8_checkGive_0_ok 15 rfl
theorem dX8_checkGive_29 : decode cX8_checkGive 29 = .ok (.i2l, 1) := dg dtX8_checkGive_0_ok 16 rfl
theorem dX8_checkGive_30 : decode cX8_checkGive 30 = .ok (.lcmp, 1) := dg dtX8_checkGive_0_ok 17 rfl
theorem dX8_checkGive_31 : decode cX8_checkGive 31 = .ok (.ifCond .ne 6, 3) := dg dtX8_checkGive_0_ok 18 rfl
theorem dX8_checkGive_34 : decode cX8_checkGive 34 = .ok (.ldc 103, 2) := dg dtX8_checkGive_0_ok 19 rfl
theorem dX8_checkGive_36 : decode cX8_checkGive 36 = .ok (.ireturn, 1) := dg dtX8_checkGive_0_ok 20 rfl
theorem dX8_checkGive_37 : decode cX8_checkGive 37 = .ok (.aload_n 0, 1) := dg dtX8_checkGive_0_ok 21 rfl
theorem dX8_checkGive_38 : decode cX8_checkGive 38 = .ok (.getfield 7, 3) := dg dtX8_checkGive_0_ok 22 rfl
theorem dX8_checkGive_41 : decode cX8_checkGive 41 = .ok (.iload_n 2, 1) := dg dtX8_checkGive_0_ok 23 rfl
theorem dX8_checkGive_42 : decode cX8_checkGive 42 = .ok (.invokestatic 94, 3) := dg dtX8_checkGive_0_ok 24 rfl
theorem dX8_checkGive_45 : decode cX8_checkGive 45 = .ok (.iconst 2, 1) := dg dtX8_checkGive_0_ok 25 rfl
theorem dX8_checkGive_46 : decode cX8_checkGive 46 = .ok (.iadd, 1) := dg dtX8_checkGive_0_ok 26 rfl
theorem dX8_checkGive_47 : decode cX8_checkGive 47 = .ok (.laload, 1) := dg dtX8_checkGive_0_ok 27 rfl
theorem dX8_checkGive_48 : decode cX8_checkGive 48 = .ok (.lconst 0, 1) := dg dtX8_checkGive_0_ok 28 rfl
theorem dX8_checkGive_49 : decode cX8_checkGive 49 = .ok (.lcmp, 1) := dg dtX8_checkGive_0_ok 29 rfl
theorem dX8_checkGive_50 : decode cX8_checkGive 50 = .ok (.ifCond .le 9, 3) := dg dtX8_checkGive_0_ok 30 rfl
theorem dX8_checkGive_53 : decode cX8_checkGive 53 = .ok (.aload_n 0, 1) := dg dtX8_checkGive_0_ok 31 rfl
theorem dX8_checkGive_54 : decode cX8_checkGive 54 = .ok (.iconst 1, 1) := dg dtX8_checkGive_0_ok 32 rfl
theorem dX8_checkGive_55 : decode cX8_checkGive 55 = .ok (.invokevirtual 113, 3) := dg dtX8_checkGive_0_ok 33 rfl
theorem dX8_checkGive_58 : decode cX8_checkGive 58 = .ok (.ireturn, 1) := dg dtX8_checkGive_0_ok 34 rfl
theorem dX8_checkGive_59 : decode cX8_checkGive 59 = .ok (.aload_n 0, 1) := dg dtX8_checkGive_0_ok 35 rfl
theorem dX8_checkGive_60 : decode cX8_checkGive 60 = .ok (.aload_n 0, 1) := dg dtX8_checkGive_0_ok 36 rfl
theorem dX8_checkGive_61 : decode cX8_checkGive 61 = .ok (.iload_n 2, 1) := dg dtX8_checkGive_0_ok 37 rfl
theorem dX8_checkGive_62 : decode cX8_checkGive 62 = .ok (.invokevirtual 106, 3) := dg dtX8_checkGive_0_ok 38 rfl
theorem dX8_checkGive_65 : decode cX8_checkGive 65 = .ok (.aload_n 0, 1) := dg dtX8_checkGive_0_ok 39 rfl
theorem dX8_checkGive_66 : decode cX8_checkGive 66 = .ok (.iload_n 1, 1) := dg dtX8_checkGive_0_ok 40 rfl
theorem dX8_checkGive_67 : decode cX8_checkGive 67 = .ok (.invokevirtual 91, 3) := dg dtX8_checkGive_0_ok 41 rfl
theorem dX8_checkGive_70 : decode cX8_checkGive 70 = .ok (.ladd, 1) := dg dtX8_checkGive_0_ok 42 rfl
theorem dX8_checkGive_71 : decode cX8_checkGive 71 = .ok (.aload_n 0, 1) := dg dtX8_checkGive_0_ok 43 rfl
theorem dX8_checkGive_72 : decode cX8_checkGive 72 = .ok (.getfield 7, 3) := dg dtX8_checkGive_0_ok 44 rfl
theorem dX8_checkGive_75 : decode cX8_checkGive 75 = .ok (.iload_n 2, 1) := dg dtX8_checkGive_0_ok 45 rfl
theorem dX8_checkGive_76 : decode cX8_checkGive 76 = .ok (.invokestatic 94, 3) := dg dtX8_checkGive_0_ok 46 rfl
theorem dX8_checkGive_79 : decode cX8_checkGive 79 = .ok (.iconst 1, 1) := dg dtX8_checkGive_0_ok 47 rfl
def dtX8_checkGive_1 : List (Nat × Instr × Nat) := [(80, .iadd, 1), (81, .laload, 1), (82, .invokevirtual 109, 3), (85, .ifCond .eq 7, 3), (88, .iconst 0, 1), (89, .goto 8, 3), (92, .aload_n 0, 1), (93, .iconst 2, 1), (94, .invokevirtual 113, 3), (97, .ireturn, 1)]
theorem dtX8_checkGive_1_ok : ∀ q ∈ dtX8_checkGive_1, decode cX8_checkGive q.1 = .ok q.2 := by decide +kernel
theorem dX8_checkGive_80 : decode cX8_checkGive 80 = .ok (.iadd, 1) := dg dtX8_checkGive_1_ok 0 rfl
theorem dX8_checkGive_81 : decode cX8_checkGive 81 = .ok (.laload, 1) := dg dtX8_checkGive_1_ok 1 rfl
theorem dX8_checkGive_82 : decode cX8_checkGive 82 = .ok (.invokevirtual 109, 3) := dg dtX8_checkGive_1_ok 2 rfl
theorem dX8_checkGive_85 : decode cX8_checkGive 85 = .ok (.ifCond .eq 7, 3) := dg dtX8_checkGive_1_ok 3 rfl
theorem dX8_checkGive_88 : decode cX8_checkGive 88 = .ok (.iconst 0, 1) := dg dtX8_checkGive_1_ok 4 rfl
theorem dX8_checkGive_89 : decode cX8_checkGive 89 = .ok (.goto 8, 3) := dg dtX8_checkGive_1_ok 5 rfl
theorem dX8_checkGive_92 : decode cX8_checkGive 92 = .ok (.aload_n 0, 1) := dg dtX8_checkGive_1_ok 6 rfl
theorem dX8_checkGive_93 : decode cX8_checkGive 93 = .ok (.iconst 2, 1) := dg dtX8_checkGive_1_ok 7 rfl
theorem dX8_checkGive_94 : decode cX8_checkGive 94 = .ok (.invokevirtual 113, 3) := dg dtX8_checkGive_1_ok 8 rfl
theorem dX8_checkGive_97 : decode cX8_checkGive 97 = .ok (.ireturn, 1) := dg dtX8_checkGive_1_ok 9 rfl
def dtX8_gives_0 : List (Nat × Instr × Nat) := [(0, .aload_n 0, 1), (1, .iload_n 1, 1), (2, .invokestatic 65, 3), (5, .invokevirtual 52, 3), (8, .istore_n 3, 1), (9, .aload_n 0, 1), (10, .getfield 7, 3), (13, .iload_n 1, 1), (14, .invokestatic 65, 3), (17, .iload_n 2, 1), (18, .i2l, 1), (19, .lastore, 1), (20, .iload_n 3, 1), (21, .ireturn, 1)]
theorem dtX8_gives_0_ok : ∀ q ∈ dtX8_gives_0, decode cX8_gives q.1 = .ok q.2 := by decide +kernel
theorem dX8_gives_0 : decode cX8_gives 0 = .ok (.aload_n 0, 1) := dg dtX8_gives_0_ok 0 rfl
theorem dX8_gives_1 : decode cX8_gives 1 = .ok (.iload_n 1, 1) := dg dtX8_gives_0_ok 1 rfl
theorem dX8_gives_2 : decode cX8_gives 2 = .ok (.invokestatic 65, 3) := dg dtX8_gives_0_ok 2 rfl
theorem dX8_gives_5 : decode cX8_gives 5 = .ok (.invokevirtual 52, 3) := dg dtX8_gives_0_ok 3 rfl
theorem dX8_gives_8 : decode cX8_gives 8 = .ok (.istore_n 3, 1) := dg dtX8_gives_0_ok 4 rfl
theorem dX8_gives_9 : decode cX8_gives 9 = .ok (.aload_n 0, 1) := dg dtX8_gives_0_ok 5 rfl
theorem dX8_gives_10 : decode cX8_gives 10 = .ok (.getfield 7, 3) := dg dtX8_gives_0_ok 6 rfl
theorem dX8_gives_13 : decode cX8_gives 13 = .ok (.iload_n 1, 1) := dg dtX8_gives_0_ok 7 rfl
theorem dX8_gives_14 : decode cX8_gives 14 = .ok (.invokestatic 65, 3) := dg dtX8_gives_0_ok 8 rfl
theorem dX8_gives_17 : decode cX8_gives 17 = .ok (.iload_n 2, 1) := dg dtX8_gives_0_ok 9 rfl
theorem dX8_gives_18 : decode cX8_gives 18 = .ok (.i2l, 1) := dg dtX8_gives_0_ok 10 rfl
theorem dX8_gives_19 : decode cX8_gives 19 = .ok (.lastore, 1) := dg dtX8_gives_0_ok 11 rfl
theorem dX8_gives_20 : decode cX8_gives 20 = .ok (.iload_n 3, 1) := dg dtX8_gives_0_ok 12 rfl
theorem dX8_gives_21 : decode cX8_gives 21 = .ok (.ireturn, 1) := dg dtX8_gives_0_ok 13 rfl
def dtX8_call_0 : List (Nat × Instr × Nat) := [(0, .aload_n 0, 1), (1, .getfield 7, 3), (4, .iload_n 1, 1), (5, .invokestatic 65, 3), (8, .laload, 1), (9, .l2i, 1), (10, .invokestatic 94, 3), (13, .istore 4, 2), (15, .aload_n 0, 1), (16, .getfield 7, 3), (19, .iload 4, 2), (21, .iconst 1, 1), (22, .iadd, 1), (23, .laload, 1), (24, .lload_n 2, 1), (25, .lcmp, 1), (26, .ifCond .ge 15, 3), (29, .aload_n 0, 1), (30, .getfield 7, 3), (33, .iload 4, 2), (35, .iconst 1, 1), (36, .iadd, 1), (37, .laload, 1), (38, .goto 4, 3), (41, .lload_n 2, 1), (42, .lstore 5, 2), (44, .aload_n 0, 1), (45, .getfield 7, 3), (48, .iload 4, 2), (50, .iconst 1, 1), (51, .iadd, 1), (52, .dup2, 1), (53, .laload, 1), (54, .lload 5, 2), (56, .lsub, 1), (57, .lastore, 1), (58, .aload_n 0, 1), (59, .getfield 7, 3), (62, .iload 4, 2), (64, .iconst 2, 1), (65, .iadd, 1), (66, .dup2, 1), (67, .laload, 1), (68, .lload_n 2, 1), (69, .lload 5, 2), (71, .lsub, 1), (72, .ladd, 1), (73, .lastore, 1)]
theorem dtX8_call_0_ok : ∀ q ∈ dtX8_call_0, decode cX8_call q.1 = .ok q.2 := by decide +kernel
theorem dX8_call_0 : decode cX8_call 0 = .ok (.aload_n 0, 1) := dg dtX8_call_0_ok 0 rfl
theorem dX8_call_1 : decode cX8_call 1 = .ok (.getfield 7, 3) := dg dtX8_call_0_ok 1 rfl
theorem dX8_call_4 : decode cX8_call 4 = .ok (.iload_n 1, 1) := dg dtX8_call_0_ok 2 rfl
theorem dX8_call_5 : decode cX8_call 5 = .ok (.invokestatic 65, 3) := dg dtX8_call_0_ok 3 rfl
theorem dX8_call_8 : decode cX8_call 8 = .ok (.laload, 1) := dg dtX8_call_0_ok 4 rfl
theorem dX8_call_9 : decode cX8_call 9 = .ok (.l2i, 1) := dg dtX8_call_0_ok 5 rfl
theorem dX8_call_10 : decode cX8_call 10 = .ok (.invokestatic 94, 3) := dg dtX8_call_0_ok 6 rfl
theorem dX8_call_13 : decode cX8_call 13 = .ok (.istore 4, 2) := dg dtX8_call_0_ok 7 rfl
theorem dX8_call_15 : decode cX8_call 15 = .ok (.aload_n 0, 1) := dg dtX8_call_0_ok 8 rfl
theorem dX8_call_16 : decode cX8_call 16 = .ok (.getfield 7, 3) := dg dtX8_call_0_ok 9 rfl
theorem dX8_call_19 : decode cX8_call 19 = .ok (.iload 4, 2) := dg dtX8_call_0_ok 10 rfl
theorem dX8_call_21 : decode cX8_call 21 = .ok (.iconst 1, 1) := dg dtX8_call_0_ok 11 rfl
theorem dX8_call_22 : decode cX8_call 22 = .ok (.iadd, 1) := dg dtX8_call_0_ok 12 rfl
theorem dX8_call_23 : decode cX8_call 23 = .ok (.laload, 1) := dg dtX8_call_0_ok 13 rfl
theorem dX8_call_24 : decode cX8_call 24 = .ok (.lload_n 2, 1) := dg dtX8_call_0_ok 14 rfl
theorem dX8_call_25 : decode cX8_call 25 = .ok (.lcmp, 1) := dg dtX8_call_0_ok 15 rfl
theorem dX8_call_26 : decode cX8_call 26 = .ok (.ifCond .ge 15, 3) := dg dtX8_call_0_ok 16 rfl
theorem dX8_call_29 : decode cX8_call 29 = .ok (.aload_n 0, 1) := dg dtX8_call_0_ok 17 rfl
theorem dX8_call_30 : decode cX8_call 30 = .ok (.getfield 7, 3) := dg dtX8_call_0_ok 18 rfl
theorem dX8_call_33 : decode cX8_call 33 = .ok (.iload 4, 2) := dg dtX8_call_0_ok 19 rfl
theorem dX8_call_35 : decode cX8_call 35 = .ok (.iconst 1, 1) := dg dtX8_call_0_ok 20 rfl
theorem dX8_call_36 : decode cX8_call 36 = .ok (.iadd, 1) := dg dtX8_call_0_ok 21 rfl
theorem dX8_call_37 : decode cX8_call 37 = .ok (.laload, 1) := dg dtX8_call_0_ok 22 rfl
theorem dX8_call_38 : decode cX8_call 38 = .ok (.goto 4, 3) := dg dtX8_call_0_ok 23 rfl
theorem dX8_call_41 : decode cX8_call 41 = .ok (.lload_n 2, 1) := dg dtX8_call_0_ok 24 rfl
theorem dX8_call_42 : decode cX8_call 42 = .ok (.lstore 5, 2) := dg dtX8_call_0_ok 25 rfl
theorem dX8_call_44 : decode cX8_call 44 = .ok (.aload_n 0, 1) := dg dtX8_call_0_ok 26 rfl
theorem dX8_call_45 : decode cX8_call 45 = .ok (.getfield 7, 3) := dg dtX8_call_0_ok 27 rfl
theorem dX8_call_48 : decode cX8_call 48 = .ok (.iload 4, 2) := dg dtX8_call_0_ok 28 rfl
theorem dX8_call_50 : decode cX8_call 50 = .ok (.iconst 1, 1) := dg dtX8_call_0_ok 29 rfl
theorem dX8_call_51 : decode cX8_call 51 = .ok (.iadd, 1) := dg dtX8_call_0_ok 30 rfl
theorem dX8_call_52 : decode cX8_call 52 = .ok (.dup2, 1) := dg dtX8_call_0_ok 31 rfl
theorem dX8_call_53 : decode cX8_call 53 = .ok (.laload, 1) := dg dtX8_call_0_ok 32 rfl
theorem dX8_call_54 : decode cX8_call 54 = .ok (.lload 5, 2) := dg dtX8_call_0_ok 33 rfl
theorem dX8_call_56 : decode cX8_call 56 = .ok (.lsub, 1) := dg dtX8_call_0_ok 34 rfl
theorem dX8_call_57 : decode cX8_call 57 = .ok (.lastore, 1) := dg dtX8_call_0_ok 35 rfl
theorem dX8_call_58 : decode cX8_call 58 = .ok (.aload_n 0, 1) := dg dtX8_call_0_ok 36 rfl
theorem dX8_call_59 : decode cX8_call 59 = .ok (.getfield 7, 3) := dg dtX8_call_0_ok 37 rfl
theorem dX8_call_62 : decode cX8_call 62 = .ok (.iload 4, 2) := dg dtX8_call_0_ok 38 rfl
theorem dX8_call_64 : decode cX8_call 64 = .ok (.iconst 2, 1) := dg dtX8_call_0_ok 39 rfl
theorem dX8_call_65 : decode cX8_call 65 = .ok (.iadd, 1) := dg dtX8_call_0_ok 40 rfl
theorem dX8_call_66 : decode cX8_call 66 = .ok (.dup2, 1) := dg dtX8_call_0_ok 41 rfl
theorem dX8_call_67 : decode cX8_call 67 = .ok (.laload, 1) := dg dtX8_call_0_ok 42 rfl
theorem dX8_call_68 : decode cX8_call 68 = .ok (.lload_n 2, 1) := dg dtX8_call_0_ok 43 rfl
theorem dX8_call_69 : decode cX8_call 69 = .ok (.lload 5, 2) := dg dtX8_call_0_ok 44 rfl
theorem dX8_call_71 : decode cX8_call 71 = .ok (.lsub, 1) := dg dtX8_call_0_ok 45 rfl
theorem dX8_call_72 : decode cX8_call 72 = .ok (.ladd, 1) := dg dtX8_call_0_ok 46 rfl
theorem dX8_call_73 : decode cX8_call 73 = .ok (.lastore, 1) := dg dtX8_call_0_ok 47 rfl
def dtX8_call_1 : List (Nat × Instr × Nat) := [(74, .aload_n 0, 1), (75, .getfield 7, 3), (78, .iload 4, 2), (80, .iconst 3, 1), (81, .iadd, 1), (82, .dup2, 1), (83, .laload, 1), (84, .lload_n 2, 1), (85, .ladd, 1), (86, .lastore, 1), (87, .aload_n 0, 1), (88, .getfield 7, 3), (91, .iload_n 1, 1), (92, .invokestatic 65, 3), (95, .bipush 8, 2), (97, .iadd, 1), (98, .dup2, 1), (99, .laload, 1), (100, .lload_n 2, 1), (101, .ladd, 1), (102, .lastore, 1), (103, .aload_n 0, 1), (104, .getfield 7, 3), (107, .bipush 10, 2), (109, .dup2, 1), (110, .laload, 1), (111, .lload_n 2, 1), (112, .ladd, 1), (113, .lastore, 1), (114, .return_, 1)]
theorem dtX8_call_1_ok : ∀ q ∈ dtX8_call_1, decode cX8_call q.1 = .ok q.2 := by decide +kernel
theorem dX8_call_74 : decode cX8_call 74 = .ok (.aload_n 0, 1) := dg dtX8_call_1_ok 0 rfl
theorem dX8_call_75 : decode cX8_call 75 = .ok (.getfield 7, 3) := dg dtX8_call_1_ok 1 rfl
theorem dX8_call_78 : decode cX8_call 78 = .ok (.iload 4, 2) := dg dtX8_call_1_ok 2 rfl
theorem dX8_call_80 : decode cX8_call 80 = .ok (.iconst 3, 1) := dg dtX8_call_1_ok 3 rfl
theorem dX8_call_81 : decode cX8_call 81 = .ok (.iadd, 1) := dg dtX8_call_1_ok 4 rfl
theorem dX8_call_82 : decode cX8_call 82 = .ok (.dup2, 1) := dg dtX8_call_1_ok 5 rfl
theorem dX8_call_83 : decode cX8_call 83 = .ok (.laload, 1) := dg dtX8_call_1_ok 6 rfl
theorem dX8_call_84 : decode cX8_call 84 = .ok (.lload_n 2, 1) := dg dtX8_call_1_ok 7 rfl
theorem dX8_call_85 : decode cX8_call 85 = .ok (.ladd, 1) := dg dtX8_call_1_ok 8 rfl
theorem dX8_call_86 : decode cX8_call 86 = .ok (.lastore, 1) := dg dtX8_call_1_ok 9 rfl
theorem dX8_call_87 : decode cX8_call 87 = .ok (.aload_n 0, 1) := dg dtX8_call_1_ok 10 rfl
theorem dX8_call_88 : decode cX8_call 88 = .ok (.getfield 7, 3) := dg dtX8_call_1_ok 11 rfl
theorem dX8_call_91 : decode cX8_call 91 = .ok (.iload_n 1, 1) := dg dtX8_call_1_ok 12 rfl
theorem dX8_call_92 : decode cX8_call 92 = .ok (.invokestatic 65, 3) := dg dtX8_call_1_ok 13 rfl
theorem dX8_call_95 : decode cX8_call 95 = .ok (.bipush 8, 2) := dg dtX8_call_1_ok 14 rfl
theorem dX8_call_97 : decode cX8_call 97 = .ok (.iadd, 1) := dg dtX8_call_1_ok 15 rfl
theorem dX8_call_98 : decode cX8_call 98 = .ok (.dup2, 1) := dg dtX8_call_1_ok 16 rfl
theorem dX8_call_99 : decode cX8_call 99 = .ok (.laload, 1) := dg dtX8_call_1_ok 17 rfl
theorem dX8_call_100 : decode cX8_call 100 = .ok (.lload_n 2, 1) := dg dtX8_call_1_ok 18 rfl
theorem dX8_call_101 : decode cX8_call 101 = .ok (.ladd, 1) := dg dtX8_call_1_ok 19 rfl
theorem dX8_call_102 : decode cX8_call 102 = .ok (.lastore, 1) := dg dtX8_call_1_ok 20 rfl
theorem dX8_call_103 : decode cX8_call 103 = .ok (.aload_n 0, 1) := dg dtX8_call_1_ok 21 rfl
theorem dX8_call_104 : decode cX8_call 104 = .ok (.getfield 7, 3) := dg dtX8_call_1_ok 22 rfl
theorem dX8_call_107 : decode cX8_call 107 = .ok (.bipush 10, 2) := dg dtX8_call_1_ok 23 rfl
theorem dX8_call_109 : decode cX8_call 109 = .ok (.dup2, 1) := dg dtX8_call_1_ok 24 rfl
theorem dX8_call_110 : decode cX8_call 110 = .ok (.laload, 1) := dg dtX8_call_1_ok 25 rfl
theorem dX8_call_111 : decode cX8_call 111 = .ok (.lload_n 2, 1) := dg dtX8_call_1_ok 26 rfl
theorem dX8_call_112 : decode cX8_call 112 = .ok (.ladd, 1) := dg dtX8_call_1_ok 27 rfl
theorem dX8_call_113 : decode cX8_call 113 = .ok (.lastore, 1) := dg dtX8_call_1_ok 28 rfl
theorem dX8_call_114 : decode cX8_call 114 = .ok (.return_, 1) := dg dtX8_call_1_ok 29 rfl
def dtX8_passes_0 : List (Nat × Instr × Nat) := [(0, .aload_n 0, 1), (1, .getfield 7, 3), (4, .bipush 10, 2), (6, .laload, 1), (7, .lstore_n 2, 1), (8, .iconst 0, 1), (9, .istore 4, 2), (11, .iload 4, 2), (13, .iload_n 1, 1), (14, .if_icmp .ge 213, 3), (17, .aload_n 0, 1), (18, .getfield 7, 3), (21, .iconst 0, 1), (22, .dup2, 1), (23, .laload, 1), (24, .lconst 1, 1), (25, .ladd, 1), (26, .lastore, 1), (27, .iconst 0, 1), (28, .istore 5, 2), (30, .iload 5, 2), (32, .i2l, 1), (33, .aload_n 0, 1), (34, .getfield 7, 3), (37, .iconst 3, 1), (38, .laload, 1), (39, .lcmp, 1), (40, .ifCond .ge 82, 3), (43, .aload_n 0, 1), (44, .iload 5, 2), (46, .invokevirtual 75, 3), (49, .ifCond .eq 67, 3), (52, .aload_n 0, 1), (53, .getfield 7, 3), (56, .iload 5, 2), (58, .invokestatic 72, 3), (61, .iconst 3, 1), (62, .iadd, 1), (63, .laload, 1), (64, .aload_n 0, 1), (65, .getfield 7, 3), (68, .iconst 0, 1), (69, .laload, 1), (70, .lcmp, 1), (71, .ifCond .ge 45, 3), (74, .aload_n 0, 1), (75, .getfield 7, 3), (78, .iload 5, 2)]
theorem dtX8_passes_0_ok : ∀ q ∈ dtX8_passes_0, decode cX8_passes q.1 = .ok q.2 := by decide +kernel
theorem dX8_passes_0 : decode cX8_passes 0 = .ok (.aload_n 0, 1) := dg dtX8_passes_0_ok 0 rfl
theorem dX8_passes_1 : decode cX8_passes 1 = .ok (.getfield 7, 3) := dg dtX8_passes_0_ok 1 rfl
theorem dX8_passes_4 : decode cX8_passes 4 = .ok (.bipush 10, 2) := dg dtX8_passes_0_ok 2 rfl
theorem dX8_passes_6 : decode cX8_passes 6 = .ok (.laload, 1) := dg dtX8_passes_0_ok 3 rfl
theorem dX8_passes_7 : decode cX8_passes 7 = .ok (.lstore_n 2, 1) := dg dtX8_passes_0_ok 4 rfl
theorem dX8_passes_8 : decode cX8_passes 8 = .ok (.iconst 0, 1) := dg dtX8_passes_0_ok 5 rfl
theorem dX8_passes_9 : decode cX8_passes 9 = .ok (.istore 4, 2) := dg dtX8_passes_0_ok 6 rfl
theorem dX8_passes_11 : decode cX8_passes 11 = .ok (.iload 4, 2) := dg dtX8_passes_0_ok 7 rfl
theorem dX8_passes_13 : decode cX8_passes 13 = .ok (.iload_n 1, 1) := dg dtX8_passes_0_ok 8 rfl
theorem dX8_passes_14 : decode cX8_passes 14 = .ok (.if_icmp .ge 213, 3) := dg dtX8_passes_0_ok 9 rfl
theorem dX8_passes_17 : decode cX8_passes 17 = .ok (.aload_n 0, 1) := dg dtX8_passes_0_ok 10 rfl
theorem dX8_passes_18 : decode cX8_passes 18 = .ok (.getfield 7, 3) := dg dtX8_passes_0_ok 11 rfl
theorem dX8_passes_21 : decode cX8_passes 21 = .ok (.iconst 0, 1) := dg dtX8_passes_0_ok 12 rfl
theorem dX8_passes_22 : decode cX8_passes 22 = .ok (.dup2, 1) := dg dtX8_passes_0_ok 13 rfl
theorem dX8_passes_23 : decode cX8_passes 23 = .ok (.laload, 1) := dg dtX8_passes_0_ok 14 rfl
theorem dX8_passes_24 : decode cX8_passes 24 = .ok (.lconst 1, 1) := dg dtX8_passes_0_ok 15 rfl
theorem dX8_passes_25 : decode cX8_passes 25 = .ok (.ladd, 1) := dg dtX8_passes_0_ok 16 rfl
theorem dX8_passes_26 : decode cX8_passes 26 = .ok (.lastore, 1) := dg dtX8_passes_0_ok 17 rfl
theorem dX8_passes_27 : decode cX8_passes 27 = .ok (.iconst 0, 1) := dg dtX8_passes_0_ok 18 rfl
theorem dX8_passes_28 : decode cX8_passes 28 = .ok (.istore 5, 2) := dg dtX8_passes_0_ok 19 rfl
theorem dX8_passes_30 : decode cX8_passes 30 = .ok (.iload 5, 2) := dg dtX8_passes_0_ok 20 rfl
theorem dX8_passes_32 : decode cX8_passes 32 = .ok (.i2l, 1) := dg dtX8_passes_0_ok 21 rfl
theorem dX8_passes_33 : decode cX8_passes 33 = .ok (.aload_n 0, 1) := dg dtX8_passes_0_ok 22 rfl
theorem dX8_passes_34 : decode cX8_passes 34 = .ok (.getfield 7, 3) := dg dtX8_passes_0_ok 23 rfl
theorem dX8_passes_37 : decode cX8_passes 37 = .ok (.iconst 3, 1) := dg dtX8_passes_0_ok 24 rfl
theorem dX8_passes_38 : decode cX8_passes 38 = .ok (.laload, 1) := dg dtX8_passes_0_ok 25 rfl
theorem dX8_passes_39 : decode cX8_passes 39 = .ok (.lcmp, 1) := dg dtX8_passes_0_ok 26 rfl
theorem dX8_passes_40 : decode cX8_passes 40 = .ok (.ifCond .ge 82, 3) := dg dtX8_passes_0_ok 27 rfl
theorem dX8_passes_43 : decode cX8_passes 43 = .ok (.aload_n 0, 1) := dg dtX8_passes_0_ok 28 rfl
theorem dX8_passes_44 : decode cX8_passes 44 = .ok (.iload 5, 2) := dg dtX8_passes_0_ok 29 rfl
theorem dX8_passes_46 : decode cX8_passes 46 = .ok (.invokevirtual 75, 3) := dg dtX8_passes_0_ok 30 rfl
theorem dX8_passes_49 : decode cX8_passes 49 = .ok (.ifCond .eq 67, 3) := dg dtX8_passes_0_ok 31 rfl
theorem dX8_passes_52 : decode cX8_passes 52 = .ok (.aload_n 0, 1) := dg dtX8_passes_0_ok 32 rfl
theorem dX8_passes_53 : decode cX8_passes 53 = .ok (.getfield 7, 3) := dg dtX8_passes_0_ok 33 rfl
theorem dX8_passes_56 : decode cX8_passes 56 = .ok (.iload 5, 2) := dg dtX8_passes_0_ok 34 rfl
theorem dX8_passes_58 : decode cX8_passes 58 = .ok (.invokestatic 72, 3) := dg dtX8_passes_0_ok 35 rfl
theorem dX8_passes_61 : decode cX8_passes 61 = .ok (.iconst 3, 1) := dg dtX8_passes_0_ok 36 rfl
theorem dX8_passes_62 : decode cX8_passes 62 = .ok (.iadd, 1) := dg dtX8_passes_0_ok 37 rfl
theorem dX8_passes_63 : decode cX8_passes 63 = .ok (.laload, 1) := dg dtX8_passes_0_ok 38 rfl
theorem dX8_passes_64 : decode cX8_passes 64 = .ok (.aload_n 0, 1) := dg dtX8_passes_0_ok 39 rfl
theorem dX8_passes_65 : decode cX8_passes 65 = .ok (.getfield 7, 3) := dg dtX8_passes_0_ok 40 rfl
theorem dX8_passes_68 : decode cX8_passes 68 = .ok (.iconst 0, 1) := dg dtX8_passes_0_ok 41 rfl
theorem dX8_passes_69 : decode cX8_passes 69 = .ok (.laload, 1) := dg dtX8_passes_0_ok 42 rfl
theorem dX8_passes_70 : decode cX8_passes 70 = .ok (.lcmp, 1) := dg dtX8_passes_0_ok 43 rfl
theorem dX8_passes_71 : decode cX8_passes 71 = .ok (.ifCond .ge 45, 3) := dg dtX8_passes_0_ok 44 rfl
theorem dX8_passes_74 : decode cX8_passes 74 = .ok (.aload_n 0, 1) := dg dtX8_passes_0_ok 45 rfl
theorem dX8_passes_75 : decode cX8_passes 75 = .ok (.getfield 7, 3) := dg dtX8_passes_0_ok 46 rfl
theorem dX8_passes_78 : decode cX8_passes 78 = .ok (.iload 5, 2) := dg dtX8_passes_0_ok 47 rfl
def dtX8_passes_1 : List (Nat × Instr × Nat) := [(80, .invokestatic 72, 3), (83, .iconst 4, 1), (84, .iadd, 1), (85, .ldc2_w 154, 3), (88, .lastore, 1), (89, .aload_n 0, 1), (90, .aload_n 0, 1), (91, .getfield 7, 3), (94, .iload 5, 2), (96, .invokestatic 72, 3), (99, .laload, 1), (100, .l2i, 1), (101, .aload_n 0, 1), (102, .getfield 7, 3), (105, .iload 5, 2), (107, .invokestatic 72, 3), (110, .iconst 2, 1), (111, .iadd, 1), (112, .laload, 1), (113, .invokevirtual 156, 3), (116, .iinc 5 1, 3), (119, .goto (-89), 3), (122, .iconst 0, 1), (123, .istore 5, 2), (125, .iload 5, 2), (127, .i2l, 1), (128, .aload_n 0, 1), (129, .getfield 7, 3), (132, .iconst 2, 1), (133, .laload, 1), (134, .lcmp, 1), (135, .ifCond .ge 86, 3), (138, .aload_n 0, 1), (139, .iload 5, 2), (141, .invokevirtual 79, 3), (144, .lconst 0, 1), (145, .lcmp, 1), (146, .ifCond .le 69, 3), (149, .aload_n 0, 1), (150, .getfield 7, 3), (153, .iload 5, 2), (155, .invokestatic 65, 3), (158, .iconst 5, 1), (159, .iadd, 1), (160, .laload, 1), (161, .aload_n 0, 1), (162, .getfield 7, 3), (165, .iconst 0, 1)]
theorem dtX8_passes_1_ok : ∀ q ∈ dtX8_passes_1, decode cX8_passes q.1 = .ok q.2 := by decide +kernel
theorem dX8_passes_80 : decode cX8_passes 80 = .ok (.invokestatic 72, 3) := dg dtX8_passes_1_ok 0 rfl
theorem dX8_passes_83 : decode cX8_passes 83 = .ok (.iconst 4, 1) := dg dtX8_passes_1_ok 1 rfl
theorem dX8_passes_84 : decode cX8_passes 84 = .ok (.iadd, 1) := dg dtX8_passes_1_ok 2 rfl
theorem dX8_passes_85 : decode cX8_passes 85 = .ok (.ldc2_w 154, 3) := dg dtX8_passes_1_ok 3 rfl
theorem dX8_passes_88 : decode cX8_passes 88 = .ok (.lastore, 1) := dg dtX8_passes_1_ok 4 rfl
theorem dX8_passes_89 : decode cX8_passes 89 = .ok (.aload_n 0, 1) := dg dtX8_passes_1_ok 5 rfl
theorem dX8_passes_90 : decode cX8_passes 90 = .ok (.aload_n 0, 1) := dg dtX8_passes_1_ok 6 rfl
theorem dX8_passes_91 : decode cX8_passes 91 = .ok (.getfield 7, 3) := dg dtX8_passes_1_ok 7 rfl
theorem dX8_passes_94 : decode cX8_passes 94 = .ok (.iload 5, 2) := dg dtX8_passes_1_ok 8 rfl
theorem dX8_passes_96 : decode cX8_passes 96 = .ok (.invokestatic 72, 3) := dg dtX8_passes_1_ok 9 rfl
theorem dX8_passes_99 : decode cX8_passes 99 = .ok (.laload, 1) := dg dtX8_passes_1_ok 10 rfl
theorem dX8_passes_100 : decode cX8_passes 100 = .ok (.l2i, 1) := dg dtX8_passes_1_ok 11 rfl
theorem dX8_passes_101 : decode cX8_passes 101 = .ok (.aload_n 0, 1) := dg dtX8_passes_1_ok 12 rfl
theorem dX8_passes_102 : decode cX8_passes 102 = .ok (.getfield 7, 3) := dg dtX8_passes_1_ok 13 rfl
theorem dX8_passes_105 : decode cX8_passes 105 = .ok (.iload 5, 2) := dg dtX8_passes_1_ok 14 rfl
theorem dX8_passes_107 : decode cX8_passes 107 = .ok (.invokestatic 72, 3) := dg dtX8_passes_1_ok 15 rfl
theorem dX8_passes_110 : decode cX8_passes 110 = .ok (.iconst 2, 1) := dg dtX8_passes_1_ok 16 rfl
theorem dX8_passes_111 : decode cX8_passes 111 = .ok (.iadd, 1) := dg dtX8_passes_1_ok 17 rfl
theorem dX8_passes_112 : decode cX8_passes 112 = .ok (.laload, 1) := dg dtX8_passes_1_ok 18 rfl
theorem dX8_passes_113 : decode cX8_passes 113 = .ok (.invokevirtual 156, 3) := dg dtX8_passes_1_ok 19 rfl
theorem dX8_passes_116 : decode cX8_passes 116 = .ok (.iinc 5 1, 3) := dg dtX8_passes_1_ok 20 rfl
theorem dX8_passes_119 : decode cX8_passes 119 = .ok (.goto (-89), 3) := dg dtX8_passes_1_ok 21 rfl
theorem dX8_passes_122 : decode cX8_passes 122 = .ok (.iconst 0, 1) := dg dtX8_passes_1_ok 22 rfl
theorem dX8_passes_123 : decode cX8_passes 123 = .ok (.istore 5, 2) := dg dtX8_passes_1_ok 23 rfl
theorem dX8_passes_125 : decode cX8_passes 125 = .ok (.iload 5, 2) := dg dtX8_passes_1_ok 24 rfl
theorem dX8_passes_127 : decode cX8_passes 127 = .ok (.i2l, 1) := dg dtX8_passes_1_ok 25 rfl
theorem dX8_passes_128 : decode cX8_passes 128 = .ok (.aload_n 0, 1) := dg dtX8_passes_1_ok 26 rfl
theorem dX8_passes_129 : decode cX8_passes 129 = .ok (.getfield 7, 3) := dg dtX8_passes_1_ok 27 rfl
theorem dX8_passes_132 : decode cX8_passes 132 = .ok (.iconst 2, 1) := dg dtX8_passes_1_ok 28 rfl
theorem dX8_passes_133 : decode cX8_passes 133 = .ok (.laload, 1) := dg dtX8_passes_1_ok 29 rfl
theorem dX8_passes_134 : decode cX8_passes 134 = .ok (.lcmp, 1) := dg dtX8_passes_1_ok 30 rfl
theorem dX8_passes_135 : decode cX8_passes 135 = .ok (.ifCond .ge 86, 3) := dg dtX8_passes_1_ok 31 rfl
theorem dX8_passes_138 : decode cX8_passes 138 = .ok (.aload_n 0, 1) := dg dtX8_passes_1_ok 32 rfl
theorem dX8_passes_139 : decode cX8_passes 139 = .ok (.iload 5, 2) := dg dtX8_passes_1_ok 33 rfl
theorem dX8_passes_141 : decode cX8_passes 141 = .ok (.invokevirtual 79, 3) := dg dtX8_passes_1_ok 34 rfl
theorem dX8_passes_144 : decode cX8_passes 144 = .ok (.lconst 0, 1) := dg dtX8_passes_1_ok 35 rfl
theorem dX8_passes_145 : decode cX8_passes 145 = .ok (.lcmp, 1) := dg dtX8_passes_1_ok 36 rfl
theorem dX8_passes_146 : decode cX8_passes 146 = .ok (.ifCond .le 69, 3) := dg dtX8_passes_1_ok 37 rfl
theorem dX8_passes_149 : decode cX8_passes 149 = .ok (.aload_n 0, 1) := dg dtX8_passes_1_ok 38 rfl
theorem dX8_passes_150 : decode cX8_passes 150 = .ok (.getfield 7, 3) := dg dtX8_passes_1_ok 39 rfl
theorem dX8_passes_153 : decode cX8_passes 153 = .ok (.iload 5, 2) := dg dtX8_passes_1_ok 40 rfl
theorem dX8_passes_155 : decode cX8_passes 155 = .ok (.invokestatic 65, 3) := dg dtX8_passes_1_ok 41 rfl
theorem dX8_passes_158 : decode cX8_passes 158 = .ok (.iconst 5, 1) := dg dtX8_passes_1_ok 42 rfl
theorem dX8_passes_159 : decode cX8_passes 159 = .ok (.iadd, 1) := dg dtX8_passes_1_ok 43 rfl
theorem dX8_passes_160 : decode cX8_passes 160 = .ok (.laload, 1) := dg dtX8_passes_1_ok 44 rfl
theorem dX8_passes_161 : decode cX8_passes 161 = .ok (.aload_n 0, 1) := dg dtX8_passes_1_ok 45 rfl
theorem dX8_passes_162 : decode cX8_passes 162 = .ok (.getfield 7, 3) := dg dtX8_passes_1_ok 46 rfl
theorem dX8_passes_165 : decode cX8_passes 165 = .ok (.iconst 0, 1) := dg dtX8_passes_1_ok 47 rfl
def dtX8_passes_2 : List (Nat × Instr × Nat) := [(166, .laload, 1), (167, .lcmp, 1), (168, .ifCond .ge 47, 3), (171, .aload_n 0, 1), (172, .iload 5, 2), (174, .aload_n 0, 1), (175, .iload 5, 2), (177, .invokevirtual 79, 3), (180, .invokevirtual 83, 3), (183, .lstore 6, 2), (185, .aload_n 0, 1), (186, .iload 5, 2), (188, .aload_n 0, 1), (189, .iload 5, 2), (191, .invokevirtual 79, 3), (194, .invokevirtual 138, 3), (197, .aload_n 0, 1), (198, .getfield 7, 3), (201, .iconst 4, 1), (202, .dup2, 1), (203, .laload, 1), (204, .lconst 1, 1), (205, .ladd, 1), (206, .lastore, 1), (207, .aload_n 0, 1), (208, .iload 5, 2), (210, .lload 6, 2), (212, .invokevirtual 156, 3), (215, .iinc 5 1, 3), (218, .goto (-93), 3), (221, .iinc 4 1, 3), (224, .goto (-213), 3), (227, .aload_n 0, 1), (228, .getfield 7, 3), (231, .bipush 10, 2), (233, .laload, 1), (234, .lload_n 2, 1), (235, .lsub, 1), (236, .l2i, 1), (237, .ireturn, 1)]
theorem dtX8_passes_2_ok : ∀ q ∈ dtX8_passes_2, decode cX8_passes q.1 = .ok q.2 := by decide +kernel
theorem dX8_passes_166 : decode cX8_passes 166 = .ok (.laload, 1) := dg dtX8_passes_2_ok 0 rfl
theorem dX8_passes_167 : decode cX8_passes 167 = .ok (.lcmp, 1) := dg dtX8_passes_2_ok 1 rfl
theorem dX8_passes_168 : decode cX8_passes 168 = .ok (.ifCond .ge 47, 3) := dg dtX8_passes_2_ok 2 rfl
theorem dX8_passes_171 : decode cX8_passes 171 = .ok (.aload_n 0, 1) := dg dtX8_passes_2_ok 3 rfl
theorem dX8_passes_172 : decode cX8_passes 172 = .ok (.iload 5, 2) := dg dtX8_passes_2_ok 4 rfl
theorem dX8_passes_174 : decode cX8_passes 174 = .ok (.aload_n 0, 1) := dg dtX8_passes_2_ok 5 rfl
theorem dX8_passes_175 : decode cX8_passes 175 = .ok (.iload 5, 2) := dg dtX8_passes_2_ok 6 rfl
theorem dX8_passes_177 : decode cX8_passes 177 = .ok (.invokevirtual 79, 3) := dg dtX8_passes_2_ok 7 rfl
theorem dX8_passes_180 : decode cX8_passes 180 = .ok (.invokevirtual 83, 3) := dg dtX8_passes_2_ok 8 rfl
theorem dX8_passes_183 : decode cX8_passes 183 = .ok (.lstore 6, 2) := dg dtX8_passes_2_ok 9 rfl
theorem dX8_passes_185 : decode cX8_passes 185 = .ok (.aload_n 0, 1) := dg dtX8_passes_2_ok 10 rfl
theorem dX8_passes_186 : decode cX8_passes 186 = .ok (.iload 5, 2) := dg dtX8_passes_2_ok 11 rfl
theorem dX8_passes_188 : decode cX8_passes 188 = .ok (.aload_n 0, 1) := dg dtX8_passes_2_ok 12 rfl
theorem dX8_passes_189 : decode cX8_passes 189 = .ok (.iload 5, 2) := dg dtX8_passes_2_ok 13 rfl
theorem dX8_passes_191 : decode cX8_passes 191 = .ok (.invokevirtual 79, 3) := dg dtX8_passes_2_ok 14 rfl
theorem dX8_passes_194 : decode cX8_passes 194 = .ok (.invokevirtual 138, 3) := dg dtX8_passes_2_ok 15 rfl
theorem dX8_passes_197 : decode cX8_passes 197 = .ok (.aload_n 0, 1) := dg dtX8_passes_2_ok 16 rfl
theorem dX8_passes_198 : decode cX8_passes 198 = .ok (.getfield 7, 3) := dg dtX8_passes_2_ok 17 rfl
theorem dX8_passes_201 : decode cX8_passes 201 = .ok (.iconst 4, 1) := dg dtX8_passes_2_ok 18 rfl
theorem dX8_passes_202 : decode cX8_passes 202 = .ok (.dup2, 1) := dg dtX8_passes_2_ok 19 rfl
theorem dX8_passes_203 : decode cX8_passes 203 = .ok (.laload, 1) := dg dtX8_passes_2_ok 20 rfl
theorem dX8_passes_204 : decode cX8_passes 204 = .ok (.lconst 1, 1) := dg dtX8_passes_2_ok 21 rfl
theorem dX8_passes_205 : decode cX8_passes 205 = .ok (.ladd, 1) := dg dtX8_passes_2_ok 22 rfl
theorem dX8_passes_206 : decode cX8_passes 206 = .ok (.lastore, 1) := dg dtX8_passes_2_ok 23 rfl
theorem dX8_passes_207 : decode cX8_passes 207 = .ok (.aload_n 0, 1) := dg dtX8_passes_2_ok 24 rfl
theorem dX8_passes_208 : decode cX8_passes 208 = .ok (.iload 5, 2) := dg dtX8_passes_2_ok 25 rfl
theorem dX8_passes_210 : decode cX8_passes 210 = .ok (.lload 6, 2) := dg dtX8_passes_2_ok 26 rfl
theorem dX8_passes_212 : decode cX8_passes 212 = .ok (.invokevirtual 156, 3) := dg dtX8_passes_2_ok 27 rfl
theorem dX8_passes_215 : decode cX8_passes 215 = .ok (.iinc 5 1, 3) := dg dtX8_passes_2_ok 28 rfl
theorem dX8_passes_218 : decode cX8_passes 218 = .ok (.goto (-93), 3) := dg dtX8_passes_2_ok 29 rfl
theorem dX8_passes_221 : decode cX8_passes 221 = .ok (.iinc 4 1, 3) := dg dtX8_passes_2_ok 30 rfl
theorem dX8_passes_224 : decode cX8_passes 224 = .ok (.goto (-213), 3) := dg dtX8_passes_2_ok 31 rfl
theorem dX8_passes_227 : decode cX8_passes 227 = .ok (.aload_n 0, 1) := dg dtX8_passes_2_ok 32 rfl
theorem dX8_passes_228 : decode cX8_passes 228 = .ok (.getfield 7, 3) := dg dtX8_passes_2_ok 33 rfl
theorem dX8_passes_231 : decode cX8_passes 231 = .ok (.bipush 10, 2) := dg dtX8_passes_2_ok 34 rfl
theorem dX8_passes_233 : decode cX8_passes 233 = .ok (.laload, 1) := dg dtX8_passes_2_ok 35 rfl
theorem dX8_passes_234 : decode cX8_passes 234 = .ok (.lload_n 2, 1) := dg dtX8_passes_2_ok 36 rfl
theorem dX8_passes_235 : decode cX8_passes 235 = .ok (.lsub, 1) := dg dtX8_passes_2_ok 37 rfl
theorem dX8_passes_236 : decode cX8_passes 236 = .ok (.l2i, 1) := dg dtX8_passes_2_ok 38 rfl
theorem dX8_passes_237 : decode cX8_passes 237 = .ok (.ireturn, 1) := dg dtX8_passes_2_ok 39 rfl
def dtX8_enter_0 : List (Nat × Instr × Nat) := [(0, .aload_n 0, 1), (1, .iload_n 1, 1), (2, .iload_n 2, 1), (3, .iload_n 3, 1), (4, .iload 4, 2), (6, .invokevirtual 159, 3), (9, .istore 5, 2), (11, .iload 5, 2), (13, .ifCond .ge 6, 3), (16, .iload 5, 2), (18, .ireturn, 1), (19, .aload_n 0, 1), (20, .invokevirtual 56, 3), (23, .aload_n 0, 1), (24, .iload_n 1, 1), (25, .iload_n 2, 1), (26, .iload_n 3, 1), (27, .iload 4, 2), (29, .invokevirtual 163, 3), (32, .ireturn, 1)]
theorem dtX8_enter_0_ok : ∀ q ∈ dtX8_enter_0, decode cX8_enter q.1 = .ok q.2 := by decide +kernel
theorem dX8_enter_0 : decode cX8_enter 0 = .ok (.aload_n 0, 1) := dg dtX8_enter_0_ok 0 rfl
theorem dX8_enter_1 : decode cX8_enter 1 = .ok (.iload_n 1, 1) := dg dtX8_enter_0_ok 1 rfl
theorem dX8_enter_2 : decode cX8_enter 2 = .ok (.iload_n 2, 1) := dg dtX8_enter_0_ok 2 rfl
theorem dX8_enter_3 : decode cX8_enter 3 = .ok (.iload_n 3, 1) := dg dtX8_enter_0_ok 3 rfl
theorem dX8_enter_4 : decode cX8_enter 4 = .ok (.iload 4, 2) := dg dtX8_enter_0_ok 4 rfl
theorem dX8_enter_6 : decode cX8_enter 6 = .ok (.invokevirtual 159, 3) := dg dtX8_enter_0_ok 5 rfl
theorem dX8_enter_9 : decode cX8_enter 9 = .ok (.istore 5, 2) := dg dtX8_enter_0_ok 6 rfl
theorem dX8_enter_11 : decode cX8_enter 11 = .ok (.iload 5, 2) := dg dtX8_enter_0_ok 7 rfl
theorem dX8_enter_13 : decode cX8_enter 13 = .ok (.ifCond .ge 6, 3) := dg dtX8_enter_0_ok 8 rfl
theorem dX8_enter_16 : decode cX8_enter 16 = .ok (.iload 5, 2) := dg dtX8_enter_0_ok 9 rfl
theorem dX8_enter_18 : decode cX8_enter 18 = .ok (.ireturn, 1) := dg dtX8_enter_0_ok 10 rfl
theorem dX8_enter_19 : decode cX8_enter 19 = .ok (.aload_n 0, 1) := dg dtX8_enter_0_ok 11 rfl
theorem dX8_enter_20 : decode cX8_enter 20 = .ok (.invokevirtual 56, 3) := dg dtX8_enter_0_ok 12 rfl
theorem dX8_enter_23 : decode cX8_enter 23 = .ok (.aload_n 0, 1) := dg dtX8_enter_0_ok 13 rfl
theorem dX8_enter_24 : decode cX8_enter 24 = .ok (.iload_n 1, 1) := dg dtX8_enter_0_ok 14 rfl
theorem dX8_enter_25 : decode cX8_enter 25 = .ok (.iload_n 2, 1) := dg dtX8_enter_0_ok 15 rfl
theorem dX8_enter_26 : decode cX8_enter 26 = .ok (.iload_n 3, 1) := dg dtX8_enter_0_ok 16 rfl
theorem dX8_enter_27 : decode cX8_enter 27 = .ok (.iload 4, 2) := dg dtX8_enter_0_ok 17 rfl
theorem dX8_enter_29 : decode cX8_enter 29 = .ok (.invokevirtual 163, 3) := dg dtX8_enter_0_ok 18 rfl
theorem dX8_enter_32 : decode cX8_enter 32 = .ok (.ireturn, 1) := dg dtX8_enter_0_ok 19 rfl
def dtX8_release_0 : List (Nat × Instr × Nat) := [(0, .aload_n 0, 1), (1, .iload_n 1, 1), (2, .iload_n 2, 1), (3, .invokevirtual 166, 3), (6, .istore_n 3, 1), (7, .iload_n 3, 1), (8, .ifCond .ge 5, 3), (11, .iload_n 3, 1), (12, .ireturn, 1), (13, .aload_n 0, 1), (14, .invokevirtual 56, 3), (17, .aload_n 0, 1), (18, .iload_n 1, 1), (19, .iload_n 2, 1), (20, .invokevirtual 169, 3), (23, .ireturn, 1)]
theorem dtX8_release_0_ok : ∀ q ∈ dtX8_release_0, decode cX8_release q.1 = .ok q.2 := by decide +kernel
theorem dX8_release_0 : decode cX8_release 0 = .ok (.aload_n 0, 1) := dg dtX8_release_0_ok 0 rfl
theorem dX8_release_1 : decode cX8_release 1 = .ok (.iload_n 1, 1) := dg dtX8_release_0_ok 1 rfl
theorem dX8_release_2 : decode cX8_release 2 = .ok (.iload_n 2, 1) := dg dtX8_release_0_ok 2 rfl
theorem dX8_release_3 : decode cX8_release 3 = .ok (.invokevirtual 166, 3) := dg dtX8_release_0_ok 3 rfl
theorem dX8_release_6 : decode cX8_release 6 = .ok (.istore_n 3, 1) := dg dtX8_release_0_ok 4 rfl
theorem dX8_release_7 : decode cX8_release 7 = .ok (.iload_n 3, 1) := dg dtX8_release_0_ok 5 rfl
theorem dX8_release_8 : decode cX8_release 8 = .ok (.ifCond .ge 5, 3) := dg dtX8_release_0_ok 6 rfl
theorem dX8_release_11 : decode cX8_release 11 = .ok (.iload_n 3, 1) := dg dtX8_release_0_ok 7 rfl
theorem dX8_release_12 : decode cX8_release 12 = .ok (.ireturn, 1) := dg dtX8_release_0_ok 8 rfl
theorem dX8_release_13 : decode cX8_release 13 = .ok (.aload_n 0, 1) := dg dtX8_release_0_ok 9 rfl
theorem dX8_release_14 : decode cX8_release 14 = .ok (.invokevirtual 56, 3) := dg dtX8_release_0_ok 10 rfl
theorem dX8_release_17 : decode cX8_release 17 = .ok (.aload_n 0, 1) := dg dtX8_release_0_ok 11 rfl
theorem dX8_release_18 : decode cX8_release 18 = .ok (.iload_n 1, 1) := dg dtX8_release_0_ok 12 rfl
theorem dX8_release_19 : decode cX8_release 19 = .ok (.iload_n 2, 1) := dg dtX8_release_0_ok 13 rfl
theorem dX8_release_20 : decode cX8_release 20 = .ok (.invokevirtual 169, 3) := dg dtX8_release_0_ok 14 rfl
theorem dX8_release_23 : decode cX8_release 23 = .ok (.ireturn, 1) := dg dtX8_release_0_ok 15 rfl
def dtX8_sample_0 : List (Nat × Instr × Nat) := [(0, .aload_n 0, 1), (1, .iload_n 1, 1), (2, .iload_n 2, 1), (3, .invokevirtual 172, 3), (6, .istore_n 3, 1), (7, .iload_n 3, 1), (8, .ifCond .ge 5, 3), (11, .iload_n 3, 1), (12, .ireturn, 1), (13, .aload_n 0, 1), (14, .invokevirtual 56, 3), (17, .aload_n 0, 1), (18, .iload_n 1, 1), (19, .iload_n 2, 1), (20, .invokevirtual 175, 3), (23, .ireturn, 1)]
theorem dtX8_sample_0_ok : ∀ q ∈ dtX8_sample_0, decode cX8_sample q.1 = .ok q.2 := by decide +kernel
theorem dX8_sample_0 : decode cX8_sample 0 = .ok (.aload_n 0, 1) := dg dtX8_sample_0_ok 0 rfl
theorem dX8_sample_1 : decode cX8_sample 1 = .ok (.iload_n 1, 1) := dg dtX8_sample_0_ok 1 rfl
theorem dX8_sample_2 : decode cX8_sample 2 = .ok (.iload_n 2, 1) := dg dtX8_sample_0_ok 2 rfl
theorem dX8_sample_3 : decode cX8_sample 3 = .ok (.invokevirtual 172, 3) := dg dtX8_sample_0_ok 3 rfl
theorem dX8_sample_6 : decode cX8_sample 6 = .ok (.istore_n 3, 1) := dg dtX8_sample_0_ok 4 rfl
theorem dX8_sample_7 : decode cX8_sample 7 = .ok (.iload_n 3, 1) := dg dtX8_sample_0_ok 5 rfl
theorem dX8_sample_8 : decode cX8_sample 8 = .ok (.ifCond .ge 5, 3) := dg dtX8_sample_0_ok 6 rfl
theorem dX8_sample_11 : decode cX8_sample 11 = .ok (.iload_n 3, 1) := dg dtX8_sample_0_ok 7 rfl
theorem dX8_sample_12 : decode cX8_sample 12 = .ok (.ireturn, 1) := dg dtX8_sample_0_ok 8 rfl
theorem dX8_sample_13 : decode cX8_sample 13 = .ok (.aload_n 0, 1) := dg dtX8_sample_0_ok 9 rfl
theorem dX8_sample_14 : decode cX8_sample 14 = .ok (.invokevirtual 56, 3) := dg dtX8_sample_0_ok 10 rfl
theorem dX8_sample_17 : decode cX8_sample 17 = .ok (.aload_n 0, 1) := dg dtX8_sample_0_ok 11 rfl
theorem dX8_sample_18 : decode cX8_sample 18 = .ok (.iload_n 1, 1) := dg dtX8_sample_0_ok 12 rfl
theorem dX8_sample_19 : decode cX8_sample 19 = .ok (.iload_n 2, 1) := dg dtX8_sample_0_ok 13 rfl
theorem dX8_sample_20 : decode cX8_sample 20 = .ok (.invokevirtual 175, 3) := dg dtX8_sample_0_ok 14 rfl
theorem dX8_sample_23 : decode cX8_sample 23 = .ok (.ireturn, 1) := dg dtX8_sample_0_ok 15 rfl
def dtX8_export_0 : List (Nat × Instr × Nat) := [(0, .aload_n 0, 1), (1, .iload_n 1, 1), (2, .iload_n 2, 1), (3, .invokevirtual 178, 3), (6, .istore_n 3, 1), (7, .iload_n 3, 1), (8, .ifCond .ge 5, 3), (11, .iload_n 3, 1), (12, .ireturn, 1), (13, .aload_n 0, 1), (14, .invokevirtual 56, 3), (17, .aload_n 0, 1), (18, .iload_n 1, 1), (19, .iload_n 2, 1), (20, .invokevirtual 181, 3), (23, .ireturn, 1)]
theorem dtX8_export_0_ok : ∀ q ∈ dtX8_export_0, decode cX8_export q.1 = .ok q.2 := by decide +kernel
theorem dX8_export_0 : decode cX8_export 0 = .ok (.aload_n 0, 1) := dg dtX8_export_0_ok 0 rfl
theorem dX8_export_1 : decode cX8_export 1 = .ok (.iload_n 1, 1) := dg dtX8_export_0_ok 1 rfl
theorem dX8_export_2 : decode cX8_export 2 = .ok (.iload_n 2, 1) := dg dtX8_export_0_ok 2 rfl
theorem dX8_export_3 : decode cX8_export 3 = .ok (.invokevirtual 178, 3) := dg dtX8_export_0_ok 3 rfl
theorem dX8_export_6 : decode cX8_export 6 = .ok (.istore_n 3, 1) := dg dtX8_export_0_ok 4 rfl
theorem dX8_export_7 : decode cX8_export 7 = .ok (.iload_n 3, 1) := dg dtX8_export_0_ok 5 rfl
theorem dX8_export_8 : decode cX8_export 8 = .ok (.ifCond .ge 5, 3) := dg dtX8_export_0_ok 6 rfl
theorem dX8_export_11 : decode cX8_export 11 = .ok (.iload_n 3, 1) := dg dtX8_export_0_ok 7 rfl
theorem dX8_export_12 : decode cX8_export 12 = .ok (.ireturn, 1) := dg dtX8_export_0_ok 8 rfl
theorem dX8_export_13 : decode cX8_export 13 = .ok (.aload_n 0, 1) := dg dtX8_export_0_ok 9 rfl
theorem dX8_export_14 : decode cX8_export 14 = .ok (.invokevirtual 56, 3) := dg dtX8_export_0_ok 10 rfl
theorem dX8_export_17 : decode cX8_export 17 = .ok (.aload_n 0, 1) := dg dtX8_export_0_ok 11 rfl
theorem dX8_export_18 : decode cX8_export 18 = .ok (.iload_n 1, 1) := dg dtX8_export_0_ok 12 rfl
theorem dX8_export_19 : decode cX8_export 19 = .ok (.iload_n 2, 1) := dg dtX8_export_0_ok 13 rfl
theorem dX8_export_20 : decode cX8_export 20 = .ok (.invokevirtual 181, 3) := dg dtX8_export_0_ok 14 rfl
theorem dX8_export_23 : decode cX8_export 23 = .ok (.ireturn, 1) := dg dtX8_export_0_ok 15 rfl
def dtX8_prove_0 : List (Nat × Instr × Nat) := [(0, .aload_n 0, 1), (1, .iload_n 1, 1), (2, .invokevirtual 184, 3), (5, .istore_n 2, 1), (6, .iload_n 2, 1), (7, .ifCond .ge 5, 3), (10, .iload_n 2, 1), (11, .ireturn, 1), (12, .aload_n 0, 1), (13, .invokevirtual 56, 3), (16, .aload_n 0, 1), (17, .iload_n 1, 1), (18, .invokevirtual 187, 3), (21, .ireturn, 1)]
theorem dtX8_prove_0_ok : ∀ q ∈ dtX8_prove_0, decode cX8_prove q.1 = .ok q.2 := by decide +kernel
theorem dX8_prove_0 : decode cX8_prove 0 = .ok (.aload_n 0, 1) := dg dtX8_prove_0_ok 0 rfl
theorem dX8_prove_1 : decode cX8_prove 1 = .ok (.iload_n 1, 1) := dg dtX8_prove_0_ok 1 rfl
theorem dX8_prove_2 : decode cX8_prove 2 = .ok (.invokevirtual 184, 3) := dg dtX8_prove_0_ok 2 rfl
theorem dX8_prove_5 : decode cX8_prove 5 = .ok (.istore_n 2, 1) := dg dtX8_prove_0_ok 3 rfl
theorem dX8_prove_6 : decode cX8_prove 6 = .ok (.iload_n 2, 1) := dg dtX8_prove_0_ok 4 rfl
theorem dX8_prove_7 : decode cX8_prove 7 = .ok (.ifCond .ge 5, 3) := dg dtX8_prove_0_ok 5 rfl
theorem dX8_prove_10 : decode cX8_prove 10 = .ok (.iload_n 2, 1) := dg dtX8_prove_0_ok 6 rfl
theorem dX8_prove_11 : decode cX8_prove 11 = .ok (.ireturn, 1) := dg dtX8_prove_0_ok 7 rfl
theorem dX8_prove_12 : decode cX8_prove 12 = .ok (.aload_n 0, 1) := dg dtX8_prove_0_ok 8 rfl
theorem dX8_prove_13 : decode cX8_prove 13 = .ok (.invokevirtual 56, 3) := dg dtX8_prove_0_ok 9 rfl
theorem dX8_prove_16 : decode cX8_prove 16 = .ok (.aload_n 0, 1) := dg dtX8_prove_0_ok 10 rfl
theorem dX8_prove_17 : decode cX8_prove 17 = .ok (.iload_n 1, 1) := dg dtX8_prove_0_ok 11 rfl
theorem dX8_prove_18 : decode cX8_prove 18 = .ok (.invokevirtual 187, 3) := dg dtX8_prove_0_ok 12 rfl
theorem dX8_prove_21 : decode cX8_prove 21 = .ok (.ireturn, 1) := dg dtX8_prove_0_ok 13 rfl
def dtX8_destroy_0 : List (Nat × Instr × Nat) := [(0, .aload_n 0, 1), (1, .iload_n 1, 1), (2, .iload_n 2, 1), (3, .invokevirtual 190, 3), (6, .istore_n 3, 1), (7, .iload_n 3, 1), (8, .ifCond .ge 5, 3), (11, .iload_n 3, 1), (12, .ireturn, 1), (13, .aload_n 0, 1), (14, .invokevirtual 56, 3), (17, .aload_n 0, 1), (18, .iload_n 1, 1), (19, .iload_n 2, 1), (20, .invokevirtual 193, 3), (23, .ireturn, 1)]
theorem dtX8_destroy_0_ok : ∀ q ∈ dtX8_destroy_0, decode cX8_destroy q.1 = .ok q.2 := by decide +kernel
theorem dX8_destroy_0 : decode cX8_destroy 0 = .ok (.aload_n 0, 1) := dg dtX8_destroy_0_ok 0 rfl
theorem dX8_destroy_1 : decode cX8_destroy 1 = .ok (.iload_n 1, 1) := dg dtX8_destroy_0_ok 1 rfl
theorem dX8_destroy_2 : decode cX8_destroy 2 = .ok (.iload_n 2, 1) := dg dtX8_destroy_0_ok 2 rfl
theorem dX8_destroy_3 : decode cX8_destroy 3 = .ok (.invokevirtual 190, 3) := dg dtX8_destroy_0_ok 3 rfl
theorem dX8_destroy_6 : decode cX8_destroy 6 = .ok (.istore_n 3, 1) := dg dtX8_destroy_0_ok 4 rfl
theorem dX8_destroy_7 : decode cX8_destroy 7 = .ok (.iload_n 3, 1) := dg dtX8_destroy_0_ok 5 rfl
theorem dX8_destroy_8 : decode cX8_destroy 8 = .ok (.ifCond .ge 5, 3) := dg dtX8_destroy_0_ok 6 rfl
theorem dX8_destroy_11 : decode cX8_destroy 11 = .ok (.iload_n 3, 1) := dg dtX8_destroy_0_ok 7 rfl
theorem dX8_destroy_12 : decode cX8_destroy 12 = .ok (.ireturn, 1) := dg dtX8_destroy_0_ok 8 rfl
theorem dX8_destroy_13 : decode cX8_destroy 13 = .ok (.aload_n 0, 1) := dg dtX8_destroy_0_ok 9 rfl
theorem dX8_destroy_14 : decode cX8_destroy 14 = .ok (.invokevirtual 56, 3) := dg dtX8_destroy_0_ok 10 rfl
theorem dX8_destroy_17 : decode cX8_destroy 17 = .ok (.aload_n 0, 1) := dg dtX8_destroy_0_ok 11 rfl
theorem dX8_destroy_18 : decode cX8_destroy 18 = .ok (.iload_n 1, 1) := dg dtX8_destroy_0_ok 12 rfl
theorem dX8_destroy_19 : decode cX8_destroy 19 = .ok (.iload_n 2, 1) := dg dtX8_destroy_0_ok 13 rfl
theorem dX8_destroy_20 : decode cX8_destroy 20 = .ok (.invokevirtual 193, 3) := dg dtX8_destroy_0_ok 14 rfl
theorem dX8_destroy_23 : decode cX8_destroy 23 = .ok (.ireturn, 1) := dg dtX8_destroy_0_ok 15 rfl
def dtX8_give_0 : List (Nat × Instr × Nat) := [(0, .aload_n 0, 1), (1, .iload_n 1, 1), (2, .iload_n 2, 1), (3, .invokevirtual 196, 3), (6, .istore_n 3, 1), (7, .iload_n 3, 1), (8, .ifCond .ge 5, 3), (11, .iload_n 3, 1), (12, .ireturn, 1), (13, .aload_n 0, 1), (14, .invokevirtual 56, 3), (17, .aload_n 0, 1), (18, .iload_n 1, 1), (19, .iload_n 2, 1), (20, .invokevirtual 199, 3), (23, .ireturn, 1)]
theorem dtX8_give_0_ok : ∀ q ∈ dtX8_give_0, decode cX8_give q.1 = .ok q.2 := by decide +kernel
theorem dX8_give_0 : decode cX8_give 0 = .ok (.aload_n 0, 1) := dg dtX8_give_0_ok 0 rfl
theorem dX8_give_1 : decode cX8_give 1 = .ok (.iload_n 1, 1) := dg dtX8_give_0_ok 1 rfl
theorem dX8_give_2 : decode cX8_give 2 = .ok (.iload_n 2, 1) := dg dtX8_give_0_ok 2 rfl
theorem dX8_give_3 : decode cX8_give 3 = .ok (.invokevirtual 196, 3) := dg dtX8_give_0_ok 3 rfl
theorem dX8_give_6 : decode cX8_give 6 = .ok (.istore_n 3, 1) := dg dtX8_give_0_ok 4 rfl
theorem dX8_give_7 : decode cX8_give 7 = .ok (.iload_n 3, 1) := dg dtX8_give_0_ok 5 rfl
theorem dX8_give_8 : decode cX8_give 8 = .ok (.ifCond .ge 5, 3) := dg dtX8_give_0_ok 6 rfl
theorem dX8_give_11 : decode cX8_give 11 = .ok (.iload_n 3, 1) := dg dtX8_give_0_ok 7 rfl
theorem dX8_give_12 : decode cX8_give 12 = .ok (.ireturn, 1) := dg dtX8_give_0_ok 8 rfl
theorem dX8_give_13 : decode cX8_give 13 = .ok (.aload_n 0, 1) := dg dtX8_give_0_ok 9 rfl
theorem dX8_give_14 : decode cX8_give 14 = .ok (.invokevirtual 56, 3) := dg dtX8_give_0_ok 10 rfl
theorem dX8_give_17 : decode cX8_give 17 = .ok (.aload_n 0, 1) := dg dtX8_give_0_ok 11 rfl
theorem dX8_give_18 : decode cX8_give 18 = .ok (.iload_n 1, 1) := dg dtX8_give_0_ok 12 rfl
theorem dX8_give_19 : decode cX8_give 19 = .ok (.iload_n 2, 1) := dg dtX8_give_0_ok 13 rfl
theorem dX8_give_20 : decode cX8_give 20 = .ok (.invokevirtual 199, 3) := dg dtX8_give_0_ok 14 rfl
theorem dX8_give_23 : decode cX8_give 23 = .ok (.ireturn, 1) := dg dtX8_give_0_ok 15 rfl
def dtX8_pass_0 : List (Nat × Instr × Nat) := [(0, .iload_n 1, 1), (1, .i2l, 1), (2, .lconst 1, 1), (3, .ldc2_w 34, 3), (6, .invokestatic 47, 3), (9, .ifCond .ne 6, 3), (12, .ldc 103, 2), (14, .ireturn, 1), (15, .aload_n 0, 1), (16, .invokevirtual 56, 3), (19, .aload_n 0, 1), (20, .iload_n 1, 1), (21, .invokevirtual 202, 3), (24, .ireturn, 1)]
theorem dtX8_pass_0_ok : ∀ q ∈ dtX8_pass_0, decode cX8_pass q.1 = .ok q.2 := by decide +kernel
theorem dX8_pass_0 : decode cX8_pass 0 = .ok (.iload_n 1, 1) := dg dtX8_pass_0_ok 0 rfl
theorem dX8_pass_1 : decode cX8_pass 1 = .ok (.i2l, 1) := dg dtX8_pass_0_ok 1 rfl
theorem dX8_pass_2 : decode cX8_pass 2 = .ok (.lconst 1, 1) := dg dtX8_pass_0_ok 2 rfl
theorem dX8_pass_3 : decode cX8_pass 3 = .ok (.ldc2_w 34, 3) := dg dtX8_pass_0_ok 3 rfl
theorem dX8_pass_6 : decode cX8_pass 6 = .ok (.invokestatic 47, 3) := dg dtX8_pass_0_ok 4 rfl
theorem dX8_pass_9 : decode cX8_pass 9 = .ok (.ifCond .ne 6, 3) := dg dtX8_pass_0_ok 5 rfl
theorem dX8_pass_12 : decode cX8_pass 12 = .ok (.ldc 103, 2) := dg dtX8_pass_0_ok 6 rfl
theorem dX8_pass_14 : decode cX8_pass 14 = .ok (.ireturn, 1) := dg dtX8_pass_0_ok 7 rfl
theorem dX8_pass_15 : decode cX8_pass 15 = .ok (.aload_n 0, 1) := dg dtX8_pass_0_ok 8 rfl
theorem dX8_pass_16 : decode cX8_pass 16 = .ok (.invokevirtual 56, 3) := dg dtX8_pass_0_ok 9 rfl
theorem dX8_pass_19 : decode cX8_pass 19 = .ok (.aload_n 0, 1) := dg dtX8_pass_0_ok 10 rfl
theorem dX8_pass_20 : decode cX8_pass 20 = .ok (.iload_n 1, 1) := dg dtX8_pass_0_ok 11 rfl
theorem dX8_pass_21 : decode cX8_pass 21 = .ok (.invokevirtual 202, 3) := dg dtX8_pass_0_ok 12 rfl
theorem dX8_pass_24 : decode cX8_pass 24 = .ok (.ireturn, 1) := dg dtX8_pass_0_ok 13 rfl
def dtX8_type_0 : List (Nat × Instr × Nat) := [(0, .aload_n 0, 1), (1, .getfield 205, 3), (4, .bipush 80, 2), (6, .if_icmp .ne 6, 3), (9, .ldc 97, 2), (11, .ireturn, 1), (12, .aload_n 0, 1), (13, .getfield 23, 3), (16, .aload_n 0, 1), (17, .getfield 205, 3), (20, .iload_n 1, 1), (21, .castore, 1), (22, .aload_n 0, 1), (23, .dup, 1), (24, .getfield 205, 3), (27, .iconst 1, 1), (28, .iadd, 1), (29, .putfield 205, 3), (32, .aload_n 0, 1), (33, .getfield 205, 3), (36, .ireturn, 1)]
theorem dtX8_type_0_ok : ∀ q ∈ dtX8_type_0, decode cX8_type q.1 = .ok q.2 := by decide +kernel
theorem dX8_type_0 : decode cX8_type 0 = .ok (.aload_n 0, 1) := dg dtX8_type_0_ok 0 rfl
theorem dX8_type_1 : decode cX8_type 1 = .ok (.getfield 205, 3) := dg dtX8_type_0_ok 1 rfl
theorem dX8_type_4 : decode cX8_type 4 = .ok (.bipush 80, 2) := dg dtX8_type_0_ok 2 rfl
theorem dX8_type_6 : decode cX8_type 6 = .ok (.if_icmp .ne 6, 3) := dg dtX8_type_0_ok 3 rfl
theorem dX8_type_9 : decode cX8_type 9 = .ok (.ldc 97, 2) := dg dtX8_type_0_ok 4 rfl
theorem dX8_type_11 : decode cX8_type 11 = .ok (.ireturn, 1) := dg dtX8_type_0_ok 5 rfl
theorem dX8_type_12 : decode cX8_type 12 = .ok (.aload_n 0, 1) := dg dtX8_type_0_ok 6 rfl
theorem dX8_type_13 : decode cX8_type 13 = .ok (.getfield 23, 3) := dg dtX8_type_0_ok 7 rfl
theorem dX8_type_16 : decode cX8_type 16 = .ok (.aload_n 0, 1) := dg dtX8_type_0_ok 8 rfl
theorem dX8_type_17 : decode cX8_type 17 = .ok (.getfield 205, 3) := dg dtX8_type_0_ok 9 rfl
theorem dX8_type_20 : decode cX8_type 20 = .ok (.iload_n 1, 1) := dg dtX8_type_0_ok 10 rfl
theorem dX8_type_21 : decode cX8_type 21 = .ok (.castore, 1) := dg dtX8_type_0_ok 11 rfl
theorem dX8_type_22 : decode cX8_type 22 = .ok (.aload_n 0, 1) := dg dtX8_type_0_ok 12 rfl
theorem dX8_type_23 : decode cX8_type 23 = .ok (.dup, 1) := dg dtX8_type_0_ok 13 rfl
theorem dX8_type_24 : decode cX8_type 24 = .ok (.getfield 205, 3) := dg dtX8_type_0_ok 14 rfl
theorem dX8_type_27 : decode cX8_type 27 = .ok (.iconst 1, 1) := dg dtX8_type_0_ok 15 rfl
theorem dX8_type_28 : decode cX8_type 28 = .ok (.iadd, 1) := dg dtX8_type_0_ok 16 rfl
theorem dX8_type_29 : decode cX8_type 29 = .ok (.putfield 205, 3) := dg dtX8_type_0_ok 17 rfl
theorem dX8_type_32 : decode cX8_type 32 = .ok (.aload_n 0, 1) := dg dtX8_type_0_ok 18 rfl
theorem dX8_type_33 : decode cX8_type 33 = .ok (.getfield 205, 3) := dg dtX8_type_0_ok 19 rfl
theorem dX8_type_36 : decode cX8_type 36 = .ok (.ireturn, 1) := dg dtX8_type_0_ok 20 rfl
def dtX8_clearText_0 : List (Nat × Instr × Nat) := [(0, .aload_n 0, 1), (1, .getfield 205, 3), (4, .istore_n 1, 1), (5, .aload_n 0, 1), (6, .iconst 0, 1), (7, .putfield 205, 3), (10, .iload_n 1, 1), (11, .ireturn, 1)]
theorem dtX8_clearText_0_ok : ∀ q ∈ dtX8_clearText_0, decode cX8_clearText q.1 = .ok q.2 := by decide +kernel
theorem dX8_clearText_0 : decode cX8_clearText 0 = .ok (.aload_n 0, 1) := dg dtX8_clearText_0_ok 0 rfl
theorem dX8_clearText_1 : decode cX8_clearText 1 = .ok (.getfield 205, 3) := dg dtX8_clearText_0_ok 1 rfl
theorem dX8_clearText_4 : decode cX8_clearText 4 = .ok (.istore_n 1, 1) := dg dtX8_clearText_0_ok 2 rfl
theorem dX8_clearText_5 : decode cX8_clearText 5 = .ok (.aload_n 0, 1) := dg dtX8_clearText_0_ok 3 rfl
theorem dX8_clearText_6 : decode cX8_clearText 6 = .ok (.iconst 0, 1) := dg dtX8_clearText_0_ok 4 rfl
theorem dX8_clearText_7 : decode cX8_clearText 7 = .ok (.putfield 205, 3) := dg dtX8_clearText_0_ok 5 rfl
theorem dX8_clearText_10 : decode cX8_clearText 10 = .ok (.iload_n 1, 1) := dg dtX8_clearText_0_ok 6 rfl
theorem dX8_clearText_11 : decode cX8_clearText 11 = .ok (.ireturn, 1) := dg dtX8_clearText_0_ok 7 rfl
def dtX8_find_0 : List (Nat × Instr × Nat) := [(0, .aload_n 0, 1), (1, .iload_n 1, 1), (2, .putfield 208, 3), (5, .aload_n 0, 1), (6, .iload_n 1, 1), (7, .putfield 211, 3), (10, .aload_n 0, 1), (11, .getfield 211, 3), (14, .aload_n 0, 1), (15, .getfield 205, 3), (18, .if_icmp .ge 44, 3), (21, .aload_n 0, 1), (22, .getfield 23, 3), (25, .aload_n 0, 1), (26, .getfield 211, 3), (29, .caload, 1), (30, .bipush 32, 2), (32, .if_icmp .eq 30, 3), (35, .aload_n 0, 1), (36, .getfield 23, 3), (39, .aload_n 0, 1), (40, .getfield 211, 3), (43, .caload, 1), (44, .bipush 59, 2), (46, .if_icmp .eq 16, 3), (49, .aload_n 0, 1), (50, .dup, 1), (51, .getfield 211, 3), (54, .iconst 1, 1), (55, .iadd, 1), (56, .putfield 211, 3), (59, .goto (-49), 3), (62, .aload_n 0, 1), (63, .aload_n 0, 1), (64, .getfield 211, 3), (67, .aload_n 0, 1), (68, .getfield 208, 3), (71, .if_icmp .ne 10, 3), (74, .aload_n 0, 1), (75, .getfield 208, 3), (78, .goto 5, 3), (81, .ldc 46, 2), (83, .putfield 214, 3), (86, .return_, 1)]
theorem dtX8_find_0_ok : ∀ q ∈ dtX8_find_0, decode cX8_find q.1 = .ok q.2 := by decide +kernel
theorem dX8_find_0 : decode cX8_find 0 = .ok (.aload_n 0, 1) := dg dtX8_find_0_ok 0 rfl
theorem dX8_find_1 : decode cX8_find 1 = .ok (.iload_n 1, 1) := dg dtX8_find_0_ok 1 rfl
theorem dX8_find_2 : decode cX8_find 2 = .ok (.putfield 208, 3) := dg dtX8_find_0_ok 2 rfl
theorem dX8_find_5 : decode cX8_find 5 = .ok (.aload_n 0, 1) := dg dtX8_find_0_ok 3 rfl
theorem dX8_find_6 : decode cX8_find 6 = .ok (.iload_n 1, 1) := dg dtX8_find_0_ok 4 rfl
theorem dX8_find_7 : decode cX8_find 7 = .ok (.putfield 211, 3) := dg dtX8_find_0_ok 5 rfl
theorem dX8_find_10 : decode cX8_find 10 = .ok (.aload_n 0, 1) := dg dtX8_find_0_ok 6 rfl
theorem dX8_find_11 : decode cX8_find 11 = .ok (.getfield 211, 3) := dg dtX8_find_0_ok 7 rfl
theorem dX8_find_14 : decode cX8_find 14 = .ok (.aload_n 0, 1) := dg dtX8_find_0_ok 8 rfl
theorem dX8_find_15 : decode cX8_find 15 = .ok (.getfield 205, 3) := dg dtX8_find_0_ok 9 rfl
theorem dX8_find_18 : decode cX8_find 18 = .ok (.if_icmp .ge 44, 3) := dg dtX8_find_0_ok 10 rfl
theorem dX8_find_21 : decode cX8_find 21 = .ok (.aload_n 0, 1) := dg dtX8_find_0_ok 11 rfl
theorem dX8_find_22 : decode cX8_find 22 = .ok (.getfield 23, 3) := dg dtX8_find_0_ok 12 rfl
theorem dX8_find_25 : decode cX8_find 25 = .ok (.aload_n 0, 1) := dg dtX8_find_0_ok 13 rfl
theorem dX8_find_26 : decode cX8_find 26 = .ok (.getfield 211, 3) := dg dtX8_find_0_ok 14 rfl
theorem dX8_find_29 : decode cX8_find 29 = .ok (.caload, 1) := dg dtX8_find_0_ok 15 rfl
theorem dX8_find_30 : decode cX8_find 30 = .ok (.bipush 32, 2) := dg dtX8_find_0_ok 16 rfl
theorem dX8_find_32 : decode cX8_find 32 = .ok (.if_icmp .eq 30, 3) := dg dtX8_find_0_ok 17 rfl
theorem dX8_find_35 : decode cX8_find 35 = .ok (.aload_n 0, 1) := dg dtX8_find_0_ok 18 rfl
theorem dX8_find_36 : decode cX8_find 36 = .ok (.getfield 23, 3) := dg dtX8_find_0_ok 19 rfl
theorem dX8_find_39 : decode cX8_find 39 = .ok (.aload_n 0, 1) := dg dtX8_find_0_ok 20 rfl
theorem dX8_find_40 : decode cX8_find 40 = .ok (.getfield 211, 3) := dg dtX8_find_0_ok 21 rfl
theorem dX8_find_43 : decode cX8_find 43 = .ok (.caload, 1) := dg dtX8_find_0_ok 22 rfl
theorem dX8_find_44 : decode cX8_find 44 = .ok (.bipush 59, 2) := dg dtX8_find_0_ok 23 rfl
theorem dX8_find_46 : decode cX8_find 46 = .ok (.if_icmp .eq 16, 3) := dg dtX8_find_0_ok 24 rfl
theorem dX8_find_49 : decode cX8_find 49 = .ok (.aload_n 0, 1) := dg dtX8_find_0_ok 25 rfl
theorem dX8_find_50 : decode cX8_find 50 = .ok (.dup, 1) := dg dtX8_find_0_ok 26 rfl
theorem dX8_find_51 : decode cX8_find 51 = .ok (.getfield 211, 3) := dg dtX8_find_0_ok 27 rfl
theorem dX8_find_54 : decode cX8_find 54 = .ok (.iconst 1, 1) := dg dtX8_find_0_ok 28 rfl
theorem dX8_find_55 : decode cX8_find 55 = .ok (.iadd, 1) := dg dtX8_find_0_ok 29 rfl
theorem dX8_find_56 : decode cX8_find 56 = .ok (.putfield 211, 3) := dg dtX8_find_0_ok 30 rfl
theorem dX8_find_59 : decode cX8_find 59 = .ok (.goto (-49), 3) := dg dtX8_find_0_ok 31 rfl
theorem dX8_find_62 : decode cX8_find 62 = .ok (.aload_n 0, 1) := dg dtX8_find_0_ok 32 rfl
theorem dX8_find_63 : decode cX8_find 63 = .ok (.aload_n 0, 1) := dg dtX8_find_0_ok 33 rfl
theorem dX8_find_64 : decode cX8_find 64 = .ok (.getfield 211, 3) := dg dtX8_find_0_ok 34 rfl
theorem dX8_find_67 : decode cX8_find 67 = .ok (.aload_n 0, 1) := dg dtX8_find_0_ok 35 rfl
theorem dX8_find_68 : decode cX8_find 68 = .ok (.getfield 208, 3) := dg dtX8_find_0_ok 36 rfl
theorem dX8_find_71 : decode cX8_find 71 = .ok (.if_icmp .ne 10, 3) := dg dtX8_find_0_ok 37 rfl
theorem dX8_find_74 : decode cX8_find 74 = .ok (.aload_n 0, 1) := dg dtX8_find_0_ok 38 rfl
theorem dX8_find_75 : decode cX8_find 75 = .ok (.getfield 208, 3) := dg dtX8_find_0_ok 39 rfl
theorem dX8_find_78 : decode cX8_find 78 = .ok (.goto 5, 3) := dg dtX8_find_0_ok 40 rfl
theorem dX8_find_81 : decode cX8_find 81 = .ok (.ldc 46, 2) := dg dtX8_find_0_ok 41 rfl
theorem dX8_find_83 : decode cX8_find 83 = .ok (.putfield 214, 3) := dg dtX8_find_0_ok 42 rfl
theorem dX8_find_86 : decode cX8_find 86 = .ok (.return_, 1) := dg dtX8_find_0_ok 43 rfl
def dtX8_begins_0 : List (Nat × Instr × Nat) := [(0, .aload_n 0, 1), (1, .getfield 211, 3), (4, .aload_n 0, 1), (5, .getfield 208, 3), (8, .isub, 1), (9, .iload 5, 2), (11, .if_icmp .ne 66, 3), (14, .aload_n 0, 1), (15, .getfield 23, 3), (18, .aload_n 0, 1), (19, .getfield 208, 3), (22, .caload, 1), (23, .iload_n 1, 1), (24, .if_icmp .ne 53, 3), (27, .aload_n 0, 1), (28, .getfield 23, 3), (31, .aload_n 0, 1), (32, .getfield 208, 3), (35, .iconst 1, 1), (36, .iadd, 1), (37, .caload, 1), (38, .iload_n 2, 1), (39, .if_icmp .ne 38, 3), (42, .aload_n 0, 1), (43, .getfield 23, 3), (46, .aload_n 0, 1), (47, .getfield 208, 3), (50, .iconst 2, 1), (51, .iadd, 1), (52, .caload, 1), (53, .iload_n 3, 1), (54, .if_icmp .ne 23, 3), (57, .aload_n 0, 1), (58, .getfield 23, 3), (61, .aload_n 0, 1), (62, .getfield 208, 3), (65, .iconst 3, 1), (66, .iadd, 1), (67, .caload, 1), (68, .iload 4, 2), (70, .if_icmp .ne 7, 3), (73, .iconst 1, 1), (74, .goto 4, 3), (77, .iconst 0, 1), (78, .ireturn, 1)]
theorem dtX8_begins_0_ok : ∀ q ∈ dtX8_begins_0, decode cX8_begins q.1 = .ok q.2 := by decide +kernel
theorem dX8_begins_0 : decode cX8_begins 0 = .ok (.aload_n 0, 1) := dg dtX8_begins_0_ok 0 rfl
theorem dX8_begins_1 : decode cX8_begins 1 = .ok (.getfield 211, 3) := dg dtX8_begins_0_ok 1 rfl
theorem dX8_begins_4 : decode cX8_begins 4 = .ok (.aload_n 0, 1) := dg dtX8_begins_0_ok 2 rfl
theorem dX8_begins_5 : decode cX8_begins 5 = .ok (.getfield 208, 3) := dg dtX8_begins_0_ok 3 rfl
theorem dX8_begins_8 : decode cX8_begins 8 = .ok (.isub, 1) := dg dtX8_begins_0_ok 4 rfl
theorem dX8_begins_9 : decode cX8_begins 9 = .ok (.iload 5, 2) := dg dtX8_begins_0_ok 5 rfl
theorem dX8_begins_11 : decode cX8_begins 11 = .ok (.if_icmp .ne 66, 3) := dg dtX8_begins_0_ok 6 rfl
theorem dX8_begins_14 : decode cX8_begins 14 = .ok (.aload_n 0, 1) := dg dtX8_begins_0_ok 7 rfl
theorem dX8_begins_15 : decode cX8_begins 15 = .ok (.getfield 23, 3) := dg dtX8_begins_0_ok 8 rfl
theorem dX8_begins_18 : decode cX8_begins 18 = .ok (.aload_n 0, 1) := dg dtX8_begins_0_ok 9 rfl
theorem dX8_begins_19 : decode cX8_begins 19 = .ok (.getfield 208, 3) := dg dtX8_begins_0_ok 10 rfl
theorem dX8_begins_22 : decode cX8_begins 22 = .ok (.caload, 1) := dg dtX8_begins_0_ok 11 rfl
theorem dX8_begins_23 : decode cX8_begins 23 = .ok (.iload_n 1, 1) := dg dtX8_begins_0_ok 12 rfl
theorem dX8_begins_24 : decode cX8_begins 24 = .ok (.if_icmp .ne 53, 3) := dg dtX8_begins_0_ok 13 rfl
theorem dX8_begins_27 : decode cX8_begins 27 = .ok (.aload_n 0, 1) := dg dtX8_begins_0_ok 14 rfl
theorem dX8_begins_28 : decode cX8_begins 28 = .ok (.getfield 23, 3) := dg dtX8_begins_0_ok 15 rfl
theorem dX8_begins_31 : decode cX8_begins 31 = .ok (.aload_n 0, 1) := dg dtX8_begins_0_ok 16 rfl
theorem dX8_begins_32 : decode cX8_begins 32 = .ok (.getfield 208, 3) := dg dtX8_begins_0_ok 17 rfl
theorem dX8_begins_35 : decode cX8_begins 35 = .ok (.iconst 1, 1) := dg dtX8_begins_0_ok 18 rfl
theorem dX8_begins_36 : decode cX8_begins 36 = .ok (.iadd, 1) := dg dtX8_begins_0_ok 19 rfl
theorem dX8_begins_37 : decode cX8_begins 37 = .ok (.caload, 1) := dg dtX8_begins_0_ok 20 rfl
theorem dX8_begins_38 : decode cX8_begins 38 = .ok (.iload_n 2, 1) := dg dtX8_begins_0_ok 21 rfl
theorem dX8_begins_39 : decode cX8_begins 39 = .ok (.if_icmp .ne 38, 3) := dg dtX8_begins_0_ok 22 rfl
theorem dX8_begins_42 : decode cX8_begins 42 = .ok (.aload_n 0, 1) := dg dtX8_begins_0_ok 23 rfl
theorem dX8_begins_43 : decode cX8_begins 43 = .ok (.getfield 23, 3) := dg dtX8_begins_0_ok 24 rfl
theorem dX8_begins_46 : decode cX8_begins 46 = .ok (.aload_n 0, 1) := dg dtX8_begins_0_ok 25 rfl
theorem dX8_begins_47 : decode cX8_begins 47 = .ok (.getfield 208, 3) := dg dtX8_begins_0_ok 26 rfl
theorem dX8_begins_50 : decode cX8_begins 50 = .ok (.iconst 2, 1) := dg dtX8_begins_0_ok 27 rfl
theorem dX8_begins_51 : decode cX8_begins 51 = .ok (.iadd, 1) := dg dtX8_begins_0_ok 28 rfl
theorem dX8_begins_52 : decode cX8_begins 52 = .ok (.caload, 1) := dg dtX8_begins_0_ok 29 rfl
theorem dX8_begins_53 : decode cX8_begins 53 = .ok (.iload_n 3, 1) := dg dtX8_begins_0_ok 30 rfl
theorem dX8_begins_54 : decode cX8_begins 54 = .ok (.if_icmp .ne 23, 3) := dg dtX8_begins_0_ok 31 rfl
theorem dX8_begins_57 : decode cX8_begins 57 = .ok (.aload_n 0, 1) := dg dtX8_begins_0_ok 32 rfl
theorem dX8_begins_58 : decode cX8_begins 58 = .ok (.getfield 23, 3) := dg dtX8_begins_0_ok 33 rfl
theorem dX8_begins_61 : decode cX8_begins 61 = .ok (.aload_n 0, 1) := dg dtX8_begins_0_ok 34 rfl
theorem dX8_begins_62 : decode cX8_begins 62 = .ok (.getfield 208, 3) := dg dtX8_begins_0_ok 35 rfl
theorem dX8_begins_65 : decode cX8_begins 65 = .ok (.iconst 3, 1) := dg dtX8_begins_0_ok 36 rfl
theorem dX8_begins_66 : decode cX8_begins 66 = .ok (.iadd, 1) := dg dtX8_begins_0_ok 37 rfl
theorem dX8_begins_67 : decode cX8_begins 67 = .ok (.caload, 1) := dg dtX8_begins_0_ok 38 rfl
theorem dX8_begins_68 : decode cX8_begins 68 = .ok (.iload 4, 2) := dg dtX8_begins_0_ok 39 rfl
theorem dX8_begins_70 : decode cX8_begins 70 = .ok (.if_icmp .ne 7, 3) := dg dtX8_begins_0_ok 40 rfl
theorem dX8_begins_73 : decode cX8_begins 73 = .ok (.iconst 1, 1) := dg dtX8_begins_0_ok 41 rfl
theorem dX8_begins_74 : decode cX8_begins 74 = .ok (.goto 4, 3) := dg dtX8_begins_0_ok 42 rfl
theorem dX8_begins_77 : decode cX8_begins 77 = .ok (.iconst 0, 1) := dg dtX8_begins_0_ok 43 rfl
theorem dX8_begins_78 : decode cX8_begins 78 = .ok (.ireturn, 1) := dg dtX8_begins_0_ok 44 rfl
def dtX8_isAt_0 : List (Nat × Instr × Nat) := [(0, .aload_n 0, 1), (1, .getfield 23, 3), (4, .aload_n 0, 1), (5, .getfield 208, 3), (8, .iload_n 1, 1), (9, .iadd, 1), (10, .caload, 1), (11, .iload_n 2, 1), (12, .if_icmp .ne 7, 3), (15, .iconst 1, 1), (16, .goto 4, 3), (19, .iconst 0, 1), (20, .ireturn, 1)]
theorem dtX8_isAt_0_ok : ∀ q ∈ dtX8_isAt_0, decode cX8_isAt q.1 = .ok q.2 := by decide +kernel
theorem dX8_isAt_0 : decode cX8_isAt 0 = .ok (.aload_n 0, 1) := dg dtX8_isAt_0_ok 0 rfl
theorem dX8_isAt_1 : decode cX8_isAt 1 = .ok (.getfield 23, 3) := dg dtX8_isAt_0_ok 1 rfl
theorem dX8_isAt_4 : decode cX8_isAt 4 = .ok (.aload_n 0, 1) := dg dtX8_isAt_0_ok 2 rfl
theorem dX8_isAt_5 : decode cX8_isAt 5 = .ok (.getfield 208, 3) := dg dtX8_isAt_0_ok 3 rfl
theorem dX8_isAt_8 : decode cX8_isAt 8 = .ok (.iload_n 1, 1) := dg dtX8_isAt_0_ok 4 rfl
theorem dX8_isAt_9 : decode cX8_isAt 9 = .ok (.iadd, 1) := dg dtX8_isAt_0_ok 5 rfl
theorem dX8_isAt_10 : decode cX8_isAt 10 = .ok (.caload, 1) := dg dtX8_isAt_0_ok 6 rfl
theorem dX8_isAt_11 : decode cX8_isAt 11 = .ok (.iload_n 2, 1) := dg dtX8_isAt_0_ok 7 rfl
theorem dX8_isAt_12 : decode cX8_isAt 12 = .ok (.if_icmp .ne 7, 3) := dg dtX8_isAt_0_ok 8 rfl
theorem dX8_isAt_15 : decode cX8_isAt 15 = .ok (.iconst 1, 1) := dg dtX8_isAt_0_ok 9 rfl
theorem dX8_isAt_16 : decode cX8_isAt 16 = .ok (.goto 4, 3) := dg dtX8_isAt_0_ok 10 rfl
theorem dX8_isAt_19 : decode cX8_isAt 19 = .ok (.iconst 0, 1) := dg dtX8_isAt_0_ok 11 rfl
theorem dX8_isAt_20 : decode cX8_isAt 20 = .ok (.ireturn, 1) := dg dtX8_isAt_0_ok 12 rfl
def dtX8_word_0 : List (Nat × Instr × Nat) := [(0, .aload_n 0, 1), (1, .bipush 101, 2), (3, .bipush 110, 2), (5, .bipush 116, 2), (7, .bipush 101, 2), (9, .iconst 5, 1), (10, .invokevirtual 217, 3), (13, .ifCond .eq 15, 3), (16, .aload_n 0, 1), (17, .iconst 4, 1), (18, .bipush 114, 2), (20, .invokevirtual 221, 3), (23, .ifCond .eq 5, 3), (26, .iconst 0, 1), (27, .ireturn, 1), (28, .aload_n 0, 1), (29, .bipush 114, 2), (31, .bipush 101, 2), (33, .bipush 108, 2), (35, .bipush 101, 2), (37, .bipush 7, 2), (39, .invokevirtual 217, 3), (42, .ifCond .eq 36, 3), (45, .aload_n 0, 1), (46, .iconst 4, 1), (47, .bipush 97, 2), (49, .invokevirtual 221, 3), (52, .ifCond .eq 26, 3), (55, .aload_n 0, 1), (56, .iconst 5, 1), (57, .bipush 115, 2), (59, .invokevirtual 221, 3), (62, .ifCond .eq 16, 3), (65, .aload_n 0, 1), (66, .bipush 6, 2), (68, .bipush 101, 2), (70, .invokevirtual 221, 3), (73, .ifCond .eq 5, 3), (76, .iconst 1, 1), (77, .ireturn, 1), (78, .aload_n 0, 1), (79, .bipush 115, 2), (81, .bipush 97, 2), (83, .bipush 109, 2), (85, .bipush 112, 2), (87, .bipush 6, 2), (89, .invokevirtual 217, 3), (92, .ifCond .eq 25, 3)]
theorem dtX8_word_0_ok : ∀ q ∈ dtX8_word_0, decode cX8_word q.1 = .ok q.2 := by decide +kernel
theorem dX8_word_0 : decode cX8_word 0 = .ok (.aload_n 0, 1) := dg dtX8_word_0_ok 0 rfl
theorem dX8_word_1 : decode cX8_word 1 = .ok (.bipush 101, 2) := dg dtX8_word_0_ok 1 rfl
theorem dX8_word_3 : decode cX8_word 3 = .ok (.bipush 110, 2) := dg dtX8_word_0_ok 2 rfl
theorem dX8_word_5 : decode cX8_word 5 = .ok (.bipush 116, 2) := dg dtX8_word_0_ok 3 rfl
theorem dX8_word_7 : decode cX8_word 7 = .ok (.bipush 101, 2) := dg dtX8_word_0_ok 4 rfl
theorem dX8_word_9 : decode cX8_word 9 = .ok (.iconst 5, 1) := dg dtX8_word_0_ok 5 rfl
theorem dX8_word_10 : decode cX8_word 10 = .ok (.invokevirtual 217, 3) := dg dtX8_word_0_ok 6 rfl
theorem dX8_word_13 : decode cX8_word 13 = .ok (.ifCond .eq 15, 3) := dg dtX8_word_0_ok 7 rfl
theorem dX8_word_16 : decode cX8_word 16 = .ok (.aload_n 0, 1) := dg dtX8_word_0_ok 8 rfl
theorem dX8_word_17 : decode cX8_word 17 = .ok (.iconst 4, 1) := dg dtX8_word_0_ok 9 rfl
theorem dX8_word_18 : decode cX8_word 18 = .ok (.bipush 114, 2) := dg dtX8_word_0_ok 10 rfl
theorem dX8_word_20 : decode cX8_word 20 = .ok (.invokevirtual 221, 3) := dg dtX8_word_0_ok 11 rfl
theorem dX8_word_23 : decode cX8_word 23 = .ok (.ifCond .eq 5, 3) := dg dtX8_word_0_ok 12 rfl
theorem dX8_word_26 : decode cX8_word 26 = .ok (.iconst 0, 1) := dg dtX8_word_0_ok 13 rfl
theorem dX8_word_27 : decode cX8_word 27 = .ok (.ireturn, 1) := dg dtX8_word_0_ok 14 rfl
theorem dX8_word_28 : decode cX8_word 28 = .ok (.aload_n 0, 1) := dg dtX8_word_0_ok 15 rfl
theorem dX8_word_29 : decode cX8_word 29 = .ok (.bipush 114, 2) := dg dtX8_word_0_ok 16 rfl
theorem dX8_word_31 : decode cX8_word 31 = .ok (.bipush 101, 2) := dg dtX8_word_0_ok 17 rfl
theorem dX8_word_33 : decode cX8_word 33 = .ok (.bipush 108, 2) := dg dtX8_word_0_ok 18 rfl
theorem dX8_word_35 : decode cX8_word 35 = .ok (.bipush 101, 2) := dg dtX8_word_0_ok 19 rfl
theorem dX8_word_37 : decode cX8_word 37 = .ok (.bipush 7, 2) := dg dtX8_word_0_ok 20 rfl
theorem dX8_word_39 : decode cX8_word 39 = .ok (.invokevirtual 217, 3) := dg dtX8_word_0_ok 21 rfl
theorem dX8_word_42 : decode cX8_word 42 = .ok (.ifCond .eq 36, 3) := dg dtX8_word_0_ok 22 rfl
theorem dX8_word_45 : decode cX8_word 45 = .ok (.aload_n 0, 1) := dg dtX8_word_0_ok 23 rfl
theorem dX8_word_46 : decode cX8_word 46 = .ok (.iconst 4, 1) := dg dtX8_word_0_ok 24 rfl
theorem dX8_word_47 : decode cX8_word 47 = .ok (.bipush 97, 2) := dg dtX8_word_0_ok 25 rfl
theorem dX8_word_49 : decode cX8_word 49 = .ok (.invokevirtual 221, 3) := dg dtX8_word_0_ok 26 rfl
theorem dX8_word_52 : decode cX8_word 52 = .ok (.ifCond .eq 26, 3) := dg dtX8_word_0_ok 27 rfl
theorem dX8_word_55 : decode cX8_word 55 = .ok (.aload_n 0, 1) := dg dtX8_word_0_ok 28 rfl
theorem dX8_word_56 : decode cX8_word 56 = .ok (.iconst 5, 1) := dg dtX8_word_0_ok 29 rfl
theorem dX8_word_57 : decode cX8_word 57 = .ok (.bipush 115, 2) := dg dtX8_word_0_ok 30 rfl
theorem dX8_word_59 : decode cX8_word 59 = .ok (.invokevirtual 221, 3) := dg dtX8_word_0_ok 31 rfl
theorem dX8_word_62 : decode cX8_word 62 = .ok (.ifCond .eq 16, 3) := dg dtX8_word_0_ok 32 rfl
theorem dX8_word_65 : decode cX8_word 65 = .ok (.aload_n 0, 1) := dg dtX8_word_0_ok 33 rfl
theorem dX8_word_66 : decode cX8_word 66 = .ok (.bipush 6, 2) := dg dtX8_word_0_ok 34 rfl
theorem dX8_word_68 : decode cX8_word 68 = .ok (.bipush 101, 2) := dg dtX8_word_0_ok 35 rfl
theorem dX8_word_70 : decode cX8_word 70 = .ok (.invokevirtual 221, 3) := dg dtX8_word_0_ok 36 rfl
theorem dX8_word_73 : decode cX8_word 73 = .ok (.ifCond .eq 5, 3) := dg dtX8_word_0_ok 37 rfl
theorem dX8_word_76 : decode cX8_word 76 = .ok (.iconst 1, 1) := dg dtX8_word_0_ok 38 rfl
theorem dX8_word_77 : decode cX8_word 77 = .ok (.ireturn, 1) := dg dtX8_word_0_ok 39 rfl
theorem dX8_word_78 : decode cX8_word 78 = .ok (.aload_n 0, 1) := dg dtX8_word_0_ok 40 rfl
theorem dX8_word_79 : decode cX8_word 79 = .ok (.bipush 115, 2) := dg dtX8_word_0_ok 41 rfl
theorem dX8_word_81 : decode cX8_word 81 = .ok (.bipush 97, 2) := dg dtX8_word_0_ok 42 rfl
theorem dX8_word_83 : decode cX8_word 83 = .ok (.bipush 109, 2) := dg dtX8_word_0_ok 43 rfl
theorem dX8_word_85 : decode cX8_word 85 = .ok (.bipush 112, 2) := dg dtX8_word_0_ok 44 rfl
theorem dX8_word_87 : decode cX8_word 87 = .ok (.bipush 6, 2) := dg dtX8_word_0_ok 45 rfl
theorem dX8_word_89 : decode cX8_word 89 = .ok (.invokevirtual 217, 3) := dg dtX8_word_0_ok 46 rfl
theorem dX8_word_92 : decode cX8_word 92 = .ok (.ifCond .eq 25, 3) := dg dtX8_word_0_ok 47 rfl
def dtX8_word_1 : List (Nat × Instr × Nat) := [(95, .aload_n 0, 1), (96, .iconst 4, 1), (97, .bipush 108, 2), (99, .invokevirtual 221, 3), (102, .ifCond .eq 15, 3), (105, .aload_n 0, 1), (106, .iconst 5, 1), (107, .bipush 101, 2), (109, .invokevirtual 221, 3), (112, .ifCond .eq 5, 3), (115, .iconst 2, 1), (116, .ireturn, 1), (117, .aload_n 0, 1), (118, .bipush 101, 2), (120, .bipush 120, 2), (122, .bipush 112, 2), (124, .bipush 111, 2), (126, .bipush 6, 2), (128, .invokevirtual 217, 3), (131, .ifCond .eq 25, 3), (134, .aload_n 0, 1), (135, .iconst 4, 1), (136, .bipush 114, 2), (138, .invokevirtual 221, 3), (141, .ifCond .eq 15, 3), (144, .aload_n 0, 1), (145, .iconst 5, 1), (146, .bipush 116, 2), (148, .invokevirtual 221, 3), (151, .ifCond .eq 5, 3), (154, .iconst 3, 1), (155, .ireturn, 1), (156, .aload_n 0, 1), (157, .bipush 112, 2), (159, .bipush 114, 2), (161, .bipush 111, 2), (163, .bipush 118, 2), (165, .iconst 5, 1), (166, .invokevirtual 217, 3), (169, .ifCond .eq 15, 3), (172, .aload_n 0, 1), (173, .iconst 4, 1), (174, .bipush 101, 2), (176, .invokevirtual 221, 3), (179, .ifCond .eq 5, 3), (182, .iconst 4, 1), (183, .ireturn, 1), (184, .aload_n 0, 1)]
theorem dtX8_word_1_ok : ∀ q ∈ dtX8_word_1, decode cX8_word q.1 = .ok q.2 := by decide +kernel
theorem dX8_word_95 : decode cX8_word 95 = .ok (.aload_n 0, 1) := dg dtX8_word_1_ok 0 rfl
theorem dX8_word_96 : decode cX8_word 96 = .ok (.iconst 4, 1) := dg dtX8_word_1_ok 1 rfl
theorem dX8_word_97 : decode cX8_word 97 = .ok (.bipush 108, 2) := dg dtX8_word_1_ok 2 rfl
theorem dX8_word_99 : decode cX8_word 99 = .ok (.invokevirtual 221, 3) := dg dtX8_word_1_ok 3 rfl
theorem dX8_word_102 : decode cX8_word 102 = .ok (.ifCond .eq 15, 3) := dg dtX8_word_1_ok 4 rfl
theorem dX8_word_105 : decode cX8_word 105 = .ok (.aload_n 0, 1) := dg dtX8_word_1_ok 5 rfl
theorem dX8_word_106 : decode cX8_word 106 = .ok (.iconst 5, 1) := dg dtX8_word_1_ok 6 rfl
theorem dX8_word_107 : decode cX8_word 107 = .ok (.bipush 101, 2) := dg dtX8_word_1_ok 7 rfl
theorem dX8_word_109 : decode cX8_word 109 = .ok (.invokevirtual 221, 3) := dg dtX8_word_1_ok 8 rfl
theorem dX8_word_112 : decode cX8_word 112 = .ok (.ifCond .eq 5, 3) := dg dtX8_word_1_ok 9 rfl
theorem dX8_word_115 : decode cX8_word 115 = .ok (.iconst 2, 1) := dg dtX8_word_1_ok 10 rfl
theorem dX8_word_116 : decode cX8_word 116 = .ok (.ireturn, 1) := dg dtX8_word_1_ok 11 rfl
theorem dX8_word_117 : decode cX8_word 117 = .ok (.aload_n 0, 1) := dg dtX8_word_1_ok 12 rfl
theorem dX8_word_118 : decode cX8_word 118 = .ok (.bipush 101, 2) := dg dtX8_word_1_ok 13 rfl
theorem dX8_word_120 : decode cX8_word 120 = .ok (.bipush 120, 2) := dg dtX8_word_1_ok 14 rfl
theorem dX8_word_122 : decode cX8_word 122 = .ok (.bipush 112, 2) := dg dtX8_word_1_ok 15 rfl
theorem dX8_word_124 : decode cX8_word 124 = .ok (.bipush 111, 2) := dg dtX8_word_1_ok 16 rfl
theorem dX8_word_126 : decode cX8_word 126 = .ok (.bipush 6, 2) := dg dtX8_word_1_ok 17 rfl
theorem dX8_word_128 : decode cX8_word 128 = .ok (.invokevirtual 217, 3) := dg dtX8_word_1_ok 18 rfl
theorem dX8_word_131 : decode cX8_word 131 = .ok (.ifCond .eq 25, 3) := dg dtX8_word_1_ok 19 rfl
theorem dX8_word_134 : decode cX8_word 134 = .ok (.aload_n 0, 1) := dg dtX8_word_1_ok 20 rfl
theorem dX8_word_135 : decode cX8_word 135 = .ok (.iconst 4, 1) := dg dtX8_word_1_ok 21 rfl
theorem dX8_word_136 : decode cX8_word 136 = .ok (.bipush 114, 2) := dg dtX8_word_1_ok 22 rfl
theorem dX8_word_138 : decode cX8_word 138 = .ok (.invokevirtual 221, 3) := dg dtX8_word_1_ok 23 rfl
theorem dX8_word_141 : decode cX8_word 141 = .ok (.ifCond .eq 15, 3) := dg dtX8_word_1_ok 24 rfl
theorem dX8_word_144 : decode cX8_word 144 = .ok (.aload_n 0, 1) := dg dtX8_word_1_ok 25 rfl
theorem dX8_word_145 : decode cX8_word 145 = .ok (.iconst 5, 1) := dg dtX8_word_1_ok 26 rfl
theorem dX8_word_146 : decode cX8_word 146 = .ok (.bipush 116, 2) := dg dtX8_word_1_ok 27 rfl
theorem dX8_word_148 : decode cX8_word 148 = .ok (.invokevirtual 221, 3) := dg dtX8_word_1_ok 28 rfl
theorem dX8_word_151 : decode cX8_word 151 = .ok (.ifCond .eq 5, 3) := dg dtX8_word_1_ok 29 rfl
theorem dX8_word_154 : decode cX8_word 154 = .ok (.iconst 3, 1) := dg dtX8_word_1_ok 30 rfl
theorem dX8_word_155 : decode cX8_word 155 = .ok (.ireturn, 1) := dg dtX8_word_1_ok 31 rfl
theorem dX8_word_156 : decode cX8_word 156 = .ok (.aload_n 0, 1) := dg dtX8_word_1_ok 32 rfl
theorem dX8_word_157 : decode cX8_word 157 = .ok (.bipush 112, 2) := dg dtX8_word_1_ok 33 rfl
theorem dX8_word_159 : decode cX8_word 159 = .ok (.bipush 114, 2) := dg dtX8_word_1_ok 34 rfl
theorem dX8_word_161 : decode cX8_word 161 = .ok (.bipush 111, 2) := dg dtX8_word_1_ok 35 rfl
theorem dX8_word_163 : decode cX8_word 163 = .ok (.bipush 118, 2) := dg dtX8_word_1_ok 36 rfl
theorem dX8_word_165 : decode cX8_word 165 = .ok (.iconst 5, 1) := dg dtX8_word_1_ok 37 rfl
theorem dX8_word_166 : decode cX8_word 166 = .ok (.invokevirtual 217, 3) := dg dtX8_word_1_ok 38 rfl
theorem dX8_word_169 : decode cX8_word 169 = .ok (.ifCond .eq 15, 3) := dg dtX8_word_1_ok 39 rfl
theorem dX8_word_172 : decode cX8_word 172 = .ok (.aload_n 0, 1) := dg dtX8_word_1_ok 40 rfl
theorem dX8_word_173 : decode cX8_word 173 = .ok (.iconst 4, 1) := dg dtX8_word_1_ok 41 rfl
theorem dX8_word_174 : decode cX8_word 174 = .ok (.bipush 101, 2) := dg dtX8_word_1_ok 42 rfl
theorem dX8_word_176 : decode cX8_word 176 = .ok (.invokevirtual 221, 3) := dg dtX8_word_1_ok 43 rfl
theorem dX8_word_179 : decode cX8_word 179 = .ok (.ifCond .eq 5, 3) := dg dtX8_word_1_ok 44 rfl
theorem dX8_word_182 : decode cX8_word 182 = .ok (.iconst 4, 1) := dg dtX8_word_1_ok 45 rfl
theorem dX8_word_183 : decode cX8_word 183 = .ok (.ireturn, 1) := dg dtX8_word_1_ok 46 rfl
theorem dX8_word_184 : decode cX8_word 184 = .ok (.aload_n 0, 1) := dg dtX8_word_1_ok 47 rfl
def dtX8_word_2 : List (Nat × Instr × Nat) := [(185, .bipush 100, 2), (187, .bipush 101, 2), (189, .bipush 115, 2), (191, .bipush 116, 2), (193, .bipush 7, 2), (195, .invokevirtual 217, 3), (198, .ifCond .eq 36, 3), (201, .aload_n 0, 1), (202, .iconst 4, 1), (203, .bipush 114, 2), (205, .invokevirtual 221, 3), (208, .ifCond .eq 26, 3), (211, .aload_n 0, 1), (212, .iconst 5, 1), (213, .bipush 111, 2), (215, .invokevirtual 221, 3), (218, .ifCond .eq 16, 3), (221, .aload_n 0, 1), (222, .bipush 6, 2), (224, .bipush 121, 2), (226, .invokevirtual 221, 3), (229, .ifCond .eq 5, 3), (232, .iconst 5, 1), (233, .ireturn, 1), (234, .aload_n 0, 1), (235, .bipush 103, 2), (237, .bipush 105, 2), (239, .bipush 118, 2), (241, .bipush 101, 2), (243, .iconst 4, 1), (244, .invokevirtual 217, 3), (247, .ifCond .eq 8, 3), (250, .bipush 6, 2), (252, .goto 26, 3), (255, .aload_n 0, 1), (256, .bipush 100, 2), (258, .bipush 97, 2), (260, .bipush 121, 2), (262, .bipush 115, 2), (264, .iconst 4, 1), (265, .invokevirtual 217, 3), (268, .ifCond .eq 8, 3), (271, .bipush 7, 2), (273, .goto 5, 3), (276, .ldc 46, 2), (278, .ireturn, 1)]
theorem dtX8_word_2_ok : ∀ q ∈ dtX8_word_2, decode cX8_word q.1 = .ok q.2 := by decide +kernel
theorem dX8_word_185 : decode cX8_word 185 = .ok (.bipush 100, 2) := dg dtX8_word_2_ok 0 rfl
theorem dX8_word_187 : decode cX8_word 187 = .ok (.bipush 101, 2) := dg dtX8_word_2_ok 1 rfl
theorem dX8_word_189 : decode cX8_word 189 = .ok (.bipush 115, 2) := dg dtX8_word_2_ok 2 rfl
theorem dX8_word_191 : decode cX8_word 191 = .ok (.bipush 116, 2) := dg dtX8_word_2_ok 3 rfl
theorem dX8_word_193 : decode cX8_word 193 = .ok (.bipush 7, 2) := dg dtX8_word_2_ok 4 rfl
theorem dX8_word_195 : decode cX8_word 195 = .ok (.invokevirtual 217, 3) := dg dtX8_word_2_ok 5 rfl
theorem dX8_word_198 : decode cX8_word 198 = .ok (.ifCond .eq 36, 3) := dg dtX8_word_2_ok 6 rfl
theorem dX8_word_201 : decode cX8_word 201 = .ok (.aload_n 0, 1) := dg dtX8_word_2_ok 7 rfl
theorem dX8_word_202 : decode cX8_word 202 = .ok (.iconst 4, 1) := dg dtX8_word_2_ok 8 rfl
theorem dX8_word_203 : decode cX8_word 203 = .ok (.bipush 114, 2) := dg dtX8_word_2_ok 9 rfl
theorem dX8_word_205 : decode cX8_word 205 = .ok (.invokevirtual 221, 3) := dg dtX8_word_2_ok 10 rfl
theorem dX8_word_208 : decode cX8_word 208 = .ok (.ifCond .eq 26, 3) := dg dtX8_word_2_ok 11 rfl
theorem dX8_word_211 : decode cX8_word 211 = .ok (.aload_n 0, 1) := dg dtX8_word_2_ok 12 rfl
theorem dX8_word_212 : decode cX8_word 212 = .ok (.iconst 5, 1) := dg dtX8_word_2_ok 13 rfl
theorem dX8_word_213 : decode cX8_word 213 = .ok (.bipush 111, 2) := dg dtX8_word_2_ok 14 rfl
theorem dX8_word_215 : decode cX8_word 215 = .ok (.invokevirtual 221, 3) := dg dtX8_word_2_ok 15 rfl
theorem dX8_word_218 : decode cX8_word 218 = .ok (.ifCond .eq 16, 3) := dg dtX8_word_2_ok 16 rfl
theorem dX8_word_221 : decode cX8_word 221 = .ok (.aload_n 0, 1) := dg dtX8_word_2_ok 17 rfl
theorem dX8_word_222 : decode cX8_word 222 = .ok (.bipush 6, 2) := dg dtX8_word_2_ok 18 rfl
theorem dX8_word_224 : decode cX8_word 224 = .ok (.bipush 121, 2) := dg dtX8_word_2_ok 19 rfl
theorem dX8_word_226 : decode cX8_word 226 = .ok (.invokevirtual 221, 3) := dg dtX8_word_2_ok 20 rfl
theorem dX8_word_229 : decode cX8_word 229 = .ok (.ifCond .eq 5, 3) := dg dtX8_word_2_ok 21 rfl
theorem dX8_word_232 : decode cX8_word 232 = .ok (.iconst 5, 1) := dg dtX8_word_2_ok 22 rfl
theorem dX8_word_233 : decode cX8_word 233 = .ok (.ireturn, 1) := dg dtX8_word_2_ok 23 rfl
theorem dX8_word_234 : decode cX8_word 234 = .ok (.aload_n 0, 1) := dg dtX8_word_2_ok 24 rfl
theorem dX8_word_235 : decode cX8_word 235 = .ok (.bipush 103, 2) := dg dtX8_word_2_ok 25 rfl
theorem dX8_word_237 : decode cX8_word 237 = .ok (.bipush 105, 2) := dg dtX8_word_2_ok 26 rfl
theorem dX8_word_239 : decode cX8_word 239 = .ok (.bipush 118, 2) := dg dtX8_word_2_ok 27 rfl
theorem dX8_word_241 : decode cX8_word 241 = .ok (.bipush 101, 2) := dg dtX8_word_2_ok 28 rfl
theorem dX8_word_243 : decode cX8_word 243 = .ok (.iconst 4, 1) := dg dtX8_word_2_ok 29 rfl
theorem dX8_word_244 : decode cX8_word 244 = .ok (.invokevirtual 217, 3) := dg dtX8_word_2_ok 30 rfl
theorem dX8_word_247 : decode cX8_word 247 = .ok (.ifCond .eq 8, 3) := dg dtX8_word_2_ok 31 rfl
theorem dX8_word_250 : decode cX8_word 250 = .ok (.bipush 6, 2) := dg dtX8_word_2_ok 32 rfl
theorem dX8_word_252 : decode cX8_word 252 = .ok (.goto 26, 3) := dg dtX8_word_2_ok 33 rfl
theorem dX8_word_255 : decode cX8_word 255 = .ok (.aload_n 0, 1) := dg dtX8_word_2_ok 34 rfl
theorem dX8_word_256 : decode cX8_word 256 = .ok (.bipush 100, 2) := dg dtX8_word_2_ok 35 rfl
theorem dX8_word_258 : decode cX8_word 258 = .ok (.bipush 97, 2) := dg dtX8_word_2_ok 36 rfl
theorem dX8_word_260 : decode cX8_word 260 = .ok (.bipush 121, 2) := dg dtX8_word_2_ok 37 rfl
theorem dX8_word_262 : decode cX8_word 262 = .ok (.bipush 115, 2) := dg dtX8_word_2_ok 38 rfl
theorem dX8_word_264 : decode cX8_word 264 = .ok (.iconst 4, 1) := dg dtX8_word_2_ok 39 rfl
theorem dX8_word_265 : decode cX8_word 265 = .ok (.invokevirtual 217, 3) := dg dtX8_word_2_ok 40 rfl
theorem dX8_word_268 : decode cX8_word 268 = .ok (.ifCond .eq 8, 3) := dg dtX8_word_2_ok 41 rfl
theorem dX8_word_271 : decode cX8_word 271 = .ok (.bipush 7, 2) := dg dtX8_word_2_ok 42 rfl
theorem dX8_word_273 : decode cX8_word 273 = .ok (.goto 5, 3) := dg dtX8_word_2_ok 43 rfl
theorem dX8_word_276 : decode cX8_word 276 = .ok (.ldc 46, 2) := dg dtX8_word_2_ok 44 rfl
theorem dX8_word_278 : decode cX8_word 278 = .ok (.ireturn, 1) := dg dtX8_word_2_ok 45 rfl
def dtX8_told_0 : List (Nat × Instr × Nat) := [(0, .aload_n 0, 1), (1, .getfield 214, 3), (4, .ifCond .lt 5, 3), (7, .iconst 0, 1), (8, .ireturn, 1), (9, .aload_n 0, 1), (10, .getfield 211, 3), (13, .aload_n 0, 1), (14, .getfield 205, 3), (17, .if_icmp .eq 17, 3), (20, .aload_n 0, 1), (21, .getfield 23, 3), (24, .aload_n 0, 1), (25, .getfield 211, 3), (28, .caload, 1), (29, .bipush 32, 2), (31, .if_icmp .eq 13, 3), (34, .aload_n 0, 1), (35, .aload_n 0, 1), (36, .getfield 211, 3), (39, .putfield 214, 3), (42, .iconst 0, 1), (43, .ireturn, 1), (44, .aload_n 0, 1), (45, .aload_n 0, 1), (46, .getfield 211, 3), (49, .iconst 1, 1), (50, .iadd, 1), (51, .invokevirtual 225, 3), (54, .aload_n 0, 1), (55, .getfield 211, 3), (58, .aload_n 0, 1), (59, .getfield 208, 3), (62, .isub, 1), (63, .i2l, 1), (64, .lconst 1, 1), (65, .ldc2_w 229, 3), (68, .invokestatic 47, 3), (71, .istore_n 3, 1), (72, .iconst 0, 1), (73, .istore 4, 2), (75, .aload_n 0, 1), (76, .getfield 208, 3), (79, .istore 5, 2), (81, .iload 5, 2), (83, .aload_n 0, 1), (84, .getfield 211, 3), (87, .if_icmp .ge 61, 3)]
theorem dtX8_told_0_ok : ∀ q ∈ dtX8_told_0, decode cX8_told q.1 = .ok q.2 := by decide +kernel
theorem dX8_told_0 : decode cX8_told 0 = .ok (.aload_n 0, 1) := dg dtX8_told_0_ok 0 rfl
theorem dX8_told_1 : decode cX8_told 1 = .ok (.getfield 214, 3) := dg dtX8_told_0_ok 1 rfl
theorem dX8_told_4 : decode cX8_told 4 = .ok (.ifCond .lt 5, 3) := dg dtX8_told_0_ok 2 rfl
theorem dX8_told_7 : decode cX8_told 7 = .ok (.iconst 0, 1) := dg dtX8_told_0_ok 3 rfl
theorem dX8_told_8 : decode cX8_told 8 = .ok (.ireturn, 1) := dg dtX8_told_0_ok 4 rfl
theorem dX8_told_9 : decode cX8_told 9 = .ok (.aload_n 0, 1) := dg dtX8_told_0_ok 5 rfl
theorem dX8_told_10 : decode cX8_told 10 = .ok (.getfield 211, 3) := dg dtX8_told_0_ok 6 rfl
theorem dX8_told_13 : decode cX8_told 13 = .ok (.aload_n 0, 1) := dg dtX8_told_0_ok 7 rfl
theorem dX8_told_14 : decode cX8_told 14 = .ok (.getfield 205, 3) := dg dtX8_told_0_ok 8 rfl
theorem dX8_told_17 : decode cX8_told 17 = .ok (.if_icmp .eq 17, 3) := dg dtX8_told_0_ok 9 rfl
theorem dX8_told_20 : decode cX8_told 20 = .ok (.aload_n 0, 1) := dg dtX8_told_0_ok 10 rfl
theorem dX8_told_21 : decode cX8_told 21 = .ok (.getfield 23, 3) := dg dtX8_told_0_ok 11 rfl
theorem dX8_told_24 : decode cX8_told 24 = .ok (.aload_n 0, 1) := dg dtX8_told_0_ok 12 rfl
theorem dX8_told_25 : decode cX8_told 25 = .ok (.getfield 211, 3) := dg dtX8_told_0_ok 13 rfl
theorem dX8_told_28 : decode cX8_told 28 = .ok (.caload, 1) := dg dtX8_told_0_ok 14 rfl
theorem dX8_told_29 : decode cX8_told 29 = .ok (.bipush 32, 2) := dg dtX8_told_0_ok 15 rfl
theorem dX8_told_31 : decode cX8_told 31 = .ok (.if_icmp .eq 13, 3) := dg dtX8_told_0_ok 16 rfl
theorem dX8_told_34 : decode cX8_told 34 = .ok (.aload_n 0, 1) := dg dtX8_told_0_ok 17 rfl
theorem dX8_told_35 : decode cX8_told 35 = .ok (.aload_n 0, 1) := dg dtX8_told_0_ok 18 rfl
theorem dX8_told_36 : decode cX8_told 36 = .ok (.getfield 211, 3) := dg dtX8_told_0_ok 19 rfl
theorem dX8_told_39 : decode cX8_told 39 = .ok (.putfield 214, 3) := dg dtX8_told_0_ok 20 rfl
theorem dX8_told_42 : decode cX8_told 42 = .ok (.iconst 0, 1) := dg dtX8_told_0_ok 21 rfl
theorem dX8_told_43 : decode cX8_told 43 = .ok (.ireturn, 1) := dg dtX8_told_0_ok 22 rfl
theorem dX8_told_44 : decode cX8_told 44 = .ok (.aload_n 0, 1) := dg dtX8_told_0_ok 23 rfl
theorem dX8_told_45 : decode cX8_told 45 = .ok (.aload_n 0, 1) := dg dtX8_told_0_ok 24 rfl
theorem dX8_told_46 : decode cX8_told 46 = .ok (.getfield 211, 3) := dg dtX8_told_0_ok 25 rfl
theorem dX8_told_49 : decode cX8_told 49 = .ok (.iconst 1, 1) := dg dtX8_told_0_ok 26 rfl
theorem dX8_told_50 : decode cX8_told 50 = .ok (.iadd, 1) := dg dtX8_told_0_ok 27 rfl
theorem dX8_told_51 : decode cX8_told 51 = .ok (.invokevirtual 225, 3) := dg dtX8_told_0_ok 28 rfl
theorem dX8_told_54 : decode cX8_told 54 = .ok (.aload_n 0, 1) := dg dtX8_told_0_ok 29 rfl
theorem dX8_told_55 : decode cX8_told 55 = .ok (.getfield 211, 3) := dg dtX8_told_0_ok 30 rfl
theorem dX8_told_58 : decode cX8_told 58 = .ok (.aload_n 0, 1) := dg dtX8_told_0_ok 31 rfl
theorem dX8_told_59 : decode cX8_told 59 = .ok (.getfield 208, 3) := dg dtX8_told_0_ok 32 rfl
theorem dX8_told_62 : decode cX8_told 62 = .ok (.isub, 1) := dg dtX8_told_0_ok 33 rfl
theorem dX8_told_63 : decode cX8_told 63 = .ok (.i2l, 1) := dg dtX8_told_0_ok 34 rfl
theorem dX8_told_64 : decode cX8_told 64 = .ok (.lconst 1, 1) := dg dtX8_told_0_ok 35 rfl
theorem dX8_told_65 : decode cX8_told 65 = .ok (.ldc2_w 229, 3) := dg dtX8_told_0_ok 36 rfl
theorem dX8_told_68 : decode cX8_told 68 = .ok (.invokestatic 47, 3) := dg dtX8_told_0_ok 37 rfl
theorem dX8_told_71 : decode cX8_told 71 = .ok (.istore_n 3, 1) := dg dtX8_told_0_ok 38 rfl
theorem dX8_told_72 : decode cX8_told 72 = .ok (.iconst 0, 1) := dg dtX8_told_0_ok 39 rfl
theorem dX8_told_73 : decode cX8_told 73 = .ok (.istore 4, 2) := dg dtX8_told_0_ok 40 rfl
theorem dX8_told_75 : decode cX8_told 75 = .ok (.aload_n 0, 1) := dg dtX8_told_0_ok 41 rfl
theorem dX8_told_76 : decode cX8_told 76 = .ok (.getfield 208, 3) := dg dtX8_told_0_ok 42 rfl
theorem dX8_told_79 : decode cX8_told 79 = .ok (.istore 5, 2) := dg dtX8_told_0_ok 43 rfl
theorem dX8_told_81 : decode cX8_told 81 = .ok (.iload 5, 2) := dg dtX8_told_0_ok 44 rfl
theorem dX8_told_83 : decode cX8_told 83 = .ok (.aload_n 0, 1) := dg dtX8_told_0_ok 45 rfl
theorem dX8_told_84 : decode cX8_told 84 = .ok (.getfield 211, 3) := dg dtX8_told_0_ok 46 rfl
theorem dX8_told_87 : decode cX8_told 87 = .ok (.if_icmp .ge 61, 3) := dg dtX8_told_0_ok 47 rfl
def dtX8_told_1 : List (Nat × Instr × Nat) := [(90, .iload_n 3, 1), (91, .ifCond .eq 57, 3), (94, .aload_n 0, 1), (95, .getfield 23, 3), (98, .iload 5, 2), (100, .caload, 1), (101, .bipush 48, 2), (103, .if_icmp .lt 19, 3), (106, .aload_n 0, 1), (107, .getfield 23, 3), (110, .iload 5, 2), (112, .caload, 1), (113, .bipush 57, 2), (115, .if_icmp .gt 7, 3), (118, .iconst 1, 1), (119, .goto 4, 3), (122, .iconst 0, 1), (123, .istore_n 3, 1), (124, .bipush 10, 2), (126, .iload 4, 2), (128, .imul, 1), (129, .aload_n 0, 1), (130, .getfield 23, 3), (133, .iload 5, 2), (135, .caload, 1), (136, .iadd, 1), (137, .bipush 48, 2), (139, .isub, 1), (140, .istore 4, 2), (142, .iinc 5 1, 3), (145, .goto (-64), 3), (148, .aload_n 0, 1), (149, .aload_n 0, 1), (150, .getfield 214, 3), (153, .ifCond .ge 20, 3), (156, .iload_n 3, 1), (157, .ifCond .eq 23, 3), (160, .iload 4, 2), (162, .i2l, 1), (163, .iload_n 1, 1), (164, .i2l, 1), (165, .iload_n 2, 1), (166, .i2l, 1), (167, .invokestatic 47, 3), (170, .ifCond .eq 10, 3), (173, .aload_n 0, 1), (174, .getfield 214, 3), (177, .goto 7, 3)]
theorem dtX8_told_1_ok : ∀ q ∈ dtX8_told_1, decode cX8_told q.1 = .ok q.2 := by decide +kernel
theorem dX8_told_90 : decode cX8_told 90 = .ok (.iload_n 3, 1) := dg dtX8_told_1_ok 0 rfl
theorem dX8_told_91 : decode cX8_told 91 = .ok (.ifCond .eq 57, 3) := dg dtX8_told_1_ok 1 rfl
theorem dX8_told_94 : decode cX8_told 94 = .ok (.aload_n 0, 1) := dg dtX8_told_1_ok 2 rfl
theorem dX8_told_95 : decode cX8_told 95 = .ok (.getfield 23, 3) := dg dtX8_told_1_ok 3 rfl
theorem dX8_told_98 : decode cX8_told 98 = .ok (.iload 5, 2) := dg dtX8_told_1_ok 4 rfl
theorem dX8_told_100 : decode cX8_told 100 = .ok (.caload, 1) := dg dtX8_told_1_ok 5 rfl
theorem dX8_told_101 : decode cX8_told 101 = .ok (.bipush 48, 2) := dg dtX8_told_1_ok 6 rfl
theorem dX8_told_103 : decode cX8_told 103 = .ok (.if_icmp .lt 19, 3) := dg dtX8_told_1_ok 7 rfl
theorem dX8_told_106 : decode cX8_told 106 = .ok (.aload_n 0, 1) := dg dtX8_told_1_ok 8 rfl
theorem dX8_told_107 : decode cX8_told 107 = .ok (.getfield 23, 3) := dg dtX8_told_1_ok 9 rfl
theorem dX8_told_110 : decode cX8_told 110 = .ok (.iload 5, 2) := dg dtX8_told_1_ok 10 rfl
theorem dX8_told_112 : decode cX8_told 112 = .ok (.caload, 1) := dg dtX8_told_1_ok 11 rfl
theorem dX8_told_113 : decode cX8_told 113 = .ok (.bipush 57, 2) := dg dtX8_told_1_ok 12 rfl
theorem dX8_told_115 : decode cX8_told 115 = .ok (.if_icmp .gt 7, 3) := dg dtX8_told_1_ok 13 rfl
theorem dX8_told_118 : decode cX8_told 118 = .ok (.iconst 1, 1) := dg dtX8_told_1_ok 14 rfl
theorem dX8_told_119 : decode cX8_told 119 = .ok (.goto 4, 3) := dg dtX8_told_1_ok 15 rfl
theorem dX8_told_122 : decode cX8_told 122 = .ok (.iconst 0, 1) := dg dtX8_told_1_ok 16 rfl
theorem dX8_told_123 : decode cX8_told 123 = .ok (.istore_n 3, 1) := dg dtX8_told_1_ok 17 rfl
theorem dX8_told_124 : decode cX8_told 124 = .ok (.bipush 10, 2) := dg dtX8_told_1_ok 18 rfl
theorem dX8_told_126 : decode cX8_told 126 = .ok (.iload 4, 2) := dg dtX8_told_1_ok 19 rfl
theorem dX8_told_128 : decode cX8_told 128 = .ok (.imul, 1) := dg dtX8_told_1_ok 20 rfl
theorem dX8_told_129 : decode cX8_told 129 = .ok (.aload_n 0, 1) := dg dtX8_told_1_ok 21 rfl
theorem dX8_told_130 : decode cX8_told 130 = .ok (.getfield 23, 3) := dg dtX8_told_1_ok 22 rfl
theorem dX8_told_133 : decode cX8_told 133 = .ok (.iload 5, 2) := dg dtX8_told_1_ok 23 rfl
theorem dX8_told_135 : decode cX8_told 135 = .ok (.caload, 1) := dg dtX8_told_1_ok 24 rfl
theorem dX8_told_136 : decode cX8_told 136 = .ok (.iadd, 1) := dg dtX8_told_1_ok 25 rfl
theorem dX8_told_137 : decode cX8_told 137 = .ok (.bipush 48, 2) := dg dtX8_told_1_ok 26 rfl
theorem dX8_told_139 : decode cX8_told 139 = .ok (.isub, 1) := dg dtX8_told_1_ok 27 rfl
theorem dX8_told_140 : decode cX8_told 140 = .ok (.istore 4, 2) := dg dtX8_told_1_ok 28 rfl
theorem dX8_told_142 : decode cX8_told 142 = .ok (.iinc 5 1, 3) := dg dtX8_told_1_ok 29 rfl
theorem dX8_told_145 : decode cX8_told 145 = .ok (.goto (-64), 3) := dg dtX8_told_1_ok 30 rfl
theorem dX8_told_148 : decode cX8_told 148 = .ok (.aload_n 0, 1) := dg dtX8_told_1_ok 31 rfl
theorem dX8_told_149 : decode cX8_told 149 = .ok (.aload_n 0, 1) := dg dtX8_told_1_ok 32 rfl
theorem dX8_told_150 : decode cX8_told 150 = .ok (.getfield 214, 3) := dg dtX8_told_1_ok 33 rfl
theorem dX8_told_153 : decode cX8_told 153 = .ok (.ifCond .ge 20, 3) := dg dtX8_told_1_ok 34 rfl
theorem dX8_told_156 : decode cX8_told 156 = .ok (.iload_n 3, 1) := dg dtX8_told_1_ok 35 rfl
theorem dX8_told_157 : decode cX8_told 157 = .ok (.ifCond .eq 23, 3) := dg dtX8_told_1_ok 36 rfl
theorem dX8_told_160 : decode cX8_told 160 = .ok (.iload 4, 2) := dg dtX8_told_1_ok 37 rfl
theorem dX8_told_162 : decode cX8_told 162 = .ok (.i2l, 1) := dg dtX8_told_1_ok 38 rfl
theorem dX8_told_163 : decode cX8_told 163 = .ok (.iload_n 1, 1) := dg dtX8_told_1_ok 39 rfl
theorem dX8_told_164 : decode cX8_told 164 = .ok (.i2l, 1) := dg dtX8_told_1_ok 40 rfl
theorem dX8_told_165 : decode cX8_told 165 = .ok (.iload_n 2, 1) := dg dtX8_told_1_ok 41 rfl
theorem dX8_told_166 : decode cX8_told 166 = .ok (.i2l, 1) := dg dtX8_told_1_ok 42 rfl
theorem dX8_told_167 : decode cX8_told 167 = .ok (.invokestatic 47, 3) := dg dtX8_told_1_ok 43 rfl
theorem dX8_told_170 : decode cX8_told 170 = .ok (.ifCond .eq 10, 3) := dg dtX8_told_1_ok 44 rfl
theorem dX8_told_173 : decode cX8_told 173 = .ok (.aload_n 0, 1) := dg dtX8_told_1_ok 45 rfl
theorem dX8_told_174 : decode cX8_told 174 = .ok (.getfield 214, 3) := dg dtX8_told_1_ok 46 rfl
theorem dX8_told_177 : decode cX8_told 177 = .ok (.goto 7, 3) := dg dtX8_told_1_ok 47 rfl
def dtX8_told_2 : List (Nat × Instr × Nat) := [(180, .aload_n 0, 1), (181, .getfield 208, 3), (184, .putfield 214, 3), (187, .iload 4, 2), (189, .ireturn, 1)]
theorem dtX8_told_2_ok : ∀ q ∈ dtX8_told_2, decode cX8_told q.1 = .ok q.2 := by decide +kernel
theorem dX8_told_180 : decode cX8_told 180 = .ok (.aload_n 0, 1) := dg dtX8_told_2_ok 0 rfl
theorem dX8_told_181 : decode cX8_told 181 = .ok (.getfield 208, 3) := dg dtX8_told_2_ok 1 rfl
theorem dX8_told_184 : decode cX8_told 184 = .ok (.putfield 214, 3) := dg dtX8_told_2_ok 2 rfl
theorem dX8_told_187 : decode cX8_told 187 = .ok (.iload 4, 2) := dg dtX8_told_2_ok 3 rfl
theorem dX8_told_189 : decode cX8_told 189 = .ok (.ireturn, 1) := dg dtX8_told_2_ok 4 rfl
def dtX8_readOrder_0 : List (Nat × Instr × Nat) := [(0, .aload_n 0, 1), (1, .iload_n 1, 1), (2, .invokevirtual 225, 3), (5, .aload_n 0, 1), (6, .getfield 214, 3), (9, .ifCond .lt 8, 3), (12, .ldc 46, 2), (14, .goto 7, 3), (17, .aload_n 0, 1), (18, .invokevirtual 231, 3), (21, .istore_n 2, 1), (22, .aload_n 0, 1), (23, .aload_n 0, 1), (24, .getfield 214, 3), (27, .ifCond .ge 14, 3), (30, .iload_n 2, 1), (31, .ifCond .ge 10, 3), (34, .aload_n 0, 1), (35, .getfield 208, 3), (38, .goto 7, 3), (41, .aload_n 0, 1), (42, .getfield 214, 3), (45, .putfield 214, 3), (48, .iconst 5, 1), (49, .aload_n 0, 1), (50, .getfield 235, 3), (53, .imul, 1), (54, .istore_n 3, 1), (55, .aload_n 0, 1), (56, .getfield 27, 3), (59, .iload_n 3, 1), (60, .iload_n 2, 1), (61, .iastore, 1), (62, .aload_n 0, 1), (63, .getfield 27, 3), (66, .iload_n 3, 1), (67, .iconst 1, 1), (68, .iadd, 1), (69, .iload_n 2, 1), (70, .ifCond .ne 12, 3), (73, .aload_n 0, 1), (74, .iconst 0, 1), (75, .iconst 4, 1), (76, .invokevirtual 238, 3), (79, .goto 26, 3), (82, .iload_n 2, 1), (83, .bipush 7, 2), (85, .if_icmp .ne 13, 3)]
theorem dtX8_readOrder_0_ok : ∀ q ∈ dtX8_readOrder_0, decode cX8_readOrder q.1 = .ok q.2 := by decide +kernel
theorem dX8_readOrder_0 : decode cX8_readOrder 0 = .ok (.aload_n 0, 1) := dg dtX8_readOrder_0_ok 0 rfl
theorem dX8_readOrder_1 : decode cX8_readOrder 1 = .ok (.iload_n 1, 1) := dg dtX8_readOrder_0_ok 1 rfl
theorem dX8_readOrder_2 : decode cX8_readOrder 2 = .ok (.invokevirtual 225, 3) := dg dtX8_readOrder_0_ok 2 rfl
theorem dX8_readOrder_5 : decode cX8_readOrder 5 = .ok (.aload_n 0, 1) := dg dtX8_readOrder_0_ok 3 rfl
theorem dX8_readOrder_6 : decode cX8_readOrder 6 = .ok (.getfield 214, 3) := dg dtX8_readOrder_0_ok 4 rfl
theorem dX8_readOrder_9 : decode cX8_readOrder 9 = .ok (.ifCond .lt 8, 3) := dg dtX8_readOrder_0_ok 5 rfl
theorem dX8_readOrder_12 : decode cX8_readOrder 12 = .ok (.ldc 46, 2) := dg dtX8_readOrder_0_ok 6 rfl
theorem dX8_readOrder_14 : decode cX8_readOrder 14 = .ok (.goto 7, 3) := dg dtX8_readOrder_0_ok 7 rfl
theorem dX8_readOrder_17 : decode cX8_readOrder 17 = .ok (.aload_n 0, 1) := dg dtX8_readOrder_0_ok 8 rfl
theorem dX8_readOrder_18 : decode cX8_readOrder 18 = .ok (.invokevirtual 231, 3) := dg dtX8_readOrder_0_ok 9 rfl
theorem dX8_readOrder_21 : decode cX8_readOrder 21 = .ok (.istore_n 2, 1) := dg dtX8_readOrder_0_ok 10 rfl
theorem dX8_readOrder_22 : decode cX8_readOrder 22 = .ok (.aload_n 0, 1) := dg dtX8_readOrder_0_ok 11 rfl
theorem dX8_readOrder_23 : decode cX8_readOrder 23 = .ok (.aload_n 0, 1) := dg dtX8_readOrder_0_ok 12 rfl
theorem dX8_readOrder_24 : decode cX8_readOrder 24 = .ok (.getfield 214, 3) := dg dtX8_readOrder_0_ok 13 rfl
theorem dX8_readOrder_27 : decode cX8_readOrder 27 = .ok (.ifCond .ge 14, 3) := dg dtX8_readOrder_0_ok 14 rfl
theorem dX8_readOrder_30 : decode cX8_readOrder 30 = .ok (.iload_n 2, 1) := dg dtX8_readOrder_0_ok 15 rfl
theorem dX8_readOrder_31 : decode cX8_readOrder 31 = .ok (.ifCond .ge 10, 3) := dg dtX8_readOrder_0_ok 16 rfl
theorem dX8_readOrder_34 : decode cX8_readOrder 34 = .ok (.aload_n 0, 1) := dg dtX8_readOrder_0_ok 17 rfl
theorem dX8_readOrder_35 : decode cX8_readOrder 35 = .ok (.getfield 208, 3) := dg dtX8_readOrder_0_ok 18 rfl
theorem dX8_readOrder_38 : decode cX8_readOrder 38 = .ok (.goto 7, 3) := dg dtX8_readOrder_0_ok 19 rfl
theorem dX8_readOrder_41 : decode cX8_readOrder 41 = .ok (.aload_n 0, 1) := dg dtX8_readOrder_0_ok 20 rfl
theorem dX8_readOrder_42 : decode cX8_readOrder 42 = .ok (.getfield 214, 3) := dg dtX8_readOrder_0_ok 21 rfl
theorem dX8_readOrder_45 : decode cX8_readOrder 45 = .ok (.putfield 214, 3) := dg dtX8_readOrder_0_ok 22 rfl
theorem dX8_readOrder_48 : decode cX8_readOrder 48 = .ok (.iconst 5, 1) := dg dtX8_readOrder_0_ok 23 rfl
theorem dX8_readOrder_49 : decode cX8_readOrder 49 = .ok (.aload_n 0, 1) := dg dtX8_readOrder_0_ok 24 rfl
theorem dX8_readOrder_50 : decode cX8_readOrder 50 = .ok (.getfield 235, 3) := dg dtX8_readOrder_0_ok 25 rfl
theorem dX8_readOrder_53 : decode cX8_readOrder 53 = .ok (.imul, 1) := dg dtX8_readOrder_0_ok 26 rfl
theorem dX8_readOrder_54 : decode cX8_readOrder 54 = .ok (.istore_n 3, 1) := dg dtX8_readOrder_0_ok 27 rfl
theorem dX8_readOrder_55 : decode cX8_readOrder 55 = .ok (.aload_n 0, 1) := dg dtX8_readOrder_0_ok 28 rfl
theorem dX8_readOrder_56 : decode cX8_readOrder 56 = .ok (.getfield 27, 3) := dg dtX8_readOrder_0_ok 29 rfl
theorem dX8_readOrder_59 : decode cX8_readOrder 59 = .ok (.iload_n 3, 1) := dg dtX8_readOrder_0_ok 30 rfl
theorem dX8_readOrder_60 : decode cX8_readOrder 60 = .ok (.iload_n 2, 1) := dg dtX8_readOrder_0_ok 31 rfl
theorem dX8_readOrder_61 : decode cX8_readOrder 61 = .ok (.iastore, 1) := dg dtX8_readOrder_0_ok 32 rfl
theorem dX8_readOrder_62 : decode cX8_readOrder 62 = .ok (.aload_n 0, 1) := dg dtX8_readOrder_0_ok 33 rfl
theorem dX8_readOrder_63 : decode cX8_readOrder 63 = .ok (.getfield 27, 3) := dg dtX8_readOrder_0_ok 34 rfl
theorem dX8_readOrder_66 : decode cX8_readOrder 66 = .ok (.iload_n 3, 1) := dg dtX8_readOrder_0_ok 35 rfl
theorem dX8_readOrder_67 : decode cX8_readOrder 67 = .ok (.iconst 1, 1) := dg dtX8_readOrder_0_ok 36 rfl
theorem dX8_readOrder_68 : decode cX8_readOrder 68 = .ok (.iadd, 1) := dg dtX8_readOrder_0_ok 37 rfl
theorem dX8_readOrder_69 : decode cX8_readOrder 69 = .ok (.iload_n 2, 1) := dg dtX8_readOrder_0_ok 38 rfl
theorem dX8_readOrder_70 : decode cX8_readOrder 70 = .ok (.ifCond .ne 12, 3) := dg dtX8_readOrder_0_ok 39 rfl
theorem dX8_readOrder_73 : decode cX8_readOrder 73 = .ok (.aload_n 0, 1) := dg dtX8_readOrder_0_ok 40 rfl
theorem dX8_readOrder_74 : decode cX8_readOrder 74 = .ok (.iconst 0, 1) := dg dtX8_readOrder_0_ok 41 rfl
theorem dX8_readOrder_75 : decode cX8_readOrder 75 = .ok (.iconst 4, 1) := dg dtX8_readOrder_0_ok 42 rfl
theorem dX8_readOrder_76 : decode cX8_readOrder 76 = .ok (.invokevirtual 238, 3) := dg dtX8_readOrder_0_ok 43 rfl
theorem dX8_readOrder_79 : decode cX8_readOrder 79 = .ok (.goto 26, 3) := dg dtX8_readOrder_0_ok 44 rfl
theorem dX8_readOrder_82 : decode cX8_readOrder 82 = .ok (.iload_n 2, 1) := dg dtX8_readOrder_0_ok 45 rfl
theorem dX8_readOrder_83 : decode cX8_readOrder 83 = .ok (.bipush 7, 2) := dg dtX8_readOrder_0_ok 46 rfl
theorem dX8_readOrder_85 : decode cX8_readOrder 85 = .ok (.if_icmp .ne 13, 3) := dg dtX8_readOrder_0_ok 47 rfl
def dtX8_readOrder_1 : List (Nat × Instr × Nat) := [(88, .aload_n 0, 1), (89, .iconst 1, 1), (90, .bipush 100, 2), (92, .invokevirtual 238, 3), (95, .goto 10, 3), (98, .aload_n 0, 1), (99, .iconst 0, 1), (100, .bipush 29, 2), (102, .invokevirtual 238, 3), (105, .iastore, 1), (106, .iload_n 2, 1), (107, .ifCond .ne 50, 3), (110, .aload_n 0, 1), (111, .getfield 27, 3), (114, .iload_n 3, 1), (115, .iconst 2, 1), (116, .iadd, 1), (117, .aload_n 0, 1), (118, .iconst 0, 1), (119, .iconst 5, 1), (120, .invokevirtual 238, 3), (123, .iastore, 1), (124, .aload_n 0, 1), (125, .getfield 27, 3), (128, .iload_n 3, 1), (129, .iconst 3, 1), (130, .iadd, 1), (131, .aload_n 0, 1), (132, .iconst 1, 1), (133, .ldc 241, 2), (135, .invokevirtual 238, 3), (138, .iastore, 1), (139, .aload_n 0, 1), (140, .getfield 27, 3), (143, .iload_n 3, 1), (144, .iconst 4, 1), (145, .iadd, 1), (146, .aload_n 0, 1), (147, .iconst 0, 1), (148, .ldc 242, 2), (150, .invokevirtual 238, 3), (153, .iastore, 1), (154, .goto 52, 3), (157, .iload_n 2, 1), (158, .bipush 6, 2), (160, .if_icmp .ne 20, 3), (163, .aload_n 0, 1), (164, .getfield 27, 3)]
theorem dtX8_readOrder_1_ok : ∀ q ∈ dtX8_readOrder_1, decode cX8_readOrder q.1 = .ok q.2 := by decide +kernel
theorem dX8_readOrder_88 : decode cX8_readOrder 88 = .ok (.aload_n 0, 1) := dg dtX8_readOrder_1_ok 0 rfl
theorem dX8_readOrder_89 : decode cX8_readOrder 89 = .ok (.iconst 1, 1) := dg dtX8_readOrder_1_ok 1 rfl
theorem dX8_readOrder_90 : decode cX8_readOrder 90 = .ok (.bipush 100, 2) := dg dtX8_readOrder_1_ok 2 rfl
theorem dX8_readOrder_92 : decode cX8_readOrder 92 = .ok (.invokevirtual 238, 3) := dg dtX8_readOrder_1_ok 3 rfl
theorem dX8_readOrder_95 : decode cX8_readOrder 95 = .ok (.goto 10, 3) := dg dtX8_readOrder_1_ok 4 rfl
theorem dX8_readOrder_98 : decode cX8_readOrder 98 = .ok (.aload_n 0, 1) := dg dtX8_readOrder_1_ok 5 rfl
theorem dX8_readOrder_99 : decode cX8_readOrder 99 = .ok (.iconst 0, 1) := dg dtX8_readOrder_1_ok 6 rfl
theorem dX8_readOrder_100 : decode cX8_readOrder 100 = .ok (.bipush 29, 2) := dg dtX8_readOrder_1_ok 7 rfl
theorem dX8_readOrder_102 : decode cX8_readOrder 102 = .ok (.invokevirtual 238, 3) := dg dtX8_readOrder_1_ok 8 rfl
theorem dX8_readOrder_105 : decode cX8_readOrder 105 = .ok (.iastore, 1) := dg dtX8_readOrder_1_ok 9 rfl
theorem dX8_readOrder_106 : decode cX8_readOrder 106 = .ok (.iload_n 2, 1) := dg dtX8_readOrder_1_ok 10 rfl
theorem dX8_readOrder_107 : decode cX8_readOrder 107 = .ok (.ifCond .ne 50, 3) := dg dtX8_readOrder_1_ok 11 rfl
theorem dX8_readOrder_110 : decode cX8_readOrder 110 = .ok (.aload_n 0, 1) := dg dtX8_readOrder_1_ok 12 rfl
theorem dX8_readOrder_111 : decode cX8_readOrder 111 = .ok (.getfield 27, 3) := dg dtX8_readOrder_1_ok 13 rfl
theorem dX8_readOrder_114 : decode cX8_readOrder 114 = .ok (.iload_n 3, 1) := dg dtX8_readOrder_1_ok 14 rfl
theorem dX8_readOrder_115 : decode cX8_readOrder 115 = .ok (.iconst 2, 1) := dg dtX8_readOrder_1_ok 15 rfl
theorem dX8_readOrder_116 : decode cX8_readOrder 116 = .ok (.iadd, 1) := dg dtX8_readOrder_1_ok 16 rfl
theorem dX8_readOrder_117 : decode cX8_readOrder 117 = .ok (.aload_n 0, 1) := dg dtX8_readOrder_1_ok 17 rfl
theorem dX8_readOrder_118 : decode cX8_readOrder 118 = .ok (.iconst 0, 1) := dg dtX8_readOrder_1_ok 18 rfl
theorem dX8_readOrder_119 : decode cX8_readOrder 119 = .ok (.iconst 5, 1) := dg dtX8_readOrder_1_ok 19 rfl
theorem dX8_readOrder_120 : decode cX8_readOrder 120 = .ok (.invokevirtual 238, 3) := dg dtX8_readOrder_1_ok 20 rfl
theorem dX8_readOrder_123 : decode cX8_readOrder 123 = .ok (.iastore, 1) := dg dtX8_readOrder_1_ok 21 rfl
theorem dX8_readOrder_124 : decode cX8_readOrder 124 = .ok (.aload_n 0, 1) := dg dtX8_readOrder_1_ok 22 rfl
theorem dX8_readOrder_125 : decode cX8_readOrder 125 = .ok (.getfield 27, 3) := dg dtX8_readOrder_1_ok 23 rfl
theorem dX8_readOrder_128 : decode cX8_readOrder 128 = .ok (.iload_n 3, 1) := dg dtX8_readOrder_1_ok 24 rfl
theorem dX8_readOrder_129 : decode cX8_readOrder 129 = .ok (.iconst 3, 1) := dg dtX8_readOrder_1_ok 25 rfl
theorem dX8_readOrder_130 : decode cX8_readOrder 130 = .ok (.iadd, 1) := dg dtX8_readOrder_1_ok 26 rfl
theorem dX8_readOrder_131 : decode cX8_readOrder 131 = .ok (.aload_n 0, 1) := dg dtX8_readOrder_1_ok 27 rfl
theorem dX8_readOrder_132 : decode cX8_readOrder 132 = .ok (.iconst 1, 1) := dg dtX8_readOrder_1_ok 28 rfl
theorem dX8_readOrder_133 : decode cX8_readOrder 133 = .ok (.ldc 241, 2) := dg dtX8_readOrder_1_ok 29 rfl
theorem dX8_readOrder_135 : decode cX8_readOrder 135 = .ok (.invokevirtual 238, 3) := dg dtX8_readOrder_1_ok 30 rfl
theorem dX8_readOrder_138 : decode cX8_readOrder 138 = .ok (.iastore, 1) := dg dtX8_readOrder_1_ok 31 rfl
theorem dX8_readOrder_139 : decode cX8_readOrder 139 = .ok (.aload_n 0, 1) := dg dtX8_readOrder_1_ok 32 rfl
theorem dX8_readOrder_140 : decode cX8_readOrder 140 = .ok (.getfield 27, 3) := dg dtX8_readOrder_1_ok 33 rfl
theorem dX8_readOrder_143 : decode cX8_readOrder 143 = .ok (.iload_n 3, 1) := dg dtX8_readOrder_1_ok 34 rfl
theorem dX8_readOrder_144 : decode cX8_readOrder 144 = .ok (.iconst 4, 1) := dg dtX8_readOrder_1_ok 35 rfl
theorem dX8_readOrder_145 : decode cX8_readOrder 145 = .ok (.iadd, 1) := dg dtX8_readOrder_1_ok 36 rfl
theorem dX8_readOrder_146 : decode cX8_readOrder 146 = .ok (.aload_n 0, 1) := dg dtX8_readOrder_1_ok 37 rfl
theorem dX8_readOrder_147 : decode cX8_readOrder 147 = .ok (.iconst 0, 1) := dg dtX8_readOrder_1_ok 38 rfl
theorem dX8_readOrder_148 : decode cX8_readOrder 148 = .ok (.ldc 242, 2) := dg dtX8_readOrder_1_ok 39 rfl
theorem dX8_readOrder_150 : decode cX8_readOrder 150 = .ok (.invokevirtual 238, 3) := dg dtX8_readOrder_1_ok 40 rfl
theorem dX8_readOrder_153 : decode cX8_readOrder 153 = .ok (.iastore, 1) := dg dtX8_readOrder_1_ok 41 rfl
theorem dX8_readOrder_154 : decode cX8_readOrder 154 = .ok (.goto 52, 3) := dg dtX8_readOrder_1_ok 42 rfl
theorem dX8_readOrder_157 : decode cX8_readOrder 157 = .ok (.iload_n 2, 1) := dg dtX8_readOrder_1_ok 43 rfl
theorem dX8_readOrder_158 : decode cX8_readOrder 158 = .ok (.bipush 6, 2) := dg dtX8_readOrder_1_ok 44 rfl
theorem dX8_readOrder_160 : decode cX8_readOrder 160 = .ok (.if_icmp .ne 20, 3) := dg dtX8_readOrder_1_ok 45 rfl
theorem dX8_readOrder_163 : decode cX8_readOrder 163 = .ok (.aload_n 0, 1) := dg dtX8_readOrder_1_ok 46 rfl
theorem dX8_readOrder_164 : decode cX8_readOrder 164 = .ok (.getfield 27, 3) := dg dtX8_readOrder_1_ok 47 rfl
