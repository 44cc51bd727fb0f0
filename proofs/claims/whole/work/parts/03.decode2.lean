def dtX8_readOrder_2 : List (Nat × Instr × Nat) := [(167, .iload_n 3, 1), (168, .iconst 2, 1), (169, .iadd, 1), (170, .aload_n 0, 1), (171, .iconst 0, 1), (172, .iconst 4, 1), (173, .invokevirtual 238, 3), (176, .iastore, 1), (177, .goto 29, 3), (180, .iload_n 2, 1), (181, .iconst 4, 1), (182, .if_icmp .eq 24, 3), (185, .iload_n 2, 1), (186, .bipush 7, 2), (188, .if_icmp .eq 18, 3), (191, .aload_n 0, 1), (192, .getfield 27, 3), (195, .iload_n 3, 1), (196, .iconst 2, 1), (197, .iadd, 1), (198, .aload_n 0, 1), (199, .iconst 1, 1), (200, .ldc 241, 2), (202, .invokevirtual 238, 3), (205, .iastore, 1), (206, .aload_n 0, 1), (207, .dup, 1), (208, .getfield 235, 3), (211, .iconst 1, 1), (212, .iadd, 1), (213, .putfield 235, 3), (216, .return_, 1)]
theorem dtX8_readOrder_2_ok : ∀ q ∈ dtX8_readOrder_2, decode cX8_readOrder q.1 = .ok q.2 := by decide +kernel
theorem dX8_readOrder_167 : decode cX8_readOrder 167 = .ok (.iload_n 3, 1) := dg dtX8_readOrder_2_ok 0 rfl
theorem dX8_readOrder_168 : decode cX8_readOrder 168 = .ok (.iconst 2, 1) := dg dtX8_readOrder_2_ok 1 rfl
theorem dX8_readOrder_169 : decode cX8_readOrder 169 = .ok (.iadd, 1) := dg dtX8_readOrder_2_ok 2 rfl
theorem dX8_readOrder_170 : decode cX8_readOrder 170 = .ok (.aload_n 0, 1) := dg dtX8_readOrder_2_ok 3 rfl
theorem dX8_readOrder_171 : decode cX8_readOrder 171 = .ok (.iconst 0, 1) := dg dtX8_readOrder_2_ok 4 rfl
theorem dX8_readOrder_172 : decode cX8_readOrder 172 = .ok (.iconst 4, 1) := dg dtX8_readOrder_2_ok 5 rfl
theorem dX8_readOrder_173 : decode cX8_readOrder 173 = .ok (.invokevirtual 238, 3) := dg dtX8_readOrder_2_ok 6 rfl
theorem dX8_readOrder_176 : decode cX8_readOrder 176 = .ok (.iastore, 1) := dg dtX8_readOrder_2_ok 7 rfl
theorem dX8_readOrder_177 : decode cX8_readOrder 177 = .ok (.goto 29, 3) := dg dtX8_readOrder_2_ok 8 rfl
theorem dX8_readOrder_180 : decode cX8_readOrder 180 = .ok (.iload_n 2, 1) := dg dtX8_readOrder_2_ok 9 rfl
theorem dX8_readOrder_181 : decode cX8_readOrder 181 = .ok (.iconst 4, 1) := dg dtX8_readOrder_2_ok 10 rfl
theorem dX8_readOrder_182 : decode cX8_readOrder 182 = .ok (.if_icmp .eq 24, 3) := dg dtX8_readOrder_2_ok 11 rfl
theorem dX8_readOrder_185 : decode cX8_readOrder 185 = .ok (.iload_n 2, 1) := dg dtX8_readOrder_2_ok 12 rfl
theorem dX8_readOrder_186 : decode cX8_readOrder 186 = .ok (.bipush 7, 2) := dg dtX8_readOrder_2_ok 13 rfl
theorem dX8_readOrder_188 : decode cX8_readOrder 188 = .ok (.if_icmp .eq 18, 3) := dg dtX8_readOrder_2_ok 14 rfl
theorem dX8_readOrder_191 : decode cX8_readOrder 191 = .ok (.aload_n 0, 1) := dg dtX8_readOrder_2_ok 15 rfl
theorem dX8_readOrder_192 : decode cX8_readOrder 192 = .ok (.getfield 27, 3) := dg dtX8_readOrder_2_ok 16 rfl
theorem dX8_readOrder_195 : decode cX8_readOrder 195 = .ok (.iload_n 3, 1) := dg dtX8_readOrder_2_ok 17 rfl
theorem dX8_readOrder_196 : decode cX8_readOrder 196 = .ok (.iconst 2, 1) := dg dtX8_readOrder_2_ok 18 rfl
theorem dX8_readOrder_197 : decode cX8_readOrder 197 = .ok (.iadd, 1) := dg dtX8_readOrder_2_ok 19 rfl
theorem dX8_readOrder_198 : decode cX8_readOrder 198 = .ok (.aload_n 0, 1) := dg dtX8_readOrder_2_ok 20 rfl
theorem dX8_readOrder_199 : decode cX8_readOrder 199 = .ok (.iconst 1, 1) := dg dtX8_readOrder_2_ok 21 rfl
theorem dX8_readOrder_200 : decode cX8_readOrder 200 = .ok (.ldc 241, 2) := dg dtX8_readOrder_2_ok 22 rfl
theorem dX8_readOrder_202 : decode cX8_readOrder 202 = .ok (.invokevirtual 238, 3) := dg dtX8_readOrder_2_ok 23 rfl
theorem dX8_readOrder_205 : decode cX8_readOrder 205 = .ok (.iastore, 1) := dg dtX8_readOrder_2_ok 24 rfl
theorem dX8_readOrder_206 : decode cX8_readOrder 206 = .ok (.aload_n 0, 1) := dg dtX8_readOrder_2_ok 25 rfl
theorem dX8_readOrder_207 : decode cX8_readOrder 207 = .ok (.dup, 1) := dg dtX8_readOrder_2_ok 26 rfl
theorem dX8_readOrder_208 : decode cX8_readOrder 208 = .ok (.getfield 235, 3) := dg dtX8_readOrder_2_ok 27 rfl
theorem dX8_readOrder_211 : decode cX8_readOrder 211 = .ok (.iconst 1, 1) := dg dtX8_readOrder_2_ok 28 rfl
theorem dX8_readOrder_212 : decode cX8_readOrder 212 = .ok (.iadd, 1) := dg dtX8_readOrder_2_ok 29 rfl
theorem dX8_readOrder_213 : decode cX8_readOrder 213 = .ok (.putfield 235, 3) := dg dtX8_readOrder_2_ok 30 rfl
theorem dX8_readOrder_216 : decode cX8_readOrder 216 = .ok (.return_, 1) := dg dtX8_readOrder_2_ok 31 rfl
def dtX8_readAll_0 : List (Nat × Instr × Nat) := [(0, .aload_n 0, 1), (1, .iconst 0, 1), (2, .putfield 235, 3), (5, .aload_n 0, 1), (6, .iconst 0, 1), (7, .invokevirtual 243, 3), (10, .aload_n 0, 1), (11, .getfield 214, 3), (14, .ifCond .ge 52, 3), (17, .aload_n 0, 1), (18, .getfield 211, 3), (21, .aload_n 0, 1), (22, .getfield 205, 3), (25, .if_icmp .ge 41, 3), (28, .aload_n 0, 1), (29, .getfield 23, 3), (32, .aload_n 0, 1), (33, .getfield 211, 3), (36, .caload, 1), (37, .bipush 59, 2), (39, .if_icmp .ne 16, 3), (42, .aload_n 0, 1), (43, .aload_n 0, 1), (44, .getfield 211, 3), (47, .iconst 1, 1), (48, .iadd, 1), (49, .invokevirtual 243, 3), (52, .goto (-42), 3), (55, .aload_n 0, 1), (56, .aload_n 0, 1), (57, .getfield 211, 3), (60, .putfield 214, 3), (63, .goto (-53), 3), (66, .return_, 1)]
theorem dtX8_readAll_0_ok : ∀ q ∈ dtX8_readAll_0, decode cX8_readAll q.1 = .ok q.2 := by decide +kernel
theorem dX8_readAll_0 : decode cX8_readAll 0 = .ok (.aload_n 0, 1) := dg dtX8_readAll_0_ok 0 rfl
theorem dX8_readAll_1 : decode cX8_readAll 1 = .ok (.iconst 0, 1) := dg dtX8_readAll_0_ok 1 rfl
theorem dX8_readAll_2 : decode cX8_readAll 2 = .ok (.putfield 235, 3) := dg dtX8_readAll_0_ok 2 rfl
theorem dX8_readAll_5 : decode cX8_readAll 5 = .ok (.aload_n 0, 1) := dg dtX8_readAll_0_ok 3 rfl
theorem dX8_readAll_6 : decode cX8_readAll 6 = .ok (.iconst 0, 1) := dg dtX8_readAll_0_ok 4 rfl
theorem dX8_readAll_7 : decode cX8_readAll 7 = .ok (.invokevirtual 243, 3) := dg dtX8_readAll_0_ok 5 rfl
theorem dX8_readAll_10 : decode cX8_readAll 10 = .ok (.aload_n 0, 1) := dg dtX8_readAll_0_ok 6 rfl
theorem dX8_readAll_11 : decode cX8_readAll 11 = .ok (.getfield 214, 3) := dg dtX8_readAll_0_ok 7 rfl
theorem dX8_readAll_14 : decode cX8_readAll 14 = .ok (.ifCond .ge 52, 3) := dg dtX8_readAll_0_ok 8 rfl
theorem dX8_readAll_17 : decode cX8_readAll 17 = .ok (.aload_n 0, 1) := dg dtX8_readAll_0_ok 9 rfl
theorem dX8_readAll_18 : decode cX8_readAll 18 = .ok (.getfield 211, 3) := dg dtX8_readAll_0_ok 10 rfl
theorem dX8_readAll_21 : decode cX8_readAll 21 = .ok (.aload_n 0, 1) := dg dtX8_readAll_0_ok 11 rfl
theorem dX8_readAll_22 : decode cX8_readAll 22 = .ok (.getfield 205, 3) := dg dtX8_readAll_0_ok 12 rfl
theorem dX8_readAll_25 : decode cX8_readAll 25 = .ok (.if_icmp .ge 41, 3) := dg dtX8_readAll_0_ok 13 rfl
theorem dX8_readAll_28 : decode cX8_readAll 28 = .ok (.aload_n 0, 1) := dg dtX8_readAll_0_ok 14 rfl
theorem dX8_readAll_29 : decode cX8_readAll 29 = .ok (.getfield 23, 3) := dg dtX8_readAll_0_ok 15 rfl
theorem dX8_readAll_32 : decode cX8_readAll 32 = .ok (.aload_n 0, 1) := dg dtX8_readAll_0_ok 16 rfl
theorem dX8_readAll_33 : decode cX8_readAll 33 = .ok (.getfield 211, 3) := dg dtX8_readAll_0_ok 17 rfl
theorem dX8_readAll_36 : decode cX8_readAll 36 = .ok (.caload, 1) := dg dtX8_readAll_0_ok 18 rfl
theorem dX8_readAll_37 : decode cX8_readAll 37 = .ok (.bipush 59, 2) := dg dtX8_readAll_0_ok 19 rfl
theorem dX8_readAll_39 : decode cX8_readAll 39 = .ok (.if_icmp .ne 16, 3) := dg dtX8_readAll_0_ok 20 rfl
theorem dX8_readAll_42 : decode cX8_readAll 42 = .ok (.aload_n 0, 1) := dg dtX8_readAll_0_ok 21 rfl
theorem dX8_readAll_43 : decode cX8_readAll 43 = .ok (.aload_n 0, 1) := dg dtX8_readAll_0_ok 22 rfl
theorem dX8_readAll_44 : decode cX8_readAll 44 = .ok (.getfield 211, 3) := dg dtX8_readAll_0_ok 23 rfl
theorem dX8_readAll_47 : decode cX8_readAll 47 = .ok (.iconst 1, 1) := dg dtX8_readAll_0_ok 24 rfl
theorem dX8_readAll_48 : decode cX8_readAll 48 = .ok (.iadd, 1) := dg dtX8_readAll_0_ok 25 rfl
theorem dX8_readAll_49 : decode cX8_readAll 49 = .ok (.invokevirtual 243, 3) := dg dtX8_readAll_0_ok 26 rfl
theorem dX8_readAll_52 : decode cX8_readAll 52 = .ok (.goto (-42), 3) := dg dtX8_readAll_0_ok 27 rfl
theorem dX8_readAll_55 : decode cX8_readAll 55 = .ok (.aload_n 0, 1) := dg dtX8_readAll_0_ok 28 rfl
theorem dX8_readAll_56 : decode cX8_readAll 56 = .ok (.aload_n 0, 1) := dg dtX8_readAll_0_ok 29 rfl
theorem dX8_readAll_57 : decode cX8_readAll 57 = .ok (.getfield 211, 3) := dg dtX8_readAll_0_ok 30 rfl
theorem dX8_readAll_60 : decode cX8_readAll 60 = .ok (.putfield 214, 3) := dg dtX8_readAll_0_ok 31 rfl
theorem dX8_readAll_63 : decode cX8_readAll 63 = .ok (.goto (-53), 3) := dg dtX8_readAll_0_ok 32 rfl
theorem dX8_readAll_66 : decode cX8_readAll 66 = .ok (.return_, 1) := dg dtX8_readAll_0_ok 33 rfl
def dtX8_check_0 : List (Nat × Instr × Nat) := [(0, .iload_n 1, 1), (1, .tableswitch 95 0 6 #[43, 54, 61, 68, 75, 81, 88], 43), (44, .aload_n 0, 1), (45, .iload_n 2, 1), (46, .iload_n 3, 1), (47, .iload 4, 2), (49, .iload 5, 2), (51, .invokevirtual 159, 3), (54, .ireturn, 1), (55, .aload_n 0, 1), (56, .iload_n 2, 1), (57, .iload_n 3, 1), (58, .invokevirtual 166, 3), (61, .ireturn, 1), (62, .aload_n 0, 1), (63, .iload_n 2, 1), (64, .iload_n 3, 1), (65, .invokevirtual 172, 3), (68, .ireturn, 1), (69, .aload_n 0, 1), (70, .iload_n 2, 1), (71, .iload_n 3, 1), (72, .invokevirtual 178, 3), (75, .ireturn, 1), (76, .aload_n 0, 1), (77, .iload_n 2, 1), (78, .invokevirtual 184, 3), (81, .ireturn, 1), (82, .aload_n 0, 1), (83, .iload_n 2, 1), (84, .iload_n 3, 1), (85, .invokevirtual 190, 3), (88, .ireturn, 1), (89, .aload_n 0, 1), (90, .iload_n 2, 1), (91, .iload_n 3, 1), (92, .invokevirtual 196, 3), (95, .ireturn, 1), (96, .iconst 0, 1), (97, .ireturn, 1)]
theorem dtX8_check_0_ok : ∀ q ∈ dtX8_check_0, decode cX8_check q.1 = .ok q.2 := by decide +kernel
theorem dX8_check_0 : decode cX8_check 0 = .ok (.iload_n 1, 1) := dg dtX8_check_0_ok 0 rfl
theorem dX8_check_1 : decode cX8_check 1 = .ok (.tableswitch 95 0 6 #[43, 54, 61, 68, 75, 81, 88], 43) := dg dtX8_check_0_ok 1 rfl
theorem dX8_check_44 : decode cX8_check 44 = .ok (.aload_n 0, 1) := dg dtX8_check_0_ok 2 rfl
theorem dX8_check_45 : decode cX8_check 45 = .ok (.iload_n 2, 1) := dg dtX8_check_0_ok 3 rfl
theorem dX8_check_46 : decode cX8_check 46 = .ok (.iload_n 3, 1) := dg dtX8_check_0_ok 4 rfl
theorem dX8_check_47 : decode cX8_check 47 = .ok (.iload 4, 2) := dg dtX8_check_0_ok 5 rfl
theorem dX8_check_49 : decode cX8_check 49 = .ok (.iload 5, 2) := dg dtX8_check_0_ok 6 rfl
theorem dX8_check_51 : decode cX8_check 51 = .ok (.invokevirtual 159, 3) := dg dtX8_check_0_ok 7 rfl
theorem dX8_check_54 : decode cX8_check 54 = .ok (.ireturn, 1) := dg dtX8_check_0_ok 8 rfl
theorem dX8_check_55 : decode cX8_check 55 = .ok (.aload_n 0, 1) := dg dtX8_check_0_ok 9 rfl
theorem dX8_check_56 : decode cX8_check 56 = .ok (.iload_n 2, 1) := dg dtX8_check_0_ok 10 rfl
theorem dX8_check_57 : decode cX8_check 57 = .ok (.iload_n 3, 1) := dg dtX8_check_0_ok 11 rfl
theorem dX8_check_58 : decode cX8_check 58 = .ok (.invokevirtual 166, 3) := dg dtX8_check_0_ok 12 rfl
theorem dX8_check_61 : decode cX8_check 61 = .ok (.ireturn, 1) := dg dtX8_check_0_ok 13 rfl
theorem dX8_check_62 : decode cX8_check 62 = .ok (.aload_n 0, 1) := dg dtX8_check_0_ok 14 rfl
theorem dX8_check_63 : decode cX8_check 63 = .ok (.iload_n 2, 1) := dg dtX8_check_0_ok 15 rfl
theorem dX8_check_64 : decode cX8_check 64 = .ok (.iload_n 3, 1) := dg dtX8_check_0_ok 16 rfl
theorem dX8_check_65 : decode cX8_check 65 = .ok (.invokevirtual 172, 3) := dg dtX8_check_0_ok 17 rfl
theorem dX8_check_68 : decode cX8_check 68 = .ok (.ireturn, 1) := dg dtX8_check_0_ok 18 rfl
theorem dX8_check_69 : decode cX8_check 69 = .ok (.aload_n 0, 1) := dg dtX8_check_0_ok 19 rfl
theorem dX8_check_70 : decode cX8_check 70 = .ok (.iload_n 2, 1) := dg dtX8_check_0_ok 20 rfl
theorem dX8_check_71 : decode cX8_check 71 = .ok (.iload_n 3, 1) := dg dtX8_check_0_ok 21 rfl
theorem dX8_check_72 : decode cX8_check 72 = .ok (.invokevirtual 178, 3) := dg dtX8_check_0_ok 22 rfl
theorem dX8_check_75 : decode cX8_check 75 = .ok (.ireturn, 1) := dg dtX8_check_0_ok 23 rfl
theorem dX8_check_76 : decode cX8_check 76 = .ok (.aload_n 0, 1) := dg dtX8_check_0_ok 24 rfl
theorem dX8_check_77 : decode cX8_check 77 = .ok (.iload_n 2, 1) := dg dtX8_check_0_ok 25 rfl
theorem dX8_check_78 : decode cX8_check 78 = .ok (.invokevirtual 184, 3) := dg dtX8_check_0_ok 26 rfl
theorem dX8_check_81 : decode cX8_check 81 = .ok (.ireturn, 1) := dg dtX8_check_0_ok 27 rfl
theorem dX8_check_82 : decode cX8_check 82 = .ok (.aload_n 0, 1) := dg dtX8_check_0_ok 28 rfl
theorem dX8_check_83 : decode cX8_check 83 = .ok (.iload_n 2, 1) := dg dtX8_check_0_ok 29 rfl
theorem dX8_check_84 : decode cX8_check 84 = .ok (.iload_n 3, 1) := dg dtX8_check_0_ok 30 rfl
theorem dX8_check_85 : decode cX8_check 85 = .ok (.invokevirtual 190, 3) := dg dtX8_check_0_ok 31 rfl
theorem dX8_check_88 : decode cX8_check 88 = .ok (.ireturn, 1) := dg dtX8_check_0_ok 32 rfl
theorem dX8_check_89 : decode cX8_check 89 = .ok (.aload_n 0, 1) := dg dtX8_check_0_ok 33 rfl
theorem dX8_check_90 : decode cX8_check 90 = .ok (.iload_n 2, 1) := dg dtX8_check_0_ok 34 rfl
theorem dX8_check_91 : decode cX8_check 91 = .ok (.iload_n 3, 1) := dg dtX8_check_0_ok 35 rfl
theorem dX8_check_92 : decode cX8_check 92 = .ok (.invokevirtual 196, 3) := dg dtX8_check_0_ok 36 rfl
theorem dX8_check_95 : decode cX8_check 95 = .ok (.ireturn, 1) := dg dtX8_check_0_ok 37 rfl
theorem dX8_check_96 : decode cX8_check 96 = .ok (.iconst 0, 1) := dg dtX8_check_0_ok 38 rfl
theorem dX8_check_97 : decode cX8_check 97 = .ok (.ireturn, 1) := dg dtX8_check_0_ok 39 rfl
def dtX8_does_0 : List (Nat × Instr × Nat) := [(0, .iload_n 1, 1), (1, .tableswitch 95 0 6 #[43, 54, 61, 68, 75, 81, 88], 43), (44, .aload_n 0, 1), (45, .iload_n 2, 1), (46, .iload_n 3, 1), (47, .iload 4, 2), (49, .iload 5, 2), (51, .invokevirtual 163, 3), (54, .ireturn, 1), (55, .aload_n 0, 1), (56, .iload_n 2, 1), (57, .iload_n 3, 1), (58, .invokevirtual 169, 3), (61, .ireturn, 1), (62, .aload_n 0, 1), (63, .iload_n 2, 1), (64, .iload_n 3, 1), (65, .invokevirtual 175, 3), (68, .ireturn, 1), (69, .aload_n 0, 1), (70, .iload_n 2, 1), (71, .iload_n 3, 1), (72, .invokevirtual 181, 3), (75, .ireturn, 1), (76, .aload_n 0, 1), (77, .iload_n 2, 1), (78, .invokevirtual 187, 3), (81, .ireturn, 1), (82, .aload_n 0, 1), (83, .iload_n 2, 1), (84, .iload_n 3, 1), (85, .invokevirtual 193, 3), (88, .ireturn, 1), (89, .aload_n 0, 1), (90, .iload_n 2, 1), (91, .iload_n 3, 1), (92, .invokevirtual 199, 3), (95, .ireturn, 1), (96, .aload_n 0, 1), (97, .iload_n 2, 1), (98, .invokevirtual 202, 3), (101, .ireturn, 1)]
theorem dtX8_does_0_ok : ∀ q ∈ dtX8_does_0, decode cX8_does q.1 = .ok q.2 := by decide +kernel
theorem dX8_does_0 : decode cX8_does 0 = .ok (.iload_n 1, 1) := dg dtX8_does_0_ok 0 rfl
theorem dX8_does_1 : decode cX8_does 1 = .ok (.tableswitch 95 0 6 #[43, 54, 61, 68, 75, 81, 88], 43) := dg dtX8_does_0_ok 1 rfl
theorem dX8_does_44 : decode cX8_does 44 = .ok (.aload_n 0, 1) := dg dtX8_does_0_ok 2 rfl
theorem dX8_does_45 : decode cX8_does 45 = .ok (.iload_n 2, 1) := dg dtX8_does_0_ok 3 rfl
theorem dX8_does_46 : decode cX8_does 46 = .ok (.iload_n 3, 1) := dg dtX8_does_0_ok 4 rfl
theorem dX8_does_47 : decode cX8_does 47 = .ok (.iload 4, 2) := dg dtX8_does_0_ok 5 rfl
theorem dX8_does_49 : decode cX8_does 49 = .ok (.iload 5, 2) := dg dtX8_does_0_ok 6 rfl
theorem dX8_does_51 : decode cX8_does 51 = .ok (.invokevirtual 163, 3) := dg dtX8_does_0_ok 7 rfl
theorem dX8_does_54 : decode cX8_does 54 = .ok (.ireturn, 1) := dg dtX8_does_0_ok 8 rfl
theorem dX8_does_55 : decode cX8_does 55 = .ok (.aload_n 0, 1) := dg dtX8_does_0_ok 9 rfl
theorem dX8_does_56 : decode cX8_does 56 = .ok (.iload_n 2, 1) := dg dtX8_does_0_ok 10 rfl
theorem dX8_does_57 : decode cX8_does 57 = .ok (.iload_n 3, 1) := dg dtX8_does_0_ok 11 rfl
theorem dX8_does_58 : decode cX8_does 58 = .ok (.invokevirtual 169, 3) := dg dtX8_does_0_ok 12 rfl
theorem dX8_does_61 : decode cX8_does 61 = .ok (.ireturn, 1) := dg dtX8_does_0_ok 13 rfl
theorem dX8_does_62 : decode cX8_does 62 = .ok (.aload_n 0, 1) := dg dtX8_does_0_ok 14 rfl
theorem dX8_does_63 : decode cX8_does 63 = .ok (.iload_n 2, 1) := dg dtX8_does_0_ok 15 rfl
theorem dX8_does_64 : decode cX8_does 64 = .ok (.iload_n 3, 1) := dg dtX8_does_0_ok 16 rfl
theorem dX8_does_65 : decode cX8_does 65 = .ok (.invokevirtual 175, 3) := dg dtX8_does_0_ok 17 rfl
theorem dX8_does_68 : decode cX8_does 68 = .ok (.ireturn, 1) := dg dtX8_does_0_ok 18 rfl
theorem dX8_does_69 : decode cX8_does 69 = .ok (.aload_n 0, 1) := dg dtX8_does_0_ok 19 rfl
theorem dX8_does_70 : decode cX8_does 70 = .ok (.iload_n 2, 1) := dg dtX8_does_0_ok 20 rfl
theorem dX8_does_71 : decode cX8_does 71 = .ok (.iload_n 3, 1) := dg dtX8_does_0_ok 21 rfl
theorem dX8_does_72 : decode cX8_does 72 = .ok (.invokevirtual 181, 3) := dg dtX8_does_0_ok 22 rfl
theorem dX8_does_75 : decode cX8_does 75 = .ok (.ireturn, 1) := dg dtX8_does_0_ok 23 rfl
theorem dX8_does_76 : decode cX8_does 76 = .ok (.aload_n 0, 1) := dg dtX8_does_0_ok 24 rfl
theorem dX8_does_77 : decode cX8_does 77 = .ok (.iload_n 2, 1) := dg dtX8_does_0_ok 25 rfl
theorem dX8_does_78 : decode cX8_does 78 = .ok (.invokevirtual 187, 3) := dg dtX8_does_0_ok 26 rfl
theorem dX8_does_81 : decode cX8_does 81 = .ok (.ireturn, 1) := dg dtX8_does_0_ok 27 rfl
theorem dX8_does_82 : decode cX8_does 82 = .ok (.aload_n 0, 1) := dg dtX8_does_0_ok 28 rfl
theorem dX8_does_83 : decode cX8_does 83 = .ok (.iload_n 2, 1) := dg dtX8_does_0_ok 29 rfl
theorem dX8_does_84 : decode cX8_does 84 = .ok (.iload_n 3, 1) := dg dtX8_does_0_ok 30 rfl
theorem dX8_does_85 : decode cX8_does 85 = .ok (.invokevirtual 193, 3) := dg dtX8_does_0_ok 31 rfl
theorem dX8_does_88 : decode cX8_does 88 = .ok (.ireturn, 1) := dg dtX8_does_0_ok 32 rfl
theorem dX8_does_89 : decode cX8_does 89 = .ok (.aload_n 0, 1) := dg dtX8_does_0_ok 33 rfl
theorem dX8_does_90 : decode cX8_does 90 = .ok (.iload_n 2, 1) := dg dtX8_does_0_ok 34 rfl
theorem dX8_does_91 : decode cX8_does 91 = .ok (.iload_n 3, 1) := dg dtX8_does_0_ok 35 rfl
theorem dX8_does_92 : decode cX8_does 92 = .ok (.invokevirtual 199, 3) := dg dtX8_does_0_ok 36 rfl
theorem dX8_does_95 : decode cX8_does 95 = .ok (.ireturn, 1) := dg dtX8_does_0_ok 37 rfl
theorem dX8_does_96 : decode cX8_does 96 = .ok (.aload_n 0, 1) := dg dtX8_does_0_ok 38 rfl
theorem dX8_does_97 : decode cX8_does 97 = .ok (.iload_n 2, 1) := dg dtX8_does_0_ok 39 rfl
theorem dX8_does_98 : decode cX8_does 98 = .ok (.invokevirtual 202, 3) := dg dtX8_does_0_ok 40 rfl
theorem dX8_does_101 : decode cX8_does 101 = .ok (.ireturn, 1) := dg dtX8_does_0_ok 41 rfl
def dtX8_runOrders_0 : List (Nat × Instr × Nat) := [(0, .aload_n 0, 1), (1, .invokevirtual 246, 3), (4, .aload_n 0, 1), (5, .getfield 214, 3), (8, .ifCond .lt 11, 3), (11, .bipush (-100), 2), (13, .aload_n 0, 1), (14, .getfield 214, 3), (17, .isub, 1), (18, .ireturn, 1), (19, .aload_n 0, 1), (20, .invokevirtual 56, 3), (23, .iconst 0, 1), (24, .istore_n 1, 1), (25, .iconst 1, 1), (26, .istore_n 2, 1), (27, .iload_n 2, 1), (28, .ifCond .eq 119, 3), (31, .iload_n 1, 1), (32, .aload_n 0, 1), (33, .getfield 235, 3), (36, .if_icmp .ge 111, 3), (39, .iconst 5, 1), (40, .iload_n 1, 1), (41, .imul, 1), (42, .istore_n 3, 1), (43, .aload_n 0, 1), (44, .aload_n 0, 1), (45, .getfield 27, 3), (48, .iload_n 3, 1), (49, .iaload, 1), (50, .aload_n 0, 1), (51, .getfield 27, 3), (54, .iload_n 3, 1), (55, .iconst 1, 1), (56, .iadd, 1), (57, .iaload, 1), (58, .aload_n 0, 1), (59, .getfield 27, 3), (62, .iload_n 3, 1), (63, .iconst 2, 1), (64, .iadd, 1), (65, .iaload, 1), (66, .aload_n 0, 1), (67, .getfield 27, 3), (70, .iload_n 3, 1), (71, .iconst 3, 1), (72, .iadd, 1)]
theorem dtX8_runOrders_0_ok : ∀ q ∈ dtX8_runOrders_0, decode cX8_runOrders q.1 = .ok q.2 := by decide +kernel
theorem dX8_runOrders_0 : decode cX8_runOrders 0 = .ok (.aload_n 0, 1) := dg dtX8_runOrders_0_ok 0 rfl
theorem dX8_runOrders_1 : decode cX8_runOrders 1 = .ok (.invokevirtual 246, 3) := dg dtX8_runOrders_0_ok 1 rfl
theorem dX8_runOrders_4 : decode cX8_runOrders 4 = .ok (.aload_n 0, 1) := dg dtX8_runOrders_0_ok 2 rfl
theorem dX8_runOrders_5 : decode cX8_runOrders 5 = .ok (.getfield 214, 3) := dg dtX8_runOrders_0_ok 3 rfl
theorem dX8_runOrders_8 : decode cX8_runOrders 8 = .ok (.ifCond .lt 11, 3) := dg dtX8_runOrders_0_ok 4 rfl
theorem dX8_runOrders_11 : decode cX8_runOrders 11 = .ok (.bipush (-100), 2) := dg dtX8_runOrders_0_ok 5 rfl
theorem dX8_runOrders_13 : decode cX8_runOrders 13 = .ok (.aload_n 0, 1) := dg dtX8_runOrders_0_ok 6 rfl
theorem dX8_runOrders_14 : decode cX8_runOrders 14 = .ok (.getfield 214, 3) := dg dtX8_runOrders_0_ok 7 rfl
theorem dX8_runOrders_17 : decode cX8_runOrders 17 = .ok (.isub, 1) := dg dtX8_runOrders_0_ok 8 rfl
theorem dX8_runOrders_18 : decode cX8_runOrders 18 = .ok (.ireturn, 1) := dg dtX8_runOrders_0_ok 9 rfl
theorem dX8_runOrders_19 : decode cX8_runOrders 19 = .ok (.aload_n 0, 1) := dg dtX8_runOrders_0_ok 10 rfl
theorem dX8_runOrders_20 : decode cX8_runOrders 20 = .ok (.invokevirtual 56, 3) := dg dtX8_runOrders_0_ok 11 rfl
theorem dX8_runOrders_23 : decode cX8_runOrders 23 = .ok (.iconst 0, 1) := dg dtX8_runOrders_0_ok 12 rfl
theorem dX8_runOrders_24 : decode cX8_runOrders 24 = .ok (.istore_n 1, 1) := dg dtX8_runOrders_0_ok 13 rfl
theorem dX8_runOrders_25 : decode cX8_runOrders 25 = .ok (.iconst 1, 1) := dg dtX8_runOrders_0_ok 14 rfl
theorem dX8_runOrders_26 : decode cX8_runOrders 26 = .ok (.istore_n 2, 1) := dg dtX8_runOrders_0_ok 15 rfl
theorem dX8_runOrders_27 : decode cX8_runOrders 27 = .ok (.iload_n 2, 1) := dg dtX8_runOrders_0_ok 16 rfl
theorem dX8_runOrders_28 : decode cX8_runOrders 28 = .ok (.ifCond .eq 119, 3) := dg dtX8_runOrders_0_ok 17 rfl
theorem dX8_runOrders_31 : decode cX8_runOrders 31 = .ok (.iload_n 1, 1) := dg dtX8_runOrders_0_ok 18 rfl
theorem dX8_runOrders_32 : decode cX8_runOrders 32 = .ok (.aload_n 0, 1) := dg dtX8_runOrders_0_ok 19 rfl
theorem dX8_runOrders_33 : decode cX8_runOrders 33 = .ok (.getfield 235, 3) := dg dtX8_runOrders_0_ok 20 rfl
theorem dX8_runOrders_36 : decode cX8_runOrders 36 = .ok (.if_icmp .ge 111, 3) := dg dtX8_runOrders_0_ok 21 rfl
theorem dX8_runOrders_39 : decode cX8_runOrders 39 = .ok (.iconst 5, 1) := dg dtX8_runOrders_0_ok 22 rfl
theorem dX8_runOrders_40 : decode cX8_runOrders 40 = .ok (.iload_n 1, 1) := dg dtX8_runOrders_0_ok 23 rfl
theorem dX8_runOrders_41 : decode cX8_runOrders 41 = .ok (.imul, 1) := dg dtX8_runOrders_0_ok 24 rfl
theorem dX8_runOrders_42 : decode cX8_runOrders 42 = .ok (.istore_n 3, 1) := dg dtX8_runOrders_0_ok 25 rfl
theorem dX8_runOrders_43 : decode cX8_runOrders 43 = .ok (.aload_n 0, 1) := dg dtX8_runOrders_0_ok 26 rfl
theorem dX8_runOrders_44 : decode cX8_runOrders 44 = .ok (.aload_n 0, 1) := dg dtX8_runOrders_0_ok 27 rfl
theorem dX8_runOrders_45 : decode cX8_runOrders 45 = .ok (.getfield 27, 3) := dg dtX8_runOrders_0_ok 28 rfl
theorem dX8_runOrders_48 : decode cX8_runOrders 48 = .ok (.iload_n 3, 1) := dg dtX8_runOrders_0_ok 29 rfl
theorem dX8_runOrders_49 : decode cX8_runOrders 49 = .ok (.iaload, 1) := dg dtX8_runOrders_0_ok 30 rfl
theorem dX8_runOrders_50 : decode cX8_runOrders 50 = .ok (.aload_n 0, 1) := dg dtX8_runOrders_0_ok 31 rfl
theorem dX8_runOrders_51 : decode cX8_runOrders 51 = .ok (.getfield 27, 3) := dg dtX8_runOrders_0_ok 32 rfl
theorem dX8_runOrders_54 : decode cX8_runOrders 54 = .ok (.iload_n 3, 1) := dg dtX8_runOrders_0_ok 33 rfl
theorem dX8_runOrders_55 : decode cX8_runOrders 55 = .ok (.iconst 1, 1) := dg dtX8_runOrders_0_ok 34 rfl
theorem dX8_runOrders_56 : decode cX8_runOrders 56 = .ok (.iadd, 1) := dg dtX8_runOrders_0_ok 35 rfl
theorem dX8_runOrders_57 : decode cX8_runOrders 57 = .ok (.iaload, 1) := dg dtX8_runOrders_0_ok 36 rfl
theorem dX8_runOrders_58 : decode cX8_runOrders 58 = .ok (.aload_n 0, 1) := dg dtX8_runOrders_0_ok 37 rfl
theorem dX8_runOrders_59 : decode cX8_runOrders 59 = .ok (.getfield 27, 3) := dg dtX8_runOrders_0_ok 38 rfl
theorem dX8_runOrders_62 : decode cX8_runOrders 62 = .ok (.iload_n 3, 1) := dg dtX8_runOrders_0_ok 39 rfl
theorem dX8_runOrders_63 : decode cX8_runOrders 63 = .ok (.iconst 2, 1) := dg dtX8_runOrders_0_ok 40 rfl
theorem dX8_runOrders_64 : decode cX8_runOrders 64 = .ok (.iadd, 1) := dg dtX8_runOrders_0_ok 41 rfl
theorem dX8_runOrders_65 : decode cX8_runOrders 65 = .ok (.iaload, 1) := dg dtX8_runOrders_0_ok 42 rfl
theorem dX8_runOrders_66 : decode cX8_runOrders 66 = .ok (.aload_n 0, 1) := dg dtX8_runOrders_0_ok 43 rfl
theorem dX8_runOrders_67 : decode cX8_runOrders 67 = .ok (.getfield 27, 3) := dg dtX8_runOrders_0_ok 44 rfl
theorem dX8_runOrders_70 : decode cX8_runOrders 70 = .ok (.iload_n 3, 1) := dg dtX8_runOrders_0_ok 45 rfl
theorem dX8_runOrders_71 : decode cX8_runOrders 71 = .ok (.iconst 3, 1) := dg dtX8_runOrders_0_ok 46 rfl
theorem dX8_runOrders_72 : decode cX8_runOrders 72 = .ok (.iadd, 1) := dg dtX8_runOrders_0_ok 47 rfl
def dtX8_runOrders_1 : List (Nat × Instr × Nat) := [(73, .iaload, 1), (74, .aload_n 0, 1), (75, .getfield 27, 3), (78, .iload_n 3, 1), (79, .iconst 4, 1), (80, .iadd, 1), (81, .iaload, 1), (82, .invokevirtual 249, 3), (85, .ifCond .lt 7, 3), (88, .iconst 1, 1), (89, .goto 4, 3), (92, .iconst 0, 1), (93, .istore_n 2, 1), (94, .iload_n 2, 1), (95, .ifCond .eq 49, 3), (98, .aload_n 0, 1), (99, .aload_n 0, 1), (100, .getfield 27, 3), (103, .iload_n 3, 1), (104, .iaload, 1), (105, .aload_n 0, 1), (106, .getfield 27, 3), (109, .iload_n 3, 1), (110, .iconst 1, 1), (111, .iadd, 1), (112, .iaload, 1), (113, .aload_n 0, 1), (114, .getfield 27, 3), (117, .iload_n 3, 1), (118, .iconst 2, 1), (119, .iadd, 1), (120, .iaload, 1), (121, .aload_n 0, 1), (122, .getfield 27, 3), (125, .iload_n 3, 1), (126, .iconst 3, 1), (127, .iadd, 1), (128, .iaload, 1), (129, .aload_n 0, 1), (130, .getfield 27, 3), (133, .iload_n 3, 1), (134, .iconst 4, 1), (135, .iadd, 1), (136, .iaload, 1), (137, .invokevirtual 253, 3), (140, .pop, 1), (141, .iinc 1 1, 3), (144, .goto (-117), 3)]
theorem dtX8_runOrders_1_ok : ∀ q ∈ dtX8_runOrders_1, decode cX8_runOrders q.1 = .ok q.2 := by decide +kernel
theorem dX8_runOrders_73 : decode cX8_runOrders 73 = .ok (.iaload, 1) := dg dtX8_runOrders_1_ok 0 rfl
theorem dX8_runOrders_74 : decode cX8_runOrders 74 = .ok (.aload_n 0, 1) := dg dtX8_runOrders_1_ok 1 rfl
theorem dX8_runOrders_75 : decode cX8_runOrders 75 = .ok (.getfield 27, 3) := dg dtX8_runOrders_1_ok 2 rfl
theorem dX8_runOrders_78 : decode cX8_runOrders 78 = .ok (.iload_n 3, 1) := dg dtX8_runOrders_1_ok 3 rfl
theorem dX8_runOrders_79 : decode cX8_runOrders 79 = .ok (.iconst 4, 1) := dg dtX8_runOrders_1_ok 4 rfl
theorem dX8_runOrders_80 : decode cX8_runOrders 80 = .ok (.iadd, 1) := dg dtX8_runOrders_1_ok 5 rfl
theorem dX8_runOrders_81 : decode cX8_runOrders 81 = .ok (.iaload, 1) := dg dtX8_runOrders_1_ok 6 rfl
theorem dX8_runOrders_82 : decode cX8_runOrders 82 = .ok (.invokevirtual 249, 3) := dg dtX8_runOrders_1_ok 7 rfl
theorem dX8_runOrders_85 : decode cX8_runOrders 85 = .ok (.ifCond .lt 7, 3) := dg dtX8_runOrders_1_ok 8 rfl
theorem dX8_runOrders_88 : decode cX8_runOrders 88 = .ok (.iconst 1, 1) := dg dtX8_runOrders_1_ok 9 rfl
theorem dX8_runOrders_89 : decode cX8_runOrders 89 = .ok (.goto 4, 3) := dg dtX8_runOrders_1_ok 10 rfl
theorem dX8_runOrders_92 : decode cX8_runOrders 92 = .ok (.iconst 0, 1) := dg dtX8_runOrders_1_ok 11 rfl
theorem dX8_runOrders_93 : decode cX8_runOrders 93 = .ok (.istore_n 2, 1) := dg dtX8_runOrders_1_ok 12 rfl
theorem dX8_runOrders_94 : decode cX8_runOrders 94 = .ok (.iload_n 2, 1) := dg dtX8_runOrders_1_ok 13 rfl
theorem dX8_runOrders_95 : decode cX8_runOrders 95 = .ok (.ifCond .eq 49, 3) := dg dtX8_runOrders_1_ok 14 rfl
theorem dX8_runOrders_98 : decode cX8_runOrders 98 = .ok (.aload_n 0, 1) := dg dtX8_runOrders_1_ok 15 rfl
theorem dX8_runOrders_99 : decode cX8_runOrders 99 = .ok (.aload_n 0, 1) := dg dtX8_runOrders_1_ok 16 rfl
theorem dX8_runOrders_100 : decode cX8_runOrders 100 = .ok (.getfield 27, 3) := dg dtX8_runOrders_1_ok 17 rfl
theorem dX8_runOrders_103 : decode cX8_runOrders 103 = .ok (.iload_n 3, 1) := dg dtX8_runOrders_1_ok 18 rfl
theorem dX8_runOrders_104 : decode cX8_runOrders 104 = .ok (.iaload, 1) := dg dtX8_runOrders_1_ok 19 rfl
theorem dX8_runOrders_105 : decode cX8_runOrders 105 = .ok (.aload_n 0, 1) := dg dtX8_runOrders_1_ok 20 rfl
theorem dX8_runOrders_106 : decode cX8_runOrders 106 = .ok (.getfield 27, 3) := dg dtX8_runOrders_1_ok 21 rfl
theorem dX8_runOrders_109 : decode cX8_runOrders 109 = .ok (.iload_n 3, 1) := dg dtX8_runOrders_1_ok 22 rfl
theorem dX8_runOrders_110 : decode cX8_runOrders 110 = .ok (.iconst 1, 1) := dg dtX8_runOrders_1_ok 23 rfl
theorem dX8_runOrders_111 : decode cX8_runOrders 111 = .ok (.iadd, 1) := dg dtX8_runOrders_1_ok 24 rfl
theorem dX8_runOrders_112 : decode cX8_runOrders 112 = .ok (.iaload, 1) := dg dtX8_runOrders_1_ok 25 rfl
theorem dX8_runOrders_113 : decode cX8_runOrders 113 = .ok (.aload_n 0, 1) := dg dtX8_runOrders_1_ok 26 rfl
theorem dX8_runOrders_114 : decode cX8_runOrders 114 = .ok (.getfield 27, 3) := dg dtX8_runOrders_1_ok 27 rfl
theorem dX8_runOrders_117 : decode cX8_runOrders 117 = .ok (.iload_n 3, 1) := dg dtX8_runOrders_1_ok 28 rfl
theorem dX8_runOrders_118 : decode cX8_runOrders 118 = .ok (.iconst 2, 1) := dg dtX8_runOrders_1_ok 29 rfl
theorem dX8_runOrders_119 : decode cX8_runOrders 119 = .ok (.iadd, 1) := dg dtX8_runOrders_1_ok 30 rfl
theorem dX8_runOrders_120 : decode cX8_runOrders 120 = .ok (.iaload, 1) := dg dtX8_runOrders_1_ok 31 rfl
theorem dX8_runOrders_121 : decode cX8_runOrders 121 = .ok (.aload_n 0, 1) := dg dtX8_runOrders_1_ok 32 rfl
theorem dX8_runOrders_122 : decode cX8_runOrders 122 = .ok (.getfield 27, 3) := dg dtX8_runOrders_1_ok 33 rfl
theorem dX8_runOrders_125 : decode cX8_runOrders 125 = .ok (.iload_n 3, 1) := dg dtX8_runOrders_1_ok 34 rfl
theorem dX8_runOrders_126 : decode cX8_runOrders 126 = .ok (.iconst 3, 1) := dg dtX8_runOrders_1_ok 35 rfl
theorem dX8_runOrders_127 : decode cX8_runOrders 127 = .ok (.iadd, 1) := dg dtX8_runOrders_1_ok 36 rfl
theorem dX8_runOrders_128 : decode cX8_runOrders 128 = .ok (.iaload, 1) := dg dtX8_runOrders_1_ok 37 rfl
theorem dX8_runOrders_129 : decode cX8_runOrders 129 = .ok (.aload_n 0, 1) := dg dtX8_runOrders_1_ok 38 rfl
theorem dX8_runOrders_130 : decode cX8_runOrders 130 = .ok (.getfield 27, 3) := dg dtX8_runOrders_1_ok 39 rfl
theorem dX8_runOrders_133 : decode cX8_runOrders 133 = .ok (.iload_n 3, 1) := dg dtX8_runOrders_1_ok 40 rfl
theorem dX8_runOrders_134 : decode cX8_runOrders 134 = .ok (.iconst 4, 1) := dg dtX8_runOrders_1_ok 41 rfl
theorem dX8_runOrders_135 : decode cX8_runOrders 135 = .ok (.iadd, 1) := dg dtX8_runOrders_1_ok 42 rfl
theorem dX8_runOrders_136 : decode cX8_runOrders 136 = .ok (.iaload, 1) := dg dtX8_runOrders_1_ok 43 rfl
theorem dX8_runOrders_137 : decode cX8_runOrders 137 = .ok (.invokevirtual 253, 3) := dg dtX8_runOrders_1_ok 44 rfl
theorem dX8_runOrders_140 : decode cX8_runOrders 140 = .ok (.pop, 1) := dg dtX8_runOrders_1_ok 45 rfl
theorem dX8_runOrders_141 : decode cX8_runOrders 141 = .ok (.iinc 1 1, 3) := dg dtX8_runOrders_1_ok 46 rfl
theorem dX8_runOrders_144 : decode cX8_runOrders 144 = .ok (.goto (-117), 3) := dg dtX8_runOrders_1_ok 47 rfl
def dtX8_runOrders_2 : List (Nat × Instr × Nat) := [(147, .iload_n 1, 1), (148, .ireturn, 1)]
theorem dtX8_runOrders_2_ok : ∀ q ∈ dtX8_runOrders_2, decode cX8_runOrders q.1 = .ok q.2 := by decide +kernel
theorem dX8_runOrders_147 : decode cX8_runOrders 147 = .ok (.iload_n 1, 1) := dg dtX8_runOrders_2_ok 0 rfl
theorem dX8_runOrders_148 : decode cX8_runOrders 148 = .ok (.ireturn, 1) := dg dtX8_runOrders_2_ok 1 rfl
def dtX8_stored_0 : List (Nat × Instr × Nat) := [(0, .lconst 0, 1), (1, .lstore_n 2, 1), (2, .iconst 0, 1), (3, .istore 4, 2), (5, .iload 4, 2), (7, .i2l, 1), (8, .aload_n 0, 1), (9, .getfield 7, 3), (12, .iconst 2, 1), (13, .laload, 1), (14, .lcmp, 1), (15, .ifCond .ge 44, 3), (18, .lload_n 2, 1), (19, .aload_n 0, 1), (20, .getfield 7, 3), (23, .iload 4, 2), (25, .invokestatic 65, 3), (28, .laload, 1), (29, .iload_n 1, 1), (30, .i2l, 1), (31, .lcmp, 1), (32, .ifCond .ne 18, 3), (35, .aload_n 0, 1), (36, .iload 4, 2), (38, .invokevirtual 79, 3), (41, .lconst 0, 1), (42, .lcmp, 1), (43, .ifCond .le 7, 3), (46, .lconst 1, 1), (47, .goto 4, 3), (50, .lconst 0, 1), (51, .ladd, 1), (52, .lstore_n 2, 1), (53, .iinc 4 1, 3), (56, .goto (-51), 3), (59, .lload_n 2, 1), (60, .lreturn, 1)]
theorem dtX8_stored_0_ok : ∀ q ∈ dtX8_stored_0, decode cX8_stored q.1 = .ok q.2 := by decide +kernel
theorem dX8_stored_0 : decode cX8_stored 0 = .ok (.lconst 0, 1) := dg dtX8_stored_0_ok 0 rfl
theorem dX8_stored_1 : decode cX8_stored 1 = .ok (.lstore_n 2, 1) := dg dtX8_stored_0_ok 1 rfl
theorem dX8_stored_2 : decode cX8_stored 2 = .ok (.iconst 0, 1) := dg dtX8_stored_0_ok 2 rfl
theorem dX8_stored_3 : decode cX8_stored 3 = .ok (.istore 4, 2) := dg dtX8_stored_0_ok 3 rfl
theorem dX8_stored_5 : decode cX8_stored 5 = .ok (.iload 4, 2) := dg dtX8_stored_0_ok 4 rfl
theorem dX8_stored_7 : decode cX8_stored 7 = .ok (.i2l, 1) := dg dtX8_stored_0_ok 5 rfl
theorem dX8_stored_8 : decode cX8_stored 8 = .ok (.aload_n 0, 1) := dg dtX8_stored_0_ok 6 rfl
theorem dX8_stored_9 : decode cX8_stored 9 = .ok (.getfield 7, 3) := dg dtX8_stored_0_ok 7 rfl
theorem dX8_stored_12 : decode cX8_stored 12 = .ok (.iconst 2, 1) := dg dtX8_stored_0_ok 8 rfl
theorem dX8_stored_13 : decode cX8_stored 13 = .ok (.laload, 1) := dg dtX8_stored_0_ok 9 rfl
theorem dX8_stored_14 : decode cX8_stored 14 = .ok (.lcmp, 1) := dg dtX8_stored_0_ok 10 rfl
theorem dX8_stored_15 : decode cX8_stored 15 = .ok (.ifCond .ge 44, 3) := dg dtX8_stored_0_ok 11 rfl
theorem dX8_stored_18 : decode cX8_stored 18 = .ok (.lload_n 2, 1) := dg dtX8_stored_0_ok 12 rfl
theorem dX8_stored_19 : decode cX8_stored 19 = .ok (.aload_n 0, 1) := dg dtX8_stored_0_ok 13 rfl
theorem dX8_stored_20 : decode cX8_stored 20 = .ok (.getfield 7, 3) := dg dtX8_stored_0_ok 14 rfl
theorem dX8_stored_23 : decode cX8_stored 23 = .ok (.iload 4, 2) := dg dtX8_stored_0_ok 15 rfl
theorem dX8_stored_25 : decode cX8_stored 25 = .ok (.invokestatic 65, 3) := dg dtX8_stored_0_ok 16 rfl
theorem dX8_stored_28 : decode cX8_stored 28 = .ok (.laload, 1) := dg dtX8_stored_0_ok 17 rfl
theorem dX8_stored_29 : decode cX8_stored 29 = .ok (.iload_n 1, 1) := dg dtX8_stored_0_ok 18 rfl
theorem dX8_stored_30 : decode cX8_stored 30 = .ok (.i2l, 1) := dg dtX8_stored_0_ok 19 rfl
theorem dX8_stored_31 : decode cX8_stored 31 = .ok (.lcmp, 1) := dg dtX8_stored_0_ok 20 rfl
theorem dX8_stored_32 : decode cX8_stored 32 = .ok (.ifCond .ne 18, 3) := dg dtX8_stored_0_ok 21 rfl
theorem dX8_stored_35 : decode cX8_stored 35 = .ok (.aload_n 0, 1) := dg dtX8_stored_0_ok 22 rfl
theorem dX8_stored_36 : decode cX8_stored 36 = .ok (.iload 4, 2) := dg dtX8_stored_0_ok 23 rfl
theorem dX8_stored_38 : decode cX8_stored 38 = .ok (.invokevirtual 79, 3) := dg dtX8_stored_0_ok 24 rfl
theorem dX8_stored_41 : decode cX8_stored 41 = .ok (.lconst 0, 1) := dg dtX8_stored_0_ok 25 rfl
theorem dX8_stored_42 : decode cX8_stored 42 = .ok (.lcmp, 1) := dg dtX8_stored_0_ok 26 rfl
theorem dX8_stored_43 : decode cX8_stored 43 = .ok (.ifCond .le 7, 3) := dg dtX8_stored_0_ok 27 rfl
theorem dX8_stored_46 : decode cX8_stored 46 = .ok (.lconst 1, 1) := dg dtX8_stored_0_ok 28 rfl
theorem dX8_stored_47 : decode cX8_stored 47 = .ok (.goto 4, 3) := dg dtX8_stored_0_ok 29 rfl
theorem dX8_stored_50 : decode cX8_stored 50 = .ok (.lconst 0, 1) := dg dtX8_stored_0_ok 30 rfl
theorem dX8_stored_51 : decode cX8_stored 51 = .ok (.ladd, 1) := dg dtX8_stored_0_ok 31 rfl
theorem dX8_stored_52 : decode cX8_stored 52 = .ok (.lstore_n 2, 1) := dg dtX8_stored_0_ok 32 rfl
theorem dX8_stored_53 : decode cX8_stored 53 = .ok (.iinc 4 1, 3) := dg dtX8_stored_0_ok 33 rfl
theorem dX8_stored_56 : decode cX8_stored 56 = .ok (.goto (-51), 3) := dg dtX8_stored_0_ok 34 rfl
theorem dX8_stored_59 : decode cX8_stored 59 = .ok (.lload_n 2, 1) := dg dtX8_stored_0_ok 35 rfl
theorem dX8_stored_60 : decode cX8_stored 60 = .ok (.lreturn, 1) := dg dtX8_stored_0_ok 36 rfl
def dtX8_owner_0 : List (Nat × Instr × Nat) := [(0, .aload_n 0, 1), (1, .iload_n 1, 1), (2, .invokevirtual 98, 3), (5, .ifCond .eq 7, 3), (8, .ldc2_w 256, 3), (11, .lreturn, 1), (12, .iload_n 2, 1), (13, .tableswitch 130 0 6 #[43, 53, 65, 77, 83, 112, 118], 43), (56, .aload_n 0, 1), (57, .getfield 7, 3), (60, .iload_n 1, 1), (61, .invokestatic 94, 3), (64, .laload, 1), (65, .lreturn, 1), (66, .aload_n 0, 1), (67, .getfield 7, 3), (70, .iload_n 1, 1), (71, .invokestatic 94, 3), (74, .iconst 1, 1), (75, .iadd, 1), (76, .laload, 1), (77, .lreturn, 1), (78, .aload_n 0, 1), (79, .getfield 7, 3), (82, .iload_n 1, 1), (83, .invokestatic 94, 3), (86, .iconst 2, 1), (87, .iadd, 1), (88, .laload, 1), (89, .lreturn, 1), (90, .aload_n 0, 1), (91, .iload_n 1, 1), (92, .invokevirtual 106, 3), (95, .lreturn, 1), (96, .aload_n 0, 1), (97, .aload_n 0, 1), (98, .iload_n 1, 1), (99, .invokevirtual 106, 3), (102, .aload_n 0, 1), (103, .getfield 7, 3), (106, .iload_n 1, 1), (107, .invokestatic 94, 3), (110, .iconst 1, 1), (111, .iadd, 1), (112, .laload, 1), (113, .invokevirtual 109, 3), (116, .ifCond .eq 7, 3), (119, .lconst 1, 1)]
theorem dtX8_owner_0_ok : ∀ q ∈ dtX8_owner_0, decode cX8_owner q.1 = .ok q.2 := by decide +kernel
theorem dX8_owner_0 : decode cX8_owner 0 = .ok (.aload_n 0, 1) := dg dtX8_owner_0_ok 0 rfl
theorem dX8_owner_1 : decode cX8_owner 1 = .ok (.iload_n 1, 1) := dg dtX8_owner_0_ok 1 rfl
theorem dX8_owner_2 : decode cX8_owner 2 = .ok (.invokevirtual 98, 3) := dg dtX8_owner_0_ok 2 rfl
theorem dX8_owner_5 : decode cX8_owner 5 = .ok (.ifCond .eq 7, 3) := dg dtX8_owner_0_ok 3 rfl
theorem dX8_owner_8 : decode cX8_owner 8 = .ok (.ldc2_w 256, 3) := dg dtX8_owner_0_ok 4 rfl
theorem dX8_owner_11 : decode cX8_owner 11 = .ok (.lreturn, 1) := dg dtX8_owner_0_ok 5 rfl
theorem dX8_owner_12 : decode cX8_owner 12 = .ok (.iload_n 2, 1) := dg dtX8_owner_0_ok 6 rfl
theorem dX8_owner_13 : decode cX8_owner 13 = .ok (.tableswitch 130 0 6 #[43, 53, 65, 77, 83, 112, 118], 43) := dg dtX8_owner_0_ok 7 rfl
theorem dX8_owner_56 : decode cX8_owner 56 = .ok (.aload_n 0, 1) := dg dtX8_owner_0_ok 8 rfl
theorem dX8_owner_57 : decode cX8_owner 57 = .ok (.getfield 7, 3) := dg dtX8_owner_0_ok 9 rfl
theorem dX8_owner_60 : decode cX8_owner 60 = .ok (.iload_n 1, 1) := dg dtX8_owner_0_ok 10 rfl
theorem dX8_owner_61 : decode cX8_owner 61 = .ok (.invokestatic 94, 3) := dg dtX8_owner_0_ok 11 rfl
theorem dX8_owner_64 : decode cX8_owner 64 = .ok (.laload, 1) := dg dtX8_owner_0_ok 12 rfl
theorem dX8_owner_65 : decode cX8_owner 65 = .ok (.lreturn, 1) := dg dtX8_owner_0_ok 13 rfl
theorem dX8_owner_66 : decode cX8_owner 66 = .ok (.aload_n 0, 1) := dg dtX8_owner_0_ok 14 rfl
theorem dX8_owner_67 : decode cX8_owner 67 = .ok (.getfield 7, 3) := dg dtX8_owner_0_ok 15 rfl
theorem dX8_owner_70 : decode cX8_owner 70 = .ok (.iload_n 1, 1) := dg dtX8_owner_0_ok 16 rfl
theorem dX8_owner_71 : decode cX8_owner 71 = .ok (.invokestatic 94, 3) := dg dtX8_owner_0_ok 17 rfl
theorem dX8_owner_74 : decode cX8_owner 74 = .ok (.iconst 1, 1) := dg dtX8_owner_0_ok 18 rfl
theorem dX8_owner_75 : decode cX8_owner 75 = .ok (.iadd, 1) := dg dtX8_owner_0_ok 19 rfl
theorem dX8_owner_76 : decode cX8_owner 76 = .ok (.laload, 1) := dg dtX8_owner_0_ok 20 rfl
theorem dX8_owner_77 : decode cX8_owner 77 = .ok (.lreturn, 1) := dg dtX8_owner_0_ok 21 rfl
theorem dX8_owner_78 : decode cX8_owner 78 = .ok (.aload_n 0, 1) := dg dtX8_owner_0_ok 22 rfl
theorem dX8_owner_79 : decode cX8_owner 79 = .ok (.getfield 7, 3) := dg dtX8_owner_0_ok 23 rfl
theorem dX8_owner_82 : decode cX8_owner 82 = .ok (.iload_n 1, 1) := dg dtX8_owner_0_ok 24 rfl
theorem dX8_owner_83 : decode cX8_owner 83 = .ok (.invokestatic 94, 3) := dg dtX8_owner_0_ok 25 rfl
theorem dX8_owner_86 : decode cX8_owner 86 = .ok (.iconst 2, 1) := dg dtX8_owner_0_ok 26 rfl
theorem dX8_owner_87 : decode cX8_owner 87 = .ok (.iadd, 1) := dg dtX8_owner_0_ok 27 rfl
theorem dX8_owner_88 : decode cX8_owner 88 = .ok (.laload, 1) := dg dtX8_owner_0_ok 28 rfl
theorem dX8_owner_89 : decode cX8_owner 89 = .ok (.lreturn, 1) := dg dtX8_owner_0_ok 29 rfl
theorem dX8_owner_90 : decode cX8_owner 90 = .ok (.aload_n 0, 1) := dg dtX8_owner_0_ok 30 rfl
theorem dX8_owner_91 : decode cX8_owner 91 = .ok (.iload_n 1, 1) := dg dtX8_owner_0_ok 31 rfl
theorem dX8_owner_92 : decode cX8_owner 92 = .ok (.invokevirtual 106, 3) := dg dtX8_owner_0_ok 32 rfl
theorem dX8_owner_95 : decode cX8_owner 95 = .ok (.lreturn, 1) := dg dtX8_owner_0_ok 33 rfl
theorem dX8_owner_96 : decode cX8_owner 96 = .ok (.aload_n 0, 1) := dg dtX8_owner_0_ok 34 rfl
theorem dX8_owner_97 : decode cX8_owner 97 = .ok (.aload_n 0, 1) := dg dtX8_owner_0_ok 35 rfl
theorem dX8_owner_98 : decode cX8_owner 98 = .ok (.iload_n 1, 1) := dg dtX8_owner_0_ok 36 rfl
theorem dX8_owner_99 : decode cX8_owner 99 = .ok (.invokevirtual 106, 3) := dg dtX8_owner_0_ok 37 rfl
theorem dX8_owner_102 : decode cX8_owner 102 = .ok (.aload_n 0, 1) := dg dtX8_owner_0_ok 38 rfl
theorem dX8_owner_103 : decode cX8_owner 103 = .ok (.getfield 7, 3) := dg dtX8_owner_0_ok 39 rfl
theorem dX8_owner_106 : decode cX8_owner 106 = .ok (.iload_n 1, 1) := dg dtX8_owner_0_ok 40 rfl
theorem dX8_owner_107 : decode cX8_owner 107 = .ok (.invokestatic 94, 3) := dg dtX8_owner_0_ok 41 rfl
theorem dX8_owner_110 : decode cX8_owner 110 = .ok (.iconst 1, 1) := dg dtX8_owner_0_ok 42 rfl
theorem dX8_owner_111 : decode cX8_owner 111 = .ok (.iadd, 1) := dg dtX8_owner_0_ok 43 rfl
theorem dX8_owner_112 : decode cX8_owner 112 = .ok (.laload, 1) := dg dtX8_owner_0_ok 44 rfl
theorem dX8_owner_113 : decode cX8_owner 113 = .ok (.invokevirtual 109, 3) := dg dtX8_owner_0_ok 45 rfl
theorem dX8_owner_116 : decode cX8_owner 116 = .ok (.ifCond .eq 7, 3) := dg dtX8_owner_0_ok 46 rfl
theorem dX8_owner_119 : decode cX8_owner 119 = .ok (.lconst 1, 1) := dg dtX8_owner_0_ok 47 rfl
def dtX8_owner_1 : List (Nat × Instr × Nat) := [(120, .goto 4, 3), (123, .lconst 0, 1), (124, .lreturn, 1), (125, .aload_n 0, 1), (126, .iload_n 1, 1), (127, .invokevirtual 258, 3), (130, .lreturn, 1), (131, .aload_n 0, 1), (132, .getfield 7, 3), (135, .iload_n 1, 1), (136, .invokestatic 94, 3), (139, .iconst 3, 1), (140, .iadd, 1), (141, .laload, 1), (142, .lreturn, 1), (143, .ldc2_w 261, 3), (146, .lreturn, 1)]
theorem dtX8_owner_1_ok : ∀ q ∈ dtX8_owner_1, decode cX8_owner q.1 = .ok q.2 := by decide +kernel
theorem dX8_owner_120 : decode cX8_owner 120 = .ok (.goto 4, 3) := dg dtX8_owner_1_ok 0 rfl
theorem dX8_owner_123 : decode cX8_owner 123 = .ok (.lconst 0, 1) := dg dtX8_owner_1_ok 1 rfl
theorem dX8_owner_124 : decode cX8_owner 124 = .ok (.lreturn, 1) := dg dtX8_owner_1_ok 2 rfl
theorem dX8_owner_125 : decode cX8_owner 125 = .ok (.aload_n 0, 1) := dg dtX8_owner_1_ok 3 rfl
theorem dX8_owner_126 : decode cX8_owner 126 = .ok (.iload_n 1, 1) := dg dtX8_owner_1_ok 4 rfl
theorem dX8_owner_127 : decode cX8_owner 127 = .ok (.invokevirtual 258, 3) := dg dtX8_owner_1_ok 5 rfl
theorem dX8_owner_130 : decode cX8_owner 130 = .ok (.lreturn, 1) := dg dtX8_owner_1_ok 6 rfl
theorem dX8_owner_131 : decode cX8_owner 131 = .ok (.aload_n 0, 1) := dg dtX8_owner_1_ok 7 rfl
theorem dX8_owner_132 : decode cX8_owner 132 = .ok (.getfield 7, 3) := dg dtX8_owner_1_ok 8 rfl
theorem dX8_owner_135 : decode cX8_owner 135 = .ok (.iload_n 1, 1) := dg dtX8_owner_1_ok 9 rfl
theorem dX8_owner_136 : decode cX8_owner 136 = .ok (.invokestatic 94, 3) := dg dtX8_owner_1_ok 10 rfl
theorem dX8_owner_139 : decode cX8_owner 139 = .ok (.iconst 3, 1) := dg dtX8_owner_1_ok 11 rfl
theorem dX8_owner_140 : decode cX8_owner 140 = .ok (.iadd, 1) := dg dtX8_owner_1_ok 12 rfl
theorem dX8_owner_141 : decode cX8_owner 141 = .ok (.laload, 1) := dg dtX8_owner_1_ok 13 rfl
theorem dX8_owner_142 : decode cX8_owner 142 = .ok (.lreturn, 1) := dg dtX8_owner_1_ok 14 rfl
theorem dX8_owner_143 : decode cX8_owner 143 = .ok (.ldc2_w 261, 3) := dg dtX8_owner_1_ok 15 rfl
theorem dX8_owner_146 : decode cX8_owner 146 = .ok (.lreturn, 1) := dg dtX8_owner_1_ok 16 rfl
def dtX8_lot_0 : List (Nat × Instr × Nat) := [(0, .aload_n 0, 1), (1, .iload_n 1, 1), (2, .invokevirtual 128, 3), (5, .ifCond .eq 6, 3), (8, .ldc 51, 2), (10, .ireturn, 1), (11, .iload_n 2, 1), (12, .tableswitch 98 7 12 #[40, 47, 54, 66, 78, 90], 40), (52, .aload_n 0, 1), (53, .iload_n 1, 1), (54, .invokevirtual 79, 3), (57, .l2i, 1), (58, .ireturn, 1), (59, .aload_n 0, 1), (60, .iload_n 1, 1), (61, .invokevirtual 91, 3), (64, .l2i, 1), (65, .ireturn, 1), (66, .aload_n 0, 1), (67, .iload_n 1, 1), (68, .invokestatic 65, 3), (71, .bipush 8, 2), (73, .iadd, 1), (74, .invokevirtual 52, 3), (77, .ireturn, 1), (78, .aload_n 0, 1), (79, .iload_n 1, 1), (80, .invokestatic 65, 3), (83, .bipush 9, 2), (85, .iadd, 1), (86, .invokevirtual 52, 3), (89, .ireturn, 1), (90, .aload_n 0, 1), (91, .iload_n 1, 1), (92, .invokestatic 65, 3), (95, .bipush 10, 2), (97, .iadd, 1), (98, .invokevirtual 52, 3), (101, .ireturn, 1), (102, .aload_n 0, 1), (103, .iload_n 1, 1), (104, .iconst 1, 1), (105, .invokevirtual 87, 3), (108, .l2i, 1), (109, .ireturn, 1), (110, .iload_n 2, 1), (111, .i2l, 1), (112, .lconst 0, 1)]
theorem dtX8_lot_0_ok : ∀ q ∈ dtX8_lot_0, decode cX8_lot q.1 = .ok q.2 := by decide +kernel
theorem dX8_lot_0 : decode cX8_lot 0 = .ok (.aload_n 0, 1) := dg dtX8_lot_0_ok 0 rfl
theorem dX8_lot_1 : decode cX8_lot 1 = .ok (.iload_n 1, 1) := dg dtX8_lot_0_ok 1 rfl
theorem dX8_lot_2 : decode cX8_lot 2 = .ok (.invokevirtual 128, 3) := dg dtX8_lot_0_ok 2 rfl
theorem dX8_lot_5 : decode cX8_lot 5 = .ok (.ifCond .eq 6, 3) := dg dtX8_lot_0_ok 3 rfl
theorem dX8_lot_8 : decode cX8_lot 8 = .ok (.ldc 51, 2) := dg dtX8_lot_0_ok 4 rfl
theorem dX8_lot_10 : decode cX8_lot 10 = .ok (.ireturn, 1) := dg dtX8_lot_0_ok 5 rfl
theorem dX8_lot_11 : decode cX8_lot 11 = .ok (.iload_n 2, 1) := dg dtX8_lot_0_ok 6 rfl
theorem dX8_lot_12 : decode cX8_lot 12 = .ok (.tableswitch 98 7 12 #[40, 47, 54, 66, 78, 90], 40) := dg dtX8_lot_0_ok 7 rfl
theorem dX8_lot_52 : decode cX8_lot 52 = .ok (.aload_n 0, 1) := dg dtX8_lot_0_ok 8 rfl
theorem dX8_lot_53 : decode cX8_lot 53 = .ok (.iload_n 1, 1) := dg dtX8_lot_0_ok 9 rfl
theorem dX8_lot_54 : decode cX8_lot 54 = .ok (.invokevirtual 79, 3) := dg dtX8_lot_0_ok 10 rfl
theorem dX8_lot_57 : decode cX8_lot 57 = .ok (.l2i, 1) := dg dtX8_lot_0_ok 11 rfl
theorem dX8_lot_58 : decode cX8_lot 58 = .ok (.ireturn, 1) := dg dtX8_lot_0_ok 12 rfl
theorem dX8_lot_59 : decode cX8_lot 59 = .ok (.aload_n 0, 1) := dg dtX8_lot_0_ok 13 rfl
theorem dX8_lot_60 : decode cX8_lot 60 = .ok (.iload_n 1, 1) := dg dtX8_lot_0_ok 14 rfl
theorem dX8_lot_61 : decode cX8_lot 61 = .ok (.invokevirtual 91, 3) := dg dtX8_lot_0_ok 15 rfl
theorem dX8_lot_64 : decode cX8_lot 64 = .ok (.l2i, 1) := dg dtX8_lot_0_ok 16 rfl
theorem dX8_lot_65 : decode cX8_lot 65 = .ok (.ireturn, 1) := dg dtX8_lot_0_ok 17 rfl
theorem dX8_lot_66 : decode cX8_lot 66 = .ok (.aload_n 0, 1) := dg dtX8_lot_0_ok 18 rfl
theorem dX8_lot_67 : decode cX8_lot 67 = .ok (.iload_n 1, 1) := dg dtX8_lot_0_ok 19 rfl
theorem dX8_lot_68 : decode cX8_lot 68 = .ok (.invokestatic 65, 3) := dg dtX8_lot_0_ok 20 rfl
theorem dX8_lot_71 : decode cX8_lot 71 = .ok (.bipush 8, 2) := dg dtX8_lot_0_ok 21 rfl
theorem dX8_lot_73 : decode cX8_lot 73 = .ok (.iadd, 1) := dg dtX8_lot_0_ok 22 rfl
theorem dX8_lot_74 : decode cX8_lot 74 = .ok (.invokevirtual 52, 3) := dg dtX8_lot_0_ok 23 rfl
theorem dX8_lot_77 : decode cX8_lot 77 = .ok (.ireturn, 1) := dg dtX8_lot_0_ok 24 rfl
theorem dX8_lot_78 : decode cX8_lot 78 = .ok (.aload_n 0, 1) := dg dtX8_lot_0_ok 25 rfl
theorem dX8_lot_79 : decode cX8_lot 79 = .ok (.iload_n 1, 1) := dg dtX8_lot_0_ok 26 rfl
theorem dX8_lot_80 : decode cX8_lot 80 = .ok (.invokestatic 65, 3) := dg dtX8_lot_0_ok 27 rfl
theorem dX8_lot_83 : decode cX8_lot 83 = .ok (.bipush 9, 2) := dg dtX8_lot_0_ok 28 rfl
theorem dX8_lot_85 : decode cX8_lot 85 = .ok (.iadd, 1) := dg dtX8_lot_0_ok 29 rfl
theorem dX8_lot_86 : decode cX8_lot 86 = .ok (.invokevirtual 52, 3) := dg dtX8_lot_0_ok 30 rfl
theorem dX8_lot_89 : decode cX8_lot 89 = .ok (.ireturn, 1) := dg dtX8_lot_0_ok 31 rfl
theorem dX8_lot_90 : decode cX8_lot 90 = .ok (.aload_n 0, 1) := dg dtX8_lot_0_ok 32 rfl
theorem dX8_lot_91 : decode cX8_lot 91 = .ok (.iload_n 1, 1) := dg dtX8_lot_0_ok 33 rfl
theorem dX8_lot_92 : decode cX8_lot 92 = .ok (.invokestatic 65, 3) := dg dtX8_lot_0_ok 34 rfl
theorem dX8_lot_95 : decode cX8_lot 95 = .ok (.bipush 10, 2) := dg dtX8_lot_0_ok 35 rfl
theorem dX8_lot_97 : decode cX8_lot 97 = .ok (.iadd, 1) := dg dtX8_lot_0_ok 36 rfl
theorem dX8_lot_98 : decode cX8_lot 98 = .ok (.invokevirtual 52, 3) := dg dtX8_lot_0_ok 37 rfl
theorem dX8_lot_101 : decode cX8_lot 101 = .ok (.ireturn, 1) := dg dtX8_lot_0_ok 38 rfl
theorem dX8_lot_102 : decode cX8_lot 102 = .ok (.aload_n 0, 1) := dg dtX8_lot_0_ok 39 rfl
theorem dX8_lot_103 : decode cX8_lot 103 = .ok (.iload_n 1, 1) := dg dtX8_lot_0_ok 40 rfl
theorem dX8_lot_104 : decode cX8_lot 104 = .ok (.iconst 1, 1) := dg dtX8_lot_0_ok 41 rfl
theorem dX8_lot_105 : decode cX8_lot 105 = .ok (.invokevirtual 87, 3) := dg dtX8_lot_0_ok 42 rfl
theorem dX8_lot_108 : decode cX8_lot 108 = .ok (.l2i, 1) := dg dtX8_lot_0_ok 43 rfl
theorem dX8_lot_109 : decode cX8_lot 109 = .ok (.ireturn, 1) := dg dtX8_lot_0_ok 44 rfl
theorem dX8_lot_110 : decode cX8_lot 110 = .ok (.iload_n 2, 1) := dg dtX8_lot_0_ok 45 rfl
theorem dX8_lot_111 : decode cX8_lot 111 = .ok (.i2l, 1) := dg dtX8_lot_0_ok 46 rfl
theorem dX8_lot_112 : decode cX8_lot 112 = .ok (.lconst 0, 1) := dg dtX8_lot_0_ok 47 rfl
def dtX8_lot_1 : List (Nat × Instr × Nat) := [(113, .ldc2_w 263, 3), (116, .invokestatic 47, 3), (119, .ifCond .eq 16, 3), (122, .aload_n 0, 1), (123, .iload_n 1, 1), (124, .invokestatic 65, 3), (127, .iload_n 2, 1), (128, .iadd, 1), (129, .invokevirtual 52, 3), (132, .goto 5, 3), (135, .ldc 103, 2), (137, .ireturn, 1)]
theorem dtX8_lot_1_ok : ∀ q ∈ dtX8_lot_1, decode cX8_lot q.1 = .ok q.2 := by decide +kernel
theorem dX8_lot_113 : decode cX8_lot 113 = .ok (.ldc2_w 263, 3) := dg dtX8_lot_1_ok 0 rfl
theorem dX8_lot_116 : decode cX8_lot 116 = .ok (.invokestatic 47, 3) := dg dtX8_lot_1_ok 1 rfl
theorem dX8_lot_119 : decode cX8_lot 119 = .ok (.ifCond .eq 16, 3) := dg dtX8_lot_1_ok 2 rfl
theorem dX8_lot_122 : decode cX8_lot 122 = .ok (.aload_n 0, 1) := dg dtX8_lot_1_ok 3 rfl
theorem dX8_lot_123 : decode cX8_lot 123 = .ok (.iload_n 1, 1) := dg dtX8_lot_1_ok 4 rfl
theorem dX8_lot_124 : decode cX8_lot 124 = .ok (.invokestatic 65, 3) := dg dtX8_lot_1_ok 5 rfl
theorem dX8_lot_127 : decode cX8_lot 127 = .ok (.iload_n 2, 1) := dg dtX8_lot_1_ok 6 rfl
theorem dX8_lot_128 : decode cX8_lot 128 = .ok (.iadd, 1) := dg dtX8_lot_1_ok 7 rfl
theorem dX8_lot_129 : decode cX8_lot 129 = .ok (.invokevirtual 52, 3) := dg dtX8_lot_1_ok 8 rfl
theorem dX8_lot_132 : decode cX8_lot 132 = .ok (.goto 5, 3) := dg dtX8_lot_1_ok 9 rfl
theorem dX8_lot_135 : decode cX8_lot 135 = .ok (.ldc 103, 2) := dg dtX8_lot_1_ok 10 rfl
theorem dX8_lot_137 : decode cX8_lot 137 = .ok (.ireturn, 1) := dg dtX8_lot_1_ok 11 rfl
def dtX8_exported_0 : List (Nat × Instr × Nat) := [(0, .aload_n 0, 1), (1, .iload_n 1, 1), (2, .invokevirtual 151, 3), (5, .ifCond .eq 6, 3), (8, .ldc 51, 2), (10, .ireturn, 1), (11, .iload_n 2, 1), (12, .i2l, 1), (13, .lconst 0, 1), (14, .ldc2_w 265, 3), (17, .invokestatic 47, 3), (20, .ifCond .eq 16, 3), (23, .aload_n 0, 1), (24, .iload_n 1, 1), (25, .invokestatic 72, 3), (28, .iload_n 2, 1), (29, .iadd, 1), (30, .invokevirtual 52, 3), (33, .goto 5, 3), (36, .ldc 103, 2), (38, .ireturn, 1)]
theorem dtX8_exported_0_ok : ∀ q ∈ dtX8_exported_0, decode cX8_exported q.1 = .ok q.2 := by decide +kernel
theorem dX8_exported_0 : decode cX8_exported 0 = .ok (.aload_n 0, 1) := dg dtX8_exported_0_ok 0 rfl
theorem dX8_exported_1 : decode cX8_exported 1 = .ok (.iload_n 1, 1) := dg dtX8_exported_0_ok 1 rfl
theorem dX8_exported_2 : decode cX8_exported 2 = .ok (.invokevirtual 151, 3) := dg dtX8_exported_0_ok 2 rfl
theorem dX8_exported_5 : decode cX8_exported 5 = .ok (.ifCond .eq 6, 3) := dg dtX8_exported_0_ok 3 rfl
theorem dX8_exported_8 : decode cX8_exported 8 = .ok (.ldc 51, 2) := dg dtX8_exported_0_ok 4 rfl
theorem dX8_exported_10 : decode cX8_exported 10 = .ok (.ireturn, 1) := dg dtX8_exported_0_ok 5 rfl
theorem dX8_exported_11 : decode cX8_exported 11 = .ok (.iload_n 2, 1) := dg dtX8_exported_0_ok 6 rfl
theorem dX8_exported_12 : decode cX8_exported 12 = .ok (.i2l, 1) := dg dtX8_exported_0_ok 7 rfl
theorem dX8_exported_13 : decode cX8_exported 13 = .ok (.lconst 0, 1) := dg dtX8_exported_0_ok 8 rfl
theorem dX8_exported_14 : decode cX8_exported 14 = .ok (.ldc2_w 265, 3) := dg dtX8_exported_0_ok 9 rfl
theorem dX8_exported_17 : decode cX8_exported 17 = .ok (.invokestatic 47, 3) := dg dtX8_exported_0_ok 10 rfl
theorem dX8_exported_20 : decode cX8_exported 20 = .ok (.ifCond .eq 16, 3) := dg dtX8_exported_0_ok 11 rfl
theorem dX8_exported_23 : decode cX8_exported 23 = .ok (.aload_n 0, 1) := dg dtX8_exported_0_ok 12 rfl
theorem dX8_exported_24 : decode cX8_exported 24 = .ok (.iload_n 1, 1) := dg dtX8_exported_0_ok 13 rfl
theorem dX8_exported_25 : decode cX8_exported 25 = .ok (.invokestatic 72, 3) := dg dtX8_exported_0_ok 14 rfl
theorem dX8_exported_28 : decode cX8_exported 28 = .ok (.iload_n 2, 1) := dg dtX8_exported_0_ok 15 rfl
theorem dX8_exported_29 : decode cX8_exported 29 = .ok (.iadd, 1) := dg dtX8_exported_0_ok 16 rfl
theorem dX8_exported_30 : decode cX8_exported 30 = .ok (.invokevirtual 52, 3) := dg dtX8_exported_0_ok 17 rfl
theorem dX8_exported_33 : decode cX8_exported 33 = .ok (.goto 5, 3) := dg dtX8_exported_0_ok 18 rfl
theorem dX8_exported_36 : decode cX8_exported 36 = .ok (.ldc 103, 2) := dg dtX8_exported_0_ok 19 rfl
theorem dX8_exported_38 : decode cX8_exported 38 = .ok (.ireturn, 1) := dg dtX8_exported_0_ok 20 rfl
def dtX8_write_0 : List (Nat × Instr × Nat) := [(0, .aload_n 0, 1), (1, .getfield 31, 3), (4, .aload_n 0, 1), (5, .getfield 267, 3), (8, .iload_n 1, 1), (9, .iastore, 1), (10, .aload_n 0, 1), (11, .dup, 1), (12, .getfield 267, 3), (15, .iconst 1, 1), (16, .iadd, 1), (17, .putfield 267, 3), (20, .return_, 1)]
theorem dtX8_write_0_ok : ∀ q ∈ dtX8_write_0, decode cX8_write q.1 = .ok q.2 := by decide +kernel
theorem dX8_write_0 : decode cX8_write 0 = .ok (.aload_n 0, 1) := dg dtX8_write_0_ok 0 rfl
theorem dX8_write_1 : decode cX8_write 1 = .ok (.getfield 31, 3) := dg dtX8_write_0_ok 1 rfl
theorem dX8_write_4 : decode cX8_write 4 = .ok (.aload_n 0, 1) := dg dtX8_write_0_ok 2 rfl
theorem dX8_write_5 : decode cX8_write 5 = .ok (.getfield 267, 3) := dg dtX8_write_0_ok 3 rfl
theorem dX8_write_8 : decode cX8_write 8 = .ok (.iload_n 1, 1) := dg dtX8_write_0_ok 4 rfl
theorem dX8_write_9 : decode cX8_write 9 = .ok (.iastore, 1) := dg dtX8_write_0_ok 5 rfl
theorem dX8_write_10 : decode cX8_write 10 = .ok (.aload_n 0, 1) := dg dtX8_write_0_ok 6 rfl
theorem dX8_write_11 : decode cX8_write 11 = .ok (.dup, 1) := dg dtX8_write_0_ok 7 rfl
theorem dX8_write_12 : decode cX8_write 12 = .ok (.getfield 267, 3) := dg dtX8_write_0_ok 8 rfl
theorem dX8_write_15 : decode cX8_write 15 = .ok (.iconst 1, 1) := dg dtX8_write_0_ok 9 rfl
theorem dX8_write_16 : decode cX8_write 16 = .ok (.iadd, 1) := dg dtX8_write_0_ok 10 rfl
theorem dX8_write_17 : decode cX8_write 17 = .ok (.putfield 267, 3) := dg dtX8_write_0_ok 11 rfl
theorem dX8_write_20 : decode cX8_write 20 = .ok (.return_, 1) := dg dtX8_write_0_ok 12 rfl
def dtX8_writeNumber_0 : List (Nat × Instr × Nat) := [(0, .lconst 1, 1), (1, .lstore_n 3, 1), (2, .lload_n 3, 1), (3, .lload_n 1, 1), (4, .ldc2_w 40, 3), (7, .ldiv, 1), (8, .lcmp, 1), (9, .ifCond .gt 12, 3), (12, .lload_n 3, 1), (13, .ldc2_w 40, 3), (16, .lmul, 1), (17, .lstore_n 3, 1), (18, .goto (-16), 3), (21, .lload_n 3, 1), (22, .lconst 0, 1), (23, .lcmp, 1), (24, .ifCond .le 28, 3), (27, .aload_n 0, 1), (28, .ldc2_w 270, 3), (31, .lload_n 1, 1), (32, .lload_n 3, 1), (33, .ldiv, 1), (34, .ldc2_w 40, 3), (37, .lrem, 1), (38, .ladd, 1), (39, .l2i, 1), (40, .invokevirtual 272, 3), (43, .lload_n 3, 1), (44, .ldc2_w 40, 3), (47, .ldiv, 1), (48, .lstore_n 3, 1), (49, .goto (-28), 3), (52, .return_, 1)]
theorem dtX8_writeNumber_0_ok : ∀ q ∈ dtX8_writeNumber_0, decode cX8_writeNumber q.1 = .ok q.2 := by decide +kernel
theorem dX8_writeNumber_0 : decode cX8_writeNumber 0 = .ok (.lconst 1, 1) := dg dtX8_writeNumber_0_ok 0 rfl
theorem dX8_writeNumber_1 : decode cX8_writeNumber 1 = .ok (.lstore_n 3, 1) := dg dtX8_writeNumber_0_ok 1 rfl
theorem dX8_writeNumber_2 : decode cX8_writeNumber 2 = .ok (.lload_n 3, 1) := dg dtX8_writeNumber_0_ok 2 rfl
theorem dX8_writeNumber_3 : decode cX8_writeNumber 3 = .ok (.lload_n 1, 1) := dg dtX8_writeNumber_0_ok 3 rfl
theorem dX8_writeNumber_4 : decode cX8_writeNumber 4 = .ok (.ldc2_w 40, 3) := dg dtX8_writeNumber_0_ok 4 rfl
theorem dX8_writeNumber_7 : decode cX8_writeNumber 7 = .ok (.ldiv, 1) := dg dtX8_writeNumber_0_ok 5 rfl
theorem dX8_writeNumber_8 : decode cX8_writeNumber 8 = .ok (.lcmp, 1) := dg dtX8_writeNumber_0_ok 6 rfl
theorem dX8_writeNumber_9 : decode cX8_writeNumber 9 = .ok (.ifCond .gt 12, 3) := dg dtX8_writeNumber_0_ok 7 rfl
theorem dX8_writeNumber_12 : decode cX8_writeNumber 12 = .ok (.lload_n 3, 1) := dg dtX8_writeNumber_0_ok 8 rfl
theorem dX8_writeNumber_13 : decode cX8_writeNumber 13 = .ok (.ldc2_w 40, 3) := dg dtX8_writeNumber_0_ok 9 rfl
theorem dX8_writeNumber_16 : decode cX8_writeNumber 16 = .ok (.lmul, 1) := dg dtX8_writeNumber_0_ok 10 rfl
theorem dX8_writeNumber_17 : decode cX8_writeNumber 17 = .ok (.lstore_n 3, 1) := dg dtX8_writeNumber_0_ok 11 rfl
theorem dX8_writeNumber_18 : decode cX8_writeNumber 18 = .ok (.goto (-16), 3) := dg dtX8_writeNumber_0_ok 12 rfl
theorem dX8_writeNumber_21 : decode cX8_writeNumber 21 = .ok (.lload_n 3, 1) := dg dtX8_writeNumber_0_ok 13 rfl
theorem dX8_writeNumber_22 : decode cX8_writeNumber 22 = .ok (.lconst 0, 1) := dg dtX8_writeNumber_0_ok 14 rfl
theorem dX8_writeNumber_23 : decode cX8_writeNumber 23 = .ok (.lcmp, 1) := dg dtX8_writeNumber_0_ok 15 rfl
theorem dX8_writeNumber_24 : decode cX8_writeNumber 24 = .ok (.ifCond .le 28, 3) := dg dtX8_writeNumber_0_ok 16 rfl
theorem dX8_writeNumber_27 : decode cX8_writeNumber 27 = .ok (.aload_n 0, 1) := dg dtX8_writeNumber_0_ok 17 rfl
theorem dX8_writeNumber_28 : decode cX8_writeNumber 28 = .ok (.ldc2_w 270, 3) := dg dtX8_writeNumber_0_ok 18 rfl
theorem dX8_writeNumber_31 : decode cX8_writeNumber 31 = .ok (.lload_n 1, 1) := dg dtX8_writeNumber_0_ok 19 rfl
theorem dX8_writeNumber_32 : decode cX8_writeNumber 32 = .ok (.lload_n 3, 1) := dg dtX8_writeNumber_0_ok 20 rfl
theorem dX8_writeNumber_33 : decode cX8_writeNumber 33 = .ok (.ldiv, 1) := dg dtX8_writeNumber_0_ok 21 rfl
theorem dX8_writeNumber_34 : decode cX8_writeNumber 34 = .ok (.ldc2_w 40, 3) := dg dtX8_writeNumber_0_ok 22 rfl
theorem dX8_writeNumber_37 : decode cX8_writeNumber 37 = .ok (.lrem, 1) := dg dtX8_writeNumber_0_ok 23 rfl
theorem dX8_writeNumber_38 : decode cX8_writeNumber 38 = .ok (.ladd, 1) := dg dtX8_writeNumber_0_ok 24 rfl
theorem dX8_writeNumber_39 : decode cX8_writeNumber 39 = .ok (.l2i, 1) := dg dtX8_writeNumber_0_ok 25 rfl
theorem dX8_writeNumber_40 : decode cX8_writeNumber 40 = .ok (.invokevirtual 272, 3) := dg dtX8_writeNumber_0_ok 26 rfl
theorem dX8_writeNumber_43 : decode cX8_writeNumber 43 = .ok (.lload_n 3, 1) := dg dtX8_writeNumber_0_ok 27 rfl
theorem dX8_writeNumber_44 : decode cX8_writeNumber 44 = .ok (.ldc2_w 40, 3) := dg dtX8_writeNumber_0_ok 28 rfl
theorem dX8_writeNumber_47 : decode cX8_writeNumber 47 = .ok (.ldiv, 1) := dg dtX8_writeNumber_0_ok 29 rfl
theorem dX8_writeNumber_48 : decode cX8_writeNumber 48 = .ok (.lstore_n 3, 1) := dg dtX8_writeNumber_0_ok 30 rfl
theorem dX8_writeNumber_49 : decode cX8_writeNumber 49 = .ok (.goto (-28), 3) := dg dtX8_writeNumber_0_ok 31 rfl
theorem dX8_writeNumber_52 : decode cX8_writeNumber 52 = .ok (.return_, 1) := dg dtX8_writeNumber_0_ok 32 rfl
def dtX8_isUrgent_0 : List (Nat × Instr × Nat) := [(0, .aload_n 0, 1), (1, .iload_n 1, 1), (2, .invokevirtual 79, 3), (5, .lconst 0, 1), (6, .lcmp, 1), (7, .ifCond .le 32, 3), (10, .aload_n 0, 1), (11, .getfield 7, 3), (14, .iload_n 1, 1), (15, .invokestatic 65, 3), (18, .iconst 5, 1), (19, .iadd, 1), (20, .laload, 1), (21, .aload_n 0, 1), (22, .getfield 7, 3), (25, .iconst 0, 1), (26, .laload, 1), (27, .ldc2_w 275, 3), (30, .ladd, 1), (31, .lcmp, 1), (32, .ifCond .gt 7, 3), (35, .iconst 1, 1), (36, .goto 4, 3), (39, .iconst 0, 1), (40, .istore_n 2, 1), (41, .iconst 0, 1), (42, .istore_n 3, 1), (43, .iload_n 3, 1), (44, .i2l, 1), (45, .aload_n 0, 1), (46, .getfield 7, 3), (49, .iconst 3, 1), (50, .laload, 1), (51, .lcmp, 1), (52, .ifCond .ge 67, 3), (55, .iload_n 2, 1), (56, .ifCond .ne 51, 3), (59, .aload_n 0, 1), (60, .iload_n 3, 1), (61, .invokevirtual 75, 3), (64, .ifCond .eq 47, 3), (67, .aload_n 0, 1), (68, .getfield 7, 3), (71, .iload_n 3, 1), (72, .invokestatic 72, 3), (75, .laload, 1), (76, .iload_n 1, 1), (77, .i2l, 1)]
theorem dtX8_isUrgent_0_ok : ∀ q ∈ dtX8_isUrgent_0, decode cX8_isUrgent q.1 = .ok q.2 := by decide +kernel
theorem dX8_isUrgent_0 : decode cX8_isUrgent 0 = .ok (.aload_n 0, 1) := dg dtX8_isUrgent_0_ok 0 rfl
theorem dX8_isUrgent_1 : decode cX8_isUrgent 1 = .ok (.iload_n 1, 1) := dg dtX8_isUrgent_0_ok 1 rfl
theorem dX8_isUrgent_2 : decode cX8_isUrgent 2 = .ok (.invokevirtual 79, 3) := dg dtX8_isUrgent_0_ok 2 rfl
theorem dX8_isUrgent_5 : decode cX8_isUrgent 5 = .ok (.lconst 0, 1) := dg dtX8_isUrgent_0_ok 3 rfl
theorem dX8_isUrgent_6 : decode cX8_isUrgent 6 = .ok (.lcmp, 1) := dg dtX8_isUrgent_0_ok 4 rfl
theorem dX8_isUrgent_7 : decode cX8_isUrgent 7 = .ok (.ifCond .le 32, 3) := dg dtX8_isUrgent_0_ok 5 rfl
theorem dX8_isUrgent_10 : decode cX8_isUrgent 10 = .ok (.aload_n 0, 1) := dg dtX8_isUrgent_0_ok 6 rfl
theorem dX8_isUrgent_11 : decode cX8_isUrgent 11 = .ok (.getfield 7, 3) := dg dtX8_isUrgent_0_ok 7 rfl
theorem dX8_isUrgent_14 : decode cX8_isUrgent 14 = .ok (.iload_n 1, 1) := dg dtX8_isUrgent_0_ok 8 rfl
theorem dX8_isUrgent_15 : decode cX8_isUrgent 15 = .ok (.invokestatic 65, 3) := dg dtX8_isUrgent_0_ok 9 rfl
theorem dX8_isUrgent_18 : decode cX8_isUrgent 18 = .ok (.iconst 5, 1) := dg dtX8_isUrgent_0_ok 10 rfl
theorem dX8_isUrgent_19 : decode cX8_isUrgent 19 = .ok (.iadd, 1) := dg dtX8_isUrgent_0_ok 11 rfl
theorem dX8_isUrgent_20 : decode cX8_isUrgent 20 = .ok (.laload, 1) := dg dtX8_isUrgent_0_ok 12 rfl
theorem dX8_isUrgent_21 : decode cX8_isUrgent 21 = .ok (.aload_n 0, 1) := dg dtX8_isUrgent_0_ok 13 rfl
theorem dX8_isUrgent_22 : decode cX8_isUrgent 22 = .ok (.getfield 7, 3) := dg dtX8_isUrgent_0_ok 14 rfl
theorem dX8_isUrgent_25 : decode cX8_isUrgent 25 = .ok (.iconst 0, 1) := dg dtX8_isUrgent_0_ok 15 rfl
theorem dX8_isUrgent_26 : decode cX8_isUrgent 26 = .ok (.laload, 1) := dg dtX8_isUrgent_0_ok 16 rfl
theorem dX8_isUrgent_27 : decode cX8_isUrgent 27 = .ok (.ldc2_w 275, 3) := dg dtX8_isUrgent_0_ok 17 rfl
theorem dX8_isUrgent_30 : decode cX8_isUrgent 30 = .ok (.ladd, 1) := dg dtX8_isUrgent_0_ok 18 rfl
theorem dX8_isUrgent_31 : decode cX8_isUrgent 31 = .ok (.lcmp, 1) := dg dtX8_isUrgent_0_ok 19 rfl
theorem dX8_isUrgent_32 : decode cX8_isUrgent 32 = .ok (.ifCond .gt 7, 3) := dg dtX8_isUrgent_0_ok 20 rfl
theorem dX8_isUrgent_35 : decode cX8_isUrgent 35 = .ok (.iconst 1, 1) := dg dtX8_isUrgent_0_ok 21 rfl
theorem dX8_isUrgent_36 : decode cX8_isUrgent 36 = .ok (.goto 4, 3) := dg dtX8_isUrgent_0_ok 22 rfl
theorem dX8_isUrgent_39 : decode cX8_isUrgent 39 = .ok (.iconst 0, 1) := dg dtX8_isUrgent_0_ok 23 rfl
theorem dX8_isUrgent_40 : decode cX8_isUrgent 40 = .ok (.istore_n 2, 1) := dg dtX8_isUrgent_0_ok 24 rfl
theorem dX8_isUrgent_41 : decode cX8_isUrgent 41 = .ok (.iconst 0, 1) := dg dtX8_isUrgent_0_ok 25 rfl
theorem dX8_isUrgent_42 : decode cX8_isUrgent 42 = .ok (.istore_n 3, 1) := dg dtX8_isUrgent_0_ok 26 rfl
theorem dX8_isUrgent_43 : decode cX8_isUrgent 43 = .ok (.iload_n 3, 1) := dg dtX8_isUrgent_0_ok 27 rfl
theorem dX8_isUrgent_44 : decode cX8_isUrgent 44 = .ok (.i2l, 1) := dg dtX8_isUrgent_0_ok 28 rfl
theorem dX8_isUrgent_45 : decode cX8_isUrgent 45 = .ok (.aload_n 0, 1) := dg dtX8_isUrgent_0_ok 29 rfl
theorem dX8_isUrgent_46 : decode cX8_isUrgent 46 = .ok (.getfield 7, 3) := dg dtX8_isUrgent_0_ok 30 rfl
theorem dX8_isUrgent_49 : decode cX8_isUrgent 49 = .ok (.iconst 3, 1) := dg dtX8_isUrgent_0_ok 31 rfl
theorem dX8_isUrgent_50 : decode cX8_isUrgent 50 = .ok (.laload, 1) := dg dtX8_isUrgent_0_ok 32 rfl
theorem dX8_isUrgent_51 : decode cX8_isUrgent 51 = .ok (.lcmp, 1) := dg dtX8_isUrgent_0_ok 33 rfl
theorem dX8_isUrgent_52 : decode cX8_isUrgent 52 = .ok (.ifCond .ge 67, 3) := dg dtX8_isUrgent_0_ok 34 rfl
theorem dX8_isUrgent_55 : decode cX8_isUrgent 55 = .ok (.iload_n 2, 1) := dg dtX8_isUrgent_0_ok 35 rfl
theorem dX8_isUrgent_56 : decode cX8_isUrgent 56 = .ok (.ifCond .ne 51, 3) := dg dtX8_isUrgent_0_ok 36 rfl
theorem dX8_isUrgent_59 : decode cX8_isUrgent 59 = .ok (.aload_n 0, 1) := dg dtX8_isUrgent_0_ok 37 rfl
theorem dX8_isUrgent_60 : decode cX8_isUrgent 60 = .ok (.iload_n 3, 1) := dg dtX8_isUrgent_0_ok 38 rfl
theorem dX8_isUrgent_61 : decode cX8_isUrgent 61 = .ok (.invokevirtual 75, 3) := dg dtX8_isUrgent_0_ok 39 rfl
theorem dX8_isUrgent_64 : decode cX8_isUrgent 64 = .ok (.ifCond .eq 47, 3) := dg dtX8_isUrgent_0_ok 40 rfl
theorem dX8_isUrgent_67 : decode cX8_isUrgent 67 = .ok (.aload_n 0, 1) := dg dtX8_isUrgent_0_ok 41 rfl
theorem dX8_isUrgent_68 : decode cX8_isUrgent 68 = .ok (.getfield 7, 3) := dg dtX8_isUrgent_0_ok 42 rfl
theorem dX8_isUrgent_71 : decode cX8_isUrgent 71 = .ok (.iload_n 3, 1) := dg dtX8_isUrgent_0_ok 43 rfl
theorem dX8_isUrgent_72 : decode cX8_isUrgent 72 = .ok (.invokestatic 72, 3) := dg dtX8_isUrgent_0_ok 44 rfl
theorem dX8_isUrgent_75 : decode cX8_isUrgent 75 = .ok (.laload, 1) := dg dtX8_isUrgent_0_ok 45 rfl
theorem dX8_isUrgent_76 : decode cX8_isUrgent 76 = .ok (.iload_n 1, 1) := dg dtX8_isUrgent_0_ok 46 rfl
theorem dX8_isUrgent_77 : decode cX8_isUrgent 77 = .ok (.i2l, 1) := dg dtX8_isUrgent_0_ok 47 rfl
def dtX8_isUrgent_1 : List (Nat × Instr × Nat) := [(78, .lcmp, 1), (79, .ifCond .ne 32, 3), (82, .aload_n 0, 1), (83, .getfield 7, 3), (86, .iload_n 3, 1), (87, .invokestatic 72, 3), (90, .iconst 3, 1), (91, .iadd, 1), (92, .laload, 1), (93, .aload_n 0, 1), (94, .getfield 7, 3), (97, .iconst 0, 1), (98, .laload, 1), (99, .ldc2_w 275, 3), (102, .ladd, 1), (103, .lcmp, 1), (104, .ifCond .gt 7, 3), (107, .iconst 1, 1), (108, .goto 4, 3), (111, .iconst 0, 1), (112, .istore_n 2, 1), (113, .iinc 3 1, 3), (116, .goto (-73), 3), (119, .iload_n 2, 1), (120, .ireturn, 1)]
theorem dtX8_isUrgent_1_ok : ∀ q ∈ dtX8_isUrgent_1, decode cX8_isUrgent q.1 = .ok q.2 := by decide +kernel
theorem dX8_isUrgent_78 : decode cX8_isUrgent 78 = .ok (.lcmp, 1) := dg dtX8_isUrgent_1_ok 0 rfl
theorem dX8_isUrgent_79 : decode cX8_isUrgent 79 = .ok (.ifCond .ne 32, 3) := dg dtX8_isUrgent_1_ok 1 rfl
theorem dX8_isUrgent_82 : decode cX8_isUrgent 82 = .ok (.aload_n 0, 1) := dg dtX8_isUrgent_1_ok 2 rfl
theorem dX8_isUrgent_83 : decode cX8_isUrgent 83 = .ok (.getfield 7, 3) := dg dtX8_isUrgent_1_ok 3 rfl
theorem dX8_isUrgent_86 : decode cX8_isUrgent 86 = .ok (.iload_n 3, 1) := dg dtX8_isUrgent_1_ok 4 rfl
theorem dX8_isUrgent_87 : decode cX8_isUrgent 87 = .ok (.invokestatic 72, 3) := dg dtX8_isUrgent_1_ok 5 rfl
theorem dX8_isUrgent_90 : decode cX8_isUrgent 90 = .ok (.iconst 3, 1) := dg dtX8_isUrgent_1_ok 6 rfl
theorem dX8_isUrgent_91 : decode cX8_isUrgent 91 = .ok (.iadd, 1) := dg dtX8_isUrgent_1_ok 7 rfl
theorem dX8_isUrgent_92 : decode cX8_isUrgent 92 = .ok (.laload, 1) := dg dtX8_isUrgent_1_ok 8 rfl
theorem dX8_isUrgent_93 : decode cX8_isUrgent 93 = .ok (.aload_n 0, 1) := dg dtX8_isUrgent_1_ok 9 rfl
theorem dX8_isUrgent_94 : decode cX8_isUrgent 94 = .ok (.getfield 7, 3) := dg dtX8_isUrgent_1_ok 10 rfl
theorem dX8_isUrgent_97 : decode cX8_isUrgent 97 = .ok (.iconst 0, 1) := dg dtX8_isUrgent_1_ok 11 rfl
theorem dX8_isUrgent_98 : decode cX8_isUrgent 98 = .ok (.laload, 1) := dg dtX8_isUrgent_1_ok 12 rfl
theorem dX8_isUrgent_99 : decode cX8_isUrgent 99 = .ok (.ldc2_w 275, 3) := dg dtX8_isUrgent_1_ok 13 rfl
theorem dX8_isUrgent_102 : decode cX8_isUrgent 102 = .ok (.ladd, 1) := dg dtX8_isUrgent_1_ok 14 rfl
theorem dX8_isUrgent_103 : decode cX8_isUrgent 103 = .ok (.lcmp, 1) := dg dtX8_isUrgent_1_ok 15 rfl
theorem dX8_isUrgent_104 : decode cX8_isUrgent 104 = .ok (.ifCond .gt 7, 3) := dg dtX8_isUrgent_1_ok 16 rfl
theorem dX8_isUrgent_107 : decode cX8_isUrgent 107 = .ok (.iconst 1, 1) := dg dtX8_isUrgent_1_ok 17 rfl
theorem dX8_isUrgent_108 : decode cX8_isUrgent 108 = .ok (.goto 4, 3) := dg dtX8_isUrgent_1_ok 18 rfl
theorem dX8_isUrgent_111 : decode cX8_isUrgent 111 = .ok (.iconst 0, 1) := dg dtX8_isUrgent_1_ok 19 rfl
theorem dX8_isUrgent_112 : decode cX8_isUrgent 112 = .ok (.istore_n 2, 1) := dg dtX8_isUrgent_1_ok 20 rfl
theorem dX8_isUrgent_113 : decode cX8_isUrgent 113 = .ok (.iinc 3 1, 3) := dg dtX8_isUrgent_1_ok 21 rfl
theorem dX8_isUrgent_116 : decode cX8_isUrgent 116 = .ok (.goto (-73), 3) := dg dtX8_isUrgent_1_ok 22 rfl
theorem dX8_isUrgent_119 : decode cX8_isUrgent 119 = .ok (.iload_n 2, 1) := dg dtX8_isUrgent_1_ok 23 rfl
theorem dX8_isUrgent_120 : decode cX8_isUrgent 120 = .ok (.ireturn, 1) := dg dtX8_isUrgent_1_ok 24 rfl
def dtX8_writeDocument_0 : List (Nat × Instr × Nat) := [(0, .aload_n 0, 1), (1, .iconst 0, 1), (2, .putfield 267, 3), (5, .aload_n 0, 1), (6, .bipush 76, 2), (8, .invokevirtual 272, 3), (11, .aload_n 0, 1), (12, .iload_n 1, 1), (13, .i2l, 1), (14, .invokevirtual 277, 3), (17, .aload_n 0, 1), (18, .bipush 47, 2), (20, .invokevirtual 272, 3), (23, .aload_n 0, 1), (24, .aload_n 0, 1), (25, .getfield 7, 3), (28, .iload_n 1, 1), (29, .invokestatic 65, 3), (32, .laload, 1), (33, .invokevirtual 277, 3), (36, .aload_n 0, 1), (37, .bipush 58, 2), (39, .invokevirtual 272, 3), (42, .aload_n 0, 1), (43, .aload_n 0, 1), (44, .iload_n 1, 1), (45, .invokevirtual 79, 3), (48, .invokevirtual 277, 3), (51, .aload_n 0, 1), (52, .bipush 43, 2), (54, .invokevirtual 272, 3), (57, .aload_n 0, 1), (58, .aload_n 0, 1), (59, .iload_n 1, 1), (60, .iconst 1, 1), (61, .invokevirtual 87, 3), (64, .invokevirtual 277, 3), (67, .aload_n 0, 1), (68, .iload_n 1, 1), (69, .invokevirtual 281, 3), (72, .ifCond .eq 9, 3), (75, .aload_n 0, 1), (76, .bipush 33, 2), (78, .invokevirtual 272, 3), (81, .return_, 1)]
theorem dtX8_writeDocument_0_ok : ∀ q ∈ dtX8_writeDocument_0, decode cX8_writeDocument q.1 = .ok q.2 := by decide +kernel
theorem dX8_writeDocument_0 : decode cX8_writeDocument 0 = .ok (.aload_n 0, 1) := dg dtX8_writeDocument_0_ok 0 rfl
theorem dX8_writeDocument_1 : decode cX8_writeDocument 1 = .ok (.iconst 0, 1) := dg dtX8_writeDocument_0_ok 1 rfl
theorem dX8_writeDocument_2 : decode cX8_writeDocument 2 = .ok (.putfield 267, 3) := dg dtX8_writeDocument_0_ok 2 rfl
theorem dX8_writeDocument_5 : decode cX8_writeDocument 5 = .ok (.aload_n 0, 1) := dg dtX8_writeDocument_0_ok 3 rfl
theorem dX8_writeDocument_6 : decode cX8_writeDocument 6 = .ok (.bipush 76, 2) := dg dtX8_writeDocument_0_ok 4 rfl
theorem dX8_writeDocument_8 : decode cX8_writeDocument 8 = .ok (.invokevirtual 272, 3) := dg dtX8_writeDocument_0_ok 5 rfl
theorem dX8_writeDocument_11 : decode cX8_writeDocument 11 = .ok (.aload_n 0, 1) := dg dtX8_writeDocument_0_ok 6 rfl
theorem dX8_writeDocument_12 : decode cX8_writeDocument 12 = .ok (.iload_n 1, 1) := dg dtX8_writeDocument_0_ok 7 rfl
theorem dX8_writeDocument_13 : decode cX8_writeDocument 13 = .ok (.i2l, 1) := dg dtX8_writeDocument_0_ok 8 rfl
theorem dX8_writeDocument_14 : decode cX8_writeDocument 14 = .ok (.invokevirtual 277, 3) := dg dtX8_writeDocument_0_ok 9 rfl
theorem dX8_writeDocument_17 : decode cX8_writeDocument 17 = .ok (.aload_n 0, 1) := dg dtX8_writeDocument_0_ok 10 rfl
theorem dX8_writeDocument_18 : decode cX8_writeDocument 18 = .ok (.bipush 47, 2) := dg dtX8_writeDocument_0_ok 11 rfl
theorem dX8_writeDocument_20 : decode cX8_writeDocument 20 = .ok (.invokevirtual 272, 3) := dg dtX8_writeDocument_0_ok 12 rfl
theorem dX8_writeDocument_23 : decode cX8_writeDocument 23 = .ok (.aload_n 0, 1) := dg dtX8_writeDocument_0_ok 13 rfl
theorem dX8_writeDocument_24 : decode cX8_writeDocument 24 = .ok (.aload_n 0, 1) := dg dtX8_writeDocument_0_ok 14 rfl
theorem dX8_writeDocument_25 : decode cX8_writeDocument 25 = .ok (.getfield 7, 3) := dg dtX8_writeDocument_0_ok 15 rfl
theorem dX8_writeDocument_28 : decode cX8_writeDocument 28 = .ok (.iload_n 1, 1) := dg dtX8_writeDocument_0_ok 16 rfl
theorem dX8_writeDocument_29 : decode cX8_writeDocument 29 = .ok (.invokestatic 65, 3) := dg dtX8_writeDocument_0_ok 17 rfl
theorem dX8_writeDocument_32 : decode cX8_writeDocument 32 = .ok (.laload, 1) := dg dtX8_writeDocument_0_ok 18 rfl
theorem dX8_writeDocument_33 : decode cX8_writeDocument 33 = .ok (.invokevirtual 277, 3) := dg dtX8_writeDocument_0_ok 19 rfl
theorem dX8_writeDocument_36 : decode cX8_writeDocument 36 = .ok (.aload_n 0, 1) := dg dtX8_writeDocument_0_ok 20 rfl
theorem dX8_writeDocument_37 : decode cX8_writeDocument 37 = .ok (.bipush 58, 2) := dg dtX8_writeDocument_0_ok 21 rfl
theorem dX8_writeDocument_39 : decode cX8_writeDocument 39 = .ok (.invokevirtual 272, 3) := dg dtX8_writeDocument_0_ok 22 rfl
theorem dX8_writeDocument_42 : decode cX8_writeDocument 42 = .ok (.aload_n 0, 1) := dg dtX8_writeDocument_0_ok 23 rfl
theorem dX8_writeDocument_43 : decode cX8_writeDocument 43 = .ok (.aload_n 0, 1) := dg dtX8_writeDocument_0_ok 24 rfl
theorem dX8_writeDocument_44 : decode cX8_writeDocument 44 = .ok (.iload_n 1, 1) := dg dtX8_writeDocument_0_ok 25 rfl
theorem dX8_writeDocument_45 : decode cX8_writeDocument 45 = .ok (.invokevirtual 79, 3) := dg dtX8_writeDocument_0_ok 26 rfl
theorem dX8_writeDocument_48 : decode cX8_writeDocument 48 = .ok (.invokevirtual 277, 3) := dg dtX8_writeDocument_0_ok 27 rfl
theorem dX8_writeDocument_51 : decode cX8_writeDocument 51 = .ok (.aload_n 0, 1) := dg dtX8_writeDocument_0_ok 28 rfl
theorem dX8_writeDocument_52 : decode cX8_writeDocument 52 = .ok (.bipush 43, 2) := dg dtX8_writeDocument_0_ok 29 rfl
theorem dX8_writeDocument_54 : decode cX8_writeDocument 54 = .ok (.invokevirtual 272, 3) := dg dtX8_writeDocument_0_ok 30 rfl
theorem dX8_writeDocument_57 : decode cX8_writeDocument 57 = .ok (.aload_n 0, 1) := dg dtX8_writeDocument_0_ok 31 rfl
theorem dX8_writeDocument_58 : decode cX8_writeDocument 58 = .ok (.aload_n 0, 1) := dg dtX8_writeDocument_0_ok 32 rfl
theorem dX8_writeDocument_59 : decode cX8_writeDocument 59 = .ok (.iload_n 1, 1) := dg dtX8_writeDocument_0_ok 33 rfl
theorem dX8_writeDocument_60 : decode cX8_writeDocument 60 = .ok (.iconst 1, 1) := dg dtX8_writeDocument_0_ok 34 rfl
theorem dX8_writeDocument_61 : decode cX8_writeDocument 61 = .ok (.invokevirtual 87, 3) := dg dtX8_writeDocument_0_ok 35 rfl
theorem dX8_writeDocument_64 : decode cX8_writeDocument 64 = .ok (.invokevirtual 277, 3) := dg dtX8_writeDocument_0_ok 36 rfl
theorem dX8_writeDocument_67 : decode cX8_writeDocument 67 = .ok (.aload_n 0, 1) := dg dtX8_writeDocument_0_ok 37 rfl
theorem dX8_writeDocument_68 : decode cX8_writeDocument 68 = .ok (.iload_n 1, 1) := dg dtX8_writeDocument_0_ok 38 rfl
theorem dX8_writeDocument_69 : decode cX8_writeDocument 69 = .ok (.invokevirtual 281, 3) := dg dtX8_writeDocument_0_ok 39 rfl
theorem dX8_writeDocument_72 : decode cX8_writeDocument 72 = .ok (.ifCond .eq 9, 3) := dg dtX8_writeDocument_0_ok 40 rfl
theorem dX8_writeDocument_75 : decode cX8_writeDocument 75 = .ok (.aload_n 0, 1) := dg dtX8_writeDocument_0_ok 41 rfl
theorem dX8_writeDocument_76 : decode cX8_writeDocument 76 = .ok (.bipush 33, 2) := dg dtX8_writeDocument_0_ok 42 rfl
theorem dX8_writeDocument_78 : decode cX8_writeDocument 78 = .ok (.invokevirtual 272, 3) := dg dtX8_writeDocument_0_ok 43 rfl
theorem dX8_writeDocument_81 : decode cX8_writeDocument 81 = .ok (.return_, 1) := dg dtX8_writeDocument_0_ok 44 rfl
def dtX8_documentLength_0 : List (Nat × Instr × Nat) := [(0, .aload_n 0, 1), (1, .iload_n 1, 1), (2, .invokevirtual 128, 3), (5, .ifCond .eq 6, 3), (8, .ldc 51, 2), (10, .ireturn, 1), (11, .aload_n 0, 1), (12, .iload_n 1, 1), (13, .invokevirtual 284, 3), (16, .aload_n 0, 1), (17, .getfield 267, 3), (20, .ireturn, 1)]
theorem dtX8_documentLength_0_ok : ∀ q ∈ dtX8_documentLength_0, decode cX8_documentLength q.1 = .ok q.2 := by decide +kernel
theorem dX8_documentLength_0 : decode cX8_documentLength 0 = .ok (.aload_n 0, 1) := dg dtX8_documentLength_0_ok 0 rfl
theorem dX8_documentLength_1 : decode cX8_documentLength 1 = .ok (.iload_n 1, 1) := dg dtX8_documentLength_0_ok 1 rfl
theorem dX8_documentLength_2 : decode cX8_documentLength 2 = .ok (.invokevirtual 128, 3) := dg dtX8_documentLength_0_ok 2 rfl
theorem dX8_documentLength_5 : decode cX8_documentLength 5 = .ok (.ifCond .eq 6, 3) := dg dtX8_documentLength_0_ok 3 rfl
theorem dX8_documentLength_8 : decode cX8_documentLength 8 = .ok (.ldc 51, 2) := dg dtX8_documentLength_0_ok 4 rfl
theorem dX8_documentLength_10 : decode cX8_documentLength 10 = .ok (.ireturn, 1) := dg dtX8_documentLength_0_ok 5 rfl
theorem dX8_documentLength_11 : decode cX8_documentLength 11 = .ok (.aload_n 0, 1) := dg dtX8_documentLength_0_ok 6 rfl
theorem dX8_documentLength_12 : decode cX8_documentLength 12 = .ok (.iload_n 1, 1) := dg dtX8_documentLength_0_ok 7 rfl
theorem dX8_documentLength_13 : decode cX8_documentLength 13 = .ok (.invokevirtual 284, 3) := dg dtX8_documentLength_0_ok 8 rfl
theorem dX8_documentLength_16 : decode cX8_documentLength 16 = .ok (.aload_n 0, 1) := dg dtX8_documentLength_0_ok 9 rfl
theorem dX8_documentLength_17 : decode cX8_documentLength 17 = .ok (.getfield 267, 3) := dg dtX8_documentLength_0_ok 10 rfl
theorem dX8_documentLength_20 : decode cX8_documentLength 20 = .ok (.ireturn, 1) := dg dtX8_documentLength_0_ok 11 rfl
def dtX8_documentAt_0 : List (Nat × Instr × Nat) := [(0, .aload_n 0, 1), (1, .iload_n 1, 1), (2, .invokevirtual 128, 3), (5, .ifCond .eq 6, 3), (8, .ldc 51, 2), (10, .ireturn, 1), (11, .iload_n 2, 1), (12, .ifCond .ge 6, 3), (15, .ldc 103, 2), (17, .ireturn, 1), (18, .aload_n 0, 1), (19, .iload_n 1, 1), (20, .invokevirtual 284, 3), (23, .iload_n 2, 1), (24, .aload_n 0, 1), (25, .getfield 267, 3), (28, .if_icmp .ge 12, 3), (31, .aload_n 0, 1), (32, .getfield 31, 3), (35, .iload_n 2, 1), (36, .iaload, 1), (37, .goto 5, 3), (40, .ldc 46, 2), (42, .ireturn, 1)]
theorem dtX8_documentAt_0_ok : ∀ q ∈ dtX8_documentAt_0, decode cX8_documentAt q.1 = .ok q.2 := by decide +kernel
theorem dX8_documentAt_0 : decode cX8_documentAt 0 = .ok (.aload_n 0, 1) := dg dtX8_documentAt_0_ok 0 rfl
theorem dX8_documentAt_1 : decode cX8_documentAt 1 = .ok (.iload_n 1, 1) := dg dtX8_documentAt_0_ok 1 rfl
theorem dX8_documentAt_2 : decode cX8_documentAt 2 = .ok (.invokevirtual 128, 3) := dg dtX8_documentAt_0_ok 2 rfl
theorem dX8_documentAt_5 : decode cX8_documentAt 5 = .ok (.ifCond .eq 6, 3) := dg dtX8_documentAt_0_ok 3 rfl
theorem dX8_documentAt_8 : decode cX8_documentAt 8 = .ok (.ldc 51, 2) := dg dtX8_documentAt_0_ok 4 rfl
theorem dX8_documentAt_10 : decode cX8_documentAt 10 = .ok (.ireturn, 1) := dg dtX8_documentAt_0_ok 5 rfl
theorem dX8_documentAt_11 : decode cX8_documentAt 11 = .ok (.iload_n 2, 1) := dg dtX8_documentAt_0_ok 6 rfl
theorem dX8_documentAt_12 : decode cX8_documentAt 12 = .ok (.ifCond .ge 6, 3) := dg dtX8_documentAt_0_ok 7 rfl
theorem dX8_documentAt_15 : decode cX8_documentAt 15 = .ok (.ldc 103, 2) := dg dtX8_documentAt_0_ok 8 rfl
theorem dX8_documentAt_17 : decode cX8_documentAt 17 = .ok (.ireturn, 1) := dg dtX8_documentAt_0_ok 9 rfl
theorem dX8_documentAt_18 : decode cX8_documentAt 18 = .ok (.aload_n 0, 1) := dg dtX8_documentAt_0_ok 10 rfl
theorem dX8_documentAt_19 : decode cX8_documentAt 19 = .ok (.iload_n 1, 1) := dg dtX8_documentAt_0_ok 11 rfl
theorem dX8_documentAt_20 : decode cX8_documentAt 20 = .ok (.invokevirtual 284, 3) := dg dtX8_documentAt_0_ok 12 rfl
theorem dX8_documentAt_23 : decode cX8_documentAt 23 = .ok (.iload_n 2, 1) := dg dtX8_documentAt_0_ok 13 rfl
theorem dX8_documentAt_24 : decode cX8_documentAt 24 = .ok (.aload_n 0, 1) := dg dtX8_documentAt_0_ok 14 rfl
theorem dX8_documentAt_25 : decode cX8_documentAt 25 = .ok (.getfield 267, 3) := dg dtX8_documentAt_0_ok 15 rfl
theorem dX8_documentAt_28 : decode cX8_documentAt 28 = .ok (.if_icmp .ge 12, 3) := dg dtX8_documentAt_0_ok 16 rfl
theorem dX8_documentAt_31 : decode cX8_documentAt 31 = .ok (.aload_n 0, 1) := dg dtX8_documentAt_0_ok 17 rfl
theorem dX8_documentAt_32 : decode cX8_documentAt 32 = .ok (.getfield 31, 3) := dg dtX8_documentAt_0_ok 18 rfl
theorem dX8_documentAt_35 : decode cX8_documentAt 35 = .ok (.iload_n 2, 1) := dg dtX8_documentAt_0_ok 19 rfl
theorem dX8_documentAt_36 : decode cX8_documentAt 36 = .ok (.iaload, 1) := dg dtX8_documentAt_0_ok 20 rfl
theorem dX8_documentAt_37 : decode cX8_documentAt 37 = .ok (.goto 5, 3) := dg dtX8_documentAt_0_ok 21 rfl
theorem dX8_documentAt_40 : decode cX8_documentAt 40 = .ok (.ldc 46, 2) := dg dtX8_documentAt_0_ok 22 rfl
theorem dX8_documentAt_42 : decode cX8_documentAt 42 = .ok (.ireturn, 1) := dg dtX8_documentAt_0_ok 23 rfl
def dtX8_nextDeadline_0 : List (Nat × Instr × Nat) := [(0, .ldc 46, 2), (2, .istore_n 1, 1), (3, .lconst 0, 1), (4, .lstore_n 2, 1), (5, .iconst 0, 1), (6, .istore 4, 2), (8, .iload 4, 2), (10, .i2l, 1), (11, .aload_n 0, 1), (12, .getfield 7, 3), (15, .iconst 2, 1), (16, .laload, 1), (17, .lcmp, 1), (18, .ifCond .ge 57, 3), (21, .aload_n 0, 1), (22, .iload 4, 2), (24, .invokevirtual 79, 3), (27, .lconst 0, 1), (28, .lcmp, 1), (29, .ifCond .le 40, 3), (32, .iload_n 1, 1), (33, .ifCond .lt 20, 3), (36, .aload_n 0, 1), (37, .getfield 7, 3), (40, .iload 4, 2), (42, .invokestatic 65, 3), (45, .iconst 5, 1), (46, .iadd, 1), (47, .laload, 1), (48, .lload_n 2, 1), (49, .lcmp, 1), (50, .ifCond .ge 19, 3), (53, .iload 4, 2), (55, .istore_n 1, 1), (56, .aload_n 0, 1), (57, .getfield 7, 3), (60, .iload 4, 2), (62, .invokestatic 65, 3), (65, .iconst 5, 1), (66, .iadd, 1), (67, .laload, 1), (68, .lstore_n 2, 1), (69, .iinc 4 1, 3), (72, .goto (-64), 3), (75, .iconst 0, 1), (76, .istore 4, 2), (78, .iload 4, 2), (80, .i2l, 1)]
theorem dtX8_nextDeadline_0_ok : ∀ q ∈ dtX8_nextDeadline_0, decode cX8_nextDeadline q.1 = .ok q.2 := by decide +kernel
theorem dX8_nextDeadline_0 : decode cX8_nextDeadline 0 = .ok (.ldc 46, 2) := dg dtX8_nextDeadline_0_ok 0 rfl
theorem dX8_nextDeadline_2 : decode cX8_nextDeadline 2 = .ok (.istore_n 1, 1) := dg dtX8_nextDeadline_0_ok 1 rfl
theorem dX8_nextDeadline_3 : decode cX8_nextDeadline 3 = .ok (.lconst 0, 1) := dg dtX8_nextDeadline_0_ok 2 rfl
theorem dX8_nextDeadline_4 : decode cX8_nextDeadline 4 = .ok (.lstore_n 2, 1) := dg dtX8_nextDeadline_0_ok 3 rfl
theorem dX8_nextDeadline_5 : decode cX8_nextDeadline 5 = .ok (.iconst 0, 1) := dg dtX8_nextDeadline_0_ok 4 rfl
theorem dX8_nextDeadline_6 : decode cX8_nextDeadline 6 = .ok (.istore 4, 2) := dg dtX8_nextDeadline_0_ok 5 rfl
theorem dX8_nextDeadline_8 : decode cX8_nextDeadline 8 = .ok (.iload 4, 2) := dg dtX8_nextDeadline_0_ok 6 rfl
theorem dX8_nextDeadline_10 : decode cX8_nextDeadline 10 = .ok (.i2l, 1) := dg dtX8_nextDeadline_0_ok 7 rfl
theorem dX8_nextDeadline_11 : decode cX8_nextDeadline 11 = .ok (.aload_n 0, 1) := dg dtX8_nextDeadline_0_ok 8 rfl
theorem dX8_nextDeadline_12 : decode cX8_nextDeadline 12 = .ok (.getfield 7, 3) := dg dtX8_nextDeadline_0_ok 9 rfl
theorem dX8_nextDeadline_15 : decode cX8_nextDeadline 15 = .ok (.iconst 2, 1) := dg dtX8_nextDeadline_0_ok 10 rfl
theorem dX8_nextDeadline_16 : decode cX8_nextDeadline 16 = .ok (.laload, 1) := dg dtX8_nextDeadline_0_ok 11 rfl
theorem dX8_nextDeadline_17 : decode cX8_nextDeadline 17 = .ok (.lcmp, 1) := dg dtX8_nextDeadline_0_ok 12 rfl
theorem dX8_nextDeadline_18 : decode cX8_nextDeadline 18 = .ok (.ifCond .ge 57, 3) := dg dtX8_nextDeadline_0_ok 13 rfl
theorem dX8_nextDeadline_21 : decode cX8_nextDeadline 21 = .ok (.aload_n 0, 1) := dg dtX8_nextDeadline_0_ok 14 rfl
theorem dX8_nextDeadline_22 : decode cX8_nextDeadline 22 = .ok (.iload 4, 2) := dg dtX8_nextDeadline_0_ok 15 rfl
theorem dX8_nextDeadline_24 : decode cX8_nextDeadline 24 = .ok (.invokevirtual 79, 3) := dg dtX8_nextDeadline_0_ok 16 rfl
theorem dX8_nextDeadline_27 : decode cX8_nextDeadline 27 = .ok (.lconst 0, 1) := dg dtX8_nextDeadline_0_ok 17 rfl
theorem dX8_nextDeadline_28 : decode cX8_nextDeadline 28 = .ok (.lcmp, 1) := dg dtX8_nextDeadline_0_ok 18 rfl
theorem dX8_nextDeadline_29 : decode cX8_nextDeadline 29 = .ok (.ifCond .le 40, 3) := dg dtX8_nextDeadline_0_ok 19 rfl
theorem dX8_nextDeadline_32 : decode cX8_nextDeadline 32 = .ok (.iload_n 1, 1) := dg dtX8_nextDeadline_0_ok 20 rfl
theorem dX8_nextDeadline_33 : decode cX8_nextDeadline 33 = .ok (.ifCond .lt 20, 3) := dg dtX8_nextDeadline_0_ok 21 rfl
theorem dX8_nextDeadline_36 : decode cX8_nextDeadline 36 = .ok (.aload_n 0, 1) := dg dtX8_nextDeadline_0_ok 22 rfl
theorem dX8_nextDeadline_37 : decode cX8_nextDeadline 37 = .ok (.getfield 7, 3) := dg dtX8_nextDeadline_0_ok 23 rfl
theorem dX8_nextDeadline_40 : decode cX8_nextDeadline 40 = .ok (.iload 4, 2) := dg dtX8_nextDeadline_0_ok 24 rfl
theorem dX8_nextDeadline_42 : decode cX8_nextDeadline 42 = .ok (.invokestatic 65, 3) := dg dtX8_nextDeadline_0_ok 25 rfl
theorem dX8_nextDeadline_45 : decode cX8_nextDeadline 45 = .ok (.iconst 5, 1) := dg dtX8_nextDeadline_0_ok 26 rfl
theorem dX8_nextDeadline_46 : decode cX8_nextDeadline 46 = .ok (.iadd, 1) := dg dtX8_nextDeadline_0_ok 27 rfl
theorem dX8_nextDeadline_47 : decode cX8_nextDeadline 47 = .ok (.laload, 1) := dg dtX8_nextDeadline_0_ok 28 rfl
theorem dX8_nextDeadline_48 : decode cX8_nextDeadline 48 = .ok (.lload_n 2, 1) := dg dtX8_nextDeadline_0_ok 29 rfl
theorem dX8_nextDeadline_49 : decode cX8_nextDeadline 49 = .ok (.lcmp, 1) := dg dtX8_nextDeadline_0_ok 30 rfl
theorem dX8_nextDeadline_50 : decode cX8_nextDeadline 50 = .ok (.ifCond .ge 19, 3) := dg dtX8_nextDeadline_0_ok 31 rfl
theorem dX8_nextDeadline_53 : decode cX8_nextDeadline 53 = .ok (.iload 4, 2) := dg dtX8_nextDeadline_0_ok 32 rfl
theorem dX8_nextDeadline_55 : decode cX8_nextDeadline 55 = .ok (.istore_n 1, 1) := dg dtX8_nextDeadline_0_ok 33 rfl
theorem dX8_nextDeadline_56 : decode cX8_nextDeadline 56 = .ok (.aload_n 0, 1) := dg dtX8_nextDeadline_0_ok 34 rfl
theorem dX8_nextDeadline_57 : decode cX8_nextDeadline 57 = .ok (.getfield 7, 3) := dg dtX8_nextDeadline_0_ok 35 rfl
theorem dX8_nextDeadline_60 : decode cX8_nextDeadline 60 = .ok (.iload 4, 2) := dg dtX8_nextDeadline_0_ok 36 rfl
theorem dX8_nextDeadline_62 : decode cX8_nextDeadline 62 = .ok (.invokestatic 65, 3) := dg dtX8_nextDeadline_0_ok 37 rfl
theorem dX8_nextDeadline_65 : decode cX8_nextDeadline 65 = .ok (.iconst 5, 1) := dg dtX8_nextDeadline_0_ok 38 rfl
theorem dX8_nextDeadline_66 : decode cX8_nextDeadline 66 = .ok (.iadd, 1) := dg dtX8_nextDeadline_0_ok 39 rfl
theorem dX8_nextDeadline_67 : decode cX8_nextDeadline 67 = .ok (.laload, 1) := dg dtX8_nextDeadline_0_ok 40 rfl
theorem dX8_nextDeadline_68 : decode cX8_nextDeadline 68 = .ok (.lstore_n 2, 1) := dg dtX8_nextDeadline_0_ok 41 rfl
theorem dX8_nextDeadline_69 : decode cX8_nextDeadline 69 = .ok (.iinc 4 1, 3) := dg dtX8_nextDeadline_0_ok 42 rfl
theorem dX8_nextDeadline_72 : decode cX8_nextDeadline 72 = .ok (.goto (-64), 3) := dg dtX8_nextDeadline_0_ok 43 rfl
theorem dX8_nextDeadline_75 : decode cX8_nextDeadline 75 = .ok (.iconst 0, 1) := dg dtX8_nextDeadline_0_ok 44 rfl
theorem dX8_nextDeadline_76 : decode cX8_nextDeadline 76 = .ok (.istore 4, 2) := dg dtX8_nextDeadline_0_ok 45 rfl
theorem dX8_nextDeadline_78 : decode cX8_nextDeadline 78 = .ok (.iload 4, 2) := dg dtX8_nextDeadline_0_ok 46 rfl
theorem dX8_nextDeadline_80 : decode cX8_nextDeadline 80 = .ok (.i2l, 1) := dg dtX8_nextDeadline_0_ok 47 rfl
def dtX8_nextDeadline_1 : List (Nat × Instr × Nat) := [(81, .aload_n 0, 1), (82, .getfield 7, 3), (85, .iconst 3, 1), (86, .laload, 1), (87, .lcmp, 1), (88, .ifCond .ge 58, 3), (91, .aload_n 0, 1), (92, .iload 4, 2), (94, .invokevirtual 75, 3), (97, .ifCond .eq 43, 3), (100, .iload_n 1, 1), (101, .ifCond .lt 20, 3), (104, .aload_n 0, 1), (105, .getfield 7, 3), (108, .iload 4, 2), (110, .invokestatic 72, 3), (113, .iconst 3, 1), (114, .iadd, 1), (115, .laload, 1), (116, .lload_n 2, 1), (117, .lcmp, 1), (118, .ifCond .ge 22, 3), (121, .bipush 100, 2), (123, .iload 4, 2), (125, .iadd, 1), (126, .istore_n 1, 1), (127, .aload_n 0, 1), (128, .getfield 7, 3), (131, .iload 4, 2), (133, .invokestatic 72, 3), (136, .iconst 3, 1), (137, .iadd, 1), (138, .laload, 1), (139, .lstore_n 2, 1), (140, .iinc 4 1, 3), (143, .goto (-65), 3), (146, .iload_n 1, 1), (147, .ireturn, 1)]
theorem dtX8_nextDeadline_1_ok : ∀ q ∈ dtX8_nextDeadline_1, decode cX8_nextDeadline q.1 = .ok q.2 := by decide +kernel
theorem dX8_nextDeadline_81 : decode cX8_nextDeadline 81 = .ok (.aload_n 0, 1) := dg dtX8_nextDeadline_1_ok 0 rfl
theorem dX8_nextDeadline_82 : decode cX8_nextDeadline 82 = .ok (.getfield 7, 3) := dg dtX8_nextDeadline_1_ok 1 rfl
theorem dX8_nextDeadline_85 : decode cX8_nextDeadline 85 = .ok (.iconst 3, 1) := dg dtX8_nextDeadline_1_ok 2 rfl
theorem dX8_nextDeadline_86 : decode cX8_nextDeadline 86 = .ok (.laload, 1) := dg dtX8_nextDeadline_1_ok 3 rfl
theorem dX8_nextDeadline_87 : decode cX8_nextDeadline 87 = .ok (.lcmp, 1) := dg dtX8_nextDeadline_1_ok 4 rfl
theorem dX8_nextDeadline_88 : decode cX8_nextDeadline 88 = .ok (.ifCond .ge 58, 3) := dg dtX8_nextDeadline_1_ok 5 rfl
theorem dX8_nextDeadline_91 : decode cX8_nextDeadline 91 = .ok (.aload_n 0, 1) := dg dtX8_nextDeadline_1_ok 6 rfl
theorem dX8_nextDeadline_92 : decode cX8_nextDeadline 92 = .ok (.iload 4, 2) := dg dtX8_nextDeadline_1_ok 7 rfl
theorem dX8_nextDeadline_94 : decode cX8_nextDeadline 94 = .ok (.invokevirtual 75, 3) := dg dtX8_nextDeadline_1_ok 8 rfl
theorem dX8_nextDeadline_97 : decode cX8_nextDeadline 97 = .ok (.ifCond .eq 43, 3) := dg dtX8_nextDeadline_1_ok 9 rfl
theorem dX8_nextDeadline_100 : decode cX8_nextDeadline 100 = .ok (.iload_n 1, 1) := dg dtX8_nextDeadline_1_ok 10 rfl
theorem dX8_nextDeadline_101 : decode cX8_nextDeadline 101 = .ok (.ifCond .lt 20, 3) := dg dtX8_nextDeadline_1_ok 11 rfl
theorem dX8_nextDeadline_104 : decode cX8_nextDeadline 104 = .ok (.aload_n 0, 1) := dg dtX8_nextDeadline_1_ok 12 rfl
theorem dX8_nextDeadline_105 : decode cX8_nextDeadline 105 = .ok (.getfield 7, 3) := dg dtX8_nextDeadline_1_ok 13 rfl
theorem dX8_nextDeadline_108 : decode cX8_nextDeadline 108 = .ok (.iload 4, 2) := dg dtX8_nextDeadline_1_ok 14 rfl
theorem dX8_nextDeadline_110 : decode cX8_nextDeadline 110 = .ok (.invokestatic 72, 3) := dg dtX8_nextDeadline_1_ok 15 rfl
theorem dX8_nextDeadline_113 : decode cX8_nextDeadline 113 = .ok (.iconst 3, 1) := dg dtX8_nextDeadline_1_ok 16 rfl
theorem dX8_nextDeadline_114 : decode cX8_nextDeadline 114 = .ok (.iadd, 1) := dg dtX8_nextDeadline_1_ok 17 rfl
theorem dX8_nextDeadline_115 : decode cX8_nextDeadline 115 = .ok (.laload, 1) := dg dtX8_nextDeadline_1_ok 18 rfl
theorem dX8_nextDeadline_116 : decode cX8_nextDeadline 116 = .ok (.lload_n 2, 1) := dg dtX8_nextDeadline_1_ok 19 rfl
theorem dX8_nextDeadline_117 : decode cX8_nextDeadline 117 = .ok (.lcmp, 1) := dg dtX8_nextDeadline_1_ok 20 rfl
theorem dX8_nextDeadline_118 : decode cX8_nextDeadline 118 = .ok (.ifCond .ge 22, 3) := dg dtX8_nextDeadline_1_ok 21 rfl
theorem dX8_nextDeadline_121 : decode cX8_nextDeadline 121 = .ok (.bipush 100, 2) := dg dtX8_nextDeadline_1_ok 22 rfl
theorem dX8_nextDeadline_123 : decode cX8_nextDeadline 123 = .ok (.iload 4, 2) := dg dtX8_nextDeadline_1_ok 23 rfl
theorem dX8_nextDeadline_125 : decode cX8_nextDeadline 125 = .ok (.iadd, 1) := dg dtX8_nextDeadline_1_ok 24 rfl
theorem dX8_nextDeadline_126 : decode cX8_nextDeadline 126 = .ok (.istore_n 1, 1) := dg dtX8_nextDeadline_1_ok 25 rfl
theorem dX8_nextDeadline_127 : decode cX8_nextDeadline 127 = .ok (.aload_n 0, 1) := dg dtX8_nextDeadline_1_ok 26 rfl
theorem dX8_nextDeadline_128 : decode cX8_nextDeadline 128 = .ok (.getfield 7, 3) := dg dtX8_nextDeadline_1_ok 27 rfl
theorem dX8_nextDeadline_131 : decode cX8_nextDeadline 131 = .ok (.iload 4, 2) := dg dtX8_nextDeadline_1_ok 28 rfl
theorem dX8_nextDeadline_133 : decode cX8_nextDeadline 133 = .ok (.invokestatic 72, 3) := dg dtX8_nextDeadline_1_ok 29 rfl
theorem dX8_nextDeadline_136 : decode cX8_nextDeadline 136 = .ok (.iconst 3, 1) := dg dtX8_nextDeadline_1_ok 30 rfl
theorem dX8_nextDeadline_137 : decode cX8_nextDeadline 137 = .ok (.iadd, 1) := dg dtX8_nextDeadline_1_ok 31 rfl
theorem dX8_nextDeadline_138 : decode cX8_nextDeadline 138 = .ok (.laload, 1) := dg dtX8_nextDeadline_1_ok 32 rfl
theorem dX8_nextDeadline_139 : decode cX8_nextDeadline 139 = .ok (.lstore_n 2, 1) := dg dtX8_nextDeadline_1_ok 33 rfl
theorem dX8_nextDeadline_140 : decode cX8_nextDeadline 140 = .ok (.iinc 4 1, 3) := dg dtX8_nextDeadline_1_ok 34 rfl
theorem dX8_nextDeadline_143 : decode cX8_nextDeadline 143 = .ok (.goto (-65), 3) := dg dtX8_nextDeadline_1_ok 35 rfl
theorem dX8_nextDeadline_146 : decode cX8_nextDeadline 146 = .ok (.iload_n 1, 1) := dg dtX8_nextDeadline_1_ok 36 rfl
theorem dX8_nextDeadline_147 : decode cX8_nextDeadline 147 = .ok (.ireturn, 1) := dg dtX8_nextDeadline_1_ok 37 rfl
def dtX8_calledIn_0 : List (Nat × Instr × Nat) := [(0, .iload_n 1, 1), (1, .i2l, 1), (2, .lconst 1, 1), (3, .ldc2_w 34, 3), (6, .invokestatic 47, 3), (9, .ifCond .ne 6, 3), (12, .ldc 103, 2), (14, .ireturn, 1), (15, .aload_n 0, 1), (16, .getfield 7, 3), (19, .iconst 0, 1), (20, .laload, 1), (21, .iload_n 1, 1), (22, .i2l, 1), (23, .ladd, 1), (24, .lstore_n 2, 1), (25, .lconst 0, 1), (26, .lstore 4, 2), (28, .iconst 0, 1), (29, .istore 6, 2), (31, .iload 6, 2), (33, .i2l, 1), (34, .aload_n 0, 1), (35, .getfield 7, 3), (38, .iconst 3, 1), (39, .laload, 1), (40, .lcmp, 1), (41, .ifCond .ge 56, 3), (44, .lload 4, 2), (46, .aload_n 0, 1), (47, .iload 6, 2), (49, .invokevirtual 75, 3), (52, .ifCond .eq 35, 3), (55, .aload_n 0, 1), (56, .getfield 7, 3), (59, .iload 6, 2), (61, .invokestatic 72, 3), (64, .iconst 3, 1), (65, .iadd, 1), (66, .laload, 1), (67, .lload_n 2, 1), (68, .lcmp, 1), (69, .ifCond .ge 18, 3), (72, .aload_n 0, 1), (73, .getfield 7, 3), (76, .iload 6, 2), (78, .invokestatic 72, 3), (81, .iconst 2, 1)]
theorem dtX8_calledIn_0_ok : ∀ q ∈ dtX8_calledIn_0, decode cX8_calledIn q.1 = .ok q.2 := by decide +kernel
theorem dX8_calledIn_0 : decode cX8_calledIn 0 = .ok (.iload_n 1, 1) := dg dtX8_calledIn_0_ok 0 rfl
theorem dX8_calledIn_1 : decode cX8_calledIn 1 = .ok (.i2l, 1) := dg dtX8_calledIn_0_ok 1 rfl
theorem dX8_calledIn_2 : decode cX8_calledIn 2 = .ok (.lconst 1, 1) := dg dtX8_calledIn_0_ok 2 rfl
theorem dX8_calledIn_3 : decode cX8_calledIn 3 = .ok (.ldc2_w 34, 3) := dg dtX8_calledIn_0_ok 3 rfl
theorem dX8_calledIn_6 : decode cX8_calledIn 6 = .ok (.invokestatic 47, 3) := dg dtX8_calledIn_0_ok 4 rfl
theorem dX8_calledIn_9 : decode cX8_calledIn 9 = .ok (.ifCond .ne 6, 3) := dg dtX8_calledIn_0_ok 5 rfl
theorem dX8_calledIn_12 : decode cX8_calledIn 12 = .ok (.ldc 103, 2) := dg dtX8_calledIn_0_ok 6 rfl
theorem dX8_calledIn_14 : decode cX8_calledIn 14 = .ok (.ireturn, 1) := dg dtX8_calledIn_0_ok 7 rfl
theorem dX8_calledIn_15 : decode cX8_calledIn 15 = .ok (.aload_n 0, 1) := dg dtX8_calledIn_0_ok 8 rfl
theorem dX8_calledIn_16 : decode cX8_calledIn 16 = .ok (.getfield 7, 3) := dg dtX8_calledIn_0_ok 9 rfl
theorem dX8_calledIn_19 : decode cX8_calledIn 19 = .ok (.iconst 0, 1) := dg dtX8_calledIn_0_ok 10 rfl
theorem dX8_calledIn_20 : decode cX8_calledIn 20 = .ok (.laload, 1) := dg dtX8_calledIn_0_ok 11 rfl
theorem dX8_calledIn_21 : decode cX8_calledIn 21 = .ok (.iload_n 1, 1) := dg dtX8_calledIn_0_ok 12 rfl
theorem dX8_calledIn_22 : decode cX8_calledIn 22 = .ok (.i2l, 1) := dg dtX8_calledIn_0_ok 13 rfl
theorem dX8_calledIn_23 : decode cX8_calledIn 23 = .ok (.ladd, 1) := dg dtX8_calledIn_0_ok 14 rfl
theorem dX8_calledIn_24 : decode cX8_calledIn 24 = .ok (.lstore_n 2, 1) := dg dtX8_calledIn_0_ok 15 rfl
theorem dX8_calledIn_25 : decode cX8_calledIn 25 = .ok (.lconst 0, 1) := dg dtX8_calledIn_0_ok 16 rfl
theorem dX8_calledIn_26 : decode cX8_calledIn 26 = .ok (.lstore 4, 2) := dg dtX8_calledIn_0_ok 17 rfl
theorem dX8_calledIn_28 : decode cX8_calledIn 28 = .ok (.iconst 0, 1) := dg dtX8_calledIn_0_ok 18 rfl
theorem dX8_calledIn_29 : decode cX8_calledIn 29 = .ok (.istore 6, 2) := dg dtX8_calledIn_0_ok 19 rfl
theorem dX8_calledIn_31 : decode cX8_calledIn 31 = .ok (.iload 6, 2) := dg dtX8_calledIn_0_ok 20 rfl
theorem dX8_calledIn_33 : decode cX8_calledIn 33 = .ok (.i2l, 1) := dg dtX8_calledIn_0_ok 21 rfl
theorem dX8_calledIn_34 : decode cX8_calledIn 34 = .ok (.aload_n 0, 1) := dg dtX8_calledIn_0_ok 22 rfl
theorem dX8_calledIn_35 : decode cX8_calledIn 35 = .ok (.getfield 7, 3) := dg dtX8_calledIn_0_ok 23 rfl
theorem dX8_calledIn_38 : decode cX8_calledIn 38 = .ok (.iconst 3, 1) := dg dtX8_calledIn_0_ok 24 rfl
theorem dX8_calledIn_39 : decode cX8_calledIn 39 = .ok (.laload, 1) := dg dtX8_calledIn_0_ok 25 rfl
theorem dX8_calledIn_40 : decode cX8_calledIn 40 = .ok (.lcmp, 1) := dg dtX8_calledIn_0_ok 26 rfl
theorem dX8_calledIn_41 : decode cX8_calledIn 41 = .ok (.ifCond .ge 56, 3) := dg dtX8_calledIn_0_ok 27 rfl
theorem dX8_calledIn_44 : decode cX8_calledIn 44 = .ok (.lload 4, 2) := dg dtX8_calledIn_0_ok 28 rfl
theorem dX8_calledIn_46 : decode cX8_calledIn 46 = .ok (.aload_n 0, 1) := dg dtX8_calledIn_0_ok 29 rfl
theorem dX8_calledIn_47 : decode cX8_calledIn 47 = .ok (.iload 6, 2) := dg dtX8_calledIn_0_ok 30 rfl
theorem dX8_calledIn_49 : decode cX8_calledIn 49 = .ok (.invokevirtual 75, 3) := dg dtX8_calledIn_0_ok 31 rfl
theorem dX8_calledIn_52 : decode cX8_calledIn 52 = .ok (.ifCond .eq 35, 3) := dg dtX8_calledIn_0_ok 32 rfl
theorem dX8_calledIn_55 : decode cX8_calledIn 55 = .ok (.aload_n 0, 1) := dg dtX8_calledIn_0_ok 33 rfl
theorem dX8_calledIn_56 : decode cX8_calledIn 56 = .ok (.getfield 7, 3) := dg dtX8_calledIn_0_ok 34 rfl
theorem dX8_calledIn_59 : decode cX8_calledIn 59 = .ok (.iload 6, 2) := dg dtX8_calledIn_0_ok 35 rfl
theorem dX8_calledIn_61 : decode cX8_calledIn 61 = .ok (.invokestatic 72, 3) := dg dtX8_calledIn_0_ok 36 rfl
theorem dX8_calledIn_64 : decode cX8_calledIn 64 = .ok (.iconst 3, 1) := dg dtX8_calledIn_0_ok 37 rfl
theorem dX8_calledIn_65 : decode cX8_calledIn 65 = .ok (.iadd, 1) := dg dtX8_calledIn_0_ok 38 rfl
theorem dX8_calledIn_66 : decode cX8_calledIn 66 = .ok (.laload, 1) := dg dtX8_calledIn_0_ok 39 rfl
theorem dX8_calledIn_67 : decode cX8_calledIn 67 = .ok (.lload_n 2, 1) := dg dtX8_calledIn_0_ok 40 rfl
theorem dX8_calledIn_68 : decode cX8_calledIn 68 = .ok (.lcmp, 1) := dg dtX8_calledIn_0_ok 41 rfl
theorem dX8_calledIn_69 : decode cX8_calledIn 69 = .ok (.ifCond .ge 18, 3) := dg dtX8_calledIn_0_ok 42 rfl
theorem dX8_calledIn_72 : decode cX8_calledIn 72 = .ok (.aload_n 0, 1) := dg dtX8_calledIn_0_ok 43 rfl
theorem dX8_calledIn_73 : decode cX8_calledIn 73 = .ok (.getfield 7, 3) := dg dtX8_calledIn_0_ok 44 rfl
theorem dX8_calledIn_76 : decode cX8_calledIn 76 = .ok (.iload 6, 2) := dg dtX8_calledIn_0_ok 45 rfl
theorem dX8_calledIn_78 : decode cX8_calledIn 78 = .ok (.invokestatic 72, 3) := dg dtX8_calledIn_0_ok 46 rfl
theorem dX8_calledIn_81 : decode cX8_calledIn 81 = .ok (.iconst 2, 1) := dg dtX8_calledIn_0_ok 47 rfl
def dtX8_calledIn_1 : List (Nat × Instr × Nat) := [(82, .iadd, 1), (83, .laload, 1), (84, .goto 4, 3), (87, .lconst 0, 1), (88, .ladd, 1), (89, .lstore 4, 2), (91, .iinc 6 1, 3), (94, .goto (-63), 3), (97, .iconst 0, 1), (98, .istore 6, 2), (100, .iload 6, 2), (102, .i2l, 1), (103, .aload_n 0, 1), (104, .getfield 7, 3), (107, .iconst 2, 1), (108, .laload, 1), (109, .lcmp, 1), (110, .ifCond .ge 47, 3), (113, .lload 4, 2), (115, .aload_n 0, 1), (116, .getfield 7, 3), (119, .iload 6, 2), (121, .invokestatic 65, 3), (124, .iconst 5, 1), (125, .iadd, 1), (126, .laload, 1), (127, .lload_n 2, 1), (128, .lcmp, 1), (129, .ifCond .ge 18, 3), (132, .aload_n 0, 1), (133, .iload 6, 2), (135, .aload_n 0, 1), (136, .iload 6, 2), (138, .invokevirtual 79, 3), (141, .invokevirtual 83, 3), (144, .goto 4, 3), (147, .lconst 0, 1), (148, .ladd, 1), (149, .lstore 4, 2), (151, .iinc 6 1, 3), (154, .goto (-54), 3), (157, .lload 4, 2), (159, .l2i, 1), (160, .ireturn, 1)]
theorem dtX8_calledIn_1_ok : ∀ q ∈ dtX8_calledIn_1, decode cX8_calledIn q.1 = .ok q.2 := by decide +kernel
theorem dX8_calledIn_82 : decode cX8_calledIn 82 = .ok (.iadd, 1) := dg dtX8_calledIn_1_ok 0 rfl
theorem dX8_calledIn_83 : decode cX8_calledIn 83 = .ok (.laload, 1) := dg dtX8_calledIn_1_ok 1 rfl
theorem dX8_calledIn_84 : decode cX8_calledIn 84 = .ok (.goto 4, 3) := dg dtX8_calledIn_1_ok 2 rfl
theorem dX8_calledIn_87 : decode cX8_calledIn 87 = .ok (.lconst 0, 1) := dg dtX8_calledIn_1_ok 3 rfl
theorem dX8_calledIn_88 : decode cX8_calledIn 88 = .ok (.ladd, 1) := dg dtX8_calledIn_1_ok 4 rfl
theorem dX8_calledIn_89 : decode cX8_calledIn 89 = .ok (.lstore 4, 2) := dg dtX8_calledIn_1_ok 5 rfl
theorem dX8_calledIn_91 : decode cX8_calledIn 91 = .ok (.iinc 6 1, 3) := dg dtX8_calledIn_1_ok 6 rfl
theorem dX8_calledIn_94 : decode cX8_calledIn 94 = .ok (.goto (-63), 3) := dg dtX8_calledIn_1_ok 7 rfl
theorem dX8_calledIn_97 : decode cX8_calledIn 97 = .ok (.iconst 0, 1) := dg dtX8_calledIn_1_ok 8 rfl
theorem dX8_calledIn_98 : decode cX8_calledIn 98 = .ok (.istore 6, 2) := dg dtX8_calledIn_1_ok 9 rfl
theorem dX8_calledIn_100 : decode cX8_calledIn 100 = .ok (.iload 6, 2) := dg dtX8_calledIn_1_ok 10 rfl
theorem dX8_calledIn_102 : decode cX8_calledIn 102 = .ok (.i2l, 1) := dg dtX8_calledIn_1_ok 11 rfl
theorem dX8_calledIn_103 : decode cX8_calledIn 103 = .ok (.aload_n 0, 1) := dg dtX8_calledIn_1_ok 12 rfl
theorem dX8_calledIn_104 : decode cX8_calledIn 104 = .ok (.getfield 7, 3) := dg dtX8_calledIn_1_ok 13 rfl
theorem dX8_calledIn_107 : decode cX8_calledIn 107 = .ok (.iconst 2, 1) := dg dtX8_calledIn_1_ok 14 rfl
theorem dX8_calledIn_108 : decode cX8_calledIn 108 = .ok (.laload, 1) := dg dtX8_calledIn_1_ok 15 rfl
theorem dX8_calledIn_109 : decode cX8_calledIn 109 = .ok (.lcmp, 1) := dg dtX8_calledIn_1_ok 16 rfl
theorem dX8_calledIn_110 : decode cX8_calledIn 110 = .ok (.ifCond .ge 47, 3) := dg dtX8_calledIn_1_ok 17 rfl
theorem dX8_calledIn_113 : decode cX8_calledIn 113 = .ok (.lload 4, 2) := dg dtX8_calledIn_1_ok 18 rfl
theorem dX8_calledIn_115 : decode cX8_calledIn 115 = .ok (.aload_n 0, 1) := dg dtX8_calledIn_1_ok 19 rfl
theorem dX8_calledIn_116 : decode cX8_calledIn 116 = .ok (.getfield 7, 3) := dg dtX8_calledIn_1_ok 20 rfl
theorem dX8_calledIn_119 : decode cX8_calledIn 119 = .ok (.iload 6, 2) := dg dtX8_calledIn_1_ok 21 rfl
theorem dX8_calledIn_121 : decode cX8_calledIn 121 = .ok (.invokestatic 65, 3) := dg dtX8_calledIn_1_ok 22 rfl
theorem dX8_calledIn_124 : decode cX8_calledIn 124 = .ok (.iconst 5, 1) := dg dtX8_calledIn_1_ok 23 rfl
theorem dX8_calledIn_125 : decode cX8_calledIn 125 = .ok (.iadd, 1) := dg dtX8_calledIn_1_ok 24 rfl
theorem dX8_calledIn_126 : decode cX8_calledIn 126 = .ok (.laload, 1) := dg dtX8_calledIn_1_ok 25 rfl
theorem dX8_calledIn_127 : decode cX8_calledIn 127 = .ok (.lload_n 2, 1) := dg dtX8_calledIn_1_ok 26 rfl
theorem dX8_calledIn_128 : decode cX8_calledIn 128 = .ok (.lcmp, 1) := dg dtX8_calledIn_1_ok 27 rfl
theorem dX8_calledIn_129 : decode cX8_calledIn 129 = .ok (.ifCond .ge 18, 3) := dg dtX8_calledIn_1_ok 28 rfl
theorem dX8_calledIn_132 : decode cX8_calledIn 132 = .ok (.aload_n 0, 1) := dg dtX8_calledIn_1_ok 29 rfl
theorem dX8_calledIn_133 : decode cX8_calledIn 133 = .ok (.iload 6, 2) := dg dtX8_calledIn_1_ok 30 rfl
theorem dX8_calledIn_135 : decode cX8_calledIn 135 = .ok (.aload_n 0, 1) := dg dtX8_calledIn_1_ok 31 rfl
theorem dX8_calledIn_136 : decode cX8_calledIn 136 = .ok (.iload 6, 2) := dg dtX8_calledIn_1_ok 32 rfl
theorem dX8_calledIn_138 : decode cX8_calledIn 138 = .ok (.invokevirtual 79, 3) := dg dtX8_calledIn_1_ok 33 rfl
theorem dX8_calledIn_141 : decode cX8_calledIn 141 = .ok (.invokevirtual 83, 3) := dg dtX8_calledIn_1_ok 34 rfl
theorem dX8_calledIn_144 : decode cX8_calledIn 144 = .ok (.goto 4, 3) := dg dtX8_calledIn_1_ok 35 rfl
theorem dX8_calledIn_147 : decode cX8_calledIn 147 = .ok (.lconst 0, 1) := dg dtX8_calledIn_1_ok 36 rfl
theorem dX8_calledIn_148 : decode cX8_calledIn 148 = .ok (.ladd, 1) := dg dtX8_calledIn_1_ok 37 rfl
theorem dX8_calledIn_149 : decode cX8_calledIn 149 = .ok (.lstore 4, 2) := dg dtX8_calledIn_1_ok 38 rfl
theorem dX8_calledIn_151 : decode cX8_calledIn 151 = .ok (.iinc 6 1, 3) := dg dtX8_calledIn_1_ok 39 rfl
theorem dX8_calledIn_154 : decode cX8_calledIn 154 = .ok (.goto (-54), 3) := dg dtX8_calledIn_1_ok 40 rfl
theorem dX8_calledIn_157 : decode cX8_calledIn 157 = .ok (.lload 4, 2) := dg dtX8_calledIn_1_ok 41 rfl
theorem dX8_calledIn_159 : decode cX8_calledIn 159 = .ok (.l2i, 1) := dg dtX8_calledIn_1_ok 42 rfl
theorem dX8_calledIn_160 : decode cX8_calledIn 160 = .ok (.ireturn, 1) := dg dtX8_calledIn_1_ok 43 rfl
def dtX8_greatestValue_0 : List (Nat × Instr × Nat) := [(0, .aload_n 0, 1), (1, .iload_n 1, 1), (2, .invokevirtual 98, 3), (5, .ifCond .ne 10, 3), (8, .iload_n 2, 1), (9, .invokestatic 116, 3), (12, .ifCond .eq 6, 3), (15, .ldc 51, 2), (17, .ireturn, 1), (18, .aload_n 0, 1), (19, .iload_n 1, 1), (20, .invokevirtual 106, 3), (23, .lstore_n 3, 1), (24, .iconst (-1), 1), (25, .istore 5, 2), (27, .ldc 242, 2), (29, .istore 6, 2), (31, .iload 5, 2), (33, .iload 6, 2), (35, .if_icmp .ge 70, 3), (38, .iload 5, 2), (40, .iload 6, 2), (42, .iload 5, 2), (44, .isub, 1), (45, .iconst 1, 1), (46, .iadd, 1), (47, .iconst 2, 1), (48, .idiv, 1), (49, .iadd, 1), (50, .istore 7, 2), (52, .aload_n 0, 1), (53, .lload_n 3, 1), (54, .iload 7, 2), (56, .i2l, 1), (57, .aload_n 0, 1), (58, .getfield 7, 3), (61, .bipush 14, 2), (63, .iload_n 2, 1), (64, .iadd, 1), (65, .laload, 1), (66, .lmul, 1), (67, .ldc2_w 119, 3), (70, .ldiv, 1), (71, .ladd, 1), (72, .aload_n 0, 1), (73, .getfield 7, 3), (76, .iload_n 1, 1), (77, .invokestatic 94, 3)]
theorem dtX8_greatestValue_0_ok : ∀ q ∈ dtX8_greatestValue_0, decode cX8_greatestValue q.1 = .ok q.2 := by decide +kernel
theorem dX8_greatestValue_0 : decode cX8_greatestValue 0 = .ok (.aload_n 0, 1) := dg dtX8_greatestValue_0_ok 0 rfl
theorem dX8_greatestValue_1 : decode cX8_greatestValue 1 = .ok (.iload_n 1, 1) := dg dtX8_greatestValue_0_ok 1 rfl
theorem dX8_greatestValue_2 : decode cX8_greatestValue 2 = .ok (.invokevirtual 98, 3) := dg dtX8_greatestValue_0_ok 2 rfl
theorem dX8_greatestValue_5 : decode cX8_greatestValue 5 = .ok (.ifCond .ne 10, 3) := dg dtX8_greatestValue_0_ok 3 rfl
theorem dX8_greatestValue_8 : decode cX8_greatestValue 8 = .ok (.iload_n 2, 1) := dg dtX8_greatestValue_0_ok 4 rfl
theorem dX8_greatestValue_9 : decode cX8_greatestValue 9 = .ok (.invokestatic 116, 3) := dg dtX8_greatestValue_0_ok 5 rfl
theorem dX8_greatestValue_12 : decode cX8_greatestValue 12 = .ok (.ifCond .eq 6, 3) := dg dtX8_greatestValue_0_ok 6 rfl
theorem dX8_greatestValue_15 : decode cX8_greatestValue 15 = .ok (.ldc 51, 2) := dg dtX8_greatestValue_0_ok 7 rfl
theorem dX8_greatestValue_17 : decode cX8_greatestValue 17 = .ok (.ireturn, 1) := dg dtX8_greatestValue_0_ok 8 rfl
theorem dX8_greatestValue_18 : decode cX8_greatestValue 18 = .ok (.aload_n 0, 1) := dg dtX8_greatestValue_0_ok 9 rfl
theorem dX8_greatestValue_19 : decode cX8_greatestValue 19 = .ok (.iload_n 1, 1) := dg dtX8_greatestValue_0_ok 10 rfl
theorem dX8_greatestValue_20 : decode cX8_greatestValue 20 = .ok (.invokevirtual 106, 3) := dg dtX8_greatestValue_0_ok 11 rfl
theorem dX8_greatestValue_23 : decode cX8_greatestValue 23 = .ok (.lstore_n 3, 1) := dg dtX8_greatestValue_0_ok 12 rfl
theorem dX8_greatestValue_24 : decode cX8_greatestValue 24 = .ok (.iconst (-1), 1) := dg dtX8_greatestValue_0_ok 13 rfl
theorem dX8_greatestValue_25 : decode cX8_greatestValue 25 = .ok (.istore 5, 2) := dg dtX8_greatestValue_0_ok 14 rfl
theorem dX8_greatestValue_27 : decode cX8_greatestValue 27 = .ok (.ldc 242, 2) := dg dtX8_greatestValue_0_ok 15 rfl
theorem dX8_greatestValue_29 : decode cX8_greatestValue 29 = .ok (.istore 6, 2) := dg dtX8_greatestValue_0_ok 16 rfl
theorem dX8_greatestValue_31 : decode cX8_greatestValue 31 = .ok (.iload 5, 2) := dg dtX8_greatestValue_0_ok 17 rfl
theorem dX8_greatestValue_33 : decode cX8_greatestValue 33 = .ok (.iload 6, 2) := dg dtX8_greatestValue_0_ok 18 rfl
theorem dX8_greatestValue_35 : decode cX8_greatestValue 35 = .ok (.if_icmp .ge 70, 3) := dg dtX8_greatestValue_0_ok 19 rfl
theorem dX8_greatestValue_38 : decode cX8_greatestValue 38 = .ok (.iload 5, 2) := dg dtX8_greatestValue_0_ok 20 rfl
theorem dX8_greatestValue_40 : decode cX8_greatestValue 40 = .ok (.iload 6, 2) := dg dtX8_greatestValue_0_ok 21 rfl
theorem dX8_greatestValue_42 : decode cX8_greatestValue 42 = .ok (.iload 5, 2) := dg dtX8_greatestValue_0_ok 22 rfl
theorem dX8_greatestValue_44 : decode cX8_greatestValue 44 = .ok (.isub, 1) := dg dtX8_greatestValue_0_ok 23 rfl
theorem dX8_greatestValue_45 : decode cX8_greatestValue 45 = .ok (.iconst 1, 1) := dg dtX8_greatestValue_0_ok 24 rfl
theorem dX8_greatestValue_46 : decode cX8_greatestValue 46 = .ok (.iadd, 1) := dg dtX8_greatestValue_0_ok 25 rfl
theorem dX8_greatestValue_47 : decode cX8_greatestValue 47 = .ok (.iconst 2, 1) := dg dtX8_greatestValue_0_ok 26 rfl
theorem dX8_greatestValue_48 : decode cX8_greatestValue 48 = .ok (.idiv, 1) := dg dtX8_greatestValue_0_ok 27 rfl
theorem dX8_greatestValue_49 : decode cX8_greatestValue 49 = .ok (.iadd, 1) := dg dtX8_greatestValue_0_ok 28 rfl
theorem dX8_greatestValue_50 : decode cX8_greatestValue 50 = .ok (.istore 7, 2) := dg dtX8_greatestValue_0_ok 29 rfl
theorem dX8_greatestValue_52 : decode cX8_greatestValue 52 = .ok (.aload_n 0, 1) := dg dtX8_greatestValue_0_ok 30 rfl
theorem dX8_greatestValue_53 : decode cX8_greatestValue 53 = .ok (.lload_n 3, 1) := dg dtX8_greatestValue_0_ok 31 rfl
theorem dX8_greatestValue_54 : decode cX8_greatestValue 54 = .ok (.iload 7, 2) := dg dtX8_greatestValue_0_ok 32 rfl
theorem dX8_greatestValue_56 : decode cX8_greatestValue 56 = .ok (.i2l, 1) := dg dtX8_greatestValue_0_ok 33 rfl
theorem dX8_greatestValue_57 : decode cX8_greatestValue 57 = .ok (.aload_n 0, 1) := dg dtX8_greatestValue_0_ok 34 rfl
theorem dX8_greatestValue_58 : decode cX8_greatestValue 58 = .ok (.getfield 7, 3) := dg dtX8_greatestValue_0_ok 35 rfl
theorem dX8_greatestValue_61 : decode cX8_greatestValue 61 = .ok (.bipush 14, 2) := dg dtX8_greatestValue_0_ok 36 rfl
theorem dX8_greatestValue_63 : decode cX8_greatestValue 63 = .ok (.iload_n 2, 1) := dg dtX8_greatestValue_0_ok 37 rfl
theorem dX8_greatestValue_64 : decode cX8_greatestValue 64 = .ok (.iadd, 1) := dg dtX8_greatestValue_0_ok 38 rfl
theorem dX8_greatestValue_65 : decode cX8_greatestValue 65 = .ok (.laload, 1) := dg dtX8_greatestValue_0_ok 39 rfl
theorem dX8_greatestValue_66 : decode cX8_greatestValue 66 = .ok (.lmul, 1) := dg dtX8_greatestValue_0_ok 40 rfl
theorem dX8_greatestValue_67 : decode cX8_greatestValue 67 = .ok (.ldc2_w 119, 3) := dg dtX8_greatestValue_0_ok 41 rfl
theorem dX8_greatestValue_70 : decode cX8_greatestValue 70 = .ok (.ldiv, 1) := dg dtX8_greatestValue_0_ok 42 rfl
theorem dX8_greatestValue_71 : decode cX8_greatestValue 71 = .ok (.ladd, 1) := dg dtX8_greatestValue_0_ok 43 rfl
theorem dX8_greatestValue_72 : decode cX8_greatestValue 72 = .ok (.aload_n 0, 1) := dg dtX8_greatestValue_0_ok 44 rfl
theorem dX8_greatestValue_73 : decode cX8_greatestValue 73 = .ok (.getfield 7, 3) := dg dtX8_greatestValue_0_ok 45 rfl
theorem dX8_greatestValue_76 : decode cX8_greatestValue 76 = .ok (.iload_n 1, 1) := dg dtX8_greatestValue_0_ok 46 rfl
theorem dX8_greatestValue_77 : decode cX8_greatestValue 77 = .ok (.invokestatic 94, 3) := dg dtX8_greatestValue_0_ok 47 rfl
def dtX8_greatestValue_1 : List (Nat × Instr × Nat) := [(80, .iconst 1, 1), (81, .iadd, 1), (82, .laload, 1), (83, .invokevirtual 109, 3), (86, .ifCond .eq 10, 3), (89, .iload 7, 2), (91, .istore 5, 2), (93, .goto 9, 3), (96, .iload 7, 2), (98, .iconst 1, 1), (99, .isub, 1), (100, .istore 6, 2), (102, .goto (-71), 3), (105, .iload 5, 2), (107, .ifCond .ge 8, 3), (110, .ldc 46, 2), (112, .goto 5, 3), (115, .iload 5, 2), (117, .ireturn, 1)]
theorem dtX8_greatestValue_1_ok : ∀ q ∈ dtX8_greatestValue_1, decode cX8_greatestValue q.1 = .ok q.2 := by decide +kernel
theorem dX8_greatestValue_80 : decode cX8_greatestValue 80 = .ok (.iconst 1, 1) := dg dtX8_greatestValue_1_ok 0 rfl
theorem dX8_greatestValue_81 : decode cX8_greatestValue 81 = .ok (.iadd, 1) := dg dtX8_greatestValue_1_ok 1 rfl
theorem dX8_greatestValue_82 : decode cX8_greatestValue 82 = .ok (.laload, 1) := dg dtX8_greatestValue_1_ok 2 rfl
theorem dX8_greatestValue_83 : decode cX8_greatestValue 83 = .ok (.invokevirtual 109, 3) := dg dtX8_greatestValue_1_ok 3 rfl
theorem dX8_greatestValue_86 : decode cX8_greatestValue 86 = .ok (.ifCond .eq 10, 3) := dg dtX8_greatestValue_1_ok 4 rfl
theorem dX8_greatestValue_89 : decode cX8_greatestValue 89 = .ok (.iload 7, 2) := dg dtX8_greatestValue_1_ok 5 rfl
theorem dX8_greatestValue_91 : decode cX8_greatestValue 91 = .ok (.istore 5, 2) := dg dtX8_greatestValue_1_ok 6 rfl
theorem dX8_greatestValue_93 : decode cX8_greatestValue 93 = .ok (.goto 9, 3) := dg dtX8_greatestValue_1_ok 7 rfl
theorem dX8_greatestValue_96 : decode cX8_greatestValue 96 = .ok (.iload 7, 2) := dg dtX8_greatestValue_1_ok 8 rfl
theorem dX8_greatestValue_98 : decode cX8_greatestValue 98 = .ok (.iconst 1, 1) := dg dtX8_greatestValue_1_ok 9 rfl
theorem dX8_greatestValue_99 : decode cX8_greatestValue 99 = .ok (.isub, 1) := dg dtX8_greatestValue_1_ok 10 rfl
theorem dX8_greatestValue_100 : decode cX8_greatestValue 100 = .ok (.istore 6, 2) := dg dtX8_greatestValue_1_ok 11 rfl
theorem dX8_greatestValue_102 : decode cX8_greatestValue 102 = .ok (.goto (-71), 3) := dg dtX8_greatestValue_1_ok 12 rfl
theorem dX8_greatestValue_105 : decode cX8_greatestValue 105 = .ok (.iload 5, 2) := dg dtX8_greatestValue_1_ok 13 rfl
theorem dX8_greatestValue_107 : decode cX8_greatestValue 107 = .ok (.ifCond .ge 8, 3) := dg dtX8_greatestValue_1_ok 14 rfl
theorem dX8_greatestValue_110 : decode cX8_greatestValue 110 = .ok (.ldc 46, 2) := dg dtX8_greatestValue_1_ok 15 rfl
theorem dX8_greatestValue_112 : decode cX8_greatestValue 112 = .ok (.goto 5, 3) := dg dtX8_greatestValue_1_ok 16 rfl
theorem dX8_greatestValue_115 : decode cX8_greatestValue 115 = .ok (.iload 5, 2) := dg dtX8_greatestValue_1_ok 17 rfl
theorem dX8_greatestValue_117 : decode cX8_greatestValue 117 = .ok (.ireturn, 1) := dg dtX8_greatestValue_1_ok 18 rfl
def dtX8_account_0 : List (Nat × Instr × Nat) := [(0, .iload_n 1, 1), (1, .iconst 4, 1), (2, .if_icmp .eq 14, 3), (5, .iload_n 1, 1), (6, .iconst 5, 1), (7, .if_icmp .eq 9, 3), (10, .iload_n 1, 1), (11, .bipush 6, 2), (13, .if_icmp .ne 15, 3), (16, .aload_n 0, 1), (17, .getfield 7, 3), (20, .bipush 10, 2), (22, .iload_n 1, 1), (23, .iadd, 1), (24, .iconst 4, 1), (25, .isub, 1), (26, .laload, 1), (27, .lreturn, 1), (28, .iload_n 1, 1), (29, .i2l, 1), (30, .lconst 0, 1), (31, .ldc2_w 287, 3), (34, .invokestatic 47, 3), (37, .ifCond .ne 7, 3), (40, .ldc2_w 261, 3), (43, .lreturn, 1), (44, .lconst 0, 1), (45, .lstore_n 2, 1), (46, .iconst 0, 1), (47, .istore 4, 2), (49, .iload 4, 2), (51, .i2l, 1), (52, .aload_n 0, 1), (53, .getfield 7, 3), (56, .iconst 2, 1), (57, .laload, 1), (58, .lcmp, 1), (59, .ifCond .ge 61, 3), (62, .lload_n 2, 1), (63, .iload_n 1, 1), (64, .ifCond .ne 19, 3), (67, .aload_n 0, 1), (68, .getfield 7, 3), (71, .iload 4, 2), (73, .invokestatic 65, 3), (76, .bipush 6, 2), (78, .iadd, 1), (79, .laload, 1)]
theorem dtX8_account_0_ok : ∀ q ∈ dtX8_account_0, decode cX8_account q.1 = .ok q.2 := by decide +kernel
theorem dX8_account_0 : decode cX8_account 0 = .ok (.iload_n 1, 1) := dg dtX8_account_0_ok 0 rfl
theorem dX8_account_1 : decode cX8_account 1 = .ok (.iconst 4, 1) := dg dtX8_account_0_ok 1 rfl
theorem dX8_account_2 : decode cX8_account 2 = .ok (.if_icmp .eq 14, 3) := dg dtX8_account_0_ok 2 rfl
theorem dX8_account_5 : decode cX8_account 5 = .ok (.iload_n 1, 1) := dg dtX8_account_0_ok 3 rfl
theorem dX8_account_6 : decode cX8_account 6 = .ok (.iconst 5, 1) := dg dtX8_account_0_ok 4 rfl
theorem dX8_account_7 : decode cX8_account 7 = .ok (.if_icmp .eq 9, 3) := dg dtX8_account_0_ok 5 rfl
theorem dX8_account_10 : decode cX8_account 10 = .ok (.iload_n 1, 1) := dg dtX8_account_0_ok 6 rfl
theorem dX8_account_11 : decode cX8_account 11 = .ok (.bipush 6, 2) := dg dtX8_account_0_ok 7 rfl
theorem dX8_account_13 : decode cX8_account 13 = .ok (.if_icmp .ne 15, 3) := dg dtX8_account_0_ok 8 rfl
theorem dX8_account_16 : decode cX8_account 16 = .ok (.aload_n 0, 1) := dg dtX8_account_0_ok 9 rfl
theorem dX8_account_17 : decode cX8_account 17 = .ok (.getfield 7, 3) := dg dtX8_account_0_ok 10 rfl
theorem dX8_account_20 : decode cX8_account 20 = .ok (.bipush 10, 2) := dg dtX8_account_0_ok 11 rfl
theorem dX8_account_22 : decode cX8_account 22 = .ok (.iload_n 1, 1) := dg dtX8_account_0_ok 12 rfl
theorem dX8_account_23 : decode cX8_account 23 = .ok (.iadd, 1) := dg dtX8_account_0_ok 13 rfl
theorem dX8_account_24 : decode cX8_account 24 = .ok (.iconst 4, 1) := dg dtX8_account_0_ok 14 rfl
theorem dX8_account_25 : decode cX8_account 25 = .ok (.isub, 1) := dg dtX8_account_0_ok 15 rfl
theorem dX8_account_26 : decode cX8_account 26 = .ok (.laload, 1) := dg dtX8_account_0_ok 16 rfl
theorem dX8_account_27 : decode cX8_account 27 = .ok (.lreturn, 1) := dg dtX8_account_0_ok 17 rfl
theorem dX8_account_28 : decode cX8_account 28 = .ok (.iload_n 1, 1) := dg dtX8_account_0_ok 18 rfl
theorem dX8_account_29 : decode cX8_account 29 = .ok (.i2l, 1) := dg dtX8_account_0_ok 19 rfl
theorem dX8_account_30 : decode cX8_account 30 = .ok (.lconst 0, 1) := dg dtX8_account_0_ok 20 rfl
theorem dX8_account_31 : decode cX8_account 31 = .ok (.ldc2_w 287, 3) := dg dtX8_account_0_ok 21 rfl
theorem dX8_account_34 : decode cX8_account 34 = .ok (.invokestatic 47, 3) := dg dtX8_account_0_ok 22 rfl
theorem dX8_account_37 : decode cX8_account 37 = .ok (.ifCond .ne 7, 3) := dg dtX8_account_0_ok 23 rfl
theorem dX8_account_40 : decode cX8_account 40 = .ok (.ldc2_w 261, 3) := dg dtX8_account_0_ok 24 rfl
theorem dX8_account_43 : decode cX8_account 43 = .ok (.lreturn, 1) := dg dtX8_account_0_ok 25 rfl
theorem dX8_account_44 : decode cX8_account 44 = .ok (.lconst 0, 1) := dg dtX8_account_0_ok 26 rfl
theorem dX8_account_45 : decode cX8_account 45 = .ok (.lstore_n 2, 1) := dg dtX8_account_0_ok 27 rfl
theorem dX8_account_46 : decode cX8_account 46 = .ok (.iconst 0, 1) := dg dtX8_account_0_ok 28 rfl
theorem dX8_account_47 : decode cX8_account 47 = .ok (.istore 4, 2) := dg dtX8_account_0_ok 29 rfl
theorem dX8_account_49 : decode cX8_account 49 = .ok (.iload 4, 2) := dg dtX8_account_0_ok 30 rfl
theorem dX8_account_51 : decode cX8_account 51 = .ok (.i2l, 1) := dg dtX8_account_0_ok 31 rfl
theorem dX8_account_52 : decode cX8_account 52 = .ok (.aload_n 0, 1) := dg dtX8_account_0_ok 32 rfl
theorem dX8_account_53 : decode cX8_account 53 = .ok (.getfield 7, 3) := dg dtX8_account_0_ok 33 rfl
theorem dX8_account_56 : decode cX8_account 56 = .ok (.iconst 2, 1) := dg dtX8_account_0_ok 34 rfl
theorem dX8_account_57 : decode cX8_account 57 = .ok (.laload, 1) := dg dtX8_account_0_ok 35 rfl
theorem dX8_account_58 : decode cX8_account 58 = .ok (.lcmp, 1) := dg dtX8_account_0_ok 36 rfl
theorem dX8_account_59 : decode cX8_account 59 = .ok (.ifCond .ge 61, 3) := dg dtX8_account_0_ok 37 rfl
theorem dX8_account_62 : decode cX8_account 62 = .ok (.lload_n 2, 1) := dg dtX8_account_0_ok 38 rfl
theorem dX8_account_63 : decode cX8_account 63 = .ok (.iload_n 1, 1) := dg dtX8_account_0_ok 39 rfl
theorem dX8_account_64 : decode cX8_account 64 = .ok (.ifCond .ne 19, 3) := dg dtX8_account_0_ok 40 rfl
theorem dX8_account_67 : decode cX8_account 67 = .ok (.aload_n 0, 1) := dg dtX8_account_0_ok 41 rfl
theorem dX8_account_68 : decode cX8_account 68 = .ok (.getfield 7, 3) := dg dtX8_account_0_ok 42 rfl
theorem dX8_account_71 : decode cX8_account 71 = .ok (.iload 4, 2) := dg dtX8_account_0_ok 43 rfl
theorem dX8_account_73 : decode cX8_account 73 = .ok (.invokestatic 65, 3) := dg dtX8_account_0_ok 44 rfl
theorem dX8_account_76 : decode cX8_account 76 = .ok (.bipush 6, 2) := dg dtX8_account_0_ok 45 rfl
theorem dX8_account_78 : decode cX8_account 78 = .ok (.iadd, 1) := dg dtX8_account_0_ok 46 rfl
theorem dX8_account_79 : decode cX8_account 79 = .ok (.laload, 1) := dg dtX8_account_0_ok 47 rfl
def dtX8_account_1 : List (Nat × Instr × Nat) := [(80, .goto 32, 3), (83, .iload_n 1, 1), (84, .iconst 1, 1), (85, .if_icmp .ne 12, 3), (88, .aload_n 0, 1), (89, .iload 4, 2), (91, .invokevirtual 91, 3), (94, .goto 18, 3), (97, .aload_n 0, 1), (98, .getfield 7, 3), (101, .iload 4, 2), (103, .invokestatic 65, 3), (106, .bipush 6, 2), (108, .iadd, 1), (109, .iload_n 1, 1), (110, .iadd, 1), (111, .laload, 1), (112, .ladd, 1), (113, .lstore_n 2, 1), (114, .iinc 4 1, 3), (117, .goto (-68), 3), (120, .lload_n 2, 1), (121, .lreturn, 1)]
theorem dtX8_account_1_ok : ∀ q ∈ dtX8_account_1, decode cX8_account q.1 = .ok q.2 := by decide +kernel
theorem dX8_account_80 : decode cX8_account 80 = .ok (.goto 32, 3) := dg dtX8_account_1_ok 0 rfl
theorem dX8_account_83 : decode cX8_account 83 = .ok (.iload_n 1, 1) := dg dtX8_account_1_ok 1 rfl
theorem dX8_account_84 : decode cX8_account 84 = .ok (.iconst 1, 1) := dg dtX8_account_1_ok 2 rfl
theorem dX8_account_85 : decode cX8_account 85 = .ok (.if_icmp .ne 12, 3) := dg dtX8_account_1_ok 3 rfl
theorem dX8_account_88 : decode cX8_account 88 = .ok (.aload_n 0, 1) := dg dtX8_account_1_ok 4 rfl
theorem dX8_account_89 : decode cX8_account 89 = .ok (.iload 4, 2) := dg dtX8_account_1_ok 5 rfl
theorem dX8_account_91 : decode cX8_account 91 = .ok (.invokevirtual 91, 3) := dg dtX8_account_1_ok 6 rfl
theorem dX8_account_94 : decode cX8_account 94 = .ok (.goto 18, 3) := dg dtX8_account_1_ok 7 rfl
theorem dX8_account_97 : decode cX8_account 97 = .ok (.aload_n 0, 1) := dg dtX8_account_1_ok 8 rfl
theorem dX8_account_98 : decode cX8_account 98 = .ok (.getfield 7, 3) := dg dtX8_account_1_ok 9 rfl
theorem dX8_account_101 : decode cX8_account 101 = .ok (.iload 4, 2) := dg dtX8_account_1_ok 10 rfl
theorem dX8_account_103 : decode cX8_account 103 = .ok (.invokestatic 65, 3) := dg dtX8_account_1_ok 11 rfl
theorem dX8_account_106 : decode cX8_account 106 = .ok (.bipush 6, 2) := dg dtX8_account_1_ok 12 rfl
theorem dX8_account_108 : decode cX8_account 108 = .ok (.iadd, 1) := dg dtX8_account_1_ok 13 rfl
theorem dX8_account_109 : decode cX8_account 109 = .ok (.iload_n 1, 1) := dg dtX8_account_1_ok 14 rfl
theorem dX8_account_110 : decode cX8_account 110 = .ok (.iadd, 1) := dg dtX8_account_1_ok 15 rfl
theorem dX8_account_111 : decode cX8_account 111 = .ok (.laload, 1) := dg dtX8_account_1_ok 16 rfl
theorem dX8_account_112 : decode cX8_account 112 = .ok (.ladd, 1) := dg dtX8_account_1_ok 17 rfl
theorem dX8_account_113 : decode cX8_account 113 = .ok (.lstore_n 2, 1) := dg dtX8_account_1_ok 18 rfl
theorem dX8_account_114 : decode cX8_account 114 = .ok (.iinc 4 1, 3) := dg dtX8_account_1_ok 19 rfl
theorem dX8_account_117 : decode cX8_account 117 = .ok (.goto (-68), 3) := dg dtX8_account_1_ok 20 rfl
theorem dX8_account_120 : decode cX8_account 120 = .ok (.lload_n 2, 1) := dg dtX8_account_1_ok 21 rfl
theorem dX8_account_121 : decode cX8_account 121 = .ok (.lreturn, 1) := dg dtX8_account_1_ok 22 rfl
def dtX8_count_0 : List (Nat × Instr × Nat) := [(0, .iconst 0, 1), (1, .istore_n 2, 1), (2, .iconst 0, 1), (3, .istore_n 3, 1), (4, .iload_n 3, 1), (5, .i2l, 1), (6, .aload_n 0, 1), (7, .getfield 7, 3), (10, .iconst 3, 1), (11, .laload, 1), (12, .lcmp, 1), (13, .ifCond .ge 25, 3), (16, .iload_n 2, 1), (17, .aload_n 0, 1), (18, .iload_n 3, 1), (19, .invokevirtual 75, 3), (22, .ifCond .eq 7, 3), (25, .iconst 1, 1), (26, .goto 4, 3), (29, .iconst 0, 1), (30, .iadd, 1), (31, .istore_n 2, 1), (32, .iinc 3 1, 3), (35, .goto (-31), 3), (38, .iload_n 1, 1), (39, .tableswitch 67 4 12 #[49, 51, 67, 67, 67, 67, 67, 57, 62], 49), (88, .iload_n 2, 1), (89, .ireturn, 1), (90, .aload_n 0, 1), (91, .iconst 4, 1), (92, .invokevirtual 52, 3), (95, .ireturn, 1), (96, .aload_n 0, 1), (97, .getfield 59, 3), (100, .ireturn, 1), (101, .aload_n 0, 1), (102, .getfield 42, 3), (105, .ireturn, 1), (106, .iload_n 1, 1), (107, .i2l, 1), (108, .lconst 0, 1), (109, .ldc2_w 287, 3), (112, .invokestatic 47, 3), (115, .ifCond .eq 11, 3), (118, .aload_n 0, 1), (119, .iload_n 1, 1), (120, .invokevirtual 52, 3), (123, .goto 29, 3)]
theorem dtX8_count_0_ok : ∀ q ∈ dtX8_count_0, decode cX8_count q.1 = .ok q.2 := by decide +kernel
theorem dX8_count_0 : decode cX8_count 0 = .ok (.iconst 0, 1) := dg dtX8_count_0_ok 0 rfl
theorem dX8_count_1 : decode cX8_count 1 = .ok (.istore_n 2, 1) := dg dtX8_count_0_ok 1 rfl
theorem dX8_count_2 : decode cX8_count 2 = .ok (.iconst 0, 1) := dg dtX8_count_0_ok 2 rfl
theorem dX8_count_3 : decode cX8_count 3 = .ok (.istore_n 3, 1) := dg dtX8_count_0_ok 3 rfl
theorem dX8_count_4 : decode cX8_count 4 = .ok (.iload_n 3, 1) := dg dtX8_count_0_ok 4 rfl
theorem dX8_count_5 : decode cX8_count 5 = .ok (.i2l, 1) := dg dtX8_count_0_ok 5 rfl
theorem dX8_count_6 : decode cX8_count 6 = .ok (.aload_n 0, 1) := dg dtX8_count_0_ok 6 rfl
theorem dX8_count_7 : decode cX8_count 7 = .ok (.getfield 7, 3) := dg dtX8_count_0_ok 7 rfl
theorem dX8_count_10 : decode cX8_count 10 = .ok (.iconst 3, 1) := dg dtX8_count_0_ok 8 rfl
theorem dX8_count_11 : decode cX8_count 11 = .ok (.laload, 1) := dg dtX8_count_0_ok 9 rfl
theorem dX8_count_12 : decode cX8_count 12 = .ok (.lcmp, 1) := dg dtX8_count_0_ok 10 rfl
theorem dX8_count_13 : decode cX8_count 13 = .ok (.ifCond .ge 25, 3) := dg dtX8_count_0_ok 11 rfl
theorem dX8_count_16 : decode cX8_count 16 = .ok (.iload_n 2, 1) := dg dtX8_count_0_ok 12 rfl
theorem dX8_count_17 : decode cX8_count 17 = .ok (.aload_n 0, 1) := dg dtX8_count_0_ok 13 rfl
theorem dX8_count_18 : decode cX8_count 18 = .ok (.iload_n 3, 1) := dg dtX8_count_0_ok 14 rfl
theorem dX8_count_19 : decode cX8_count 19 = .ok (.invokevirtual 75, 3) := dg dtX8_count_0_ok 15 rfl
theorem dX8_count_22 : decode cX8_count 22 = .ok (.ifCond .eq 7, 3) := dg dtX8_count_0_ok 16 rfl
theorem dX8_count_25 : decode cX8_count 25 = .ok (.iconst 1, 1) := dg dtX8_count_0_ok 17 rfl
theorem dX8_count_26 : decode cX8_count 26 = .ok (.goto 4, 3) := dg dtX8_count_0_ok 18 rfl
theorem dX8_count_29 : decode cX8_count 29 = .ok (.iconst 0, 1) := dg dtX8_count_0_ok 19 rfl
theorem dX8_count_30 : decode cX8_count 30 = .ok (.iadd, 1) := dg dtX8_count_0_ok 20 rfl
theorem dX8_count_31 : decode cX8_count 31 = .ok (.istore_n 2, 1) := dg dtX8_count_0_ok 21 rfl
theorem dX8_count_32 : decode cX8_count 32 = .ok (.iinc 3 1, 3) := dg dtX8_count_0_ok 22 rfl
theorem dX8_count_35 : decode cX8_count 35 = .ok (.goto (-31), 3) := dg dtX8_count_0_ok 23 rfl
theorem dX8_count_38 : decode cX8_count 38 = .ok (.iload_n 1, 1) := dg dtX8_count_0_ok 24 rfl
theorem dX8_count_39 : decode cX8_count 39 = .ok (.tableswitch 67 4 12 #[49, 51, 67, 67, 67, 67, 67, 57, 62], 49) := dg dtX8_count_0_ok 25 rfl
theorem dX8_count_88 : decode cX8_count 88 = .ok (.iload_n 2, 1) := dg dtX8_count_0_ok 26 rfl
theorem dX8_count_89 : decode cX8_count 89 = .ok (.ireturn, 1) := dg dtX8_count_0_ok 27 rfl
theorem dX8_count_90 : decode cX8_count 90 = .ok (.aload_n 0, 1) := dg dtX8_count_0_ok 28 rfl
theorem dX8_count_91 : decode cX8_count 91 = .ok (.iconst 4, 1) := dg dtX8_count_0_ok 29 rfl
theorem dX8_count_92 : decode cX8_count 92 = .ok (.invokevirtual 52, 3) := dg dtX8_count_0_ok 30 rfl
theorem dX8_count_95 : decode cX8_count 95 = .ok (.ireturn, 1) := dg dtX8_count_0_ok 31 rfl
theorem dX8_count_96 : decode cX8_count 96 = .ok (.aload_n 0, 1) := dg dtX8_count_0_ok 32 rfl
theorem dX8_count_97 : decode cX8_count 97 = .ok (.getfield 59, 3) := dg dtX8_count_0_ok 33 rfl
theorem dX8_count_100 : decode cX8_count 100 = .ok (.ireturn, 1) := dg dtX8_count_0_ok 34 rfl
theorem dX8_count_101 : decode cX8_count 101 = .ok (.aload_n 0, 1) := dg dtX8_count_0_ok 35 rfl
theorem dX8_count_102 : decode cX8_count 102 = .ok (.getfield 42, 3) := dg dtX8_count_0_ok 36 rfl
theorem dX8_count_105 : decode cX8_count 105 = .ok (.ireturn, 1) := dg dtX8_count_0_ok 37 rfl
theorem dX8_count_106 : decode cX8_count 106 = .ok (.iload_n 1, 1) := dg dtX8_count_0_ok 38 rfl
theorem dX8_count_107 : decode cX8_count 107 = .ok (.i2l, 1) := dg dtX8_count_0_ok 39 rfl
theorem dX8_count_108 : decode cX8_count 108 = .ok (.lconst 0, 1) := dg dtX8_count_0_ok 40 rfl
theorem dX8_count_109 : decode cX8_count 109 = .ok (.ldc2_w 287, 3) := dg dtX8_count_0_ok 41 rfl
theorem dX8_count_112 : decode cX8_count 112 = .ok (.invokestatic 47, 3) := dg dtX8_count_0_ok 42 rfl
theorem dX8_count_115 : decode cX8_count 115 = .ok (.ifCond .eq 11, 3) := dg dtX8_count_0_ok 43 rfl
theorem dX8_count_118 : decode cX8_count 118 = .ok (.aload_n 0, 1) := dg dtX8_count_0_ok 44 rfl
theorem dX8_count_119 : decode cX8_count 119 = .ok (.iload_n 1, 1) := dg dtX8_count_0_ok 45 rfl
theorem dX8_count_120 : decode cX8_count 120 = .ok (.invokevirtual 52, 3) := dg dtX8_count_0_ok 46 rfl
theorem dX8_count_123 : decode cX8_count 123 = .ok (.goto 29, 3) := dg dtX8_count_0_ok 47 rfl
def dtX8_count_1 : List (Nat × Instr × Nat) := [(126, .iload_n 1, 1), (127, .i2l, 1), (128, .ldc2_w 263, 3), (131, .ldc2_w 40, 3), (134, .invokestatic 47, 3), (137, .ifCond .eq 13, 3), (140, .aload_n 0, 1), (141, .iload_n 1, 1), (142, .iconst 1, 1), (143, .isub, 1), (144, .invokevirtual 52, 3), (147, .goto 5, 3), (150, .ldc 103, 2), (152, .ireturn, 1)]
theorem dtX8_count_1_ok : ∀ q ∈ dtX8_count_1, decode cX8_count q.1 = .ok q.2 := by decide +kernel
theorem dX8_count_126 : decode cX8_count 126 = .ok (.iload_n 1, 1) := dg dtX8_count_1_ok 0 rfl
theorem dX8_count_127 : decode cX8_count 127 = .ok (.i2l, 1) := dg dtX8_count_1_ok 1 rfl
theorem dX8_count_128 : decode cX8_count 128 = .ok (.ldc2_w 263, 3) := dg dtX8_count_1_ok 2 rfl
theorem dX8_count_131 : decode cX8_count 131 = .ok (.ldc2_w 40, 3) := dg dtX8_count_1_ok 3 rfl
theorem dX8_count_134 : decode cX8_count 134 = .ok (.invokestatic 47, 3) := dg dtX8_count_1_ok 4 rfl
theorem dX8_count_137 : decode cX8_count 137 = .ok (.ifCond .eq 13, 3) := dg dtX8_count_1_ok 5 rfl
theorem dX8_count_140 : decode cX8_count 140 = .ok (.aload_n 0, 1) := dg dtX8_count_1_ok 6 rfl
theorem dX8_count_141 : decode cX8_count 141 = .ok (.iload_n 1, 1) := dg dtX8_count_1_ok 7 rfl
theorem dX8_count_142 : decode cX8_count 142 = .ok (.iconst 1, 1) := dg dtX8_count_1_ok 8 rfl
theorem dX8_count_143 : decode cX8_count 143 = .ok (.isub, 1) := dg dtX8_count_1_ok 9 rfl
theorem dX8_count_144 : decode cX8_count 144 = .ok (.invokevirtual 52, 3) := dg dtX8_count_1_ok 10 rfl
theorem dX8_count_147 : decode cX8_count 147 = .ok (.goto 5, 3) := dg dtX8_count_1_ok 11 rfl
theorem dX8_count_150 : decode cX8_count 150 = .ok (.ldc 103, 2) := dg dtX8_count_1_ok 12 rfl
theorem dX8_count_152 : decode cX8_count 152 = .ok (.ireturn, 1) := dg dtX8_count_1_ok 13 rfl
def dtX8_rate_0 : List (Nat × Instr × Nat) := [(0, .iload_n 1, 1), (1, .invokestatic 116, 3), (4, .ifCond .eq 8, 3), (7, .ldc 51, 2), (9, .goto 11, 3), (12, .aload_n 0, 1), (13, .bipush 14, 2), (15, .iload_n 1, 1), (16, .iadd, 1), (17, .invokevirtual 52, 3), (20, .ireturn, 1)]
theorem dtX8_rate_0_ok : ∀ q ∈ dtX8_rate_0, decode cX8_rate q.1 = .ok q.2 := by decide +kernel
theorem dX8_rate_0 : decode cX8_rate 0 = .ok (.iload_n 1, 1) := dg dtX8_rate_0_ok 0 rfl
theorem dX8_rate_1 : decode cX8_rate 1 = .ok (.invokestatic 116, 3) := dg dtX8_rate_0_ok 1 rfl
theorem dX8_rate_4 : decode cX8_rate 4 = .ok (.ifCond .eq 8, 3) := dg dtX8_rate_0_ok 2 rfl
theorem dX8_rate_7 : decode cX8_rate 7 = .ok (.ldc 51, 2) := dg dtX8_rate_0_ok 3 rfl
theorem dX8_rate_9 : decode cX8_rate 9 = .ok (.goto 11, 3) := dg dtX8_rate_0_ok 4 rfl
theorem dX8_rate_12 : decode cX8_rate 12 = .ok (.aload_n 0, 1) := dg dtX8_rate_0_ok 5 rfl
theorem dX8_rate_13 : decode cX8_rate 13 = .ok (.bipush 14, 2) := dg dtX8_rate_0_ok 6 rfl
theorem dX8_rate_15 : decode cX8_rate 15 = .ok (.iload_n 1, 1) := dg dtX8_rate_0_ok 7 rfl
theorem dX8_rate_16 : decode cX8_rate 16 = .ok (.iadd, 1) := dg dtX8_rate_0_ok 8 rfl
theorem dX8_rate_17 : decode cX8_rate 17 = .ok (.invokevirtual 52, 3) := dg dtX8_rate_0_ok 9 rfl
theorem dX8_rate_20 : decode cX8_rate 20 = .ok (.ireturn, 1) := dg dtX8_rate_0_ok 10 rfl
def dtJ5_init_d00df_0 : List (Nat × Instr × Nat) := [(0, .aload_n 0, 1), (1, .invokespecial 3, 3), (4, .getstatic 18, 3), (7, .ifCond .eq 18, 3), (10, .aload_n 0, 1), (11, .iload_n 1, 1), (12, .newarray .byte, 2), (14, .putfield 15, 3), (17, .aload_n 0, 1), (18, .iconst 0, 1), (19, .putfield 22, 3), (22, .goto 16, 3), (25, .aload_n 0, 1), (26, .iload_n 1, 1), (27, .invokestatic 26, 3), (30, .putfield 15, 3), (33, .aload_n 0, 1), (34, .iconst 1, 1), (35, .putfield 22, 3), (38, .return_, 1)]
theorem dtJ5_init_d00df_0_ok : ∀ q ∈ dtJ5_init_d00df_0, decode cJ5_init_d00df q.1 = .ok q.2 := by decide +kernel
theorem dJ5_init_d00df_0 : decode cJ5_init_d00df 0 = .ok (.aload_n 0, 1) := dg dtJ5_init_d00df_0_ok 0 rfl
theorem dJ5_init_d00df_1 : decode cJ5_init_d00df 1 = .ok (.invokespecial 3, 3) := dg dtJ5_init_d00df_0_ok 1 rfl
theorem dJ5_init_d00df_4 : decode cJ5_init_d00df 4 = .ok (.getstatic 18, 3) := dg dtJ5_init_d00df_0_ok 2 rfl
theorem dJ5_init_d00df_7 : decode cJ5_init_d00df 7 = .ok (.ifCond .eq 18, 3) := dg dtJ5_init_d00df_0_ok 3 rfl
theorem dJ5_init_d00df_10 : decode cJ5_init_d00df 10 = .ok (.aload_n 0, 1) := dg dtJ5_init_d00df_0_ok 4 rfl
theorem dJ5_init_d00df_11 : decode cJ5_init_d00df 11 = .ok (.iload_n 1, 1) := dg dtJ5_init_d00df_0_ok 5 rfl
theorem dJ5_init_d00df_12 : decode cJ5_init_d00df 12 = .ok (.newarray .byte, 2) := dg dtJ5_init_d00df_0_ok 6 rfl
theorem dJ5_init_d00df_14 : decode cJ5_init_d00df 14 = .ok (.putfield 15, 3) := dg dtJ5_init_d00df_0_ok 7 rfl
theorem dJ5_init_d00df_17 : decode cJ5_init_d00df 17 = .ok (.aload_n 0, 1) := dg dtJ5_init_d00df_0_ok 8 rfl
theorem dJ5_init_d00df_18 : decode cJ5_init_d00df 18 = .ok (.iconst 0, 1) := dg dtJ5_init_d00df_0_ok 9 rfl
theorem dJ5_init_d00df_19 : decode cJ5_init_d00df 19 = .ok (.putfield 22, 3) := dg dtJ5_init_d00df_0_ok 10 rfl
theorem dJ5_init_d00df_22 : decode cJ5_init_d00df 22 = .ok (.goto 16, 3) := dg dtJ5_init_d00df_0_ok 11 rfl
theorem dJ5_init_d00df_25 : decode cJ5_init_d00df 25 = .ok (.aload_n 0, 1) := dg dtJ5_init_d00df_0_ok 12 rfl
theorem dJ5_init_d00df_26 : decode cJ5_init_d00df 26 = .ok (.iload_n 1, 1) := dg dtJ5_init_d00df_0_ok 13 rfl
theorem dJ5_init_d00df_27 : decode cJ5_init_d00df 27 = .ok (.invokestatic 26, 3) := dg dtJ5_init_d00df_0_ok 14 rfl
theorem dJ5_init_d00df_30 : decode cJ5_init_d00df 30 = .ok (.putfield 15, 3) := dg dtJ5_init_d00df_0_ok 15 rfl
theorem dJ5_init_d00df_33 : decode cJ5_init_d00df 33 = .ok (.aload_n 0, 1) := dg dtJ5_init_d00df_0_ok 16 rfl
theorem dJ5_init_d00df_34 : decode cJ5_init_d00df 34 = .ok (.iconst 1, 1) := dg dtJ5_init_d00df_0_ok 17 rfl
theorem dJ5_init_d00df_35 : decode cJ5_init_d00df 35 = .ok (.putfield 22, 3) := dg dtJ5_init_d00df_0_ok 18 rfl
theorem dJ5_init_d00df_38 : decode cJ5_init_d00df 38 = .ok (.return_, 1) := dg dtJ5_init_d00df_0_ok 19 rfl
def dtJ5_length_8abf5_0 : List (Nat × Instr × Nat) := [(0, .aload_n 0, 1), (1, .getfield 79, 3), (4, .ireturn, 1)]
theorem dtJ5_length_8abf5_0_ok : ∀ q ∈ dtJ5_length_8abf5_0, decode cJ5_length_8abf5 q.1 = .ok q.2 := by decide +kernel
theorem dJ5_length_8abf5_0 : decode cJ5_length_8abf5 0 = .ok (.aload_n 0, 1) := dg dtJ5_length_8abf5_0_ok 0 rfl
theorem dJ5_length_8abf5_1 : decode cJ5_length_8abf5 1 = .ok (.getfield 79, 3) := dg dtJ5_length_8abf5_0_ok 1 rfl
theorem dJ5_length_8abf5_4 : decode cJ5_length_8abf5 4 = .ok (.ireturn, 1) := dg dtJ5_length_8abf5_0_ok 2 rfl
def dtJ5_ensureCapacityInternal_d00df_0 : List (Nat × Instr × Nat) := [(0, .aload_n 0, 1), (1, .getfield 15, 3), (4, .arraylength, 1), (5, .aload_n 0, 1), (6, .getfield 22, 3), (9, .ishr, 1), (10, .istore_n 2, 1), (11, .iload_n 1, 1), (12, .iload_n 2, 1), (13, .isub, 1), (14, .ifCond .le 24, 3), (17, .aload_n 0, 1), (18, .aload_n 0, 1), (19, .getfield 15, 3), (22, .aload_n 0, 1), (23, .iload_n 1, 1), (24, .invokevirtual 104, 3), (27, .aload_n 0, 1), (28, .getfield 22, 3), (31, .ishl, 1), (32, .invokestatic 108, 3), (35, .putfield 15, 3), (38, .return_, 1)]
theorem dtJ5_ensureCapacityInternal_d00df_0_ok : ∀ q ∈ dtJ5_ensureCapacityInternal_d00df_0, decode cJ5_ensureCapacityInternal_d00df q.1 = .ok q.2 := by decide +kernel
theorem dJ5_ensureCapacityInternal_d00df_0 : decode cJ5_ensureCapacityInternal_d00df 0 = .ok (.aload_n 0, 1) := dg dtJ5_ensureCapacityInternal_d00df_0_ok 0 rfl
theorem dJ5_ensureCapacityInternal_d00df_1 : decode cJ5_ensureCapacityInternal_d00df 1 = .ok (.getfield 15, 3) := dg dtJ5_ensureCapacityInternal_d00df_0_ok 1 rfl
theorem dJ5_ensureCapacityInternal_d00df_4 : decode cJ5_ensureCapacityInternal_d00df 4 = .ok (.arraylength, 1) := dg dtJ5_ensureCapacityInternal_d00df_0_ok 2 rfl
theorem dJ5_ensureCapacityInternal_d00df_5 : decode cJ5_ensureCapacityInternal_d00df 5 = .ok (.aload_n 0, 1) := dg dtJ5_ensureCapacityInternal_d00df_0_ok 3 rfl
theorem dJ5_ensureCapacityInternal_d00df_6 : decode cJ5_ensureCapacityInternal_d00df 6 = .ok (.getfield 22, 3) := dg dtJ5_ensureCapacityInternal_d00df_0_ok 4 rfl
theorem dJ5_ensureCapacityInternal_d00df_9 : decode cJ5_ensureCapacityInternal_d00df 9 = .ok (.ishr, 1) := dg dtJ5_ensureCapacityInternal_d00df_0_ok 5 rfl
theorem dJ5_ensureCapacityInternal_d00df_10 : decode cJ5_ensureCapacityInternal_d00df 10 = .ok (.istore_n 2, 1) := dg dtJ5_ensureCapacityInternal_d00df_0_ok 6 rfl
theorem dJ5_ensureCapacityInternal_d00df_11 : decode cJ5_ensureCapacityInternal_d00df 11 = .ok (.iload_n 1, 1) := dg dtJ5_ensureCapacityInternal_d00df_0_ok 7 rfl
theorem dJ5_ensureCapacityInternal_d00df_12 : decode cJ5_ensureCapacityInternal_d00df 12 = .ok (.iload_n 2, 1) := dg dtJ5_ensureCapacityInternal_d00df_0_ok 8 rfl
theorem dJ5_ensureCapacityInternal_d00df_13 : decode cJ5_ensureCapacityInternal_d00df 13 = .ok (.isub, 1) := dg dtJ5_ensureCapacityInternal_d00df_0_ok 9 rfl
theorem dJ5_ensureCapacityInternal_d00df_14 : decode cJ5_ensureCapacityInternal_d00df 14 = .ok (.ifCond .le 24, 3) := dg dtJ5_ensureCapacityInternal_d00df_0_ok 10 rfl
theorem dJ5_ensureCapacityInternal_d00df_17 : decode cJ5_ensureCapacityInternal_d00df 17 = .ok (.aload_n 0, 1) := dg dtJ5_ensureCapacityInternal_d00df_0_ok 11 rfl
theorem dJ5_ensureCapacityInternal_d00df_18 : decode cJ5_ensureCapacityInternal_d00df 18 = .ok (.aload_n 0, 1) := dg dtJ5_ensureCapacityInternal_d00df_0_ok 12 rfl
theorem dJ5_ensureCapacityInternal_d00df_19 : decode cJ5_ensureCapacityInternal_d00df 19 = .ok (.getfield 15, 3) := dg dtJ5_ensureCapacityInternal_d00df_0_ok 13 rfl
theorem dJ5_ensureCapacityInternal_d00df_22 : decode cJ5_ensureCapacityInternal_d00df 22 = .ok (.aload_n 0, 1) := dg dtJ5_ensureCapacityInternal_d00df_0_ok 14 rfl
theorem dJ5_ensureCapacityInternal_d00df_23 : decode cJ5_ensureCapacityInternal_d00df 23 = .ok (.iload_n 1, 1) := dg dtJ5_ensureCapacityInternal_d00df_0_ok 15 rfl
theorem dJ5_ensureCapacityInternal_d00df_24 : decode cJ5_ensureCapacityInternal_d00df 24 = .ok (.invokevirtual 104, 3) := dg dtJ5_ensureCapacityInternal_d00df_0_ok 16 rfl
theorem dJ5_ensureCapacityInternal_d00df_27 : decode cJ5_ensureCapacityInternal_d00df 27 = .ok (.aload_n 0, 1) := dg dtJ5_ensureCapacityInternal_d00df_0_ok 17 rfl
theorem dJ5_ensureCapacityInternal_d00df_28 : decode cJ5_ensureCapacityInternal_d00df 28 = .ok (.getfield 22, 3) := dg dtJ5_ensureCapacityInternal_d00df_0_ok 18 rfl
theorem dJ5_ensureCapacityInternal_d00df_31 : decode cJ5_ensureCapacityInternal_d00df 31 = .ok (.ishl, 1) := dg dtJ5_ensureCapacityInternal_d00df_0_ok 19 rfl
theorem dJ5_ensureCapacityInternal_d00df_32 : decode cJ5_ensureCapacityInternal_d00df 32 = .ok (.invokestatic 108, 3) := dg dtJ5_ensureCapacityInternal_d00df_0_ok 20 rfl
theorem dJ5_ensureCapacityInternal_d00df_35 : decode cJ5_ensureCapacityInternal_d00df 35 = .ok (.putfield 15, 3) := dg dtJ5_ensureCapacityInternal_d00df_0_ok 21 rfl
theorem dJ5_ensureCapacityInternal_d00df_38 : decode cJ5_ensureCapacityInternal_d00df 38 = .ok (.return_, 1) := dg dtJ5_ensureCapacityInternal_d00df_0_ok 22 rfl
def dtJ5_newCapacity_0f7a4_0 : List (Nat × Instr × Nat) := [(0, .aload_n 0, 1), (1, .getfield 15, 3), (4, .arraylength, 1), (5, .istore_n 2, 1), (6, .iload_n 1, 1), (7, .aload_n 0, 1), (8, .getfield 22, 3), (11, .ishl, 1), (12, .istore_n 3, 1), (13, .iload_n 3, 1), (14, .iload_n 2, 1), (15, .isub, 1), (16, .istore 4, 2), (18, .iload_n 2, 1), (19, .iload 4, 2), (21, .iload_n 2, 1), (22, .iconst 2, 1), (23, .aload_n 0, 1), (24, .getfield 22, 3), (27, .ishl, 1), (28, .iadd, 1), (29, .invokestatic 114, 3), (32, .istore 5, 2), (34, .iload 5, 2), (36, .ldc 39, 2), (38, .if_icmp .ne 13, 3), (41, .new 120, 3), (44, .dup, 1), (45, .ldc 122, 2), (47, .invokespecial 124, 3), (50, .athrow, 1), (51, .iload 5, 2), (53, .aload_n 0, 1), (54, .getfield 22, 3), (57, .ishr, 1), (58, .ireturn, 1)]
theorem dtJ5_newCapacity_0f7a4_0_ok : ∀ q ∈ dtJ5_newCapacity_0f7a4_0, decode cJ5_newCapacity_0f7a4 q.1 = .ok q.2 := by decide +kernel
theorem dJ5_newCapacity_0f7a4_0 : decode cJ5_newCapacity_0f7a4 0 = .ok (.aload_n 0, 1) := dg dtJ5_newCapacity_0f7a4_0_ok 0 rfl
theorem dJ5_newCapacity_0f7a4_1 : decode cJ5_newCapacity_0f7a4 1 = .ok (.getfield 15, 3) := dg dtJ5_newCapacity_0f7a4_0_ok 1 rfl
theorem dJ5_newCapacity_0f7a4_4 : decode cJ5_newCapacity_0f7a4 4 = .ok (.arraylength, 1) := dg dtJ5_newCapacity_0f7a4_0_ok 2 rfl
theorem dJ5_newCapacity_0f7a4_5 : decode cJ5_newCapacity_0f7a4 5 = .ok (.istore_n 2, 1) := dg dtJ5_newCapacity_0f7a4_0_ok 3 rfl
theorem dJ5_newCapacity_0f7a4_6 : decode cJ5_newCapacity_0f7a4 6 = .ok (.iload_n 1, 1) := dg dtJ5_newCapacity_0f7a4_0_ok 4 rfl
theorem dJ5_newCapacity_0f7a4_7 : decode cJ5_newCapacity_0f7a4 7 = .ok (.aload_n 0, 1) := dg dtJ5_newCapacity_0f7a4_0_ok 5 rfl
theorem dJ5_newCapacity_0f7a4_8 : decode cJ5_newCapacity_0f7a4 8 = .ok (.getfield 22, 3) := dg dtJ5_newCapacity_0f7a4_0_ok 6 rfl
theorem dJ5_newCapacity_0f7a4_11 : decode cJ5_newCapacity_0f7a4 11 = .ok (.ishl, 1) := dg dtJ5_newCapacity_0f7a4_0_ok 7 rfl
theorem dJ5_newCapacity_0f7a4_12 : decode cJ5_newCapacity_0f7a4 12 = .ok (.istore_n 3, 1) := dg dtJ5_newCapacity_0f7a4_0_ok 8 rfl
theorem dJ5_newCapacity_0f7a4_13 : decode cJ5_newCapacity_0f7a4 13 = .ok (.iload_n 3, 1) := dg dtJ5_newCapacity_0f7a4_0_ok 9 rfl
theorem dJ5_newCapacity_0f7a4_14 : decode cJ5_newCapacity_0f7a4 14 = .ok (.iload_n 2, 1) := dg dtJ5_newCapacity_0f7a4_0_ok 10 rfl
theorem dJ5_newCapacity_0f7a4_15 : decode cJ5_newCapacity_0f7a4 15 = .ok (.isub, 1) := dg dtJ5_newCapacity_0f7a4_0_ok 11 rfl
theorem dJ5_newCapacity_0f7a4_16 : decode cJ5_newCapacity_0f7a4 16 = .ok (.istore 4, 2) := dg dtJ5_newCapacity_0f7a4_0_ok 12 rfl
theorem dJ5_newCapacity_0f7a4_18 : decode cJ5_newCapacity_0f7a4 18 = .ok (.iload_n 2, 1) := dg dtJ5_newCapacity_0f7a4_0_ok 13 rfl
theorem dJ5_newCapacity_0f7a4_19 : decode cJ5_newCapacity_0f7a4 19 = .ok (.iload 4, 2) := dg dtJ5_newCapacity_0f7a4_0_ok 14 rfl
theorem dJ5_newCapacity_0f7a4_21 : decode cJ5_newCapacity_0f7a4 21 = .ok (.iload_n 2, 1) := dg dtJ5_newCapacity_0f7a4_0_ok 15 rfl
theorem dJ5_newCapacity_0f7a4_22 : decode cJ5_newCapacity_0f7a4 22 = .ok (.iconst 2, 1) := dg dtJ5_newCapacity_0f7a4_0_ok 16 rfl
theorem dJ5_newCapacity_0f7a4_23 : decode cJ5_newCapacity_0f7a4 23 = .ok (.aload_n 0, 1) := dg dtJ5_newCapacity_0f7a4_0_ok 17 rfl
theorem dJ5_newCapacity_0f7a4_24 : decode cJ5_newCapacity_0f7a4 24 = .ok (.getfield 22, 3) := dg dtJ5_newCapacity_0f7a4_0_ok 18 rfl
theorem dJ5_newCapacity_0f7a4_27 : decode cJ5_newCapacity_0f7a4 27 = .ok (.ishl, 1) := dg dtJ5_newCapacity_0f7a4_0_ok 19 rfl
theorem dJ5_newCapacity_0f7a4_28 : decode cJ5_newCapacity_0f7a4 28 = .ok (.iadd, 1) := dg dtJ5_newCapacity_0f7a4_0_ok 20 rfl
theorem dJ5_newCapacity_0f7a4_29 : decode cJ5_newCapacity_0f7a4 29 = .ok (.invokestatic 114, 3) := dg dtJ5_newCapacity_0f7a4_0_ok 21 rfl
theorem dJ5_newCapacity_0f7a4_32 : decode cJ5_newCapacity_0f7a4 32 = .ok (.istore 5, 2) := dg dtJ5_newCapacity_0f7a4_0_ok 22 rfl
theorem dJ5_newCapacity_0f7a4_34 : decode cJ5_newCapacity_0f7a4 34 = .ok (.iload 5, 2) := dg dtJ5_newCapacity_0f7a4_0_ok 23 rfl
theorem dJ5_newCapacity_0f7a4_36 : decode cJ5_newCapacity_0f7a4 36 = .ok (.ldc 39, 2) := dg dtJ5_newCapacity_0f7a4_0_ok 24 rfl
theorem dJ5_newCapacity_0f7a4_38 : decode cJ5_newCapacity_0f7a4 38 = .ok (.if_icmp .ne 13, 3) := dg dtJ5_newCapacity_0f7a4_0_ok 25 rfl
theorem dJ5_newCapacity_0f7a4_41 : decode cJ5_newCapacity_0f7a4 41 = .ok (.new 120, 3) := dg dtJ5_newCapacity_0f7a4_0_ok 26 rfl
theorem dJ5_newCapacity_0f7a4_44 : decode cJ5_newCapacity_0f7a4 44 = .ok (.dup, 1) := dg dtJ5_newCapacity_0f7a4_0_ok 27 rfl
theorem dJ5_newCapacity_0f7a4_45 : decode cJ5_newCapacity_0f7a4 45 = .ok (.ldc 122, 2) := dg dtJ5_newCapacity_0f7a4_0_ok 28 rfl
theorem dJ5_newCapacity_0f7a4_47 : decode cJ5_newCapacity_0f7a4 47 = .ok (.invokespecial 124, 3) := dg dtJ5_newCapacity_0f7a4_0_ok 29 rfl
theorem dJ5_newCapacity_0f7a4_50 : decode cJ5_newCapacity_0f7a4 50 = .ok (.athrow, 1) := dg dtJ5_newCapacity_0f7a4_0_ok 30 rfl
theorem dJ5_newCapacity_0f7a4_51 : decode cJ5_newCapacity_0f7a4 51 = .ok (.iload 5, 2) := dg dtJ5_newCapacity_0f7a4_0_ok 31 rfl
theorem dJ5_newCapacity_0f7a4_53 : decode cJ5_newCapacity_0f7a4 53 = .ok (.aload_n 0, 1) := dg dtJ5_newCapacity_0f7a4_0_ok 32 rfl
theorem dJ5_newCapacity_0f7a4_54 : decode cJ5_newCapacity_0f7a4 54 = .ok (.getfield 22, 3) := dg dtJ5_newCapacity_0f7a4_0_ok 33 rfl
theorem dJ5_newCapacity_0f7a4_57 : decode cJ5_newCapacity_0f7a4 57 = .ok (.ishr, 1) := dg dtJ5_newCapacity_0f7a4_0_ok 34 rfl
theorem dJ5_newCapacity_0f7a4_58 : decode cJ5_newCapacity_0f7a4 58 = .ok (.ireturn, 1) := dg dtJ5_newCapacity_0f7a4_0_ok 35 rfl
def dtJ5_inflate_da8c8_0 : List (Nat × Instr × Nat) := [(0, .aload_n 0, 1), (1, .invokevirtual 83, 3), (4, .ifCond .ne 4, 3), (7, .return_, 1), (8, .aload_n 0, 1), (9, .getfield 15, 3), (12, .arraylength, 1), (13, .invokestatic 26, 3), (16, .astore_n 1, 1), (17, .aload_n 0, 1), (18, .getfield 15, 3), (21, .iconst 0, 1), (22, .aload_n 1, 1), (23, .iconst 0, 1), (24, .aload_n 0, 1), (25, .getfield 79, 3), (28, .invokestatic 125, 3), (31, .aload_n 0, 1), (32, .aload_n 1, 1), (33, .putfield 15, 3), (36, .aload_n 0, 1), (37, .iconst 1, 1), (38, .putfield 22, 3), (41, .return_, 1)]
theorem dtJ5_inflate_da8c8_0_ok : ∀ q ∈ dtJ5_inflate_da8c8_0, decode cJ5_inflate_da8c8 q.1 = .ok q.2 := by decide +kernel
theorem dJ5_inflate_da8c8_0 : decode cJ5_inflate_da8c8 0 = .ok (.aload_n 0, 1) := dg dtJ5_inflate_da8c8_0_ok 0 rfl
theorem dJ5_inflate_da8c8_1 : decode cJ5_inflate_da8c8 1 = .ok (.invokevirtual 83, 3) := dg dtJ5_inflate_da8c8_0_ok 1 rfl
theorem dJ5_inflate_da8c8_4 : decode cJ5_inflate_da8c8 4 = .ok (.ifCond .ne 4, 3) := dg dtJ5_inflate_da8c8_0_ok 2 rfl
theorem dJ5_inflate_da8c8_7 : decode cJ5_inflate_da8c8 7 = .ok (.return_, 1) := dg dtJ5_inflate_da8c8_0_ok 3 rfl
theorem dJ5_inflate_da8c8_8 : decode cJ5_inflate_da8c8 8 = .ok (.aload_n 0, 1) := dg dtJ5_inflate_da8c8_0_ok 4 rfl
theorem dJ5_inflate_da8c8_9 : decode cJ5_inflate_da8c8 9 = .ok (.getfield 15, 3) := dg dtJ5_inflate_da8c8_0_ok 5 rfl
theorem dJ5_inflate_da8c8_12 : decode cJ5_inflate_da8c8 12 = .ok (.arraylength, 1) := dg dtJ5_inflate_da8c8_0_ok 6 rfl
theorem dJ5_inflate_da8c8_13 : decode cJ5_inflate_da8c8 13 = .ok (.invokestatic 26, 3) := dg dtJ5_inflate_da8c8_0_ok 7 rfl
theorem dJ5_inflate_da8c8_16 : decode cJ5_inflate_da8c8 16 = .ok (.astore_n 1, 1) := dg dtJ5_inflate_da8c8_0_ok 8 rfl
theorem dJ5_inflate_da8c8_17 : decode cJ5_inflate_da8c8 17 = .ok (.aload_n 0, 1) := dg dtJ5_inflate_da8c8_0_ok 9 rfl
theorem dJ5_inflate_da8c8_18 : decode cJ5_inflate_da8c8 18 = .ok (.getfield 15, 3) := dg dtJ5_inflate_da8c8_0_ok 10 rfl
theorem dJ5_inflate_da8c8_21 : decode cJ5_inflate_da8c8 21 = .ok (.iconst 0, 1) := dg dtJ5_inflate_da8c8_0_ok 11 rfl
theorem dJ5_inflate_da8c8_22 : decode cJ5_inflate_da8c8 22 = .ok (.aload_n 1, 1) := dg dtJ5_inflate_da8c8_0_ok 12 rfl
theorem dJ5_inflate_da8c8_23 : decode cJ5_inflate_da8c8 23 = .ok (.iconst 0, 1) := dg dtJ5_inflate_da8c8_0_ok 13 rfl
theorem dJ5_inflate_da8c8_24 : decode cJ5_inflate_da8c8 24 = .ok (.aload_n 0, 1) := dg dtJ5_inflate_da8c8_0_ok 14 rfl
theorem dJ5_inflate_da8c8_25 : decode cJ5_inflate_da8c8 25 = .ok (.getfield 79, 3) := dg dtJ5_inflate_da8c8_0_ok 15 rfl
theorem dJ5_inflate_da8c8_28 : decode cJ5_inflate_da8c8 28 = .ok (.invokestatic 125, 3) := dg dtJ5_inflate_da8c8_0_ok 16 rfl
theorem dJ5_inflate_da8c8_31 : decode cJ5_inflate_da8c8 31 = .ok (.aload_n 0, 1) := dg dtJ5_inflate_da8c8_0_ok 17 rfl
theorem dJ5_inflate_da8c8_32 : decode cJ5_inflate_da8c8 32 = .ok (.aload_n 1, 1) := dg dtJ5_inflate_da8c8_0_ok 18 rfl
theorem dJ5_inflate_da8c8_33 : decode cJ5_inflate_da8c8 33 = .ok (.putfield 15, 3) := dg dtJ5_inflate_da8c8_0_ok 19 rfl
theorem dJ5_inflate_da8c8_36 : decode cJ5_inflate_da8c8 36 = .ok (.aload_n 0, 1) := dg dtJ5_inflate_da8c8_0_ok 20 rfl
theorem dJ5_inflate_da8c8_37 : decode cJ5_inflate_da8c8 37 = .ok (.iconst 1, 1) := dg dtJ5_inflate_da8c8_0_ok 21 rfl
theorem dJ5_inflate_da8c8_38 : decode cJ5_inflate_da8c8 38 = .ok (.putfield 22, 3) := dg dtJ5_inflate_da8c8_0_ok 22 rfl
theorem dJ5_inflate_da8c8_41 : decode cJ5_inflate_da8c8 41 = .ok (.return_, 1) := dg dtJ5_inflate_da8c8_0_ok 23 rfl
def dtJ5_setLength_d00df_0 : List (Nat × Instr × Nat) := [(0, .iload_n 1, 1), (1, .ifCond .ge 12, 3), (4, .new 129, 3), (7, .dup, 1), (8, .iload_n 1, 1), (9, .invokespecial 131, 3), (12, .athrow, 1), (13, .aload_n 0, 1), (14, .iload_n 1, 1), (15, .invokevirtual 100, 3), (18, .aload_n 0, 1), (19, .getfield 79, 3), (22, .iload_n 1, 1), (23, .if_icmp .ge 40, 3), (26, .aload_n 0, 1), (27, .invokevirtual 83, 3), (30, .ifCond .eq 18, 3), (33, .aload_n 0, 1), (34, .getfield 15, 3), (37, .aload_n 0, 1), (38, .getfield 79, 3), (41, .iload_n 1, 1), (42, .invokestatic 133, 3), (45, .goto 31, 3), (48, .aload_n 0, 1), (49, .getfield 15, 3), (52, .aload_n 0, 1), (53, .getfield 79, 3), (56, .iload_n 1, 1), (57, .invokestatic 137, 3), (60, .goto 16, 3), (63, .aload_n 0, 1), (64, .getfield 79, 3), (67, .iload_n 1, 1), (68, .if_icmp .le 8, 3), (71, .aload_n 0, 1), (72, .iconst 1, 1), (73, .putfield 73, 3), (76, .aload_n 0, 1), (77, .iload_n 1, 1), (78, .putfield 79, 3), (81, .return_, 1)]
theorem dtJ5_setLength_d00df_0_ok : ∀ q ∈ dtJ5_setLength_d00df_0, decode cJ5_setLength_d00df q.1 = .ok q.2 := by decide +kernel
theorem dJ5_setLength_d00df_0 : decode cJ5_setLength_d00df 0 = .ok (.iload_n 1, 1) := dg dtJ5_setLength_d00df_0_ok 0 rfl
theorem dJ5_setLength_d00df_1 : decode cJ5_setLength_d00df 1 = .ok (.ifCond .ge 12, 3) := dg dtJ5_setLength_d00df_0_ok 1 rfl
theorem dJ5_setLength_d00df_4 : decode cJ5_setLength_d00df 4 = .ok (.new 129, 3) := dg dtJ5_setLength_d00df_0_ok 2 rfl
theorem dJ5_setLength_d00df_7 : decode cJ5_setLength_d00df 7 = .ok (.dup, 1) := dg dtJ5_setLength_d00df_0_ok 3 rfl
theorem dJ5_setLength_d00df_8 : decode cJ5_setLength_d00df 8 = .ok (.iload_n 1, 1) := dg dtJ5_setLength_d00df_0_ok 4 rfl
theorem dJ5_setLength_d00df_9 : decode cJ5_setLength_d00df 9 = .ok (.invokespecial 131, 3) := dg dtJ5_setLength_d00df_0_ok 5 rfl
theorem dJ5_setLength_d00df_12 : decode cJ5_setLength_d00df 12 = .ok (.athrow, 1) := dg dtJ5_setLength_d00df_0_ok 6 rfl
theorem dJ5_setLength_d00df_13 : decode cJ5_setLength_d00df 13 = .ok (.aload_n 0, 1) := dg dtJ5_setLength_d00df_0_ok 7 rfl
theorem dJ5_setLength_d00df_14 : decode cJ5_setLength_d00df 14 = .ok (.iload_n 1, 1) := dg dtJ5_setLength_d00df_0_ok 8 rfl
theorem dJ5_setLength_d00df_15 : decode cJ5_setLength_d00df 15 = .ok (.invokevirtual 100, 3) := dg dtJ5_setLength_d00df_0_ok 9 rfl
theorem dJ5_setLength_d00df_18 : decode cJ5_setLength_d00df 18 = .ok (.aload_n 0, 1) := dg dtJ5_setLength_d00df_0_ok 10 rfl
theorem dJ5_setLength_d00df_19 : decode cJ5_setLength_d00df 19 = .ok (.getfield 79, 3) := dg dtJ5_setLength_d00df_0_ok 11 rfl
theorem dJ5_setLength_d00df_22 : decode cJ5_setLength_d00df 22 = .ok (.iload_n 1, 1) := dg dtJ5_setLength_d00df_0_ok 12 rfl
theorem dJ5_setLength_d00df_23 : decode cJ5_setLength_d00df 23 = .ok (.if_icmp .ge 40, 3) := dg dtJ5_setLength_d00df_0_ok 13 rfl
theorem dJ5_setLength_d00df_26 : decode cJ5_setLength_d00df 26 = .ok (.aload_n 0, 1) := dg dtJ5_setLength_d00df_0_ok 14 rfl
theorem dJ5_setLength_d00df_27 : decode cJ5_setLength_d00df 27 = .ok (.invokevirtual 83, 3) := dg dtJ5_setLength_d00df_0_ok 15 rfl
theorem dJ5_setLength_d00df_30 : decode cJ5_setLength_d00df 30 = .ok (.ifCond .eq 18, 3) := dg dtJ5_setLength_d00df_0_ok 16 rfl
theorem dJ5_setLength_d00df_33 : decode cJ5_setLength_d00df 33 = .ok (.aload_n 0, 1) := dg dtJ5_setLength_d00df_0_ok 17 rfl
theorem dJ5_setLength_d00df_34 : decode cJ5_setLength_d00df 34 = .ok (.getfield 15, 3) := dg dtJ5_setLength_d00df_0_ok 18 rfl
theorem dJ5_setLength_d00df_37 : decode cJ5_setLength_d00df 37 = .ok (.aload_n 0, 1) := dg dtJ5_setLength_d00df_0_ok 19 rfl
theorem dJ5_setLength_d00df_38 : decode cJ5_setLength_d00df 38 = .ok (.getfield 79, 3) := dg dtJ5_setLength_d00df_0_ok 20 rfl
theorem dJ5_setLength_d00df_41 : decode cJ5_setLength_d00df 41 = .ok (.iload_n 1, 1) := dg dtJ5_setLength_d00df_0_ok 21 rfl
theorem dJ5_setLength_d00df_42 : decode cJ5_setLength_d00df 42 = .ok (.invokestatic 133, 3) := dg dtJ5_setLength_d00df_0_ok 22 rfl
theorem dJ5_setLength_d00df_45 : decode cJ5_setLength_d00df 45 = .ok (.goto 31, 3) := dg dtJ5_setLength_d00df_0_ok 23 rfl
theorem dJ5_setLength_d00df_48 : decode cJ5_setLength_d00df 48 = .ok (.aload_n 0, 1) := dg dtJ5_setLength_d00df_0_ok 24 rfl
theorem dJ5_setLength_d00df_49 : decode cJ5_setLength_d00df 49 = .ok (.getfield 15, 3) := dg dtJ5_setLength_d00df_0_ok 25 rfl
theorem dJ5_setLength_d00df_52 : decode cJ5_setLength_d00df 52 = .ok (.aload_n 0, 1) := dg dtJ5_setLength_d00df_0_ok 26 rfl
theorem dJ5_setLength_d00df_53 : decode cJ5_setLength_d00df 53 = .ok (.getfield 79, 3) := dg dtJ5_setLength_d00df_0_ok 27 rfl
theorem dJ5_setLength_d00df_56 : decode cJ5_setLength_d00df 56 = .ok (.iload_n 1, 1) := dg dtJ5_setLength_d00df_0_ok 28 rfl
theorem dJ5_setLength_d00df_57 : decode cJ5_setLength_d00df 57 = .ok (.invokestatic 137, 3) := dg dtJ5_setLength_d00df_0_ok 29 rfl
theorem dJ5_setLength_d00df_60 : decode cJ5_setLength_d00df 60 = .ok (.goto 16, 3) := dg dtJ5_setLength_d00df_0_ok 30 rfl
theorem dJ5_setLength_d00df_63 : decode cJ5_setLength_d00df 63 = .ok (.aload_n 0, 1) := dg dtJ5_setLength_d00df_0_ok 31 rfl
theorem dJ5_setLength_d00df_64 : decode cJ5_setLength_d00df 64 = .ok (.getfield 79, 3) := dg dtJ5_setLength_d00df_0_ok 32 rfl
theorem dJ5_setLength_d00df_67 : decode cJ5_setLength_d00df 67 = .ok (.iload_n 1, 1) := dg dtJ5_setLength_d00df_0_ok 33 rfl
theorem dJ5_setLength_d00df_68 : decode cJ5_setLength_d00df 68 = .ok (.if_icmp .le 8, 3) := dg dtJ5_setLength_d00df_0_ok 34 rfl
theorem dJ5_setLength_d00df_71 : decode cJ5_setLength_d00df 71 = .ok (.aload_n 0, 1) := dg dtJ5_setLength_d00df_0_ok 35 rfl
theorem dJ5_setLength_d00df_72 : decode cJ5_setLength_d00df 72 = .ok (.iconst 1, 1) := dg dtJ5_setLength_d00df_0_ok 36 rfl
theorem dJ5_setLength_d00df_73 : decode cJ5_setLength_d00df 73 = .ok (.putfield 73, 3) := dg dtJ5_setLength_d00df_0_ok 37 rfl
theorem dJ5_setLength_d00df_76 : decode cJ5_setLength_d00df 76 = .ok (.aload_n 0, 1) := dg dtJ5_setLength_d00df_0_ok 38 rfl
theorem dJ5_setLength_d00df_77 : decode cJ5_setLength_d00df 77 = .ok (.iload_n 1, 1) := dg dtJ5_setLength_d00df_0_ok 39 rfl
theorem dJ5_setLength_d00df_78 : decode cJ5_setLength_d00df 78 = .ok (.putfield 79, 3) := dg dtJ5_setLength_d00df_0_ok 40 rfl
theorem dJ5_setLength_d00df_81 : decode cJ5_setLength_d00df 81 = .ok (.return_, 1) := dg dtJ5_setLength_d00df_0_ok 41 rfl
def dtJ5_charAt_5068e_0 : List (Nat × Instr × Nat) := [(0, .aload_n 0, 1), (1, .getfield 22, 3), (4, .istore_n 2, 1), (5, .aload_n 0, 1), (6, .getfield 15, 3), (9, .astore_n 3, 1), (10, .aload_n 0, 1), (11, .getfield 79, 3), (14, .aload_n 3, 1), (15, .arraylength, 1), (16, .iload_n 2, 1), (17, .ishr, 1), (18, .invokestatic 138, 3), (21, .istore 4, 2), (23, .iload_n 1, 1), (24, .iload 4, 2), (26, .invokestatic 144, 3), (29, .iload_n 2, 1), (30, .ifCond .ne 12, 3), (33, .aload_n 3, 1), (34, .iload_n 1, 1), (35, .baload, 1), (36, .sipush 255, 3), (39, .iand, 1), (40, .i2c, 1), (41, .ireturn, 1), (42, .aload_n 3, 1), (43, .iload_n 1, 1), (44, .invokestatic 148, 3), (47, .ireturn, 1)]
theorem dtJ5_charAt_5068e_0_ok : ∀ q ∈ dtJ5_charAt_5068e_0, decode cJ5_charAt_5068e q.1 = .ok q.2 := by decide +kernel
theorem dJ5_charAt_5068e_0 : decode cJ5_charAt_5068e 0 = .ok (.aload_n 0, 1) := dg dtJ5_charAt_5068e_0_ok 0 rfl
theorem dJ5_charAt_5068e_1 : decode cJ5_charAt_5068e 1 = .ok (.getfield 22, 3) := dg dtJ5_charAt_5068e_0_ok 1 rfl
theorem dJ5_charAt_5068e_4 : decode cJ5_charAt_5068e 4 = .ok (.istore_n 2, 1) := dg dtJ5_charAt_5068e_0_ok 2 rfl
theorem dJ5_charAt_5068e_5 : decode cJ5_charAt_5068e 5 = .ok (.aload_n 0, 1) := dg dtJ5_charAt_5068e_0_ok 3 rfl
theorem dJ5_charAt_5068e_6 : decode cJ5_charAt_5068e 6 = .ok (.getfield 15, 3) := dg dtJ5_charAt_5068e_0_ok 4 rfl
theorem dJ5_charAt_5068e_9 : decode cJ5_charAt_5068e 9 = .ok (.astore_n 3, 1) := dg dtJ5_charAt_5068e_0_ok 5 rfl
theorem dJ5_charAt_5068e_10 : decode cJ5_charAt_5068e 10 = .ok (.aload_n 0, 1) := dg dtJ5_charAt_5068e_0_ok 6 rfl
theorem dJ5_charAt_5068e_11 : decode cJ5_charAt_5068e 11 = .ok (.getfield 79, 3) := dg dtJ5_charAt_5068e_0_ok 7 rfl
theorem dJ5_charAt_5068e_14 : decode cJ5_charAt_5068e 14 = .ok (.aload_n 3, 1) := dg dtJ5_charAt_5068e_0_ok 8 rfl
theorem dJ5_charAt_5068e_15 : decode cJ5_charAt_5068e 15 = .ok (.arraylength, 1) := dg dtJ5_charAt_5068e_0_ok 9 rfl
theorem dJ5_charAt_5068e_16 : decode cJ5_charAt_5068e 16 = .ok (.iload_n 2, 1) := dg dtJ5_charAt_5068e_0_ok 10 rfl
theorem dJ5_charAt_5068e_17 : decode cJ5_charAt_5068e 17 = .ok (.ishr, 1) := dg dtJ5_charAt_5068e_0_ok 11 rfl
theorem dJ5_charAt_5068e_18 : decode cJ5_charAt_5068e 18 = .ok (.invokestatic 138, 3) := dg dtJ5_charAt_5068e_0_ok 12 rfl
theorem dJ5_charAt_5068e_21 : decode cJ5_charAt_5068e 21 = .ok (.istore 4, 2) := dg dtJ5_charAt_5068e_0_ok 13 rfl
theorem dJ5_charAt_5068e_23 : decode cJ5_charAt_5068e 23 = .ok (.iload_n 1, 1) := dg dtJ5_charAt_5068e_0_ok 14 rfl
theorem dJ5_charAt_5068e_24 : decode cJ5_charAt_5068e 24 = .ok (.iload 4, 2) := dg dtJ5_charAt_5068e_0_ok 15 rfl
theorem dJ5_charAt_5068e_26 : decode cJ5_charAt_5068e 26 = .ok (.invokestatic 144, 3) := dg dtJ5_charAt_5068e_0_ok 16 rfl
theorem dJ5_charAt_5068e_29 : decode cJ5_charAt_5068e 29 = .ok (.iload_n 2, 1) := dg dtJ5_charAt_5068e_0_ok 17 rfl
theorem dJ5_charAt_5068e_30 : decode cJ5_charAt_5068e 30 = .ok (.ifCond .ne 12, 3) := dg dtJ5_charAt_5068e_0_ok 18 rfl
theorem dJ5_charAt_5068e_33 : decode cJ5_charAt_5068e 33 = .ok (.aload_n 3, 1) := dg dtJ5_charAt_5068e_0_ok 19 rfl
theorem dJ5_charAt_5068e_34 : decode cJ5_charAt_5068e 34 = .ok (.iload_n 1, 1) := dg dtJ5_charAt_5068e_0_ok 20 rfl
theorem dJ5_charAt_5068e_35 : decode cJ5_charAt_5068e 35 = .ok (.baload, 1) := dg dtJ5_charAt_5068e_0_ok 21 rfl
theorem dJ5_charAt_5068e_36 : decode cJ5_charAt_5068e 36 = .ok (.sipush 255, 3) := dg dtJ5_charAt_5068e_0_ok 22 rfl
theorem dJ5_charAt_5068e_39 : decode cJ5_charAt_5068e 39 = .ok (.iand, 1) := dg dtJ5_charAt_5068e_0_ok 23 rfl
theorem dJ5_charAt_5068e_40 : decode cJ5_charAt_5068e 40 = .ok (.i2c, 1) := dg dtJ5_charAt_5068e_0_ok 24 rfl
theorem dJ5_charAt_5068e_41 : decode cJ5_charAt_5068e 41 = .ok (.ireturn, 1) := dg dtJ5_charAt_5068e_0_ok 25 rfl
theorem dJ5_charAt_5068e_42 : decode cJ5_charAt_5068e 42 = .ok (.aload_n 3, 1) := dg dtJ5_charAt_5068e_0_ok 26 rfl
theorem dJ5_charAt_5068e_43 : decode cJ5_charAt_5068e 43 = .ok (.iload_n 1, 1) := dg dtJ5_charAt_5068e_0_ok 27 rfl
theorem dJ5_charAt_5068e_44 : decode cJ5_charAt_5068e 44 = .ok (.invokestatic 148, 3) := dg dtJ5_charAt_5068e_0_ok 28 rfl
theorem dJ5_charAt_5068e_47 : decode cJ5_charAt_5068e 47 = .ok (.ireturn, 1) := dg dtJ5_charAt_5068e_0_ok 29 rfl
def dtJ5_append_3fe6f_0 : List (Nat × Instr × Nat) := [(0, .aload_n 0, 1), (1, .aload_n 0, 1), (2, .getfield 79, 3), (5, .iconst 1, 1), (6, .iadd, 1), (7, .invokevirtual 100, 3), (10, .aload_n 0, 1), (11, .invokevirtual 83, 3), (14, .ifCond .eq 31, 3), (17, .iload_n 1, 1), (18, .invokestatic 191, 3), (21, .ifCond .eq 24, 3), (24, .aload_n 0, 1), (25, .getfield 15, 3), (28, .aload_n 0, 1), (29, .dup, 1), (30, .getfield 79, 3), (33, .dup_x1, 1), (34, .iconst 1, 1), (35, .iadd, 1), (36, .putfield 79, 3), (39, .iload_n 1, 1), (40, .i2b, 1), (41, .bastore, 1), (42, .goto 33, 3), (45, .aload_n 0, 1), (46, .invokevirtual 83, 3), (49, .ifCond .eq 7, 3), (52, .aload_n 0, 1), (53, .invokevirtual 195, 3), (56, .aload_n 0, 1), (57, .getfield 15, 3), (60, .aload_n 0, 1), (61, .dup, 1), (62, .getfield 79, 3), (65, .dup_x1, 1), (66, .iconst 1, 1), (67, .iadd, 1), (68, .putfield 79, 3), (71, .iload_n 1, 1), (72, .invokestatic 197, 3), (75, .aload_n 0, 1), (76, .areturn, 1)]
theorem dtJ5_append_3fe6f_0_ok : ∀ q ∈ dtJ5_append_3fe6f_0, decode cJ5_append_3fe6f q.1 = .ok q.2 := by decide +kernel
theorem dJ5_append_3fe6f_0 : decode cJ5_append_3fe6f 0 = .ok (.aload_n 0, 1) := dg dtJ5_append_3fe6f_0_ok 0 rfl
theorem dJ5_append_3fe6f_1 : decode cJ5_append_3fe6f 1 = .ok (.aload_n 0, 1) := dg dtJ5_append_3fe6f_0_ok 1 rfl
theorem dJ5_append_3fe6f_2 : decode cJ5_append_3fe6f 2 = .ok (.getfield 79, 3) := dg dtJ5_append_3fe6f_0_ok 2 rfl
theorem dJ5_append_3fe6f_5 : decode cJ5_append_3fe6f 5 = .ok (.iconst 1, 1) := dg dtJ5_append_3fe6f_0_ok 3 rfl
theorem dJ5_append_3fe6f_6 : decode cJ5_append_3fe6f 6 = .ok (.iadd, 1) := dg dtJ5_append_3fe6f_0_ok 4 rfl
theorem dJ5_append_3fe6f_7 : decode cJ5_append_3fe6f 7 = .ok (.invokevirtual 100, 3) := dg dtJ5_append_3fe6f_0_ok 5 rfl
theorem dJ5_append_3fe6f_10 : decode cJ5_append_3fe6f 10 = .ok (.aload_n 0, 1) := dg dtJ5_append_3fe6f_0_ok 6 rfl
theorem dJ5_append_3fe6f_11 : decode cJ5_append_3fe6f 11 = .ok (.invokevirtual 83, 3) := dg dtJ5_append_3fe6f_0_ok 7 rfl
theorem dJ5_append_3fe6f_14 : decode cJ5_append_3fe6f 14 = .ok (.ifCond .eq 31, 3) := dg dtJ5_append_3fe6f_0_ok 8 rfl
theorem dJ5_append_3fe6f_17 : decode cJ5_append_3fe6f 17 = .ok (.iload_n 1, 1) := dg dtJ5_append_3fe6f_0_ok 9 rfl
theorem dJ5_append_3fe6f_18 : decode cJ5_append_3fe6f 18 = .ok (.invokestatic 191, 3) := dg dtJ5_append_3fe6f_0_ok 10 rfl
theorem dJ5_append_3fe6f_21 : decode cJ5_append_3fe6f 21 = .ok (.ifCond .eq 24, 3) := dg dtJ5_append_3fe6f_0_ok 11 rfl
theorem dJ5_append_3fe6f_24 : decode cJ5_append_3fe6f 24 = .ok (.aload_n 0, 1) := dg dtJ5_append_3fe6f_0_ok 12 rfl
theorem dJ5_append_3fe6f_25 : decode cJ5_append_3fe6f 25 = .ok (.getfield 15, 3) := dg dtJ5_append_3fe6f_0_ok 13 rfl
theorem dJ5_append_3fe6f_28 : decode cJ5_append_3fe6f 28 = .ok (.aload_n 0, 1) := dg dtJ5_append_3fe6f_0_ok 14 rfl
theorem dJ5_append_3fe6f_29 : decode cJ5_append_3fe6f 29 = .ok (.dup, 1) := dg dtJ5_append_3fe6f_0_ok 15 rfl
theorem dJ5_append_3fe6f_30 : decode cJ5_append_3fe6f 30 = .ok (.getfield 79, 3) := dg dtJ5_append_3fe6f_0_ok 16 rfl
theorem dJ5_append_3fe6f_33 : decode cJ5_append_3fe6f 33 = .ok (.dup_x1, 1) := dg dtJ5_append_3fe6f_0_ok 17 rfl
theorem dJ5_append_3fe6f_34 : decode cJ5_append_3fe6f 34 = .ok (.iconst 1, 1) := dg dtJ5_append_3fe6f_0_ok 18 rfl
theorem dJ5_append_3fe6f_35 : decode cJ5_append_3fe6f 35 = .ok (.iadd, 1) := dg dtJ5_append_3fe6f_0_ok 19 rfl
theorem dJ5_append_3fe6f_36 : decode cJ5_append_3fe6f 36 = .ok (.putfield 79, 3) := dg dtJ5_append_3fe6f_0_ok 20 rfl
theorem dJ5_append_3fe6f_39 : decode cJ5_append_3fe6f 39 = .ok (.iload_n 1, 1) := dg dtJ5_append_3fe6f_0_ok 21 rfl
theorem dJ5_append_3fe6f_40 : decode cJ5_append_3fe6f 40 = .ok (.i2b, 1) := dg dtJ5_append_3fe6f_0_ok 22 rfl
theorem dJ5_append_3fe6f_41 : decode cJ5_append_3fe6f 41 = .ok (.bastore, 1) := dg dtJ5_append_3fe6f_0_ok 23 rfl
theorem dJ5_append_3fe6f_42 : decode cJ5_append_3fe6f 42 = .ok (.goto 33, 3) := dg dtJ5_append_3fe6f_0_ok 24 rfl
theorem dJ5_append_3fe6f_45 : decode cJ5_append_3fe6f 45 = .ok (.aload_n 0, 1) := dg dtJ5_append_3fe6f_0_ok 25 rfl
theorem dJ5_append_3fe6f_46 : decode cJ5_append_3fe6f 46 = .ok (.invokevirtual 83, 3) := dg dtJ5_append_3fe6f_0_ok 26 rfl
theorem dJ5_append_3fe6f_49 : decode cJ5_append_3fe6f 49 = .ok (.ifCond .eq 7, 3) := dg dtJ5_append_3fe6f_0_ok 27 rfl
theorem dJ5_append_3fe6f_52 : decode cJ5_append_3fe6f 52 = .ok (.aload_n 0, 1) := dg dtJ5_append_3fe6f_0_ok 28 rfl
theorem dJ5_append_3fe6f_53 : decode cJ5_append_3fe6f 53 = .ok (.invokevirtual 195, 3) := dg dtJ5_append_3fe6f_0_ok 29 rfl
theorem dJ5_append_3fe6f_56 : decode cJ5_append_3fe6f 56 = .ok (.aload_n 0, 1) := dg dtJ5_append_3fe6f_0_ok 30 rfl
theorem dJ5_append_3fe6f_57 : decode cJ5_append_3fe6f 57 = .ok (.getfield 15, 3) := dg dtJ5_append_3fe6f_0_ok 31 rfl
theorem dJ5_append_3fe6f_60 : decode cJ5_append_3fe6f 60 = .ok (.aload_n 0, 1) := dg dtJ5_append_3fe6f_0_ok 32 rfl
theorem dJ5_append_3fe6f_61 : decode cJ5_append_3fe6f 61 = .ok (.dup, 1) := dg dtJ5_append_3fe6f_0_ok 33 rfl
theorem dJ5_append_3fe6f_62 : decode cJ5_append_3fe6f 62 = .ok (.getfield 79, 3) := dg dtJ5_append_3fe6f_0_ok 34 rfl
theorem dJ5_append_3fe6f_65 : decode cJ5_append_3fe6f 65 = .ok (.dup_x1, 1) := dg dtJ5_append_3fe6f_0_ok 35 rfl
theorem dJ5_append_3fe6f_66 : decode cJ5_append_3fe6f 66 = .ok (.iconst 1, 1) := dg dtJ5_append_3fe6f_0_ok 36 rfl
theorem dJ5_append_3fe6f_67 : decode cJ5_append_3fe6f 67 = .ok (.iadd, 1) := dg dtJ5_append_3fe6f_0_ok 37 rfl
theorem dJ5_append_3fe6f_68 : decode cJ5_append_3fe6f 68 = .ok (.putfield 79, 3) := dg dtJ5_append_3fe6f_0_ok 38 rfl
theorem dJ5_append_3fe6f_71 : decode cJ5_append_3fe6f 71 = .ok (.iload_n 1, 1) := dg dtJ5_append_3fe6f_0_ok 39 rfl
theorem dJ5_append_3fe6f_72 : decode cJ5_append_3fe6f 72 = .ok (.invokestatic 197, 3) := dg dtJ5_append_3fe6f_0_ok 40 rfl
theorem dJ5_append_3fe6f_75 : decode cJ5_append_3fe6f 75 = .ok (.aload_n 0, 1) := dg dtJ5_append_3fe6f_0_ok 41 rfl
theorem dJ5_append_3fe6f_76 : decode cJ5_append_3fe6f 76 = .ok (.areturn, 1) := dg dtJ5_append_3fe6f_0_ok 42 rfl
def dtJ5_append_c97b9_0 : List (Nat × Instr × Nat) := [(0, .aload_n 0, 1), (1, .getfield 79, 3), (4, .istore_n 2, 1), (5, .iload_n 2, 1), (6, .iload_n 1, 1), (7, .invokestatic 245, 3), (10, .iadd, 1), (11, .istore_n 3, 1), (12, .aload_n 0, 1), (13, .iload_n 3, 1), (14, .invokevirtual 100, 3), (17, .aload_n 0, 1), (18, .invokevirtual 83, 3), (21, .ifCond .eq 16, 3), (24, .iload_n 1, 1), (25, .iload_n 3, 1), (26, .aload_n 0, 1), (27, .getfield 15, 3), (30, .invokestatic 248, 3), (33, .pop, 1), (34, .goto 14, 3), (37, .iload_n 1, 1), (38, .iload_n 2, 1), (39, .iload_n 3, 1), (40, .aload_n 0, 1), (41, .getfield 15, 3), (44, .invokestatic 251, 3), (47, .pop, 1), (48, .aload_n 0, 1), (49, .iload_n 3, 1), (50, .putfield 79, 3), (53, .aload_n 0, 1), (54, .areturn, 1)]
theorem dtJ5_append_c97b9_0_ok : ∀ q ∈ dtJ5_append_c97b9_0, decode cJ5_append_c97b9 q.1 = .ok q.2 := by decide +kernel
theorem dJ5_append_c97b9_0 : decode cJ5_append_c97b9 0 = .ok (.aload_n 0, 1) := dg dtJ5_append_c97b9_0_ok 0 rfl
theorem dJ5_append_c97b9_1 : decode cJ5_append_c97b9 1 = .ok (.getfield 79, 3) := dg dtJ5_append_c97b9_0_ok 1 rfl
theorem dJ5_append_c97b9_4 : decode cJ5_append_c97b9 4 = .ok (.istore_n 2, 1) := dg dtJ5_append_c97b9_0_ok 2 rfl
theorem dJ5_append_c97b9_5 : decode cJ5_append_c97b9 5 = .ok (.iload_n 2, 1) := dg dtJ5_append_c97b9_0_ok 3 rfl
theorem dJ5_append_c97b9_6 : decode cJ5_append_c97b9 6 = .ok (.iload_n 1, 1) := dg dtJ5_append_c97b9_0_ok 4 rfl
theorem dJ5_append_c97b9_7 : decode cJ5_append_c97b9 7 = .ok (.invokestatic 245, 3) := dg dtJ5_append_c97b9_0_ok 5 rfl
theorem dJ5_append_c97b9_10 : decode cJ5_append_c97b9 10 = .ok (.iadd, 1) := dg dtJ5_append_c97b9_0_ok 6 rfl
theorem dJ5_append_c97b9_11 : decode cJ5_append_c97b9 11 = .ok (.istore_n 3, 1) := dg dtJ5_append_c97b9_0_ok 7 rfl
theorem dJ5_append_c97b9_12 : decode cJ5_append_c97b9 12 = .ok (.aload_n 0, 1) := dg dtJ5_append_c97b9_0_ok 8 rfl
theorem dJ5_append_c97b9_13 : decode cJ5_append_c97b9 13 = .ok (.iload_n 3, 1) := dg dtJ5_append_c97b9_0_ok 9 rfl
theorem dJ5_append_c97b9_14 : decode cJ5_append_c97b9 14 = .ok (.invokevirtual 100, 3) := dg dtJ5_append_c97b9_0_ok 10 rfl
theorem dJ5_append_c97b9_17 : decode cJ5_append_c97b9 17 = .ok (.aload_n 0, 1) := dg dtJ5_append_c97b9_0_ok 11 rfl
theorem dJ5_append_c97b9_18 : decode cJ5_append_c97b9 18 = .ok (.invokevirtual 83, 3) := dg dtJ5_append_c97b9_0_ok 12 rfl
theorem dJ5_append_c97b9_21 : decode cJ5_append_c97b9 21 = .ok (.ifCond .eq 16, 3) := dg dtJ5_append_c97b9_0_ok 13 rfl
theorem dJ5_append_c97b9_24 : decode cJ5_append_c97b9 24 = .ok (.iload_n 1, 1) := dg dtJ5_append_c97b9_0_ok 14 rfl
theorem dJ5_append_c97b9_25 : decode cJ5_append_c97b9 25 = .ok (.iload_n 3, 1) := dg dtJ5_append_c97b9_0_ok 15 rfl
theorem dJ5_append_c97b9_26 : decode cJ5_append_c97b9 26 = .ok (.aload_n 0, 1) := dg dtJ5_append_c97b9_0_ok 16 rfl
theorem dJ5_append_c97b9_27 : decode cJ5_append_c97b9 27 = .ok (.getfield 15, 3) := dg dtJ5_append_c97b9_0_ok 17 rfl
theorem dJ5_append_c97b9_30 : decode cJ5_append_c97b9 30 = .ok (.invokestatic 248, 3) := dg dtJ5_append_c97b9_0_ok 18 rfl
theorem dJ5_append_c97b9_33 : decode cJ5_append_c97b9 33 = .ok (.pop, 1) := dg dtJ5_append_c97b9_0_ok 19 rfl
theorem dJ5_append_c97b9_34 : decode cJ5_append_c97b9 34 = .ok (.goto 14, 3) := dg dtJ5_append_c97b9_0_ok 20 rfl
theorem dJ5_append_c97b9_37 : decode cJ5_append_c97b9 37 = .ok (.iload_n 1, 1) := dg dtJ5_append_c97b9_0_ok 21 rfl
theorem dJ5_append_c97b9_38 : decode cJ5_append_c97b9 38 = .ok (.iload_n 2, 1) := dg dtJ5_append_c97b9_0_ok 22 rfl
theorem dJ5_append_c97b9_39 : decode cJ5_append_c97b9 39 = .ok (.iload_n 3, 1) := dg dtJ5_append_c97b9_0_ok 23 rfl
theorem dJ5_append_c97b9_40 : decode cJ5_append_c97b9 40 = .ok (.aload_n 0, 1) := dg dtJ5_append_c97b9_0_ok 24 rfl
theorem dJ5_append_c97b9_41 : decode cJ5_append_c97b9 41 = .ok (.getfield 15, 3) := dg dtJ5_append_c97b9_0_ok 25 rfl
theorem dJ5_append_c97b9_44 : decode cJ5_append_c97b9 44 = .ok (.invokestatic 251, 3) := dg dtJ5_append_c97b9_0_ok 26 rfl
theorem dJ5_append_c97b9_47 : decode cJ5_append_c97b9 47 = .ok (.pop, 1) := dg dtJ5_append_c97b9_0_ok 27 rfl
theorem dJ5_append_c97b9_48 : decode cJ5_append_c97b9 48 = .ok (.aload_n 0, 1) := dg dtJ5_append_c97b9_0_ok 28 rfl
theorem dJ5_append_c97b9_49 : decode cJ5_append_c97b9 49 = .ok (.iload_n 3, 1) := dg dtJ5_append_c97b9_0_ok 29 rfl
theorem dJ5_append_c97b9_50 : decode cJ5_append_c97b9 50 = .ok (.putfield 79, 3) := dg dtJ5_append_c97b9_0_ok 30 rfl
theorem dJ5_append_c97b9_53 : decode cJ5_append_c97b9 53 = .ok (.aload_n 0, 1) := dg dtJ5_append_c97b9_0_ok 31 rfl
theorem dJ5_append_c97b9_54 : decode cJ5_append_c97b9 54 = .ok (.areturn, 1) := dg dtJ5_append_c97b9_0_ok 32 rfl
def dtJ5_isLatin1_aae02_0 : List (Nat × Instr × Nat) := [(0, .getstatic 18, 3), (3, .ifCond .eq 14, 3), (6, .aload_n 0, 1), (7, .getfield 22, 3), (10, .ifCond .ne 7, 3), (13, .iconst 1, 1), (14, .goto 4, 3), (17, .iconst 0, 1), (18, .ireturn, 1)]
theorem dtJ5_isLatin1_aae02_0_ok : ∀ q ∈ dtJ5_isLatin1_aae02_0, decode cJ5_isLatin1_aae02 q.1 = .ok q.2 := by decide +kernel
theorem dJ5_isLatin1_aae02_0 : decode cJ5_isLatin1_aae02 0 = .ok (.getstatic 18, 3) := dg dtJ5_isLatin1_aae02_0_ok 0 rfl
theorem dJ5_isLatin1_aae02_3 : decode cJ5_isLatin1_aae02 3 = .ok (.ifCond .eq 14, 3) := dg dtJ5_isLatin1_aae02_0_ok 1 rfl
theorem dJ5_isLatin1_aae02_6 : decode cJ5_isLatin1_aae02 6 = .ok (.aload_n 0, 1) := dg dtJ5_isLatin1_aae02_0_ok 2 rfl
theorem dJ5_isLatin1_aae02_7 : decode cJ5_isLatin1_aae02 7 = .ok (.getfield 22, 3) := dg dtJ5_isLatin1_aae02_0_ok 3 rfl
theorem dJ5_isLatin1_aae02_10 : decode cJ5_isLatin1_aae02 10 = .ok (.ifCond .ne 7, 3) := dg dtJ5_isLatin1_aae02_0_ok 4 rfl
theorem dJ5_isLatin1_aae02_13 : decode cJ5_isLatin1_aae02 13 = .ok (.iconst 1, 1) := dg dtJ5_isLatin1_aae02_0_ok 5 rfl
theorem dJ5_isLatin1_aae02_14 : decode cJ5_isLatin1_aae02 14 = .ok (.goto 4, 3) := dg dtJ5_isLatin1_aae02_0_ok 6 rfl
theorem dJ5_isLatin1_aae02_17 : decode cJ5_isLatin1_aae02 17 = .ok (.iconst 0, 1) := dg dtJ5_isLatin1_aae02_0_ok 7 rfl
theorem dJ5_isLatin1_aae02_18 : decode cJ5_isLatin1_aae02 18 = .ok (.ireturn, 1) := dg dtJ5_isLatin1_aae02_0_ok 8 rfl
def dtJ6_getChars_ba4f3_0 : List (Nat × Instr × Nat) := [(0, .iload_n 1, 1), (1, .istore 5, 2), (3, .iload_n 0, 1), (4, .ifCond .ge 7, 3), (7, .iconst 1, 1), (8, .goto 4, 3), (11, .iconst 0, 1), (12, .istore 6, 2), (14, .iload 6, 2), (16, .ifCond .ne 6, 3), (19, .iload_n 0, 1), (20, .ineg, 1), (21, .istore_n 0, 1), (22, .iload_n 0, 1), (23, .bipush (-100), 2), (25, .if_icmp .gt 47, 3), (28, .iload_n 0, 1), (29, .bipush 100, 2), (31, .idiv, 1), (32, .istore_n 3, 1), (33, .iload_n 3, 1), (34, .bipush 100, 2), (36, .imul, 1), (37, .iload_n 0, 1), (38, .isub, 1), (39, .istore 4, 2), (41, .iload_n 3, 1), (42, .istore_n 0, 1), (43, .aload_n 2, 1), (44, .iinc 5 (-1), 3), (47, .iload 5, 2), (49, .getstatic 83, 3), (52, .iload 4, 2), (54, .baload, 1), (55, .bastore, 1), (56, .aload_n 2, 1), (57, .iinc 5 (-1), 3), (60, .iload 5, 2), (62, .getstatic 87, 3), (65, .iload 4, 2), (67, .baload, 1), (68, .bastore, 1), (69, .goto (-47), 3), (72, .aload_n 2, 1), (73, .iinc 5 (-1), 3), (76, .iload 5, 2), (78, .getstatic 83, 3), (81, .iload_n 0, 1)]
theorem dtJ6_getChars_ba4f3_0_ok : ∀ q ∈ dtJ6_getChars_ba4f3_0, decode cJ6_getChars_ba4f3 q.1 = .ok q.2 := by decide +kernel
theorem dJ6_getChars_ba4f3_0 : decode cJ6_getChars_ba4f3 0 = .ok (.iload_n 1, 1) := dg dtJ6_getChars_ba4f3_0_ok 0 rfl
theorem dJ6_getChars_ba4f3_1 : decode cJ6_getChars_ba4f3 1 = .ok (.istore 5, 2) := dg dtJ6_getChars_ba4f3_0_ok 1 rfl
theorem dJ6_getChars_ba4f3_3 : decode cJ6_getChars_ba4f3 3 = .ok (.iload_n 0, 1) := dg dtJ6_getChars_ba4f3_0_ok 2 rfl
theorem dJ6_getChars_ba4f3_4 : decode cJ6_getChars_ba4f3 4 = .ok (.ifCond .ge 7, 3) := dg dtJ6_getChars_ba4f3_0_ok 3 rfl
theorem dJ6_getChars_ba4f3_7 : decode cJ6_getChars_ba4f3 7 = .ok (.iconst 1, 1) := dg dtJ6_getChars_ba4f3_0_ok 4 rfl
theorem dJ6_getChars_ba4f3_8 : decode cJ6_getChars_ba4f3 8 = .ok (.goto 4, 3) := dg dtJ6_getChars_ba4f3_0_ok 5 rfl
theorem dJ6_getChars_ba4f3_11 : decode cJ6_getChars_ba4f3 11 = .ok (.iconst 0, 1) := dg dtJ6_getChars_ba4f3_0_ok 6 rfl
theorem dJ6_getChars_ba4f3_12 : decode cJ6_getChars_ba4f3 12 = .ok (.istore 6, 2) := dg dtJ6_getChars_ba4f3_0_ok 7 rfl
theorem dJ6_getChars_ba4f3_14 : decode cJ6_getChars_ba4f3 14 = .ok (.iload 6, 2) := dg dtJ6_getChars_ba4f3_0_ok 8 rfl
theorem dJ6_getChars_ba4f3_16 : decode cJ6_getChars_ba4f3 16 = .ok (.ifCond .ne 6, 3) := dg dtJ6_getChars_ba4f3_0_ok 9 rfl
theorem dJ6_getChars_ba4f3_19 : decode cJ6_getChars_ba4f3 19 = .ok (.iload_n 0, 1) := dg dtJ6_getChars_ba4f3_0_ok 10 rfl
theorem dJ6_getChars_ba4f3_20 : decode cJ6_getChars_ba4f3 20 = .ok (.ineg, 1) := dg dtJ6_getChars_ba4f3_0_ok 11 rfl
theorem dJ6_getChars_ba4f3_21 : decode cJ6_getChars_ba4f3 21 = .ok (.istore_n 0, 1) := dg dtJ6_getChars_ba4f3_0_ok 12 rfl
theorem dJ6_getChars_ba4f3_22 : decode cJ6_getChars_ba4f3 22 = .ok (.iload_n 0, 1) := dg dtJ6_getChars_ba4f3_0_ok 13 rfl
theorem dJ6_getChars_ba4f3_23 : decode cJ6_getChars_ba4f3 23 = .ok (.bipush (-100), 2) := dg dtJ6_getChars_ba4f3_0_ok 14 rfl
theorem dJ6_getChars_ba4f3_25 : decode cJ6_getChars_ba4f3 25 = .ok (.if_icmp .gt 47, 3) := dg dtJ6_getChars_ba4f3_0_ok 15 rfl
theorem dJ6_getChars_ba4f3_28 : decode cJ6_getChars_ba4f3 28 = .ok (.iload_n 0, 1) := dg dtJ6_getChars_ba4f3_0_ok 16 rfl
theorem dJ6_getChars_ba4f3_29 : decode cJ6_getChars_ba4f3 29 = .ok (.bipush 100, 2) := dg dtJ6_getChars_ba4f3_0_ok 17 rfl
theorem dJ6_getChars_ba4f3_31 : decode cJ6_getChars_ba4f3 31 = .ok (.idiv, 1) := dg dtJ6_getChars_ba4f3_0_ok 18 rfl
theorem dJ6_getChars_ba4f3_32 : decode cJ6_getChars_ba4f3 32 = .ok (.istore_n 3, 1) := dg dtJ6_getChars_ba4f3_0_ok 19 rfl
theorem dJ6_getChars_ba4f3_33 : decode cJ6_getChars_ba4f3 33 = .ok (.iload_n 3, 1) := dg dtJ6_getChars_ba4f3_0_ok 20 rfl
theorem dJ6_getChars_ba4f3_34 : decode cJ6_getChars_ba4f3 34 = .ok (.bipush 100, 2) := dg dtJ6_getChars_ba4f3_0_ok 21 rfl
theorem dJ6_getChars_ba4f3_36 : decode cJ6_getChars_ba4f3 36 = .ok (.imul, 1) := dg dtJ6_getChars_ba4f3_0_ok 22 rfl
theorem dJ6_getChars_ba4f3_37 : decode cJ6_getChars_ba4f3 37 = .ok (.iload_n 0, 1) := dg dtJ6_getChars_ba4f3_0_ok 23 rfl
theorem dJ6_getChars_ba4f3_38 : decode cJ6_getChars_ba4f3 38 = .ok (.isub, 1) := dg dtJ6_getChars_ba4f3_0_ok 24 rfl
theorem dJ6_getChars_ba4f3_39 : decode cJ6_getChars_ba4f3 39 = .ok (.istore 4, 2) := dg dtJ6_getChars_ba4f3_0_ok 25 rfl
theorem dJ6_getChars_ba4f3_41 : decode cJ6_getChars_ba4f3 41 = .ok (.iload_n 3, 1) := dg dtJ6_getChars_ba4f3_0_ok 26 rfl
theorem dJ6_getChars_ba4f3_42 : decode cJ6_getChars_ba4f3 42 = .ok (.istore_n 0, 1) := dg dtJ6_getChars_ba4f3_0_ok 27 rfl
theorem dJ6_getChars_ba4f3_43 : decode cJ6_getChars_ba4f3 43 = .ok (.aload_n 2, 1) := dg dtJ6_getChars_ba4f3_0_ok 28 rfl
theorem dJ6_getChars_ba4f3_44 : decode cJ6_getChars_ba4f3 44 = .ok (.iinc 5 (-1), 3) := dg dtJ6_getChars_ba4f3_0_ok 29 rfl
theorem dJ6_getChars_ba4f3_47 : decode cJ6_getChars_ba4f3 47 = .ok (.iload 5, 2) := dg dtJ6_getChars_ba4f3_0_ok 30 rfl
theorem dJ6_getChars_ba4f3_49 : decode cJ6_getChars_ba4f3 49 = .ok (.getstatic 83, 3) := dg dtJ6_getChars_ba4f3_0_ok 31 rfl
theorem dJ6_getChars_ba4f3_52 : decode cJ6_getChars_ba4f3 52 = .ok (.iload 4, 2) := dg dtJ6_getChars_ba4f3_0_ok 32 rfl
theorem dJ6_getChars_ba4f3_54 : decode cJ6_getChars_ba4f3 54 = .ok (.baload, 1) := dg dtJ6_getChars_ba4f3_0_ok 33 rfl
theorem dJ6_getChars_ba4f3_55 : decode cJ6_getChars_ba4f3 55 = .ok (.bastore, 1) := dg dtJ6_getChars_ba4f3_0_ok 34 rfl
theorem dJ6_getChars_ba4f3_56 : decode cJ6_getChars_ba4f3 56 = .ok (.aload_n 2, 1) := dg dtJ6_getChars_ba4f3_0_ok 35 rfl
theorem dJ6_getChars_ba4f3_57 : decode cJ6_getChars_ba4f3 57 = .ok (.iinc 5 (-1), 3) := dg dtJ6_getChars_ba4f3_0_ok 36 rfl
theorem dJ6_getChars_ba4f3_60 : decode cJ6_getChars_ba4f3 60 = .ok (.iload 5, 2) := dg dtJ6_getChars_ba4f3_0_ok 37 rfl
theorem dJ6_getChars_ba4f3_62 : decode cJ6_getChars_ba4f3 62 = .ok (.getstatic 87, 3) := dg dtJ6_getChars_ba4f3_0_ok 38 rfl
theorem dJ6_getChars_ba4f3_65 : decode cJ6_getChars_ba4f3 65 = .ok (.iload 4, 2) := dg dtJ6_getChars_ba4f3_0_ok 39 rfl
theorem dJ6_getChars_ba4f3_67 : decode cJ6_getChars_ba4f3 67 = .ok (.baload, 1) := dg dtJ6_getChars_ba4f3_0_ok 40 rfl
theorem dJ6_getChars_ba4f3_68 : decode cJ6_getChars_ba4f3 68 = .ok (.bastore, 1) := dg dtJ6_getChars_ba4f3_0_ok 41 rfl
theorem dJ6_getChars_ba4f3_69 : decode cJ6_getChars_ba4f3 69 = .ok (.goto (-47), 3) := dg dtJ6_getChars_ba4f3_0_ok 42 rfl
theorem dJ6_getChars_ba4f3_72 : decode cJ6_getChars_ba4f3 72 = .ok (.aload_n 2, 1) := dg dtJ6_getChars_ba4f3_0_ok 43 rfl
theorem dJ6_getChars_ba4f3_73 : decode cJ6_getChars_ba4f3 73 = .ok (.iinc 5 (-1), 3) := dg dtJ6_getChars_ba4f3_0_ok 44 rfl
theorem dJ6_getChars_ba4f3_76 : decode cJ6_getChars_ba4f3 76 = .ok (.iload 5, 2) := dg dtJ6_getChars_ba4f3_0_ok 45 rfl
theorem dJ6_getChars_ba4f3_78 : decode cJ6_getChars_ba4f3 78 = .ok (.getstatic 83, 3) := dg dtJ6_getChars_ba4f3_0_ok 46 rfl
theorem dJ6_getChars_ba4f3_81 : decode cJ6_getChars_ba4f3 81 = .ok (.iload_n 0, 1) := dg dtJ6_getChars_ba4f3_0_ok 47 rfl
def dtJ6_getChars_ba4f3_1 : List (Nat × Instr × Nat) := [(82, .ineg, 1), (83, .baload, 1), (84, .bastore, 1), (85, .iload_n 0, 1), (86, .bipush (-9), 2), (88, .if_icmp .ge 16, 3), (91, .aload_n 2, 1), (92, .iinc 5 (-1), 3), (95, .iload 5, 2), (97, .getstatic 87, 3), (100, .iload_n 0, 1), (101, .ineg, 1), (102, .baload, 1), (103, .bastore, 1), (104, .iload 6, 2), (106, .ifCond .eq 12, 3), (109, .aload_n 2, 1), (110, .iinc 5 (-1), 3), (113, .iload 5, 2), (115, .bipush 45, 2), (117, .bastore, 1), (118, .iload 5, 2), (120, .ireturn, 1)]
theorem dtJ6_getChars_ba4f3_1_ok : ∀ q ∈ dtJ6_getChars_ba4f3_1, decode cJ6_getChars_ba4f3 q.1 = .ok q.2 := by decide +kernel
theorem dJ6_getChars_ba4f3_82 : decode cJ6_getChars_ba4f3 82 = .ok (.ineg, 1) := dg dtJ6_getChars_ba4f3_1_ok 0 rfl
theorem dJ6_getChars_ba4f3_83 : decode cJ6_getChars_ba4f3 83 = .ok (.baload, 1) := dg dtJ6_getChars_ba4f3_1_ok 1 rfl
theorem dJ6_getChars_ba4f3_84 : decode cJ6_getChars_ba4f3 84 = .ok (.bastore, 1) := dg dtJ6_getChars_ba4f3_1_ok 2 rfl
theorem dJ6_getChars_ba4f3_85 : decode cJ6_getChars_ba4f3 85 = .ok (.iload_n 0, 1) := dg dtJ6_getChars_ba4f3_1_ok 3 rfl
theorem dJ6_getChars_ba4f3_86 : decode cJ6_getChars_ba4f3 86 = .ok (.bipush (-9), 2) := dg dtJ6_getChars_ba4f3_1_ok 4 rfl
theorem dJ6_getChars_ba4f3_88 : decode cJ6_getChars_ba4f3 88 = .ok (.if_icmp .ge 16, 3) := dg dtJ6_getChars_ba4f3_1_ok 5 rfl
theorem dJ6_getChars_ba4f3_91 : decode cJ6_getChars_ba4f3 91 = .ok (.aload_n 2, 1) := dg dtJ6_getChars_ba4f3_1_ok 6 rfl
theorem dJ6_getChars_ba4f3_92 : decode cJ6_getChars_ba4f3 92 = .ok (.iinc 5 (-1), 3) := dg dtJ6_getChars_ba4f3_1_ok 7 rfl
theorem dJ6_getChars_ba4f3_95 : decode cJ6_getChars_ba4f3 95 = .ok (.iload 5, 2) := dg dtJ6_getChars_ba4f3_1_ok 8 rfl
theorem dJ6_getChars_ba4f3_97 : decode cJ6_getChars_ba4f3 97 = .ok (.getstatic 87, 3) := dg dtJ6_getChars_ba4f3_1_ok 9 rfl
theorem dJ6_getChars_ba4f3_100 : decode cJ6_getChars_ba4f3 100 = .ok (.iload_n 0, 1) := dg dtJ6_getChars_ba4f3_1_ok 10 rfl
theorem dJ6_getChars_ba4f3_101 : decode cJ6_getChars_ba4f3 101 = .ok (.ineg, 1) := dg dtJ6_getChars_ba4f3_1_ok 11 rfl
theorem dJ6_getChars_ba4f3_102 : decode cJ6_getChars_ba4f3 102 = .ok (.baload, 1) := dg dtJ6_getChars_ba4f3_1_ok 12 rfl
theorem dJ6_getChars_ba4f3_103 : decode cJ6_getChars_ba4f3 103 = .ok (.bastore, 1) := dg dtJ6_getChars_ba4f3_1_ok 13 rfl
theorem dJ6_getChars_ba4f3_104 : decode cJ6_getChars_ba4f3 104 = .ok (.iload 6, 2) := dg dtJ6_getChars_ba4f3_1_ok 14 rfl
theorem dJ6_getChars_ba4f3_106 : decode cJ6_getChars_ba4f3 106 = .ok (.ifCond .eq 12, 3) := dg dtJ6_getChars_ba4f3_1_ok 15 rfl
theorem dJ6_getChars_ba4f3_109 : decode cJ6_getChars_ba4f3 109 = .ok (.aload_n 2, 1) := dg dtJ6_getChars_ba4f3_1_ok 16 rfl
theorem dJ6_getChars_ba4f3_110 : decode cJ6_getChars_ba4f3 110 = .ok (.iinc 5 (-1), 3) := dg dtJ6_getChars_ba4f3_1_ok 17 rfl
theorem dJ6_getChars_ba4f3_113 : decode cJ6_getChars_ba4f3 113 = .ok (.iload 5, 2) := dg dtJ6_getChars_ba4f3_1_ok 18 rfl
theorem dJ6_getChars_ba4f3_115 : decode cJ6_getChars_ba4f3 115 = .ok (.bipush 45, 2) := dg dtJ6_getChars_ba4f3_1_ok 19 rfl
theorem dJ6_getChars_ba4f3_117 : decode cJ6_getChars_ba4f3 117 = .ok (.bastore, 1) := dg dtJ6_getChars_ba4f3_1_ok 20 rfl
theorem dJ6_getChars_ba4f3_118 : decode cJ6_getChars_ba4f3 118 = .ok (.iload 5, 2) := dg dtJ6_getChars_ba4f3_1_ok 21 rfl
theorem dJ6_getChars_ba4f3_120 : decode cJ6_getChars_ba4f3 120 = .ok (.ireturn, 1) := dg dtJ6_getChars_ba4f3_1_ok 22 rfl
def dtJ6_stringSize_0f7a4_0 : List (Nat × Instr × Nat) := [(0, .iconst 1, 1), (1, .istore_n 1, 1), (2, .iload_n 0, 1), (3, .ifCond .lt 8, 3), (6, .iconst 0, 1), (7, .istore_n 1, 1), (8, .iload_n 0, 1), (9, .ineg, 1), (10, .istore_n 0, 1), (11, .bipush (-10), 2), (13, .istore_n 2, 1), (14, .iconst 1, 1), (15, .istore_n 3, 1), (16, .iload_n 3, 1), (17, .bipush 10, 2), (19, .if_icmp .ge 23, 3), (22, .iload_n 0, 1), (23, .iload_n 2, 1), (24, .if_icmp .le 7, 3), (27, .iload_n 3, 1), (28, .iload_n 1, 1), (29, .iadd, 1), (30, .ireturn, 1), (31, .bipush 10, 2), (33, .iload_n 2, 1), (34, .imul, 1), (35, .istore_n 2, 1), (36, .iinc 3 1, 3), (39, .goto (-23), 3), (42, .bipush 10, 2), (44, .iload_n 1, 1), (45, .iadd, 1), (46, .ireturn, 1)]
theorem dtJ6_stringSize_0f7a4_0_ok : ∀ q ∈ dtJ6_stringSize_0f7a4_0, decode cJ6_stringSize_0f7a4 q.1 = .ok q.2 := by decide +kernel
theorem dJ6_stringSize_0f7a4_0 : decode cJ6_stringSize_0f7a4 0 = .ok (.iconst 1, 1) := dg dtJ6_stringSize_0f7a4_0_ok 0 rfl
theorem dJ6_stringSize_0f7a4_1 : decode cJ6_stringSize_0f7a4 1 = .ok (.istore_n 1, 1) := dg dtJ6_stringSize_0f7a4_0_ok 1 rfl
theorem dJ6_stringSize_0f7a4_2 : decode cJ6_stringSize_0f7a4 2 = .ok (.iload_n 0, 1) := dg dtJ6_stringSize_0f7a4_0_ok 2 rfl
theorem dJ6_stringSize_0f7a4_3 : decode cJ6_stringSize_0f7a4 3 = .ok (.ifCond .lt 8, 3) := dg dtJ6_stringSize_0f7a4_0_ok 3 rfl
theorem dJ6_stringSize_0f7a4_6 : decode cJ6_stringSize_0f7a4 6 = .ok (.iconst 0, 1) := dg dtJ6_stringSize_0f7a4_0_ok 4 rfl
theorem dJ6_stringSize_0f7a4_7 : decode cJ6_stringSize_0f7a4 7 = .ok (.istore_n 1, 1) := dg dtJ6_stringSize_0f7a4_0_ok 5 rfl
theorem dJ6_stringSize_0f7a4_8 : decode cJ6_stringSize_0f7a4 8 = .ok (.iload_n 0, 1) := dg dtJ6_stringSize_0f7a4_0_ok 6 rfl
theorem dJ6_stringSize_0f7a4_9 : decode cJ6_stringSize_0f7a4 9 = .ok (.ineg, 1) := dg dtJ6_stringSize_0f7a4_0_ok 7 rfl
theorem dJ6_stringSize_0f7a4_10 : decode cJ6_stringSize_0f7a4 10 = .ok (.istore_n 0, 1) := dg dtJ6_stringSize_0f7a4_0_ok 8 rfl
theorem dJ6_stringSize_0f7a4_11 : decode cJ6_stringSize_0f7a4 11 = .ok (.bipush (-10), 2) := dg dtJ6_stringSize_0f7a4_0_ok 9 rfl
theorem dJ6_stringSize_0f7a4_13 : decode cJ6_stringSize_0f7a4 13 = .ok (.istore_n 2, 1) := dg dtJ6_stringSize_0f7a4_0_ok 10 rfl
theorem dJ6_stringSize_0f7a4_14 : decode cJ6_stringSize_0f7a4 14 = .ok (.iconst 1, 1) := dg dtJ6_stringSize_0f7a4_0_ok 11 rfl
theorem dJ6_stringSize_0f7a4_15 : decode cJ6_stringSize_0f7a4 15 = .ok (.istore_n 3, 1) := dg dtJ6_stringSize_0f7a4_0_ok 12 rfl
theorem dJ6_stringSize_0f7a4_16 : decode cJ6_stringSize_0f7a4 16 = .ok (.iload_n 3, 1) := dg dtJ6_stringSize_0f7a4_0_ok 13 rfl
theorem dJ6_stringSize_0f7a4_17 : decode cJ6_stringSize_0f7a4 17 = .ok (.bipush 10, 2) := dg dtJ6_stringSize_0f7a4_0_ok 14 rfl
theorem dJ6_stringSize_0f7a4_19 : decode cJ6_stringSize_0f7a4 19 = .ok (.if_icmp .ge 23, 3) := dg dtJ6_stringSize_0f7a4_0_ok 15 rfl
theorem dJ6_stringSize_0f7a4_22 : decode cJ6_stringSize_0f7a4 22 = .ok (.iload_n 0, 1) := dg dtJ6_stringSize_0f7a4_0_ok 16 rfl
theorem dJ6_stringSize_0f7a4_23 : decode cJ6_stringSize_0f7a4 23 = .ok (.iload_n 2, 1) := dg dtJ6_stringSize_0f7a4_0_ok 17 rfl
theorem dJ6_stringSize_0f7a4_24 : decode cJ6_stringSize_0f7a4 24 = .ok (.if_icmp .le 7, 3) := dg dtJ6_stringSize_0f7a4_0_ok 18 rfl
theorem dJ6_stringSize_0f7a4_27 : decode cJ6_stringSize_0f7a4 27 = .ok (.iload_n 3, 1) := dg dtJ6_stringSize_0f7a4_0_ok 19 rfl
theorem dJ6_stringSize_0f7a4_28 : decode cJ6_stringSize_0f7a4 28 = .ok (.iload_n 1, 1) := dg dtJ6_stringSize_0f7a4_0_ok 20 rfl
theorem dJ6_stringSize_0f7a4_29 : decode cJ6_stringSize_0f7a4 29 = .ok (.iadd, 1) := dg dtJ6_stringSize_0f7a4_0_ok 21 rfl
theorem dJ6_stringSize_0f7a4_30 : decode cJ6_stringSize_0f7a4 30 = .ok (.ireturn, 1) := dg dtJ6_stringSize_0f7a4_0_ok 22 rfl
theorem dJ6_stringSize_0f7a4_31 : decode cJ6_stringSize_0f7a4 31 = .ok (.bipush 10, 2) := dg dtJ6_stringSize_0f7a4_0_ok 23 rfl
theorem dJ6_stringSize_0f7a4_33 : decode cJ6_stringSize_0f7a4 33 = .ok (.iload_n 2, 1) := dg dtJ6_stringSize_0f7a4_0_ok 24 rfl
theorem dJ6_stringSize_0f7a4_34 : decode cJ6_stringSize_0f7a4 34 = .ok (.imul, 1) := dg dtJ6_stringSize_0f7a4_0_ok 25 rfl
theorem dJ6_stringSize_0f7a4_35 : decode cJ6_stringSize_0f7a4 35 = .ok (.istore_n 2, 1) := dg dtJ6_stringSize_0f7a4_0_ok 26 rfl
theorem dJ6_stringSize_0f7a4_36 : decode cJ6_stringSize_0f7a4 36 = .ok (.iinc 3 1, 3) := dg dtJ6_stringSize_0f7a4_0_ok 27 rfl
theorem dJ6_stringSize_0f7a4_39 : decode cJ6_stringSize_0f7a4 39 = .ok (.goto (-23), 3) := dg dtJ6_stringSize_0f7a4_0_ok 28 rfl
theorem dJ6_stringSize_0f7a4_42 : decode cJ6_stringSize_0f7a4 42 = .ok (.bipush 10, 2) := dg dtJ6_stringSize_0f7a4_0_ok 29 rfl
theorem dJ6_stringSize_0f7a4_44 : decode cJ6_stringSize_0f7a4 44 = .ok (.iload_n 1, 1) := dg dtJ6_stringSize_0f7a4_0_ok 30 rfl
theorem dJ6_stringSize_0f7a4_45 : decode cJ6_stringSize_0f7a4 45 = .ok (.iadd, 1) := dg dtJ6_stringSize_0f7a4_0_ok 31 rfl
theorem dJ6_stringSize_0f7a4_46 : decode cJ6_stringSize_0f7a4 46 = .ok (.ireturn, 1) := dg dtJ6_stringSize_0f7a4_0_ok 32 rfl
def dtJ9_max_7cf53_0 : List (Nat × Instr × Nat) := [(0, .iload_n 0, 1), (1, .iload_n 1, 1), (2, .if_icmp .lt 7, 3), (5, .iload_n 0, 1), (6, .goto 4, 3), (9, .iload_n 1, 1), (10, .ireturn, 1)]
theorem dtJ9_max_7cf53_0_ok : ∀ q ∈ dtJ9_max_7cf53_0, decode cJ9_max_7cf53 q.1 = .ok q.2 := by decide +kernel
theorem dJ9_max_7cf53_0 : decode cJ9_max_7cf53 0 = .ok (.iload_n 0, 1) := dg dtJ9_max_7cf53_0_ok 0 rfl
theorem dJ9_max_7cf53_1 : decode cJ9_max_7cf53 1 = .ok (.iload_n 1, 1) := dg dtJ9_max_7cf53_0_ok 1 rfl
theorem dJ9_max_7cf53_2 : decode cJ9_max_7cf53 2 = .ok (.if_icmp .lt 7, 3) := dg dtJ9_max_7cf53_0_ok 2 rfl
theorem dJ9_max_7cf53_5 : decode cJ9_max_7cf53 5 = .ok (.iload_n 0, 1) := dg dtJ9_max_7cf53_0_ok 3 rfl
theorem dJ9_max_7cf53_6 : decode cJ9_max_7cf53 6 = .ok (.goto 4, 3) := dg dtJ9_max_7cf53_0_ok 4 rfl
theorem dJ9_max_7cf53_9 : decode cJ9_max_7cf53 9 = .ok (.iload_n 1, 1) := dg dtJ9_max_7cf53_0_ok 5 rfl
theorem dJ9_max_7cf53_10 : decode cJ9_max_7cf53 10 = .ok (.ireturn, 1) := dg dtJ9_max_7cf53_0_ok 6 rfl
def dtJ9_min_7cf53_0 : List (Nat × Instr × Nat) := [(0, .iload_n 0, 1), (1, .iload_n 1, 1), (2, .if_icmp .gt 7, 3), (5, .iload_n 0, 1), (6, .goto 4, 3), (9, .iload_n 1, 1), (10, .ireturn, 1)]
theorem dtJ9_min_7cf53_0_ok : ∀ q ∈ dtJ9_min_7cf53_0, decode cJ9_min_7cf53 q.1 = .ok q.2 := by decide +kernel
theorem dJ9_min_7cf53_0 : decode cJ9_min_7cf53 0 = .ok (.iload_n 0, 1) := dg dtJ9_min_7cf53_0_ok 0 rfl
theorem dJ9_min_7cf53_1 : decode cJ9_min_7cf53 1 = .ok (.iload_n 1, 1) := dg dtJ9_min_7cf53_0_ok 1 rfl
theorem dJ9_min_7cf53_2 : decode cJ9_min_7cf53 2 = .ok (.if_icmp .gt 7, 3) := dg dtJ9_min_7cf53_0_ok 2 rfl
theorem dJ9_min_7cf53_5 : decode cJ9_min_7cf53 5 = .ok (.iload_n 0, 1) := dg dtJ9_min_7cf53_0_ok 3 rfl
theorem dJ9_min_7cf53_6 : decode cJ9_min_7cf53 6 = .ok (.goto 4, 3) := dg dtJ9_min_7cf53_0_ok 4 rfl
theorem dJ9_min_7cf53_9 : decode cJ9_min_7cf53 9 = .ok (.iload_n 1, 1) := dg dtJ9_min_7cf53_0_ok 5 rfl
theorem dJ9_min_7cf53_10 : decode cJ9_min_7cf53 10 = .ok (.ireturn, 1) := dg dtJ9_min_7cf53_0_ok 6 rfl
def dtJ0_length_8abf5_0 : List (Nat × Instr × Nat) := [(0, .aload_n 0, 1), (1, .getfield 9, 3), (4, .arraylength, 1), (5, .aload_n 0, 1), (6, .invokevirtual 335, 3), (9, .ishr, 1), (10, .ireturn, 1)]
theorem dtJ0_length_8abf5_0_ok : ∀ q ∈ dtJ0_length_8abf5_0, decode cJ0_length_8abf5 q.1 = .ok q.2 := by decide +kernel
theorem dJ0_length_8abf5_0 : decode cJ0_length_8abf5 0 = .ok (.aload_n 0, 1) := dg dtJ0_length_8abf5_0_ok 0 rfl
theorem dJ0_length_8abf5_1 : decode cJ0_length_8abf5 1 = .ok (.getfield 9, 3) := dg dtJ0_length_8abf5_0_ok 1 rfl
theorem dJ0_length_8abf5_4 : decode cJ0_length_8abf5 4 = .ok (.arraylength, 1) := dg dtJ0_length_8abf5_0_ok 2 rfl
theorem dJ0_length_8abf5_5 : decode cJ0_length_8abf5 5 = .ok (.aload_n 0, 1) := dg dtJ0_length_8abf5_0_ok 3 rfl
theorem dJ0_length_8abf5_6 : decode cJ0_length_8abf5 6 = .ok (.invokevirtual 335, 3) := dg dtJ0_length_8abf5_0_ok 4 rfl
theorem dJ0_length_8abf5_9 : decode cJ0_length_8abf5 9 = .ok (.ishr, 1) := dg dtJ0_length_8abf5_0_ok 5 rfl
theorem dJ0_length_8abf5_10 : decode cJ0_length_8abf5 10 = .ok (.ireturn, 1) := dg dtJ0_length_8abf5_0_ok 6 rfl
def dtJ0_charAt_5068e_0 : List (Nat × Instr × Nat) := [(0, .aload_n 0, 1), (1, .invokevirtual 492, 3), (4, .ifCond .eq 12, 3), (7, .aload_n 0, 1), (8, .getfield 9, 3), (11, .iload_n 1, 1), (12, .invokestatic 495, 3), (15, .ireturn, 1), (16, .aload_n 0, 1), (17, .getfield 9, 3), (20, .iload_n 1, 1), (21, .invokestatic 498, 3), (24, .ireturn, 1)]
theorem dtJ0_charAt_5068e_0_ok : ∀ q ∈ dtJ0_charAt_5068e_0, decode cJ0_charAt_5068e q.1 = .ok q.2 := by decide +kernel
theorem dJ0_charAt_5068e_0 : decode cJ0_charAt_5068e 0 = .ok (.aload_n 0, 1) := dg dtJ0_charAt_5068e_0_ok 0 rfl
theorem dJ0_charAt_5068e_1 : decode cJ0_charAt_5068e 1 = .ok (.invokevirtual 492, 3) := dg dtJ0_charAt_5068e_0_ok 1 rfl
theorem dJ0_charAt_5068e_4 : decode cJ0_charAt_5068e 4 = .ok (.ifCond .eq 12, 3) := dg dtJ0_charAt_5068e_0_ok 2 rfl
theorem dJ0_charAt_5068e_7 : decode cJ0_charAt_5068e 7 = .ok (.aload_n 0, 1) := dg dtJ0_charAt_5068e_0_ok 3 rfl
theorem dJ0_charAt_5068e_8 : decode cJ0_charAt_5068e 8 = .ok (.getfield 9, 3) := dg dtJ0_charAt_5068e_0_ok 4 rfl
theorem dJ0_charAt_5068e_11 : decode cJ0_charAt_5068e 11 = .ok (.iload_n 1, 1) := dg dtJ0_charAt_5068e_0_ok 5 rfl
theorem dJ0_charAt_5068e_12 : decode cJ0_charAt_5068e 12 = .ok (.invokestatic 495, 3) := dg dtJ0_charAt_5068e_0_ok 6 rfl
theorem dJ0_charAt_5068e_15 : decode cJ0_charAt_5068e 15 = .ok (.ireturn, 1) := dg dtJ0_charAt_5068e_0_ok 7 rfl
theorem dJ0_charAt_5068e_16 : decode cJ0_charAt_5068e 16 = .ok (.aload_n 0, 1) := dg dtJ0_charAt_5068e_0_ok 8 rfl
theorem dJ0_charAt_5068e_17 : decode cJ0_charAt_5068e 17 = .ok (.getfield 9, 3) := dg dtJ0_charAt_5068e_0_ok 9 rfl
theorem dJ0_charAt_5068e_20 : decode cJ0_charAt_5068e 20 = .ok (.iload_n 1, 1) := dg dtJ0_charAt_5068e_0_ok 10 rfl
theorem dJ0_charAt_5068e_21 : decode cJ0_charAt_5068e 21 = .ok (.invokestatic 498, 3) := dg dtJ0_charAt_5068e_0_ok 11 rfl
theorem dJ0_charAt_5068e_24 : decode cJ0_charAt_5068e 24 = .ok (.ireturn, 1) := dg dtJ0_charAt_5068e_0_ok 12 rfl
def dtJ0_coder_7d493_0 : List (Nat × Instr × Nat) := [(0, .getstatic 38, 3), (3, .ifCond .eq 10, 3), (6, .aload_n 0, 1), (7, .getfield 15, 3), (10, .goto 4, 3), (13, .iconst 1, 1), (14, .ireturn, 1)]
theorem dtJ0_coder_7d493_0_ok : ∀ q ∈ dtJ0_coder_7d493_0, decode cJ0_coder_7d493 q.1 = .ok q.2 := by decide +kernel
theorem dJ0_coder_7d493_0 : decode cJ0_coder_7d493 0 = .ok (.getstatic 38, 3) := dg dtJ0_coder_7d493_0_ok 0 rfl
theorem dJ0_coder_7d493_3 : decode cJ0_coder_7d493 3 = .ok (.ifCond .eq 10, 3) := dg dtJ0_coder_7d493_0_ok 1 rfl
theorem dJ0_coder_7d493_6 : decode cJ0_coder_7d493 6 = .ok (.aload_n 0, 1) := dg dtJ0_coder_7d493_0_ok 2 rfl
theorem dJ0_coder_7d493_7 : decode cJ0_coder_7d493 7 = .ok (.getfield 15, 3) := dg dtJ0_coder_7d493_0_ok 3 rfl
theorem dJ0_coder_7d493_10 : decode cJ0_coder_7d493 10 = .ok (.goto 4, 3) := dg dtJ0_coder_7d493_0_ok 4 rfl
theorem dJ0_coder_7d493_13 : decode cJ0_coder_7d493 13 = .ok (.iconst 1, 1) := dg dtJ0_coder_7d493_0_ok 5 rfl
theorem dJ0_coder_7d493_14 : decode cJ0_coder_7d493 14 = .ok (.ireturn, 1) := dg dtJ0_coder_7d493_0_ok 6 rfl
def dtJ0_isLatin1_aae02_0 : List (Nat × Instr × Nat) := [(0, .getstatic 38, 3), (3, .ifCond .eq 14, 3), (6, .aload_n 0, 1), (7, .getfield 15, 3), (10, .ifCond .ne 7, 3), (13, .iconst 1, 1), (14, .goto 4, 3), (17, .iconst 0, 1), (18, .ireturn, 1)]
theorem dtJ0_isLatin1_aae02_0_ok : ∀ q ∈ dtJ0_isLatin1_aae02_0, decode cJ0_isLatin1_aae02 q.1 = .ok q.2 := by decide +kernel
theorem dJ0_isLatin1_aae02_0 : decode cJ0_isLatin1_aae02 0 = .ok (.getstatic 38, 3) := dg dtJ0_isLatin1_aae02_0_ok 0 rfl
theorem dJ0_isLatin1_aae02_3 : decode cJ0_isLatin1_aae02 3 = .ok (.ifCond .eq 14, 3) := dg dtJ0_isLatin1_aae02_0_ok 1 rfl
theorem dJ0_isLatin1_aae02_6 : decode cJ0_isLatin1_aae02 6 = .ok (.aload_n 0, 1) := dg dtJ0_isLatin1_aae02_0_ok 2 rfl
theorem dJ0_isLatin1_aae02_7 : decode cJ0_isLatin1_aae02 7 = .ok (.getfield 15, 3) := dg dtJ0_isLatin1_aae02_0_ok 3 rfl
theorem dJ0_isLatin1_aae02_10 : decode cJ0_isLatin1_aae02 10 = .ok (.ifCond .ne 7, 3) := dg dtJ0_isLatin1_aae02_0_ok 4 rfl
theorem dJ0_isLatin1_aae02_13 : decode cJ0_isLatin1_aae02 13 = .ok (.iconst 1, 1) := dg dtJ0_isLatin1_aae02_0_ok 5 rfl
theorem dJ0_isLatin1_aae02_14 : decode cJ0_isLatin1_aae02 14 = .ok (.goto 4, 3) := dg dtJ0_isLatin1_aae02_0_ok 6 rfl
theorem dJ0_isLatin1_aae02_17 : decode cJ0_isLatin1_aae02 17 = .ok (.iconst 0, 1) := dg dtJ0_isLatin1_aae02_0_ok 7 rfl
theorem dJ0_isLatin1_aae02_18 : decode cJ0_isLatin1_aae02 18 = .ok (.ireturn, 1) := dg dtJ0_isLatin1_aae02_0_ok 8 rfl
def dtJ0_checkIndex_df160_0 : List (Nat × Instr × Nat) := [(0, .iload_n 0, 1), (1, .iload_n 1, 1), (2, .getstatic 1053, 3), (5, .invokestatic 1059, 3), (8, .pop, 1), (9, .return_, 1)]
theorem dtJ0_checkIndex_df160_0_ok : ∀ q ∈ dtJ0_checkIndex_df160_0, decode cJ0_checkIndex_df160 q.1 = .ok q.2 := by decide +kernel
theorem dJ0_checkIndex_df160_0 : decode cJ0_checkIndex_df160 0 = .ok (.iload_n 0, 1) := dg dtJ0_checkIndex_df160_0_ok 0 rfl
theorem dJ0_checkIndex_df160_1 : decode cJ0_checkIndex_df160 1 = .ok (.iload_n 1, 1) := dg dtJ0_checkIndex_df160_0_ok 1 rfl
theorem dJ0_checkIndex_df160_2 : decode cJ0_checkIndex_df160 2 = .ok (.getstatic 1053, 3) := dg dtJ0_checkIndex_df160_0_ok 2 rfl
theorem dJ0_checkIndex_df160_5 : decode cJ0_checkIndex_df160 5 = .ok (.invokestatic 1059, 3) := dg dtJ0_checkIndex_df160_0_ok 3 rfl
theorem dJ0_checkIndex_df160_8 : decode cJ0_checkIndex_df160 8 = .ok (.pop, 1) := dg dtJ0_checkIndex_df160_0_ok 4 rfl
theorem dJ0_checkIndex_df160_9 : decode cJ0_checkIndex_df160 9 = .ok (.return_, 1) := dg dtJ0_checkIndex_df160_0_ok 5 rfl
def dtJ0_checkBoundsOffCount_cabcc_0 : List (Nat × Instr × Nat) := [(0, .iload_n 0, 1), (1, .iload_n 1, 1), (2, .iload_n 2, 1), (3, .getstatic 1053, 3), (6, .invokestatic 1065, 3), (9, .ireturn, 1)]
theorem dtJ0_checkBoundsOffCount_cabcc_0_ok : ∀ q ∈ dtJ0_checkBoundsOffCount_cabcc_0, decode cJ0_checkBoundsOffCount_cabcc q.1 = .ok q.2 := by decide +kernel
theorem dJ0_checkBoundsOffCount_cabcc_0 : decode cJ0_checkBoundsOffCount_cabcc 0 = .ok (.iload_n 0, 1) := dg dtJ0_checkBoundsOffCount_cabcc_0_ok 0 rfl
theorem dJ0_checkBoundsOffCount_cabcc_1 : decode cJ0_checkBoundsOffCount_cabcc 1 = .ok (.iload_n 1, 1) := dg dtJ0_checkBoundsOffCount_cabcc_0_ok 1 rfl
theorem dJ0_checkBoundsOffCount_cabcc_2 : decode cJ0_checkBoundsOffCount_cabcc 2 = .ok (.iload_n 2, 1) := dg dtJ0_checkBoundsOffCount_cabcc_0_ok 2 rfl
theorem dJ0_checkBoundsOffCount_cabcc_3 : decode cJ0_checkBoundsOffCount_cabcc 3 = .ok (.getstatic 1053, 3) := dg dtJ0_checkBoundsOffCount_cabcc_0_ok 3 rfl
theorem dJ0_checkBoundsOffCount_cabcc_6 : decode cJ0_checkBoundsOffCount_cabcc 6 = .ok (.invokestatic 1065, 3) := dg dtJ0_checkBoundsOffCount_cabcc_0_ok 4 rfl
theorem dJ0_checkBoundsOffCount_cabcc_9 : decode cJ0_checkBoundsOffCount_cabcc 9 = .ok (.ireturn, 1) := dg dtJ0_checkBoundsOffCount_cabcc_0_ok 5 rfl
def dtJ0_checkBoundsBeginEnd_23922_0 : List (Nat × Instr × Nat) := [(0, .iload_n 0, 1), (1, .iload_n 1, 1), (2, .iload_n 2, 1), (3, .getstatic 1053, 3), (6, .invokestatic 1062, 3), (9, .pop, 1), (10, .return_, 1)]
theorem dtJ0_checkBoundsBeginEnd_23922_0_ok : ∀ q ∈ dtJ0_checkBoundsBeginEnd_23922_0, decode cJ0_checkBoundsBeginEnd_23922 q.1 = .ok q.2 := by decide +kernel
theorem dJ0_checkBoundsBeginEnd_23922_0 : decode cJ0_checkBoundsBeginEnd_23922 0 = .ok (.iload_n 0, 1) := dg dtJ0_checkBoundsBeginEnd_23922_0_ok 0 rfl
theorem dJ0_checkBoundsBeginEnd_23922_1 : decode cJ0_checkBoundsBeginEnd_23922 1 = .ok (.iload_n 1, 1) := dg dtJ0_checkBoundsBeginEnd_23922_0_ok 1 rfl
theorem dJ0_checkBoundsBeginEnd_23922_2 : decode cJ0_checkBoundsBeginEnd_23922 2 = .ok (.iload_n 2, 1) := dg dtJ0_checkBoundsBeginEnd_23922_0_ok 2 rfl
theorem dJ0_checkBoundsBeginEnd_23922_3 : decode cJ0_checkBoundsBeginEnd_23922 3 = .ok (.getstatic 1053, 3) := dg dtJ0_checkBoundsBeginEnd_23922_0_ok 3 rfl
theorem dJ0_checkBoundsBeginEnd_23922_6 : decode cJ0_checkBoundsBeginEnd_23922 6 = .ok (.invokestatic 1062, 3) := dg dtJ0_checkBoundsBeginEnd_23922_0_ok 4 rfl
theorem dJ0_checkBoundsBeginEnd_23922_9 : decode cJ0_checkBoundsBeginEnd_23922 9 = .ok (.pop, 1) := dg dtJ0_checkBoundsBeginEnd_23922_0_ok 5 rfl
theorem dJ0_checkBoundsBeginEnd_23922_10 : decode cJ0_checkBoundsBeginEnd_23922 10 = .ok (.return_, 1) := dg dtJ0_checkBoundsBeginEnd_23922_0_ok 6 rfl
def dtJ4_init_da8c8_0 : List (Nat × Instr × Nat) := [(0, .aload_n 0, 1), (1, .bipush 16, 2), (3, .invokespecial 1, 3), (6, .return_, 1)]
theorem dtJ4_init_da8c8_0_ok : ∀ q ∈ dtJ4_init_da8c8_0, decode cJ4_init_da8c8 q.1 = .ok q.2 := by decide +kernel
theorem dJ4_init_da8c8_0 : decode cJ4_init_da8c8 0 = .ok (.aload_n 0, 1) := dg dtJ4_init_da8c8_0_ok 0 rfl
theorem dJ4_init_da8c8_1 : decode cJ4_init_da8c8 1 = .ok (.bipush 16, 2) := dg dtJ4_init_da8c8_0_ok 1 rfl
theorem dJ4_init_da8c8_3 : decode cJ4_init_da8c8 3 = .ok (.invokespecial 1, 3) := dg dtJ4_init_da8c8_0_ok 2 rfl
theorem dJ4_init_da8c8_6 : decode cJ4_init_da8c8 6 = .ok (.return_, 1) := dg dtJ4_init_da8c8_0_ok 3 rfl
def dtJ4_append_cf468_0 : List (Nat × Instr × Nat) := [(0, .aload_n 0, 1), (1, .iload_n 1, 1), (2, .invokespecial 50, 3), (5, .pop, 1), (6, .aload_n 0, 1), (7, .areturn, 1)]
theorem dtJ4_append_cf468_0_ok : ∀ q ∈ dtJ4_append_cf468_0, decode cJ4_append_cf468 q.1 = .ok q.2 := by decide +kernel
theorem dJ4_append_cf468_0 : decode cJ4_append_cf468 0 = .ok (.aload_n 0, 1) := dg dtJ4_append_cf468_0_ok 0 rfl
theorem dJ4_append_cf468_1 : decode cJ4_append_cf468 1 = .ok (.iload_n 1, 1) := dg dtJ4_append_cf468_0_ok 1 rfl
theorem dJ4_append_cf468_2 : decode cJ4_append_cf468 2 = .ok (.invokespecial 50, 3) := dg dtJ4_append_cf468_0_ok 2 rfl
theorem dJ4_append_cf468_5 : decode cJ4_append_cf468 5 = .ok (.pop, 1) := dg dtJ4_append_cf468_0_ok 3 rfl
theorem dJ4_append_cf468_6 : decode cJ4_append_cf468 6 = .ok (.aload_n 0, 1) := dg dtJ4_append_cf468_0_ok 4 rfl
theorem dJ4_append_cf468_7 : decode cJ4_append_cf468 7 = .ok (.areturn, 1) := dg dtJ4_append_cf468_0_ok 5 rfl
def dtJ4_append_bf812_0 : List (Nat × Instr × Nat) := [(0, .aload_n 0, 1), (1, .iload_n 1, 1), (2, .invokespecial 53, 3), (5, .pop, 1), (6, .aload_n 0, 1), (7, .areturn, 1)]
theorem dtJ4_append_bf812_0_ok : ∀ q ∈ dtJ4_append_bf812_0, decode cJ4_append_bf812 q.1 = .ok q.2 := by decide +kernel
theorem dJ4_append_bf812_0 : decode cJ4_append_bf812 0 = .ok (.aload_n 0, 1) := dg dtJ4_append_bf812_0_ok 0 rfl
theorem dJ4_append_bf812_1 : decode cJ4_append_bf812 1 = .ok (.iload_n 1, 1) := dg dtJ4_append_bf812_0_ok 1 rfl
theorem dJ4_append_bf812_2 : decode cJ4_append_bf812 2 = .ok (.invokespecial 53, 3) := dg dtJ4_append_bf812_0_ok 2 rfl
theorem dJ4_append_bf812_5 : decode cJ4_append_bf812 5 = .ok (.pop, 1) := dg dtJ4_append_bf812_0_ok 3 rfl
theorem dJ4_append_bf812_6 : decode cJ4_append_bf812 6 = .ok (.aload_n 0, 1) := dg dtJ4_append_bf812_0_ok 4 rfl
theorem dJ4_append_bf812_7 : decode cJ4_append_bf812 7 = .ok (.areturn, 1) := dg dtJ4_append_bf812_0_ok 5 rfl
def dtJ4_charAt_5068e_0 : List (Nat × Instr × Nat) := [(0, .aload_n 0, 1), (1, .iload_n 1, 1), (2, .invokespecial 329, 3), (5, .ireturn, 1)]
theorem dtJ4_charAt_5068e_0_ok : ∀ q ∈ dtJ4_charAt_5068e_0, decode cJ4_charAt_5068e q.1 = .ok q.2 := by decide +kernel
theorem dJ4_charAt_5068e_0 : decode cJ4_charAt_5068e 0 = .ok (.aload_n 0, 1) := dg dtJ4_charAt_5068e_0_ok 0 rfl
theorem dJ4_charAt_5068e_1 : decode cJ4_charAt_5068e 1 = .ok (.iload_n 1, 1) := dg dtJ4_charAt_5068e_0_ok 1 rfl
theorem dJ4_charAt_5068e_2 : decode cJ4_charAt_5068e 2 = .ok (.invokespecial 329, 3) := dg dtJ4_charAt_5068e_0_ok 2 rfl
theorem dJ4_charAt_5068e_5 : decode cJ4_charAt_5068e 5 = .ok (.ireturn, 1) := dg dtJ4_charAt_5068e_0_ok 3 rfl
def dtJ4_setLength_d00df_0 : List (Nat × Instr × Nat) := [(0, .aload_n 0, 1), (1, .iload_n 1, 1), (2, .invokespecial 333, 3), (5, .return_, 1)]
theorem dtJ4_setLength_d00df_0_ok : ∀ q ∈ dtJ4_setLength_d00df_0, decode cJ4_setLength_d00df q.1 = .ok q.2 := by decide +kernel
theorem dJ4_setLength_d00df_0 : decode cJ4_setLength_d00df 0 = .ok (.aload_n 0, 1) := dg dtJ4_setLength_d00df_0_ok 0 rfl
theorem dJ4_setLength_d00df_1 : decode cJ4_setLength_d00df 1 = .ok (.iload_n 1, 1) := dg dtJ4_setLength_d00df_0_ok 1 rfl
theorem dJ4_setLength_d00df_2 : decode cJ4_setLength_d00df 2 = .ok (.invokespecial 333, 3) := dg dtJ4_setLength_d00df_0_ok 2 rfl
theorem dJ4_setLength_d00df_5 : decode cJ4_setLength_d00df 5 = .ok (.return_, 1) := dg dtJ4_setLength_d00df_0_ok 3 rfl
def dtJ4_length_8abf5_0 : List (Nat × Instr × Nat) := [(0, .aload_n 0, 1), (1, .invokespecial 343, 3), (4, .ireturn, 1)]
theorem dtJ4_length_8abf5_0_ok : ∀ q ∈ dtJ4_length_8abf5_0, decode cJ4_length_8abf5 q.1 = .ok q.2 := by decide +kernel
theorem dJ4_length_8abf5_0 : decode cJ4_length_8abf5 0 = .ok (.aload_n 0, 1) := dg dtJ4_length_8abf5_0_ok 0 rfl
theorem dJ4_length_8abf5_1 : decode cJ4_length_8abf5 1 = .ok (.invokespecial 343, 3) := dg dtJ4_length_8abf5_0_ok 1 rfl
theorem dJ4_length_8abf5_4 : decode cJ4_length_8abf5 4 = .ok (.ireturn, 1) := dg dtJ4_length_8abf5_0_ok 2 rfl
def dtJ1_charAt_3b067_0 : List (Nat × Instr × Nat) := [(0, .iload_n 1, 1), (1, .aload_n 0, 1), (2, .arraylength, 1), (3, .invokestatic 9, 3), (6, .aload_n 0, 1), (7, .iload_n 1, 1), (8, .baload, 1), (9, .sipush 255, 3), (12, .iand, 1), (13, .i2c, 1), (14, .ireturn, 1)]
theorem dtJ1_charAt_3b067_0_ok : ∀ q ∈ dtJ1_charAt_3b067_0, decode cJ1_charAt_3b067 q.1 = .ok q.2 := by decide +kernel
theorem dJ1_charAt_3b067_0 : decode cJ1_charAt_3b067 0 = .ok (.iload_n 1, 1) := dg dtJ1_charAt_3b067_0_ok 0 rfl
theorem dJ1_charAt_3b067_1 : decode cJ1_charAt_3b067 1 = .ok (.aload_n 0, 1) := dg dtJ1_charAt_3b067_0_ok 1 rfl
theorem dJ1_charAt_3b067_2 : decode cJ1_charAt_3b067 2 = .ok (.arraylength, 1) := dg dtJ1_charAt_3b067_0_ok 2 rfl
theorem dJ1_charAt_3b067_3 : decode cJ1_charAt_3b067 3 = .ok (.invokestatic 9, 3) := dg dtJ1_charAt_3b067_0_ok 3 rfl
theorem dJ1_charAt_3b067_6 : decode cJ1_charAt_3b067 6 = .ok (.aload_n 0, 1) := dg dtJ1_charAt_3b067_0_ok 4 rfl
theorem dJ1_charAt_3b067_7 : decode cJ1_charAt_3b067 7 = .ok (.iload_n 1, 1) := dg dtJ1_charAt_3b067_0_ok 5 rfl
theorem dJ1_charAt_3b067_8 : decode cJ1_charAt_3b067 8 = .ok (.baload, 1) := dg dtJ1_charAt_3b067_0_ok 6 rfl
theorem dJ1_charAt_3b067_9 : decode cJ1_charAt_3b067 9 = .ok (.sipush 255, 3) := dg dtJ1_charAt_3b067_0_ok 7 rfl
theorem dJ1_charAt_3b067_12 : decode cJ1_charAt_3b067 12 = .ok (.iand, 1) := dg dtJ1_charAt_3b067_0_ok 8 rfl
theorem dJ1_charAt_3b067_13 : decode cJ1_charAt_3b067 13 = .ok (.i2c, 1) := dg dtJ1_charAt_3b067_0_ok 9 rfl
theorem dJ1_charAt_3b067_14 : decode cJ1_charAt_3b067 14 = .ok (.ireturn, 1) := dg dtJ1_charAt_3b067_0_ok 10 rfl
def dtJ1_canEncode_fc78d_0 : List (Nat × Instr × Nat) := [(0, .iload_n 0, 1), (1, .sipush 255, 3), (4, .if_icmp .gt 7, 3), (7, .iconst 1, 1), (8, .goto 4, 3), (11, .iconst 0, 1), (12, .ireturn, 1)]
theorem dtJ1_canEncode_fc78d_0_ok : ∀ q ∈ dtJ1_canEncode_fc78d_0, decode cJ1_canEncode_fc78d q.1 = .ok q.2 := by decide +kernel
theorem dJ1_canEncode_fc78d_0 : decode cJ1_canEncode_fc78d 0 = .ok (.iload_n 0, 1) := dg dtJ1_canEncode_fc78d_0_ok 0 rfl
theorem dJ1_canEncode_fc78d_1 : decode cJ1_canEncode_fc78d 1 = .ok (.sipush 255, 3) := dg dtJ1_canEncode_fc78d_0_ok 1 rfl
theorem dJ1_canEncode_fc78d_4 : decode cJ1_canEncode_fc78d 4 = .ok (.if_icmp .gt 7, 3) := dg dtJ1_canEncode_fc78d_0_ok 2 rfl
theorem dJ1_canEncode_fc78d_7 : decode cJ1_canEncode_fc78d 7 = .ok (.iconst 1, 1) := dg dtJ1_canEncode_fc78d_0_ok 3 rfl
theorem dJ1_canEncode_fc78d_8 : decode cJ1_canEncode_fc78d 8 = .ok (.goto 4, 3) := dg dtJ1_canEncode_fc78d_0_ok 4 rfl
theorem dJ1_canEncode_fc78d_11 : decode cJ1_canEncode_fc78d 11 = .ok (.iconst 0, 1) := dg dtJ1_canEncode_fc78d_0_ok 5 rfl
theorem dJ1_canEncode_fc78d_12 : decode cJ1_canEncode_fc78d 12 = .ok (.ireturn, 1) := dg dtJ1_canEncode_fc78d_0_ok 6 rfl
def dtJ1_fillNull_b72d1_0 : List (Nat × Instr × Nat) := [(0, .aload_n 0, 1), (1, .iload_n 1, 1), (2, .iload_n 2, 1), (3, .iconst 0, 1), (4, .invokestatic 236, 3), (7, .return_, 1)]
theorem dtJ1_fillNull_b72d1_0_ok : ∀ q ∈ dtJ1_fillNull_b72d1_0, decode cJ1_fillNull_b72d1 q.1 = .ok q.2 := by decide +kernel
theorem dJ1_fillNull_b72d1_0 : decode cJ1_fillNull_b72d1 0 = .ok (.aload_n 0, 1) := dg dtJ1_fillNull_b72d1_0_ok 0 rfl
theorem dJ1_fillNull_b72d1_1 : decode cJ1_fillNull_b72d1 1 = .ok (.iload_n 1, 1) := dg dtJ1_fillNull_b72d1_0_ok 1 rfl
theorem dJ1_fillNull_b72d1_2 : decode cJ1_fillNull_b72d1 2 = .ok (.iload_n 2, 1) := dg dtJ1_fillNull_b72d1_0_ok 2 rfl
theorem dJ1_fillNull_b72d1_3 : decode cJ1_fillNull_b72d1 3 = .ok (.iconst 0, 1) := dg dtJ1_fillNull_b72d1_0_ok 3 rfl
theorem dJ1_fillNull_b72d1_4 : decode cJ1_fillNull_b72d1 4 = .ok (.invokestatic 236, 3) := dg dtJ1_fillNull_b72d1_0_ok 4 rfl
theorem dJ1_fillNull_b72d1_7 : decode cJ1_fillNull_b72d1 7 = .ok (.return_, 1) := dg dtJ1_fillNull_b72d1_0_ok 5 rfl
def dtJ1_inflate_0e8fd_0 : List (Nat × Instr × Nat) := [(0, .aload_n 0, 1), (1, .iload_n 1, 1), (2, .aload_n 2, 1), (3, .iload_n 3, 1), (4, .iload 4, 2), (6, .invokestatic 240, 3), (9, .return_, 1)]
theorem dtJ1_inflate_0e8fd_0_ok : ∀ q ∈ dtJ1_inflate_0e8fd_0, decode cJ1_inflate_0e8fd q.1 = .ok q.2 := by decide +kernel
theorem dJ1_inflate_0e8fd_0 : decode cJ1_inflate_0e8fd 0 = .ok (.aload_n 0, 1) := dg dtJ1_inflate_0e8fd_0_ok 0 rfl
theorem dJ1_inflate_0e8fd_1 : decode cJ1_inflate_0e8fd 1 = .ok (.iload_n 1, 1) := dg dtJ1_inflate_0e8fd_0_ok 1 rfl
theorem dJ1_inflate_0e8fd_2 : decode cJ1_inflate_0e8fd 2 = .ok (.aload_n 2, 1) := dg dtJ1_inflate_0e8fd_0_ok 2 rfl
theorem dJ1_inflate_0e8fd_3 : decode cJ1_inflate_0e8fd 3 = .ok (.iload_n 3, 1) := dg dtJ1_inflate_0e8fd_0_ok 3 rfl
theorem dJ1_inflate_0e8fd_4 : decode cJ1_inflate_0e8fd 4 = .ok (.iload 4, 2) := dg dtJ1_inflate_0e8fd_0_ok 4 rfl
theorem dJ1_inflate_0e8fd_6 : decode cJ1_inflate_0e8fd 6 = .ok (.invokestatic 240, 3) := dg dtJ1_inflate_0e8fd_0_ok 5 rfl
theorem dJ1_inflate_0e8fd_9 : decode cJ1_inflate_0e8fd 9 = .ok (.return_, 1) := dg dtJ1_inflate_0e8fd_0_ok 6 rfl
def dtJ7_rangeCheck_23922_0 : List (Nat × Instr × Nat) := [(0, .iload_n 1, 1), (1, .iload_n 2, 1), (2, .if_icmp .le 44, 3), (5, .new 43, 3), (8, .dup, 1), (9, .new 45, 3), (12, .dup, 1), (13, .invokespecial 47, 3), (16, .ldc 48, 2), (18, .invokevirtual 50, 3), (21, .iload_n 1, 1), (22, .invokevirtual 54, 3), (25, .ldc 57, 2), (27, .invokevirtual 50, 3), (30, .iload_n 2, 1), (31, .invokevirtual 54, 3), (34, .ldc 59, 2), (36, .invokevirtual 50, 3), (39, .invokevirtual 61, 3), (42, .invokespecial 65, 3), (45, .athrow, 1), (46, .iload_n 1, 1), (47, .ifCond .ge 12, 3), (50, .new 68, 3), (53, .dup, 1), (54, .iload_n 1, 1), (55, .invokespecial 70, 3), (58, .athrow, 1), (59, .iload_n 2, 1), (60, .iload_n 0, 1), (61, .if_icmp .le 12, 3), (64, .new 68, 3), (67, .dup, 1), (68, .iload_n 2, 1), (69, .invokespecial 70, 3), (72, .athrow, 1), (73, .return_, 1)]
theorem dtJ7_rangeCheck_23922_0_ok : ∀ q ∈ dtJ7_rangeCheck_23922_0, decode cJ7_rangeCheck_23922 q.1 = .ok q.2 := by decide +kernel
theorem dJ7_rangeCheck_23922_0 : decode cJ7_rangeCheck_23922 0 = .ok (.iload_n 1, 1) := dg dtJ7_rangeCheck_23922_0_ok 0 rfl
theorem dJ7_rangeCheck_23922_1 : decode cJ7_rangeCheck_23922 1 = .ok (.iload_n 2, 1) := dg dtJ7_rangeCheck_23922_0_ok 1 rfl
theorem dJ7_rangeCheck_23922_2 : decode cJ7_rangeCheck_23922 2 = .ok (.if_icmp .le 44, 3) := dg dtJ7_rangeCheck_23922_0_ok 2 rfl
theorem dJ7_rangeCheck_23922_5 : decode cJ7_rangeCheck_23922 5 = .ok (.new 43, 3) := dg dtJ7_rangeCheck_23922_0_ok 3 rfl
theorem dJ7_rangeCheck_23922_8 : decode cJ7_rangeCheck_23922 8 = .ok (.dup, 1) := dg dtJ7_rangeCheck_23922_0_ok 4 rfl
theorem dJ7_rangeCheck_23922_9 : decode cJ7_rangeCheck_23922 9 = .ok (.new 45, 3) := dg dtJ7_rangeCheck_23922_0_ok 5 rfl
theorem dJ7_rangeCheck_23922_12 : decode cJ7_rangeCheck_23922 12 = .ok (.dup, 1) := dg dtJ7_rangeCheck_23922_0_ok 6 rfl
theorem dJ7_rangeCheck_23922_13 : decode cJ7_rangeCheck_23922 13 = .ok (.invokespecial 47, 3) := dg dtJ7_rangeCheck_23922_0_ok 7 rfl
theorem dJ7_rangeCheck_23922_16 : decode cJ7_rangeCheck_23922 16 = .ok (.ldc 48, 2) := dg dtJ7_rangeCheck_23922_0_ok 8 rfl
theorem dJ7_rangeCheck_23922_18 : decode cJ7_rangeCheck_23922 18 = .ok (.invokevirtual 50, 3) := dg dtJ7_rangeCheck_23922_0_ok 9 rfl
theorem dJ7_rangeCheck_23922_21 : decode cJ7_rangeCheck_23922 21 = .ok (.iload_n 1, 1) := dg dtJ7_rangeCheck_23922_0_ok 10 rfl
theorem dJ7_rangeCheck_23922_22 : decode cJ7_rangeCheck_23922 22 = .ok (.invokevirtual 54, 3) := dg dtJ7_rangeCheck_23922_0_ok 11 rfl
theorem dJ7_rangeCheck_23922_25 : decode cJ7_rangeCheck_23922 25 = .ok (.ldc 57, 2) := dg dtJ7_rangeCheck_23922_0_ok 12 rfl
theorem dJ7_rangeCheck_23922_27 : decode cJ7_rangeCheck_23922 27 = .ok (.invokevirtual 50, 3) := dg dtJ7_rangeCheck_23922_0_ok 13 rfl
theorem dJ7_rangeCheck_23922_30 : decode cJ7_rangeCheck_23922 30 = .ok (.iload_n 2, 1) := dg dtJ7_rangeCheck_23922_0_ok 14 rfl
theorem dJ7_rangeCheck_23922_31 : decode cJ7_rangeCheck_23922 31 = .ok (.invokevirtual 54, 3) := dg dtJ7_rangeCheck_23922_0_ok 15 rfl
theorem dJ7_rangeCheck_23922_34 : decode cJ7_rangeCheck_23922 34 = .ok (.ldc 59, 2) := dg dtJ7_rangeCheck_23922_0_ok 16 rfl
theorem dJ7_rangeCheck_23922_36 : decode cJ7_rangeCheck_23922 36 = .ok (.invokevirtual 50, 3) := dg dtJ7_rangeCheck_23922_0_ok 17 rfl
theorem dJ7_rangeCheck_23922_39 : decode cJ7_rangeCheck_23922 39 = .ok (.invokevirtual 61, 3) := dg dtJ7_rangeCheck_23922_0_ok 18 rfl
theorem dJ7_rangeCheck_23922_42 : decode cJ7_rangeCheck_23922 42 = .ok (.invokespecial 65, 3) := dg dtJ7_rangeCheck_23922_0_ok 19 rfl
theorem dJ7_rangeCheck_23922_45 : decode cJ7_rangeCheck_23922 45 = .ok (.athrow, 1) := dg dtJ7_rangeCheck_23922_0_ok 20 rfl
theorem dJ7_rangeCheck_23922_46 : decode cJ7_rangeCheck_23922 46 = .ok (.iload_n 1, 1) := dg dtJ7_rangeCheck_23922_0_ok 21 rfl
theorem dJ7_rangeCheck_23922_47 : decode cJ7_rangeCheck_23922 47 = .ok (.ifCond .ge 12, 3) := dg dtJ7_rangeCheck_23922_0_ok 22 rfl
theorem dJ7_rangeCheck_23922_50 : decode cJ7_rangeCheck_23922 50 = .ok (.new 68, 3) := dg dtJ7_rangeCheck_23922_0_ok 23 rfl
theorem dJ7_rangeCheck_23922_53 : decode cJ7_rangeCheck_23922 53 = .ok (.dup, 1) := dg dtJ7_rangeCheck_23922_0_ok 24 rfl
theorem dJ7_rangeCheck_23922_54 : decode cJ7_rangeCheck_23922 54 = .ok (.iload_n 1, 1) := dg dtJ7_rangeCheck_23922_0_ok 25 rfl
theorem dJ7_rangeCheck_23922_55 : decode cJ7_rangeCheck_23922 55 = .ok (.invokespecial 70, 3) := dg dtJ7_rangeCheck_23922_0_ok 26 rfl
theorem dJ7_rangeCheck_23922_58 : decode cJ7_rangeCheck_23922 58 = .ok (.athrow, 1) := dg dtJ7_rangeCheck_23922_0_ok 27 rfl
theorem dJ7_rangeCheck_23922_59 : decode cJ7_rangeCheck_23922 59 = .ok (.iload_n 2, 1) := dg dtJ7_rangeCheck_23922_0_ok 28 rfl
theorem dJ7_rangeCheck_23922_60 : decode cJ7_rangeCheck_23922 60 = .ok (.iload_n 0, 1) := dg dtJ7_rangeCheck_23922_0_ok 29 rfl
theorem dJ7_rangeCheck_23922_61 : decode cJ7_rangeCheck_23922 61 = .ok (.if_icmp .le 12, 3) := dg dtJ7_rangeCheck_23922_0_ok 30 rfl
theorem dJ7_rangeCheck_23922_64 : decode cJ7_rangeCheck_23922 64 = .ok (.new 68, 3) := dg dtJ7_rangeCheck_23922_0_ok 31 rfl
theorem dJ7_rangeCheck_23922_67 : decode cJ7_rangeCheck_23922 67 = .ok (.dup, 1) := dg dtJ7_rangeCheck_23922_0_ok 32 rfl
theorem dJ7_rangeCheck_23922_68 : decode cJ7_rangeCheck_23922 68 = .ok (.iload_n 2, 1) := dg dtJ7_rangeCheck_23922_0_ok 33 rfl
theorem dJ7_rangeCheck_23922_69 : decode cJ7_rangeCheck_23922 69 = .ok (.invokespecial 70, 3) := dg dtJ7_rangeCheck_23922_0_ok 34 rfl
theorem dJ7_rangeCheck_23922_72 : decode cJ7_rangeCheck_23922 72 = .ok (.athrow, 1) := dg dtJ7_rangeCheck_23922_0_ok 35 rfl
theorem dJ7_rangeCheck_23922_73 : decode cJ7_rangeCheck_23922 73 = .ok (.return_, 1) := dg dtJ7_rangeCheck_23922_0_ok 36 rfl
def dtJ7_fill_eb02e_0 : List (Nat × Instr × Nat) := [(0, .aload_n 0, 1), (1, .arraylength, 1), (2, .iload_n 1, 1), (3, .iload_n 2, 1), (4, .invokestatic 13, 3), (7, .iload_n 1, 1), (8, .istore 4, 2), (10, .iload 4, 2), (12, .iload_n 2, 1), (13, .if_icmp .ge 14, 3), (16, .aload_n 0, 1), (17, .iload 4, 2), (19, .iload_n 3, 1), (20, .bastore, 1), (21, .iinc 4 1, 3), (24, .goto (-14), 3), (27, .return_, 1)]
theorem dtJ7_fill_eb02e_0_ok : ∀ q ∈ dtJ7_fill_eb02e_0, decode cJ7_fill_eb02e q.1 = .ok q.2 := by decide +kernel
theorem dJ7_fill_eb02e_0 : decode cJ7_fill_eb02e 0 = .ok (.aload_n 0, 1) := dg dtJ7_fill_eb02e_0_ok 0 rfl
theorem dJ7_fill_eb02e_1 : decode cJ7_fill_eb02e 1 = .ok (.arraylength, 1) := dg dtJ7_fill_eb02e_0_ok 1 rfl
theorem dJ7_fill_eb02e_2 : decode cJ7_fill_eb02e 2 = .ok (.iload_n 1, 1) := dg dtJ7_fill_eb02e_0_ok 2 rfl
theorem dJ7_fill_eb02e_3 : decode cJ7_fill_eb02e 3 = .ok (.iload_n 2, 1) := dg dtJ7_fill_eb02e_0_ok 3 rfl
theorem dJ7_fill_eb02e_4 : decode cJ7_fill_eb02e 4 = .ok (.invokestatic 13, 3) := dg dtJ7_fill_eb02e_0_ok 4 rfl
theorem dJ7_fill_eb02e_7 : decode cJ7_fill_eb02e 7 = .ok (.iload_n 1, 1) := dg dtJ7_fill_eb02e_0_ok 5 rfl
theorem dJ7_fill_eb02e_8 : decode cJ7_fill_eb02e 8 = .ok (.istore 4, 2) := dg dtJ7_fill_eb02e_0_ok 6 rfl
theorem dJ7_fill_eb02e_10 : decode cJ7_fill_eb02e 10 = .ok (.iload 4, 2) := dg dtJ7_fill_eb02e_0_ok 7 rfl
theorem dJ7_fill_eb02e_12 : decode cJ7_fill_eb02e 12 = .ok (.iload_n 2, 1) := dg dtJ7_fill_eb02e_0_ok 8 rfl
theorem dJ7_fill_eb02e_13 : decode cJ7_fill_eb02e 13 = .ok (.if_icmp .ge 14, 3) := dg dtJ7_fill_eb02e_0_ok 9 rfl
theorem dJ7_fill_eb02e_16 : decode cJ7_fill_eb02e 16 = .ok (.aload_n 0, 1) := dg dtJ7_fill_eb02e_0_ok 10 rfl
theorem dJ7_fill_eb02e_17 : decode cJ7_fill_eb02e 17 = .ok (.iload 4, 2) := dg dtJ7_fill_eb02e_0_ok 11 rfl
theorem dJ7_fill_eb02e_19 : decode cJ7_fill_eb02e 19 = .ok (.iload_n 3, 1) := dg dtJ7_fill_eb02e_0_ok 12 rfl
theorem dJ7_fill_eb02e_20 : decode cJ7_fill_eb02e 20 = .ok (.bastore, 1) := dg dtJ7_fill_eb02e_0_ok 13 rfl
theorem dJ7_fill_eb02e_21 : decode cJ7_fill_eb02e 21 = .ok (.iinc 4 1, 3) := dg dtJ7_fill_eb02e_0_ok 14 rfl
theorem dJ7_fill_eb02e_24 : decode cJ7_fill_eb02e 24 = .ok (.goto (-14), 3) := dg dtJ7_fill_eb02e_0_ok 15 rfl
theorem dJ7_fill_eb02e_27 : decode cJ7_fill_eb02e 27 = .ok (.return_, 1) := dg dtJ7_fill_eb02e_0_ok 16 rfl
def dtJ7_copyOf_9075b_0 : List (Nat × Instr × Nat) := [(0, .iload_n 1, 1), (1, .aload_n 0, 1), (2, .arraylength, 1), (3, .if_icmp .ne 11, 3), (6, .aload_n 0, 1), (7, .invokevirtual 310, 3), (10, .checkcast 311, 3), (13, .areturn, 1), (14, .iload_n 1, 1), (15, .newarray .byte, 2), (17, .astore_n 2, 1), (18, .aload_n 0, 1), (19, .iconst 0, 1), (20, .aload_n 2, 1), (21, .iconst 0, 1), (22, .aload_n 0, 1), (23, .arraylength, 1), (24, .iload_n 1, 1), (25, .invokestatic 304, 3), (28, .invokestatic 150, 3), (31, .aload_n 2, 1), (32, .areturn, 1)]
theorem dtJ7_copyOf_9075b_0_ok : ∀ q ∈ dtJ7_copyOf_9075b_0, decode cJ7_copyOf_9075b q.1 = .ok q.2 := by decide +kernel
theorem dJ7_copyOf_9075b_0 : decode cJ7_copyOf_9075b 0 = .ok (.iload_n 1, 1) := dg dtJ7_copyOf_9075b_0_ok 0 rfl
theorem dJ7_copyOf_9075b_1 : decode cJ7_copyOf_9075b 1 = .ok (.aload_n 0, 1) := dg dtJ7_copyOf_9075b_0_ok 1 rfl
theorem dJ7_copyOf_9075b_2 : decode cJ7_copyOf_9075b 2 = .ok (.arraylength, 1) := dg dtJ7_copyOf_9075b_0_ok 2 rfl
theorem dJ7_copyOf_9075b_3 : decode cJ7_copyOf_9075b 3 = .ok (.if_icmp .ne 11, 3) := dg dtJ7_copyOf_9075b_0_ok 3 rfl
theorem dJ7_copyOf_9075b_6 : decode cJ7_copyOf_9075b 6 = .ok (.aload_n 0, 1) := dg dtJ7_copyOf_9075b_0_ok 4 rfl
theorem dJ7_copyOf_9075b_7 : decode cJ7_copyOf_9075b 7 = .ok (.invokevirtual 310, 3) := dg dtJ7_copyOf_9075b_0_ok 5 rfl
theorem dJ7_copyOf_9075b_10 : decode cJ7_copyOf_9075b 10 = .ok (.checkcast 311, 3) := dg dtJ7_copyOf_9075b_0_ok 6 rfl
theorem dJ7_copyOf_9075b_13 : decode cJ7_copyOf_9075b 13 = .ok (.areturn, 1) := dg dtJ7_copyOf_9075b_0_ok 7 rfl
theorem dJ7_copyOf_9075b_14 : decode cJ7_copyOf_9075b 14 = .ok (.iload_n 1, 1) := dg dtJ7_copyOf_9075b_0_ok 8 rfl
theorem dJ7_copyOf_9075b_15 : decode cJ7_copyOf_9075b 15 = .ok (.newarray .byte, 2) := dg dtJ7_copyOf_9075b_0_ok 9 rfl
theorem dJ7_copyOf_9075b_17 : decode cJ7_copyOf_9075b 17 = .ok (.astore_n 2, 1) := dg dtJ7_copyOf_9075b_0_ok 10 rfl
theorem dJ7_copyOf_9075b_18 : decode cJ7_copyOf_9075b 18 = .ok (.aload_n 0, 1) := dg dtJ7_copyOf_9075b_0_ok 11 rfl
theorem dJ7_copyOf_9075b_19 : decode cJ7_copyOf_9075b 19 = .ok (.iconst 0, 1) := dg dtJ7_copyOf_9075b_0_ok 12 rfl
theorem dJ7_copyOf_9075b_20 : decode cJ7_copyOf_9075b 20 = .ok (.aload_n 2, 1) := dg dtJ7_copyOf_9075b_0_ok 13 rfl
theorem dJ7_copyOf_9075b_21 : decode cJ7_copyOf_9075b 21 = .ok (.iconst 0, 1) := dg dtJ7_copyOf_9075b_0_ok 14 rfl
theorem dJ7_copyOf_9075b_22 : decode cJ7_copyOf_9075b 22 = .ok (.aload_n 0, 1) := dg dtJ7_copyOf_9075b_0_ok 15 rfl
theorem dJ7_copyOf_9075b_23 : decode cJ7_copyOf_9075b 23 = .ok (.arraylength, 1) := dg dtJ7_copyOf_9075b_0_ok 16 rfl
theorem dJ7_copyOf_9075b_24 : decode cJ7_copyOf_9075b 24 = .ok (.iload_n 1, 1) := dg dtJ7_copyOf_9075b_0_ok 17 rfl
theorem dJ7_copyOf_9075b_25 : decode cJ7_copyOf_9075b 25 = .ok (.invokestatic 304, 3) := dg dtJ7_copyOf_9075b_0_ok 18 rfl
theorem dJ7_copyOf_9075b_28 : decode cJ7_copyOf_9075b 28 = .ok (.invokestatic 150, 3) := dg dtJ7_copyOf_9075b_0_ok 19 rfl
theorem dJ7_copyOf_9075b_31 : decode cJ7_copyOf_9075b 31 = .ok (.aload_n 2, 1) := dg dtJ7_copyOf_9075b_0_ok 20 rfl
theorem dJ7_copyOf_9075b_32 : decode cJ7_copyOf_9075b 32 = .ok (.areturn, 1) := dg dtJ7_copyOf_9075b_0_ok 21 rfl
def dtJ8_newLength_cabcc_0 : List (Nat × Instr × Nat) := [(0, .iload_n 0, 1), (1, .iload_n 1, 1), (2, .iload_n 2, 1), (3, .invokestatic 194, 3), (6, .iadd, 1), (7, .istore_n 3, 1), (8, .iconst 0, 1), (9, .iload_n 3, 1), (10, .if_icmp .ge 11, 3), (13, .iload_n 3, 1), (14, .ldc 200, 2), (16, .if_icmp .gt 5, 3), (19, .iload_n 3, 1), (20, .ireturn, 1), (21, .iload_n 0, 1), (22, .iload_n 1, 1), (23, .invokestatic 201, 3), (26, .ireturn, 1)]
theorem dtJ8_newLength_cabcc_0_ok : ∀ q ∈ dtJ8_newLength_cabcc_0, decode cJ8_newLength_cabcc q.1 = .ok q.2 := by decide +kernel
theorem dJ8_newLength_cabcc_0 : decode cJ8_newLength_cabcc 0 = .ok (.iload_n 0, 1) := dg dtJ8_newLength_cabcc_0_ok 0 rfl
theorem dJ8_newLength_cabcc_1 : decode cJ8_newLength_cabcc 1 = .ok (.iload_n 1, 1) := dg dtJ8_newLength_cabcc_0_ok 1 rfl
theorem dJ8_newLength_cabcc_2 : decode cJ8_newLength_cabcc 2 = .ok (.iload_n 2, 1) := dg dtJ8_newLength_cabcc_0_ok 2 rfl
theorem dJ8_newLength_cabcc_3 : decode cJ8_newLength_cabcc 3 = .ok (.invokestatic 194, 3) := dg dtJ8_newLength_cabcc_0_ok 3 rfl
theorem dJ8_newLength_cabcc_6 : decode cJ8_newLength_cabcc 6 = .ok (.iadd, 1) := dg dtJ8_newLength_cabcc_0_ok 4 rfl
theorem dJ8_newLength_cabcc_7 : decode cJ8_newLength_cabcc 7 = .ok (.istore_n 3, 1) := dg dtJ8_newLength_cabcc_0_ok 5 rfl
theorem dJ8_newLength_cabcc_8 : decode cJ8_newLength_cabcc 8 = .ok (.iconst 0, 1) := dg dtJ8_newLength_cabcc_0_ok 6 rfl
theorem dJ8_newLength_cabcc_9 : decode cJ8_newLength_cabcc 9 = .ok (.iload_n 3, 1) := dg dtJ8_newLength_cabcc_0_ok 7 rfl
theorem dJ8_newLength_cabcc_10 : decode cJ8_newLength_cabcc 10 = .ok (.if_icmp .ge 11, 3) := dg dtJ8_newLength_cabcc_0_ok 8 rfl
theorem dJ8_newLength_cabcc_13 : decode cJ8_newLength_cabcc 13 = .ok (.iload_n 3, 1) := dg dtJ8_newLength_cabcc_0_ok 9 rfl
theorem dJ8_newLength_cabcc_14 : decode cJ8_newLength_cabcc 14 = .ok (.ldc 200, 2) := dg dtJ8_newLength_cabcc_0_ok 10 rfl
theorem dJ8_newLength_cabcc_16 : decode cJ8_newLength_cabcc 16 = .ok (.if_icmp .gt 5, 3) := dg dtJ8_newLength_cabcc_0_ok 11 rfl
theorem dJ8_newLength_cabcc_19 : decode cJ8_newLength_cabcc 19 = .ok (.iload_n 3, 1) := dg dtJ8_newLength_cabcc_0_ok 12 rfl
theorem dJ8_newLength_cabcc_20 : decode cJ8_newLength_cabcc 20 = .ok (.ireturn, 1) := dg dtJ8_newLength_cabcc_0_ok 13 rfl
theorem dJ8_newLength_cabcc_21 : decode cJ8_newLength_cabcc 21 = .ok (.iload_n 0, 1) := dg dtJ8_newLength_cabcc_0_ok 14 rfl
theorem dJ8_newLength_cabcc_22 : decode cJ8_newLength_cabcc 22 = .ok (.iload_n 1, 1) := dg dtJ8_newLength_cabcc_0_ok 15 rfl
theorem dJ8_newLength_cabcc_23 : decode cJ8_newLength_cabcc 23 = .ok (.invokestatic 201, 3) := dg dtJ8_newLength_cabcc_0_ok 16 rfl
theorem dJ8_newLength_cabcc_26 : decode cJ8_newLength_cabcc 26 = .ok (.ireturn, 1) := dg dtJ8_newLength_cabcc_0_ok 17 rfl
def dtJ8_hugeLength_7cf53_0 : List (Nat × Instr × Nat) := [(0, .iload_n 0, 1), (1, .iload_n 1, 1), (2, .iadd, 1), (3, .istore_n 2, 1), (4, .iload_n 2, 1), (5, .ifCond .ge 44, 3), (8, .new 204, 3), (11, .dup, 1), (12, .new 89, 3), (15, .dup, 1), (16, .invokespecial 91, 3), (19, .ldc 206, 2), (21, .invokevirtual 94, 3), (24, .iload_n 0, 1), (25, .invokevirtual 98, 3), (28, .ldc 208, 2), (30, .invokevirtual 94, 3), (33, .iload_n 1, 1), (34, .invokevirtual 98, 3), (37, .ldc 210, 2), (39, .invokevirtual 94, 3), (42, .invokevirtual 101, 3), (45, .invokespecial 212, 3), (48, .athrow, 1), (49, .iload_n 2, 1), (50, .ldc 200, 2), (52, .if_icmp .gt 6, 3), (55, .ldc 200, 2), (57, .ireturn, 1), (58, .iload_n 2, 1), (59, .ireturn, 1)]
theorem dtJ8_hugeLength_7cf53_0_ok : ∀ q ∈ dtJ8_hugeLength_7cf53_0, decode cJ8_hugeLength_7cf53 q.1 = .ok q.2 := by decide +kernel
theorem dJ8_hugeLength_7cf53_0 : decode cJ8_hugeLength_7cf53 0 = .ok (.iload_n 0, 1) := dg dtJ8_hugeLength_7cf53_0_ok 0 rfl
theorem dJ8_hugeLength_7cf53_1 : decode cJ8_hugeLength_7cf53 1 = .ok (.iload_n 1, 1) := dg dtJ8_hugeLength_7cf53_0_ok 1 rfl
theorem dJ8_hugeLength_7cf53_2 : decode cJ8_hugeLength_7cf53 2 = .ok (.iadd, 1) := dg dtJ8_hugeLength_7cf53_0_ok 2 rfl
theorem dJ8_hugeLength_7cf53_3 : decode cJ8_hugeLength_7cf53 3 = .ok (.istore_n 2, 1) := dg dtJ8_hugeLength_7cf53_0_ok 3 rfl
theorem dJ8_hugeLength_7cf53_4 : decode cJ8_hugeLength_7cf53 4 = .ok (.iload_n 2, 1) := dg dtJ8_hugeLength_7cf53_0_ok 4 rfl
theorem dJ8_hugeLength_7cf53_5 : decode cJ8_hugeLength_7cf53 5 = .ok (.ifCond .ge 44, 3) := dg dtJ8_hugeLength_7cf53_0_ok 5 rfl
theorem dJ8_hugeLength_7cf53_8 : decode cJ8_hugeLength_7cf53 8 = .ok (.new 204, 3) := dg dtJ8_hugeLength_7cf53_0_ok 6 rfl
theorem dJ8_hugeLength_7cf53_11 : decode cJ8_hugeLength_7cf53 11 = .ok (.dup, 1) := dg dtJ8_hugeLength_7cf53_0_ok 7 rfl
theorem dJ8_hugeLength_7cf53_12 : decode cJ8_hugeLength_7cf53 12 = .ok (.new 89, 3) := dg dtJ8_hugeLength_7cf53_0_ok 8 rfl
theorem dJ8_hugeLength_7cf53_15 : decode cJ8_hugeLength_7cf53 15 = .ok (.dup, 1) := dg dtJ8_hugeLength_7cf53_0_ok 9 rfl
theorem dJ8_hugeLength_7cf53_16 : decode cJ8_hugeLength_7cf53 16 = .ok (.invokespecial 91, 3) := dg dtJ8_hugeLength_7cf53_0_ok 10 rfl
theorem dJ8_hugeLength_7cf53_19 : decode cJ8_hugeLength_7cf53 19 = .ok (.ldc 206, 2) := dg dtJ8_hugeLength_7cf53_0_ok 11 rfl
theorem dJ8_hugeLength_7cf53_21 : decode cJ8_hugeLength_7cf53 21 = .ok (.invokevirtual 94, 3) := dg dtJ8_hugeLength_7cf53_0_ok 12 rfl
theorem dJ8_hugeLength_7cf53_24 : decode cJ8_hugeLength_7cf53 24 = .ok (.iload_n 0, 1) := dg dtJ8_hugeLength_7cf53_0_ok 13 rfl
theorem dJ8_hugeLength_7cf53_25 : decode cJ8_hugeLength_7cf53 25 = .ok (.invokevirtual 98, 3) := dg dtJ8_hugeLength_7cf53_0_ok 14 rfl
theorem dJ8_hugeLength_7cf53_28 : decode cJ8_hugeLength_7cf53 28 = .ok (.ldc 208, 2) := dg dtJ8_hugeLength_7cf53_0_ok 15 rfl
theorem dJ8_hugeLength_7cf53_30 : decode cJ8_hugeLength_7cf53 30 = .ok (.invokevirtual 94, 3) := dg dtJ8_hugeLength_7cf53_0_ok 16 rfl
theorem dJ8_hugeLength_7cf53_33 : decode cJ8_hugeLength_7cf53 33 = .ok (.iload_n 1, 1) := dg dtJ8_hugeLength_7cf53_0_ok 17 rfl
theorem dJ8_hugeLength_7cf53_34 : decode cJ8_hugeLength_7cf53 34 = .ok (.invokevirtual 98, 3) := dg dtJ8_hugeLength_7cf53_0_ok 18 rfl
theorem dJ8_hugeLength_7cf53_37 : decode cJ8_hugeLength_7cf53 37 = .ok (.ldc 210, 2) := dg dtJ8_hugeLength_7cf53_0_ok 19 rfl
theorem dJ8_hugeLength_7cf53_39 : decode cJ8_hugeLength_7cf53 39 = .ok (.invokevirtual 94, 3) := dg dtJ8_hugeLength_7cf53_0_ok 20 rfl
theorem dJ8_hugeLength_7cf53_42 : decode cJ8_hugeLength_7cf53 42 = .ok (.invokevirtual 101, 3) := dg dtJ8_hugeLength_7cf53_0_ok 21 rfl
theorem dJ8_hugeLength_7cf53_45 : decode cJ8_hugeLength_7cf53 45 = .ok (.invokespecial 212, 3) := dg dtJ8_hugeLength_7cf53_0_ok 22 rfl
theorem dJ8_hugeLength_7cf53_48 : decode cJ8_hugeLength_7cf53 48 = .ok (.athrow, 1) := dg dtJ8_hugeLength_7cf53_0_ok 23 rfl
theorem dJ8_hugeLength_7cf53_49 : decode cJ8_hugeLength_7cf53 49 = .ok (.iload_n 2, 1) := dg dtJ8_hugeLength_7cf53_0_ok 24 rfl
theorem dJ8_hugeLength_7cf53_50 : decode cJ8_hugeLength_7cf53 50 = .ok (.ldc 200, 2) := dg dtJ8_hugeLength_7cf53_0_ok 25 rfl
theorem dJ8_hugeLength_7cf53_52 : decode cJ8_hugeLength_7cf53 52 = .ok (.if_icmp .gt 6, 3) := dg dtJ8_hugeLength_7cf53_0_ok 26 rfl
theorem dJ8_hugeLength_7cf53_55 : decode cJ8_hugeLength_7cf53 55 = .ok (.ldc 200, 2) := dg dtJ8_hugeLength_7cf53_0_ok 27 rfl
theorem dJ8_hugeLength_7cf53_57 : decode cJ8_hugeLength_7cf53 57 = .ok (.ireturn, 1) := dg dtJ8_hugeLength_7cf53_0_ok 28 rfl
theorem dJ8_hugeLength_7cf53_58 : decode cJ8_hugeLength_7cf53 58 = .ok (.iload_n 2, 1) := dg dtJ8_hugeLength_7cf53_0_ok 29 rfl
theorem dJ8_hugeLength_7cf53_59 : decode cJ8_hugeLength_7cf53 59 = .ok (.ireturn, 1) := dg dtJ8_hugeLength_7cf53_0_ok 30 rfl
def dtJ3_checkIndex_8e157_0 : List (Nat × Instr × Nat) := [(0, .iload_n 0, 1), (1, .ifCond .lt 8, 3), (4, .iload_n 0, 1), (5, .iload_n 1, 1), (6, .if_icmp .lt 10, 3), (9, .aload_n 2, 1), (10, .iload_n 0, 1), (11, .iload_n 1, 1), (12, .invokestatic 95, 3), (15, .athrow, 1), (16, .iload_n 0, 1), (17, .ireturn, 1)]
theorem dtJ3_checkIndex_8e157_0_ok : ∀ q ∈ dtJ3_checkIndex_8e157_0, decode cJ3_checkIndex_8e157 q.1 = .ok q.2 := by decide +kernel
theorem dJ3_checkIndex_8e157_0 : decode cJ3_checkIndex_8e157 0 = .ok (.iload_n 0, 1) := dg dtJ3_checkIndex_8e157_0_ok 0 rfl
theorem dJ3_checkIndex_8e157_1 : decode cJ3_checkIndex_8e157 1 = .ok (.ifCond .lt 8, 3) := dg dtJ3_checkIndex_8e157_0_ok 1 rfl
theorem dJ3_checkIndex_8e157_4 : decode cJ3_checkIndex_8e157 4 = .ok (.iload_n 0, 1) := dg dtJ3_checkIndex_8e157_0_ok 2 rfl
theorem dJ3_checkIndex_8e157_5 : decode cJ3_checkIndex_8e157 5 = .ok (.iload_n 1, 1) := dg dtJ3_checkIndex_8e157_0_ok 3 rfl
theorem dJ3_checkIndex_8e157_6 : decode cJ3_checkIndex_8e157 6 = .ok (.if_icmp .lt 10, 3) := dg dtJ3_checkIndex_8e157_0_ok 4 rfl
theorem dJ3_checkIndex_8e157_9 : decode cJ3_checkIndex_8e157 9 = .ok (.aload_n 2, 1) := dg dtJ3_checkIndex_8e157_0_ok 5 rfl
theorem dJ3_checkIndex_8e157_10 : decode cJ3_checkIndex_8e157 10 = .ok (.iload_n 0, 1) := dg dtJ3_checkIndex_8e157_0_ok 6 rfl
theorem dJ3_checkIndex_8e157_11 : decode cJ3_checkIndex_8e157 11 = .ok (.iload_n 1, 1) := dg dtJ3_checkIndex_8e157_0_ok 7 rfl
theorem dJ3_checkIndex_8e157_12 : decode cJ3_checkIndex_8e157 12 = .ok (.invokestatic 95, 3) := dg dtJ3_checkIndex_8e157_0_ok 8 rfl
theorem dJ3_checkIndex_8e157_15 : decode cJ3_checkIndex_8e157 15 = .ok (.athrow, 1) := dg dtJ3_checkIndex_8e157_0_ok 9 rfl
theorem dJ3_checkIndex_8e157_16 : decode cJ3_checkIndex_8e157 16 = .ok (.iload_n 0, 1) := dg dtJ3_checkIndex_8e157_0_ok 10 rfl
theorem dJ3_checkIndex_8e157_17 : decode cJ3_checkIndex_8e157 17 = .ok (.ireturn, 1) := dg dtJ3_checkIndex_8e157_0_ok 11 rfl
def dtJ3_checkFromToIndex_8c36e_0 : List (Nat × Instr × Nat) := [(0, .iload_n 0, 1), (1, .ifCond .lt 13, 3), (4, .iload_n 0, 1), (5, .iload_n 1, 1), (6, .if_icmp .gt 8, 3), (9, .iload_n 1, 1), (10, .iload_n 2, 1), (11, .if_icmp .le 11, 3), (14, .aload_n 3, 1), (15, .iload_n 0, 1), (16, .iload_n 1, 1), (17, .iload_n 2, 1), (18, .invokestatic 99, 3), (21, .athrow, 1), (22, .iload_n 0, 1), (23, .ireturn, 1)]
theorem dtJ3_checkFromToIndex_8c36e_0_ok : ∀ q ∈ dtJ3_checkFromToIndex_8c36e_0, decode cJ3_checkFromToIndex_8c36e q.1 = .ok q.2 := by decide +kernel
theorem dJ3_checkFromToIndex_8c36e_0 : decode cJ3_checkFromToIndex_8c36e 0 = .ok (.iload_n 0, 1) := dg dtJ3_checkFromToIndex_8c36e_0_ok 0 rfl
theorem dJ3_checkFromToIndex_8c36e_1 : decode cJ3_checkFromToIndex_8c36e 1 = .ok (.ifCond .lt 13, 3) := dg dtJ3_checkFromToIndex_8c36e_0_ok 1 rfl
theorem dJ3_checkFromToIndex_8c36e_4 : decode cJ3_checkFromToIndex_8c36e 4 = .ok (.iload_n 0, 1) := dg dtJ3_checkFromToIndex_8c36e_0_ok 2 rfl
theorem dJ3_checkFromToIndex_8c36e_5 : decode cJ3_checkFromToIndex_8c36e 5 = .ok (.iload_n 1, 1) := dg dtJ3_checkFromToIndex_8c36e_0_ok 3 rfl
theorem dJ3_checkFromToIndex_8c36e_6 : decode cJ3_checkFromToIndex_8c36e 6 = .ok (.if_icmp .gt 8, 3) := dg dtJ3_checkFromToIndex_8c36e_0_ok 4 rfl
theorem dJ3_checkFromToIndex_8c36e_9 : decode cJ3_checkFromToIndex_8c36e 9 = .ok (.iload_n 1, 1) := dg dtJ3_checkFromToIndex_8c36e_0_ok 5 rfl
theorem dJ3_checkFromToIndex_8c36e_10 : decode cJ3_checkFromToIndex_8c36e 10 = .ok (.iload_n 2, 1) := dg dtJ3_checkFromToIndex_8c36e_0_ok 6 rfl
theorem dJ3_checkFromToIndex_8c36e_11 : decode cJ3_checkFromToIndex_8c36e 11 = .ok (.if_icmp .le 11, 3) := dg dtJ3_checkFromToIndex_8c36e_0_ok 7 rfl
theorem dJ3_checkFromToIndex_8c36e_14 : decode cJ3_checkFromToIndex_8c36e 14 = .ok (.aload_n 3, 1) := dg dtJ3_checkFromToIndex_8c36e_0_ok 8 rfl
theorem dJ3_checkFromToIndex_8c36e_15 : decode cJ3_checkFromToIndex_8c36e 15 = .ok (.iload_n 0, 1) := dg dtJ3_checkFromToIndex_8c36e_0_ok 9 rfl
theorem dJ3_checkFromToIndex_8c36e_16 : decode cJ3_checkFromToIndex_8c36e 16 = .ok (.iload_n 1, 1) := dg dtJ3_checkFromToIndex_8c36e_0_ok 10 rfl
theorem dJ3_checkFromToIndex_8c36e_17 : decode cJ3_checkFromToIndex_8c36e 17 = .ok (.iload_n 2, 1) := dg dtJ3_checkFromToIndex_8c36e_0_ok 11 rfl
theorem dJ3_checkFromToIndex_8c36e_18 : decode cJ3_checkFromToIndex_8c36e 18 = .ok (.invokestatic 99, 3) := dg dtJ3_checkFromToIndex_8c36e_0_ok 12 rfl
theorem dJ3_checkFromToIndex_8c36e_21 : decode cJ3_checkFromToIndex_8c36e 21 = .ok (.athrow, 1) := dg dtJ3_checkFromToIndex_8c36e_0_ok 13 rfl
theorem dJ3_checkFromToIndex_8c36e_22 : decode cJ3_checkFromToIndex_8c36e 22 = .ok (.iload_n 0, 1) := dg dtJ3_checkFromToIndex_8c36e_0_ok 14 rfl
theorem dJ3_checkFromToIndex_8c36e_23 : decode cJ3_checkFromToIndex_8c36e 23 = .ok (.ireturn, 1) := dg dtJ3_checkFromToIndex_8c36e_0_ok 15 rfl
def dtJ3_checkFromIndexSize_8c36e_0 : List (Nat × Instr × Nat) := [(0, .iload_n 2, 1), (1, .iload_n 0, 1), (2, .ior, 1), (3, .iload_n 1, 1), (4, .ior, 1), (5, .ifCond .lt 10, 3), (8, .iload_n 1, 1), (9, .iload_n 2, 1), (10, .iload_n 0, 1), (11, .isub, 1), (12, .if_icmp .le 11, 3), (15, .aload_n 3, 1), (16, .iload_n 0, 1), (17, .iload_n 1, 1), (18, .iload_n 2, 1), (19, .invokestatic 103, 3), (22, .athrow, 1), (23, .iload_n 0, 1), (24, .ireturn, 1)]
theorem dtJ3_checkFromIndexSize_8c36e_0_ok : ∀ q ∈ dtJ3_checkFromIndexSize_8c36e_0, decode cJ3_checkFromIndexSize_8c36e q.1 = .ok q.2 := by decide +kernel
theorem dJ3_checkFromIndexSize_8c36e_0 : decode cJ3_checkFromIndexSize_8c36e 0 = .ok (.iload_n 2, 1) := dg dtJ3_checkFromIndexSize_8c36e_0_ok 0 rfl
theorem dJ3_checkFromIndexSize_8c36e_1 : decode cJ3_checkFromIndexSize_8c36e 1 = .ok (.iload_n 0, 1) := dg dtJ3_checkFromIndexSize_8c36e_0_ok 1 rfl
theorem dJ3_checkFromIndexSize_8c36e_2 : decode cJ3_checkFromIndexSize_8c36e 2 = .ok (.ior, 1) := dg dtJ3_checkFromIndexSize_8c36e_0_ok 2 rfl
theorem dJ3_checkFromIndexSize_8c36e_3 : decode cJ3_checkFromIndexSize_8c36e 3 = .ok (.iload_n 1, 1) := dg dtJ3_checkFromIndexSize_8c36e_0_ok 3 rfl
theorem dJ3_checkFromIndexSize_8c36e_4 : decode cJ3_checkFromIndexSize_8c36e 4 = .ok (.ior, 1) := dg dtJ3_checkFromIndexSize_8c36e_0_ok 4 rfl
theorem dJ3_checkFromIndexSize_8c36e_5 : decode cJ3_checkFromIndexSize_8c36e 5 = .ok (.ifCond .lt 10, 3) := dg dtJ3_checkFromIndexSize_8c36e_0_ok 5 rfl
theorem dJ3_checkFromIndexSize_8c36e_8 : decode cJ3_checkFromIndexSize_8c36e 8 = .ok (.iload_n 1, 1) := dg dtJ3_checkFromIndexSize_8c36e_0_ok 6 rfl
theorem dJ3_checkFromIndexSize_8c36e_9 : decode cJ3_checkFromIndexSize_8c36e 9 = .ok (.iload_n 2, 1) := dg dtJ3_checkFromIndexSize_8c36e_0_ok 7 rfl
theorem dJ3_checkFromIndexSize_8c36e_10 : decode cJ3_checkFromIndexSize_8c36e 10 = .ok (.iload_n 0, 1) := dg dtJ3_checkFromIndexSize_8c36e_0_ok 8 rfl
theorem dJ3_checkFromIndexSize_8c36e_11 : decode cJ3_checkFromIndexSize_8c36e 11 = .ok (.isub, 1) := dg dtJ3_checkFromIndexSize_8c36e_0_ok 9 rfl
theorem dJ3_checkFromIndexSize_8c36e_12 : decode cJ3_checkFromIndexSize_8c36e 12 = .ok (.if_icmp .le 11, 3) := dg dtJ3_checkFromIndexSize_8c36e_0_ok 10 rfl
theorem dJ3_checkFromIndexSize_8c36e_15 : decode cJ3_checkFromIndexSize_8c36e 15 = .ok (.aload_n 3, 1) := dg dtJ3_checkFromIndexSize_8c36e_0_ok 11 rfl
theorem dJ3_checkFromIndexSize_8c36e_16 : decode cJ3_checkFromIndexSize_8c36e 16 = .ok (.iload_n 0, 1) := dg dtJ3_checkFromIndexSize_8c36e_0_ok 12 rfl
theorem dJ3_checkFromIndexSize_8c36e_17 : decode cJ3_checkFromIndexSize_8c36e 17 = .ok (.iload_n 1, 1) := dg dtJ3_checkFromIndexSize_8c36e_0_ok 13 rfl
theorem dJ3_checkFromIndexSize_8c36e_18 : decode cJ3_checkFromIndexSize_8c36e 18 = .ok (.iload_n 2, 1) := dg dtJ3_checkFromIndexSize_8c36e_0_ok 14 rfl
theorem dJ3_checkFromIndexSize_8c36e_19 : decode cJ3_checkFromIndexSize_8c36e 19 = .ok (.invokestatic 103, 3) := dg dtJ3_checkFromIndexSize_8c36e_0_ok 15 rfl
theorem dJ3_checkFromIndexSize_8c36e_22 : decode cJ3_checkFromIndexSize_8c36e 22 = .ok (.athrow, 1) := dg dtJ3_checkFromIndexSize_8c36e_0_ok 16 rfl
theorem dJ3_checkFromIndexSize_8c36e_23 : decode cJ3_checkFromIndexSize_8c36e 23 = .ok (.iload_n 0, 1) := dg dtJ3_checkFromIndexSize_8c36e_0_ok 17 rfl
theorem dJ3_checkFromIndexSize_8c36e_24 : decode cJ3_checkFromIndexSize_8c36e 24 = .ok (.ireturn, 1) := dg dtJ3_checkFromIndexSize_8c36e_0_ok 18 rfl
def dtL_law_0 : List (Nat × Instr × Nat) := [(0, .new 7, 3), (3, .dup, 1), (4, .invokespecial 9, 3), (7, .astore_n 1, 1), (8, .new 10, 3), (11, .dup, 1), (12, .invokespecial 12, 3), (15, .astore_n 2, 1), (16, .iconst 0, 1), (17, .istore_n 3, 1), (18, .iload_n 3, 1), (19, .aload_n 0, 1), (20, .arraylength, 1), (21, .iconst 5, 1), (22, .isub, 1), (23, .if_icmp .gt 1012, 3), (26, .aload_n 0, 1), (27, .iload_n 3, 1), (28, .iaload, 1), (29, .bipush 31, 2), (31, .iand, 1), (32, .tableswitch 997 0 30 #[140, 153, 186, 219, 252, 285, 328, 381, 414, 447, 480, 503, 536, 569, 592, 617, 630, 643, 656, 679, 702, 736, 769, 802, 825, 858, 871, 894, 927, 951, 974], 140), (172, .aload_n 1, 1), (173, .invokevirtual 13, 3), (176, .aload_n 2, 1), (177, .invokevirtual 17, 3), (180, .if_icmp .eq 849, 3), (183, .iconst 0, 1), (184, .ireturn, 1), (185, .aload_n 1, 1), (186, .aload_n 0, 1), (187, .iload_n 3, 1), (188, .iconst 1, 1), (189, .iadd, 1), (190, .iaload, 1), (191, .aload_n 0, 1), (192, .iload_n 3, 1), (193, .iconst 2, 1), (194, .iadd, 1), (195, .iaload, 1), (196, .invokevirtual 18, 3), (199, .aload_n 2, 1), (200, .aload_n 0, 1), (201, .iload_n 3, 1), (202, .iconst 1, 1), (203, .iadd, 1), (204, .iaload, 1), (205, .aload_n 0, 1)]
theorem dtL_law_0_ok : ∀ q ∈ dtL_law_0, decode cL_law q.1 = .ok q.2 := by decide +kernel
theorem dL_law_0 : decode cL_law 0 = .ok (.new 7, 3) := dg dtL_law_0_ok 0 rfl
theorem dL_law_3 : decode cL_law 3 = .ok (.dup, 1) := dg dtL_law_0_ok 1 rfl
theorem dL_law_4 : decode cL_law 4 = .ok (.invokespecial 9, 3) := dg dtL_law_0_ok 2 rfl
theorem dL_law_7 : decode cL_law 7 = .ok (.astore_n 1, 1) := dg dtL_law_0_ok 3 rfl
theorem dL_law_8 : decode cL_law 8 = .ok (.new 10, 3) := dg dtL_law_0_ok 4 rfl
theorem dL_law_11 : decode cL_law 11 = .ok (.dup, 1) := dg dtL_law_0_ok 5 rfl
theorem dL_law_12 : decode cL_law 12 = .ok (.invokespecial 12, 3) := dg dtL_law_0_ok 6 rfl
theorem dL_law_15 : decode cL_law 15 = .ok (.astore_n 2, 1) := dg dtL_law_0_ok 7 rfl
theorem dL_law_16 : decode cL_law 16 = .ok (.iconst 0, 1) := dg dtL_law_0_ok 8 rfl
theorem dL_law_17 : decode cL_law 17 = .ok (.istore_n 3, 1) := dg dtL_law_0_ok 9 rfl
theorem dL_law_18 : decode cL_law 18 = .ok (.iload_n 3, 1) := dg dtL_law_0_ok 10 rfl
theorem dL_law_19 : decode cL_law 19 = .ok (.aload_n 0, 1) := dg dtL_law_0_ok 11 rfl
theorem dL_law_20 : decode cL_law 20 = .ok (.arraylength, 1) := dg dtL_law_0_ok 12 rfl
theorem dL_law_21 : decode cL_law 21 = .ok (.iconst 5, 1) := dg dtL_law_0_ok 13 rfl
theorem dL_law_22 : decode cL_law 22 = .ok (.isub, 1) := dg dtL_law_0_ok 14 rfl
theorem dL_law_23 : decode cL_law 23 = .ok (.if_icmp .gt 1012, 3) := dg dtL_law_0_ok 15 rfl
theorem dL_law_26 : decode cL_law 26 = .ok (.aload_n 0, 1) := dg dtL_law_0_ok 16 rfl
theorem dL_law_27 : decode cL_law 27 = .ok (.iload_n 3, 1) := dg dtL_law_0_ok 17 rfl
theorem dL_law_28 : decode cL_law 28 = .ok (.iaload, 1) := dg dtL_law_0_ok 18 rfl
theorem dL_law_29 : decode cL_law 29 = .ok (.bipush 31, 2) := dg dtL_law_0_ok 19 rfl
theorem dL_law_31 : decode cL_law 31 = .ok (.iand, 1) := dg dtL_law_0_ok 20 rfl
theorem dL_law_32 : decode cL_law 32 = .ok (.tableswitch 997 0 30 #[140, 153, 186, 219, 252, 285, 328, 381, 414, 447, 480, 503, 536, 569, 592, 617, 630, 643, 656, 679, 702, 736, 769, 802, 825, 858, 871, 894, 927, 951, 974], 140) := dg dtL_law_0_ok 21 rfl
theorem dL_law_172 : decode cL_law 172 = .ok (.aload_n 1, 1) := dg dtL_law_0_ok 22 rfl
theorem dL_law_173 : decode cL_law 173 = .ok (.invokevirtual 13, 3) := dg dtL_law_0_ok 23 rfl
theorem dL_law_176 : decode cL_law 176 = .ok (.aload_n 2, 1) := dg dtL_law_0_ok 24 rfl
theorem dL_law_177 : decode cL_law 177 = .ok (.invokevirtual 17, 3) := dg dtL_law_0_ok 25 rfl
theorem dL_law_180 : decode cL_law 180 = .ok (.if_icmp .eq 849, 3) := dg dtL_law_0_ok 26 rfl
theorem dL_law_183 : decode cL_law 183 = .ok (.iconst 0, 1) := dg dtL_law_0_ok 27 rfl
theorem dL_law_184 : decode cL_law 184 = .ok (.ireturn, 1) := dg dtL_law_0_ok 28 rfl
theorem dL_law_185 : decode cL_law 185 = .ok (.aload_n 1, 1) := dg dtL_law_0_ok 29 rfl
theorem dL_law_186 : decode cL_law 186 = .ok (.aload_n 0, 1) := dg dtL_law_0_ok 30 rfl
theorem dL_law_187 : decode cL_law 187 = .ok (.iload_n 3, 1) := dg dtL_law_0_ok 31 rfl
theorem dL_law_188 : decode cL_law 188 = .ok (.iconst 1, 1) := dg dtL_law_0_ok 32 rfl
theorem dL_law_189 : decode cL_law 189 = .ok (.iadd, 1) := dg dtL_law_0_ok 33 rfl
theorem dL_law_190 : decode cL_law 190 = .ok (.iaload, 1) := dg dtL_law_0_ok 34 rfl
theorem dL_law_191 : decode cL_law 191 = .ok (.aload_n 0, 1) := dg dtL_law_0_ok 35 rfl
theorem dL_law_192 : decode cL_law 192 = .ok (.iload_n 3, 1) := dg dtL_law_0_ok 36 rfl
theorem dL_law_193 : decode cL_law 193 = .ok (.iconst 2, 1) := dg dtL_law_0_ok 37 rfl
theorem dL_law_194 : decode cL_law 194 = .ok (.iadd, 1) := dg dtL_law_0_ok 38 rfl
theorem dL_law_195 : decode cL_law 195 = .ok (.iaload, 1) := dg dtL_law_0_ok 39 rfl
theorem dL_law_196 : decode cL_law 196 = .ok (.invokevirtual 18, 3) := dg dtL_law_0_ok 40 rfl
theorem dL_law_199 : decode cL_law 199 = .ok (.aload_n 2, 1) := dg dtL_law_0_ok 41 rfl
theorem dL_law_200 : decode cL_law 200 = .ok (.aload_n 0, 1) := dg dtL_law_0_ok 42 rfl
theorem dL_law_201 : decode cL_law 201 = .ok (.iload_n 3, 1) := dg dtL_law_0_ok 43 rfl
theorem dL_law_202 : decode cL_law 202 = .ok (.iconst 1, 1) := dg dtL_law_0_ok 44 rfl
theorem dL_law_203 : decode cL_law 203 = .ok (.iadd, 1) := dg dtL_law_0_ok 45 rfl
theorem dL_law_204 : decode cL_law 204 = .ok (.iaload, 1) := dg dtL_law_0_ok 46 rfl
theorem dL_law_205 : decode cL_law 205 = .ok (.aload_n 0, 1) := dg dtL_law_0_ok 47 rfl
def dtL_law_1 : List (Nat × Instr × Nat) := [(206, .iload_n 3, 1), (207, .iconst 2, 1), (208, .iadd, 1), (209, .iaload, 1), (210, .invokevirtual 22, 3), (213, .if_icmp .eq 816, 3), (216, .iconst 0, 1), (217, .ireturn, 1), (218, .aload_n 1, 1), (219, .aload_n 0, 1), (220, .iload_n 3, 1), (221, .iconst 1, 1), (222, .iadd, 1), (223, .iaload, 1), (224, .aload_n 0, 1), (225, .iload_n 3, 1), (226, .iconst 2, 1), (227, .iadd, 1), (228, .iaload, 1), (229, .invokevirtual 23, 3), (232, .aload_n 2, 1), (233, .aload_n 0, 1), (234, .iload_n 3, 1), (235, .iconst 1, 1), (236, .iadd, 1), (237, .iaload, 1), (238, .aload_n 0, 1), (239, .iload_n 3, 1), (240, .iconst 2, 1), (241, .iadd, 1), (242, .iaload, 1), (243, .invokevirtual 26, 3), (246, .if_icmp .eq 783, 3), (249, .iconst 0, 1), (250, .ireturn, 1), (251, .aload_n 1, 1), (252, .aload_n 0, 1), (253, .iload_n 3, 1), (254, .iconst 1, 1), (255, .iadd, 1), (256, .iaload, 1), (257, .aload_n 0, 1), (258, .iload_n 3, 1), (259, .iconst 2, 1), (260, .iadd, 1), (261, .iaload, 1), (262, .invokevirtual 27, 3), (265, .aload_n 2, 1)]
theorem dtL_law_1_ok : ∀ q ∈ dtL_law_1, decode cL_law q.1 = .ok q.2 := by decide +kernel
theorem dL_law_206 : decode cL_law 206 = .ok (.iload_n 3, 1) := dg dtL_law_1_ok 0 rfl
theorem dL_law_207 : decode cL_law 207 = .ok (.iconst 2, 1) := dg dtL_law_1_ok 1 rfl
theorem dL_law_208 : decode cL_law 208 = .ok (.iadd, 1) := dg dtL_law_1_ok 2 rfl
theorem dL_law_209 : decode cL_law 209 = .ok (.iaload, 1) := dg dtL_law_1_ok 3 rfl
theorem dL_law_210 : decode cL_law 210 = .ok (.invokevirtual 22, 3) := dg dtL_law_1_ok 4 rfl
theorem dL_law_213 : decode cL_law 213 = .ok (.if_icmp .eq 816, 3) := dg dtL_law_1_ok 5 rfl
theorem dL_law_216 : decode cL_law 216 = .ok (.iconst 0, 1) := dg dtL_law_1_ok 6 rfl
theorem dL_law_217 : decode cL_law 217 = .ok (.ireturn, 1) := dg dtL_law_1_ok 7 rfl
theorem dL_law_218 : decode cL_law 218 = .ok (.aload_n 1, 1) := dg dtL_law_1_ok 8 rfl
theorem dL_law_219 : decode cL_law 219 = .ok (.aload_n 0, 1) := dg dtL_law_1_ok 9 rfl
theorem dL_law_220 : decode cL_law 220 = .ok (.iload_n 3, 1) := dg dtL_law_1_ok 10 rfl
theorem dL_law_221 : decode cL_law 221 = .ok (.iconst 1, 1) := dg dtL_law_1_ok 11 rfl
theorem dL_law_222 : decode cL_law 222 = .ok (.iadd, 1) := dg dtL_law_1_ok 12 rfl
theorem dL_law_223 : decode cL_law 223 = .ok (.iaload, 1) := dg dtL_law_1_ok 13 rfl
theorem dL_law_224 : decode cL_law 224 = .ok (.aload_n 0, 1) := dg dtL_law_1_ok 14 rfl
theorem dL_law_225 : decode cL_law 225 = .ok (.iload_n 3, 1) := dg dtL_law_1_ok 15 rfl
theorem dL_law_226 : decode cL_law 226 = .ok (.iconst 2, 1) := dg dtL_law_1_ok 16 rfl
theorem dL_law_227 : decode cL_law 227 = .ok (.iadd, 1) := dg dtL_law_1_ok 17 rfl
theorem dL_law_228 : decode cL_law 228 = .ok (.iaload, 1) := dg dtL_law_1_ok 18 rfl
theorem dL_law_229 : decode cL_law 229 = .ok (.invokevirtual 23, 3) := dg dtL_law_1_ok 19 rfl
theorem dL_law_232 : decode cL_law 232 = .ok (.aload_n 2, 1) := dg dtL_law_1_ok 20 rfl
theorem dL_law_233 : decode cL_law 233 = .ok (.aload_n 0, 1) := dg dtL_law_1_ok 21 rfl
theorem dL_law_234 : decode cL_law 234 = .ok (.iload_n 3, 1) := dg dtL_law_1_ok 22 rfl
theorem dL_law_235 : decode cL_law 235 = .ok (.iconst 1, 1) := dg dtL_law_1_ok 23 rfl
theorem dL_law_236 : decode cL_law 236 = .ok (.iadd, 1) := dg dtL_law_1_ok 24 rfl
theorem dL_law_237 : decode cL_law 237 = .ok (.iaload, 1) := dg dtL_law_1_ok 25 rfl
theorem dL_law_238 : decode cL_law 238 = .ok (.aload_n 0, 1) := dg dtL_law_1_ok 26 rfl
theorem dL_law_239 : decode cL_law 239 = .ok (.iload_n 3, 1) := dg dtL_law_1_ok 27 rfl
theorem dL_law_240 : decode cL_law 240 = .ok (.iconst 2, 1) := dg dtL_law_1_ok 28 rfl
theorem dL_law_241 : decode cL_law 241 = .ok (.iadd, 1) := dg dtL_law_1_ok 29 rfl
theorem dL_law_242 : decode cL_law 242 = .ok (.iaload, 1) := dg dtL_law_1_ok 30 rfl
theorem dL_law_243 : decode cL_law 243 = .ok (.invokevirtual 26, 3) := dg dtL_law_1_ok 31 rfl
theorem dL_law_246 : decode cL_law 246 = .ok (.if_icmp .eq 783, 3) := dg dtL_law_1_ok 32 rfl
theorem dL_law_249 : decode cL_law 249 = .ok (.iconst 0, 1) := dg dtL_law_1_ok 33 rfl
theorem dL_law_250 : decode cL_law 250 = .ok (.ireturn, 1) := dg dtL_law_1_ok 34 rfl
theorem dL_law_251 : decode cL_law 251 = .ok (.aload_n 1, 1) := dg dtL_law_1_ok 35 rfl
theorem dL_law_252 : decode cL_law 252 = .ok (.aload_n 0, 1) := dg dtL_law_1_ok 36 rfl
theorem dL_law_253 : decode cL_law 253 = .ok (.iload_n 3, 1) := dg dtL_law_1_ok 37 rfl
theorem dL_law_254 : decode cL_law 254 = .ok (.iconst 1, 1) := dg dtL_law_1_ok 38 rfl
theorem dL_law_255 : decode cL_law 255 = .ok (.iadd, 1) := dg dtL_law_1_ok 39 rfl
theorem dL_law_256 : decode cL_law 256 = .ok (.iaload, 1) := dg dtL_law_1_ok 40 rfl
theorem dL_law_257 : decode cL_law 257 = .ok (.aload_n 0, 1) := dg dtL_law_1_ok 41 rfl
theorem dL_law_258 : decode cL_law 258 = .ok (.iload_n 3, 1) := dg dtL_law_1_ok 42 rfl
theorem dL_law_259 : decode cL_law 259 = .ok (.iconst 2, 1) := dg dtL_law_1_ok 43 rfl
theorem dL_law_260 : decode cL_law 260 = .ok (.iadd, 1) := dg dtL_law_1_ok 44 rfl
theorem dL_law_261 : decode cL_law 261 = .ok (.iaload, 1) := dg dtL_law_1_ok 45 rfl
theorem dL_law_262 : decode cL_law 262 = .ok (.invokevirtual 27, 3) := dg dtL_law_1_ok 46 rfl
theorem dL_law_265 : decode cL_law 265 = .ok (.aload_n 2, 1) := dg dtL_law_1_ok 47 rfl
def dtL_law_2 : List (Nat × Instr × Nat) := [(266, .aload_n 0, 1), (267, .iload_n 3, 1), (268, .iconst 1, 1), (269, .iadd, 1), (270, .iaload, 1), (271, .aload_n 0, 1), (272, .iload_n 3, 1), (273, .iconst 2, 1), (274, .iadd, 1), (275, .iaload, 1), (276, .invokevirtual 30, 3), (279, .if_icmp .eq 750, 3), (282, .iconst 0, 1), (283, .ireturn, 1), (284, .aload_n 1, 1), (285, .aload_n 0, 1), (286, .iload_n 3, 1), (287, .iconst 1, 1), (288, .iadd, 1), (289, .iaload, 1), (290, .aload_n 0, 1), (291, .iload_n 3, 1), (292, .iconst 2, 1), (293, .iadd, 1), (294, .iaload, 1), (295, .invokevirtual 31, 3), (298, .aload_n 2, 1), (299, .aload_n 0, 1), (300, .iload_n 3, 1), (301, .iconst 1, 1), (302, .iadd, 1), (303, .iaload, 1), (304, .aload_n 0, 1), (305, .iload_n 3, 1), (306, .iconst 2, 1), (307, .iadd, 1), (308, .iaload, 1), (309, .invokevirtual 34, 3), (312, .if_icmp .eq 717, 3), (315, .iconst 0, 1), (316, .ireturn, 1), (317, .aload_n 1, 1), (318, .aload_n 0, 1), (319, .iload_n 3, 1), (320, .iconst 1, 1), (321, .iadd, 1), (322, .iaload, 1), (323, .aload_n 0, 1)]
theorem dtL_law_2_ok : ∀ q ∈ dtL_law_2, decode cL_law q.1 = .ok q.2 := by decide +kernel
theorem dL_law_266 : decode cL_law 266 = .ok (.aload_n 0, 1) := dg dtL_law_2_ok 0 rfl
theorem dL_law_267 : decode cL_law 267 = .ok (.iload_n 3, 1) := dg dtL_law_2_ok 1 rfl
theorem dL_law_268 : decode cL_law 268 = .ok (.iconst 1, 1) := dg dtL_law_2_ok 2 rfl
theorem dL_law_269 : decode cL_law 269 = .ok (.iadd, 1) := dg dtL_law_2_ok 3 rfl
theorem dL_law_270 : decode cL_law 270 = .ok (.iaload, 1) := dg dtL_law_2_ok 4 rfl
theorem dL_law_271 : decode cL_law 271 = .ok (.aload_n 0, 1) := dg dtL_law_2_ok 5 rfl
theorem dL_law_272 : decode cL_law 272 = .ok (.iload_n 3, 1) := dg dtL_law_2_ok 6 rfl
theorem dL_law_273 : decode cL_law 273 = .ok (.iconst 2, 1) := dg dtL_law_2_ok 7 rfl
theorem dL_law_274 : decode cL_law 274 = .ok (.iadd, 1) := dg dtL_law_2_ok 8 rfl
theorem dL_law_275 : decode cL_law 275 = .ok (.iaload, 1) := dg dtL_law_2_ok 9 rfl
theorem dL_law_276 : decode cL_law 276 = .ok (.invokevirtual 30, 3) := dg dtL_law_2_ok 10 rfl
theorem dL_law_279 : decode cL_law 279 = .ok (.if_icmp .eq 750, 3) := dg dtL_law_2_ok 11 rfl
theorem dL_law_282 : decode cL_law 282 = .ok (.iconst 0, 1) := dg dtL_law_2_ok 12 rfl
theorem dL_law_283 : decode cL_law 283 = .ok (.ireturn, 1) := dg dtL_law_2_ok 13 rfl
theorem dL_law_284 : decode cL_law 284 = .ok (.aload_n 1, 1) := dg dtL_law_2_ok 14 rfl
theorem dL_law_285 : decode cL_law 285 = .ok (.aload_n 0, 1) := dg dtL_law_2_ok 15 rfl
theorem dL_law_286 : decode cL_law 286 = .ok (.iload_n 3, 1) := dg dtL_law_2_ok 16 rfl
theorem dL_law_287 : decode cL_law 287 = .ok (.iconst 1, 1) := dg dtL_law_2_ok 17 rfl
theorem dL_law_288 : decode cL_law 288 = .ok (.iadd, 1) := dg dtL_law_2_ok 18 rfl
theorem dL_law_289 : decode cL_law 289 = .ok (.iaload, 1) := dg dtL_law_2_ok 19 rfl
theorem dL_law_290 : decode cL_law 290 = .ok (.aload_n 0, 1) := dg dtL_law_2_ok 20 rfl
theorem dL_law_291 : decode cL_law 291 = .ok (.iload_n 3, 1) := dg dtL_law_2_ok 21 rfl
theorem dL_law_292 : decode cL_law 292 = .ok (.iconst 2, 1) := dg dtL_law_2_ok 22 rfl
theorem dL_law_293 : decode cL_law 293 = .ok (.iadd, 1) := dg dtL_law_2_ok 23 rfl
theorem dL_law_294 : decode cL_law 294 = .ok (.iaload, 1) := dg dtL_law_2_ok 24 rfl
theorem dL_law_295 : decode cL_law 295 = .ok (.invokevirtual 31, 3) := dg dtL_law_2_ok 25 rfl
theorem dL_law_298 : decode cL_law 298 = .ok (.aload_n 2, 1) := dg dtL_law_2_ok 26 rfl
theorem dL_law_299 : decode cL_law 299 = .ok (.aload_n 0, 1) := dg dtL_law_2_ok 27 rfl
theorem dL_law_300 : decode cL_law 300 = .ok (.iload_n 3, 1) := dg dtL_law_2_ok 28 rfl
theorem dL_law_301 : decode cL_law 301 = .ok (.iconst 1, 1) := dg dtL_law_2_ok 29 rfl
theorem dL_law_302 : decode cL_law 302 = .ok (.iadd, 1) := dg dtL_law_2_ok 30 rfl
theorem dL_law_303 : decode cL_law 303 = .ok (.iaload, 1) := dg dtL_law_2_ok 31 rfl
theorem dL_law_304 : decode cL_law 304 = .ok (.aload_n 0, 1) := dg dtL_law_2_ok 32 rfl
theorem dL_law_305 : decode cL_law 305 = .ok (.iload_n 3, 1) := dg dtL_law_2_ok 33 rfl
theorem dL_law_306 : decode cL_law 306 = .ok (.iconst 2, 1) := dg dtL_law_2_ok 34 rfl
theorem dL_law_307 : decode cL_law 307 = .ok (.iadd, 1) := dg dtL_law_2_ok 35 rfl
theorem dL_law_308 : decode cL_law 308 = .ok (.iaload, 1) := dg dtL_law_2_ok 36 rfl
theorem dL_law_309 : decode cL_law 309 = .ok (.invokevirtual 34, 3) := dg dtL_law_2_ok 37 rfl
theorem dL_law_312 : decode cL_law 312 = .ok (.if_icmp .eq 717, 3) := dg dtL_law_2_ok 38 rfl
theorem dL_law_315 : decode cL_law 315 = .ok (.iconst 0, 1) := dg dtL_law_2_ok 39 rfl
theorem dL_law_316 : decode cL_law 316 = .ok (.ireturn, 1) := dg dtL_law_2_ok 40 rfl
theorem dL_law_317 : decode cL_law 317 = .ok (.aload_n 1, 1) := dg dtL_law_2_ok 41 rfl
theorem dL_law_318 : decode cL_law 318 = .ok (.aload_n 0, 1) := dg dtL_law_2_ok 42 rfl
theorem dL_law_319 : decode cL_law 319 = .ok (.iload_n 3, 1) := dg dtL_law_2_ok 43 rfl
theorem dL_law_320 : decode cL_law 320 = .ok (.iconst 1, 1) := dg dtL_law_2_ok 44 rfl
theorem dL_law_321 : decode cL_law 321 = .ok (.iadd, 1) := dg dtL_law_2_ok 45 rfl
theorem dL_law_322 : decode cL_law 322 = .ok (.iaload, 1) := dg dtL_law_2_ok 46 rfl
theorem dL_law_323 : decode cL_law 323 = .ok (.aload_n 0, 1) := dg dtL_law_2_ok 47 rfl
def dtL_law_3 : List (Nat × Instr × Nat) := [(324, .iload_n 3, 1), (325, .iconst 2, 1), (326, .iadd, 1), (327, .iaload, 1), (328, .aload_n 0, 1), (329, .iload_n 3, 1), (330, .iconst 3, 1), (331, .iadd, 1), (332, .iaload, 1), (333, .invokevirtual 35, 3), (336, .aload_n 2, 1), (337, .aload_n 0, 1), (338, .iload_n 3, 1), (339, .iconst 1, 1), (340, .iadd, 1), (341, .iaload, 1), (342, .aload_n 0, 1), (343, .iload_n 3, 1), (344, .iconst 2, 1), (345, .iadd, 1), (346, .iaload, 1), (347, .aload_n 0, 1), (348, .iload_n 3, 1), (349, .iconst 3, 1), (350, .iadd, 1), (351, .iaload, 1), (352, .invokevirtual 39, 3), (355, .if_icmp .eq 674, 3), (358, .iconst 0, 1), (359, .ireturn, 1), (360, .aload_n 1, 1), (361, .aload_n 0, 1), (362, .iload_n 3, 1), (363, .iconst 1, 1), (364, .iadd, 1), (365, .iaload, 1), (366, .aload_n 0, 1), (367, .iload_n 3, 1), (368, .iconst 2, 1), (369, .iadd, 1), (370, .iaload, 1), (371, .aload_n 0, 1), (372, .iload_n 3, 1), (373, .iconst 3, 1), (374, .iadd, 1), (375, .iaload, 1), (376, .aload_n 0, 1), (377, .iload_n 3, 1)]
theorem dtL_law_3_ok : ∀ q ∈ dtL_law_3, decode cL_law q.1 = .ok q.2 := by decide +kernel
theorem dL_law_324 : decode cL_law 324 = .ok (.iload_n 3, 1) := dg dtL_law_3_ok 0 rfl
theorem dL_law_325 : decode cL_law 325 = .ok (.iconst 2, 1) := dg dtL_law_3_ok 1 rfl
theorem dL_law_326 : decode cL_law 326 = .ok (.iadd, 1) := dg dtL_law_3_ok 2 rfl
theorem dL_law_327 : decode cL_law 327 = .ok (.iaload, 1) := dg dtL_law_3_ok 3 rfl
theorem dL_law_328 : decode cL_law 328 = .ok (.aload_n 0, 1) := dg dtL_law_3_ok 4 rfl
theorem dL_law_329 : decode cL_law 329 = .ok (.iload_n 3, 1) := dg dtL_law_3_ok 5 rfl
theorem dL_law_330 : decode cL_law 330 = .ok (.iconst 3, 1) := dg dtL_law_3_ok 6 rfl
theorem dL_law_331 : decode cL_law 331 = .ok (.iadd, 1) := dg dtL_law_3_ok 7 rfl
theorem dL_law_332 : decode cL_law 332 = .ok (.iaload, 1) := dg dtL_law_3_ok 8 rfl
theorem dL_law_333 : decode cL_law 333 = .ok (.invokevirtual 35, 3) := dg dtL_law_3_ok 9 rfl
theorem dL_law_336 : decode cL_law 336 = .ok (.aload_n 2, 1) := dg dtL_law_3_ok 10 rfl
theorem dL_law_337 : decode cL_law 337 = .ok (.aload_n 0, 1) := dg dtL_law_3_ok 11 rfl
theorem dL_law_338 : decode cL_law 338 = .ok (.iload_n 3, 1) := dg dtL_law_3_ok 12 rfl
theorem dL_law_339 : decode cL_law 339 = .ok (.iconst 1, 1) := dg dtL_law_3_ok 13 rfl
theorem dL_law_340 : decode cL_law 340 = .ok (.iadd, 1) := dg dtL_law_3_ok 14 rfl
theorem dL_law_341 : decode cL_law 341 = .ok (.iaload, 1) := dg dtL_law_3_ok 15 rfl
theorem dL_law_342 : decode cL_law 342 = .ok (.aload_n 0, 1) := dg dtL_law_3_ok 16 rfl
theorem dL_law_343 : decode cL_law 343 = .ok (.iload_n 3, 1) := dg dtL_law_3_ok 17 rfl
theorem dL_law_344 : decode cL_law 344 = .ok (.iconst 2, 1) := dg dtL_law_3_ok 18 rfl
theorem dL_law_345 : decode cL_law 345 = .ok (.iadd, 1) := dg dtL_law_3_ok 19 rfl
theorem dL_law_346 : decode cL_law 346 = .ok (.iaload, 1) := dg dtL_law_3_ok 20 rfl
theorem dL_law_347 : decode cL_law 347 = .ok (.aload_n 0, 1) := dg dtL_law_3_ok 21 rfl
theorem dL_law_348 : decode cL_law 348 = .ok (.iload_n 3, 1) := dg dtL_law_3_ok 22 rfl
theorem dL_law_349 : decode cL_law 349 = .ok (.iconst 3, 1) := dg dtL_law_3_ok 23 rfl
theorem dL_law_350 : decode cL_law 350 = .ok (.iadd, 1) := dg dtL_law_3_ok 24 rfl
theorem dL_law_351 : decode cL_law 351 = .ok (.iaload, 1) := dg dtL_law_3_ok 25 rfl
theorem dL_law_352 : decode cL_law 352 = .ok (.invokevirtual 39, 3) := dg dtL_law_3_ok 26 rfl
theorem dL_law_355 : decode cL_law 355 = .ok (.if_icmp .eq 674, 3) := dg dtL_law_3_ok 27 rfl
theorem dL_law_358 : decode cL_law 358 = .ok (.iconst 0, 1) := dg dtL_law_3_ok 28 rfl
theorem dL_law_359 : decode cL_law 359 = .ok (.ireturn, 1) := dg dtL_law_3_ok 29 rfl
theorem dL_law_360 : decode cL_law 360 = .ok (.aload_n 1, 1) := dg dtL_law_3_ok 30 rfl
theorem dL_law_361 : decode cL_law 361 = .ok (.aload_n 0, 1) := dg dtL_law_3_ok 31 rfl
theorem dL_law_362 : decode cL_law 362 = .ok (.iload_n 3, 1) := dg dtL_law_3_ok 32 rfl
theorem dL_law_363 : decode cL_law 363 = .ok (.iconst 1, 1) := dg dtL_law_3_ok 33 rfl
theorem dL_law_364 : decode cL_law 364 = .ok (.iadd, 1) := dg dtL_law_3_ok 34 rfl
theorem dL_law_365 : decode cL_law 365 = .ok (.iaload, 1) := dg dtL_law_3_ok 35 rfl
theorem dL_law_366 : decode cL_law 366 = .ok (.aload_n 0, 1) := dg dtL_law_3_ok 36 rfl
theorem dL_law_367 : decode cL_law 367 = .ok (.iload_n 3, 1) := dg dtL_law_3_ok 37 rfl
theorem dL_law_368 : decode cL_law 368 = .ok (.iconst 2, 1) := dg dtL_law_3_ok 38 rfl
theorem dL_law_369 : decode cL_law 369 = .ok (.iadd, 1) := dg dtL_law_3_ok 39 rfl
theorem dL_law_370 : decode cL_law 370 = .ok (.iaload, 1) := dg dtL_law_3_ok 40 rfl
theorem dL_law_371 : decode cL_law 371 = .ok (.aload_n 0, 1) := dg dtL_law_3_ok 41 rfl
theorem dL_law_372 : decode cL_law 372 = .ok (.iload_n 3, 1) := dg dtL_law_3_ok 42 rfl
theorem dL_law_373 : decode cL_law 373 = .ok (.iconst 3, 1) := dg dtL_law_3_ok 43 rfl
theorem dL_law_374 : decode cL_law 374 = .ok (.iadd, 1) := dg dtL_law_3_ok 44 rfl
theorem dL_law_375 : decode cL_law 375 = .ok (.iaload, 1) := dg dtL_law_3_ok 45 rfl
theorem dL_law_376 : decode cL_law 376 = .ok (.aload_n 0, 1) := dg dtL_law_3_ok 46 rfl
theorem dL_law_377 : decode cL_law 377 = .ok (.iload_n 3, 1) := dg dtL_law_3_ok 47 rfl
def dtL_law_4 : List (Nat × Instr × Nat) := [(378, .iconst 4, 1), (379, .iadd, 1), (380, .iaload, 1), (381, .invokevirtual 40, 3), (384, .aload_n 2, 1), (385, .aload_n 0, 1), (386, .iload_n 3, 1), (387, .iconst 1, 1), (388, .iadd, 1), (389, .iaload, 1), (390, .aload_n 0, 1), (391, .iload_n 3, 1), (392, .iconst 2, 1), (393, .iadd, 1), (394, .iaload, 1), (395, .aload_n 0, 1), (396, .iload_n 3, 1), (397, .iconst 3, 1), (398, .iadd, 1), (399, .iaload, 1), (400, .aload_n 0, 1), (401, .iload_n 3, 1), (402, .iconst 4, 1), (403, .iadd, 1), (404, .iaload, 1), (405, .invokevirtual 44, 3), (408, .if_icmp .eq 621, 3), (411, .iconst 0, 1), (412, .ireturn, 1), (413, .aload_n 1, 1), (414, .aload_n 0, 1), (415, .iload_n 3, 1), (416, .iconst 1, 1), (417, .iadd, 1), (418, .iaload, 1), (419, .aload_n 0, 1), (420, .iload_n 3, 1), (421, .iconst 2, 1), (422, .iadd, 1), (423, .iaload, 1), (424, .invokevirtual 45, 3), (427, .aload_n 2, 1), (428, .aload_n 0, 1), (429, .iload_n 3, 1), (430, .iconst 1, 1), (431, .iadd, 1), (432, .iaload, 1), (433, .aload_n 0, 1)]
theorem dtL_law_4_ok : ∀ q ∈ dtL_law_4, decode cL_law q.1 = .ok q.2 := by decide +kernel
theorem dL_law_378 : decode cL_law 378 = .ok (.iconst 4, 1) := dg dtL_law_4_ok 0 rfl
theorem dL_law_379 : decode cL_law 379 = .ok (.iadd, 1) := dg dtL_law_4_ok 1 rfl
theorem dL_law_380 : decode cL_law 380 = .ok (.iaload, 1) := dg dtL_law_4_ok 2 rfl
theorem dL_law_381 : decode cL_law 381 = .ok (.invokevirtual 40, 3) := dg dtL_law_4_ok 3 rfl
theorem dL_law_384 : decode cL_law 384 = .ok (.aload_n 2, 1) := dg dtL_law_4_ok 4 rfl
theorem dL_law_385 : decode cL_law 385 = .ok (.aload_n 0, 1) := dg dtL_law_4_ok 5 rfl
theorem dL_law_386 : decode cL_law 386 = .ok (.iload_n 3, 1) := dg dtL_law_4_ok 6 rfl
theorem dL_law_387 : decode cL_law 387 = .ok (.iconst 1, 1) := dg dtL_law_4_ok 7 rfl
theorem dL_law_388 : decode cL_law 388 = .ok (.iadd, 1) := dg dtL_law_4_ok 8 rfl
theorem dL_law_389 : decode cL_law 389 = .ok (.iaload, 1) := dg dtL_law_4_ok 9 rfl
theorem dL_law_390 : decode cL_law 390 = .ok (.aload_n 0, 1) := dg dtL_law_4_ok 10 rfl
theorem dL_law_391 : decode cL_law 391 = .ok (.iload_n 3, 1) := dg dtL_law_4_ok 11 rfl
theorem dL_law_392 : decode cL_law 392 = .ok (.iconst 2, 1) := dg dtL_law_4_ok 12 rfl
theorem dL_law_393 : decode cL_law 393 = .ok (.iadd, 1) := dg dtL_law_4_ok 13 rfl
theorem dL_law_394 : decode cL_law 394 = .ok (.iaload, 1) := dg dtL_law_4_ok 14 rfl
theorem dL_law_395 : decode cL_law 395 = .ok (.aload_n 0, 1) := dg dtL_law_4_ok 15 rfl
theorem dL_law_396 : decode cL_law 396 = .ok (.iload_n 3, 1) := dg dtL_law_4_ok 16 rfl
theorem dL_law_397 : decode cL_law 397 = .ok (.iconst 3, 1) := dg dtL_law_4_ok 17 rfl
theorem dL_law_398 : decode cL_law 398 = .ok (.iadd, 1) := dg dtL_law_4_ok 18 rfl
theorem dL_law_399 : decode cL_law 399 = .ok (.iaload, 1) := dg dtL_law_4_ok 19 rfl
theorem dL_law_400 : decode cL_law 400 = .ok (.aload_n 0, 1) := dg dtL_law_4_ok 20 rfl
theorem dL_law_401 : decode cL_law 401 = .ok (.iload_n 3, 1) := dg dtL_law_4_ok 21 rfl
theorem dL_law_402 : decode cL_law 402 = .ok (.iconst 4, 1) := dg dtL_law_4_ok 22 rfl
theorem dL_law_403 : decode cL_law 403 = .ok (.iadd, 1) := dg dtL_law_4_ok 23 rfl
theorem dL_law_404 : decode cL_law 404 = .ok (.iaload, 1) := dg dtL_law_4_ok 24 rfl
theorem dL_law_405 : decode cL_law 405 = .ok (.invokevirtual 44, 3) := dg dtL_law_4_ok 25 rfl
theorem dL_law_408 : decode cL_law 408 = .ok (.if_icmp .eq 621, 3) := dg dtL_law_4_ok 26 rfl
theorem dL_law_411 : decode cL_law 411 = .ok (.iconst 0, 1) := dg dtL_law_4_ok 27 rfl
theorem dL_law_412 : decode cL_law 412 = .ok (.ireturn, 1) := dg dtL_law_4_ok 28 rfl
theorem dL_law_413 : decode cL_law 413 = .ok (.aload_n 1, 1) := dg dtL_law_4_ok 29 rfl
theorem dL_law_414 : decode cL_law 414 = .ok (.aload_n 0, 1) := dg dtL_law_4_ok 30 rfl
theorem dL_law_415 : decode cL_law 415 = .ok (.iload_n 3, 1) := dg dtL_law_4_ok 31 rfl
theorem dL_law_416 : decode cL_law 416 = .ok (.iconst 1, 1) := dg dtL_law_4_ok 32 rfl
theorem dL_law_417 : decode cL_law 417 = .ok (.iadd, 1) := dg dtL_law_4_ok 33 rfl
theorem dL_law_418 : decode cL_law 418 = .ok (.iaload, 1) := dg dtL_law_4_ok 34 rfl
theorem dL_law_419 : decode cL_law 419 = .ok (.aload_n 0, 1) := dg dtL_law_4_ok 35 rfl
theorem dL_law_420 : decode cL_law 420 = .ok (.iload_n 3, 1) := dg dtL_law_4_ok 36 rfl
theorem dL_law_421 : decode cL_law 421 = .ok (.iconst 2, 1) := dg dtL_law_4_ok 37 rfl
theorem dL_law_422 : decode cL_law 422 = .ok (.iadd, 1) := dg dtL_law_4_ok 38 rfl
theorem dL_law_423 : decode cL_law 423 = .ok (.iaload, 1) := dg dtL_law_4_ok 39 rfl
theorem dL_law_424 : decode cL_law 424 = .ok (.invokevirtual 45, 3) := dg dtL_law_4_ok 40 rfl
theorem dL_law_427 : decode cL_law 427 = .ok (.aload_n 2, 1) := dg dtL_law_4_ok 41 rfl
theorem dL_law_428 : decode cL_law 428 = .ok (.aload_n 0, 1) := dg dtL_law_4_ok 42 rfl
theorem dL_law_429 : decode cL_law 429 = .ok (.iload_n 3, 1) := dg dtL_law_4_ok 43 rfl
theorem dL_law_430 : decode cL_law 430 = .ok (.iconst 1, 1) := dg dtL_law_4_ok 44 rfl
theorem dL_law_431 : decode cL_law 431 = .ok (.iadd, 1) := dg dtL_law_4_ok 45 rfl
theorem dL_law_432 : decode cL_law 432 = .ok (.iaload, 1) := dg dtL_law_4_ok 46 rfl
theorem dL_law_433 : decode cL_law 433 = .ok (.aload_n 0, 1) := dg dtL_law_4_ok 47 rfl
def dtL_law_5 : List (Nat × Instr × Nat) := [(434, .iload_n 3, 1), (435, .iconst 2, 1), (436, .iadd, 1), (437, .iaload, 1), (438, .invokevirtual 48, 3), (441, .if_icmp .eq 588, 3), (444, .iconst 0, 1), (445, .ireturn, 1), (446, .aload_n 1, 1), (447, .aload_n 0, 1), (448, .iload_n 3, 1), (449, .iconst 1, 1), (450, .iadd, 1), (451, .iaload, 1), (452, .aload_n 0, 1), (453, .iload_n 3, 1), (454, .iconst 2, 1), (455, .iadd, 1), (456, .iaload, 1), (457, .invokevirtual 49, 3), (460, .aload_n 2, 1), (461, .aload_n 0, 1), (462, .iload_n 3, 1), (463, .iconst 1, 1), (464, .iadd, 1), (465, .iaload, 1), (466, .aload_n 0, 1), (467, .iload_n 3, 1), (468, .iconst 2, 1), (469, .iadd, 1), (470, .iaload, 1), (471, .invokevirtual 52, 3), (474, .if_icmp .eq 555, 3), (477, .iconst 0, 1), (478, .ireturn, 1), (479, .aload_n 1, 1), (480, .aload_n 0, 1), (481, .iload_n 3, 1), (482, .iconst 1, 1), (483, .iadd, 1), (484, .iaload, 1), (485, .aload_n 0, 1), (486, .iload_n 3, 1), (487, .iconst 2, 1), (488, .iadd, 1), (489, .iaload, 1), (490, .invokevirtual 53, 3), (493, .aload_n 2, 1)]
theorem dtL_law_5_ok : ∀ q ∈ dtL_law_5, decode cL_law q.1 = .ok q.2 := by decide +kernel
theorem dL_law_434 : decode cL_law 434 = .ok (.iload_n 3, 1) := dg dtL_law_5_ok 0 rfl
theorem dL_law_435 : decode cL_law 435 = .ok (.iconst 2, 1) := dg dtL_law_5_ok 1 rfl
theorem dL_law_436 : decode cL_law 436 = .ok (.iadd, 1) := dg dtL_law_5_ok 2 rfl
theorem dL_law_437 : decode cL_law 437 = .ok (.iaload, 1) := dg dtL_law_5_ok 3 rfl
theorem dL_law_438 : decode cL_law 438 = .ok (.invokevirtual 48, 3) := dg dtL_law_5_ok 4 rfl
theorem dL_law_441 : decode cL_law 441 = .ok (.if_icmp .eq 588, 3) := dg dtL_law_5_ok 5 rfl
theorem dL_law_444 : decode cL_law 444 = .ok (.iconst 0, 1) := dg dtL_law_5_ok 6 rfl
theorem dL_law_445 : decode cL_law 445 = .ok (.ireturn, 1) := dg dtL_law_5_ok 7 rfl
theorem dL_law_446 : decode cL_law 446 = .ok (.aload_n 1, 1) := dg dtL_law_5_ok 8 rfl
theorem dL_law_447 : decode cL_law 447 = .ok (.aload_n 0, 1) := dg dtL_law_5_ok 9 rfl
theorem dL_law_448 : decode cL_law 448 = .ok (.iload_n 3, 1) := dg dtL_law_5_ok 10 rfl
theorem dL_law_449 : decode cL_law 449 = .ok (.iconst 1, 1) := dg dtL_law_5_ok 11 rfl
theorem dL_law_450 : decode cL_law 450 = .ok (.iadd, 1) := dg dtL_law_5_ok 12 rfl
theorem dL_law_451 : decode cL_law 451 = .ok (.iaload, 1) := dg dtL_law_5_ok 13 rfl
theorem dL_law_452 : decode cL_law 452 = .ok (.aload_n 0, 1) := dg dtL_law_5_ok 14 rfl
theorem dL_law_453 : decode cL_law 453 = .ok (.iload_n 3, 1) := dg dtL_law_5_ok 15 rfl
theorem dL_law_454 : decode cL_law 454 = .ok (.iconst 2, 1) := dg dtL_law_5_ok 16 rfl
theorem dL_law_455 : decode cL_law 455 = .ok (.iadd, 1) := dg dtL_law_5_ok 17 rfl
theorem dL_law_456 : decode cL_law 456 = .ok (.iaload, 1) := dg dtL_law_5_ok 18 rfl
theorem dL_law_457 : decode cL_law 457 = .ok (.invokevirtual 49, 3) := dg dtL_law_5_ok 19 rfl
theorem dL_law_460 : decode cL_law 460 = .ok (.aload_n 2, 1) := dg dtL_law_5_ok 20 rfl
theorem dL_law_461 : decode cL_law 461 = .ok (.aload_n 0, 1) := dg dtL_law_5_ok 21 rfl
theorem dL_law_462 : decode cL_law 462 = .ok (.iload_n 3, 1) := dg dtL_law_5_ok 22 rfl
theorem dL_law_463 : decode cL_law 463 = .ok (.iconst 1, 1) := dg dtL_law_5_ok 23 rfl
theorem dL_law_464 : decode cL_law 464 = .ok (.iadd, 1) := dg dtL_law_5_ok 24 rfl
theorem dL_law_465 : decode cL_law 465 = .ok (.iaload, 1) := dg dtL_law_5_ok 25 rfl
theorem dL_law_466 : decode cL_law 466 = .ok (.aload_n 0, 1) := dg dtL_law_5_ok 26 rfl
theorem dL_law_467 : decode cL_law 467 = .ok (.iload_n 3, 1) := dg dtL_law_5_ok 27 rfl
theorem dL_law_468 : decode cL_law 468 = .ok (.iconst 2, 1) := dg dtL_law_5_ok 28 rfl
theorem dL_law_469 : decode cL_law 469 = .ok (.iadd, 1) := dg dtL_law_5_ok 29 rfl
theorem dL_law_470 : decode cL_law 470 = .ok (.iaload, 1) := dg dtL_law_5_ok 30 rfl
theorem dL_law_471 : decode cL_law 471 = .ok (.invokevirtual 52, 3) := dg dtL_law_5_ok 31 rfl
theorem dL_law_474 : decode cL_law 474 = .ok (.if_icmp .eq 555, 3) := dg dtL_law_5_ok 32 rfl
theorem dL_law_477 : decode cL_law 477 = .ok (.iconst 0, 1) := dg dtL_law_5_ok 33 rfl
theorem dL_law_478 : decode cL_law 478 = .ok (.ireturn, 1) := dg dtL_law_5_ok 34 rfl
theorem dL_law_479 : decode cL_law 479 = .ok (.aload_n 1, 1) := dg dtL_law_5_ok 35 rfl
theorem dL_law_480 : decode cL_law 480 = .ok (.aload_n 0, 1) := dg dtL_law_5_ok 36 rfl
theorem dL_law_481 : decode cL_law 481 = .ok (.iload_n 3, 1) := dg dtL_law_5_ok 37 rfl
theorem dL_law_482 : decode cL_law 482 = .ok (.iconst 1, 1) := dg dtL_law_5_ok 38 rfl
theorem dL_law_483 : decode cL_law 483 = .ok (.iadd, 1) := dg dtL_law_5_ok 39 rfl
theorem dL_law_484 : decode cL_law 484 = .ok (.iaload, 1) := dg dtL_law_5_ok 40 rfl
theorem dL_law_485 : decode cL_law 485 = .ok (.aload_n 0, 1) := dg dtL_law_5_ok 41 rfl
theorem dL_law_486 : decode cL_law 486 = .ok (.iload_n 3, 1) := dg dtL_law_5_ok 42 rfl
theorem dL_law_487 : decode cL_law 487 = .ok (.iconst 2, 1) := dg dtL_law_5_ok 43 rfl
theorem dL_law_488 : decode cL_law 488 = .ok (.iadd, 1) := dg dtL_law_5_ok 44 rfl
theorem dL_law_489 : decode cL_law 489 = .ok (.iaload, 1) := dg dtL_law_5_ok 45 rfl
theorem dL_law_490 : decode cL_law 490 = .ok (.invokevirtual 53, 3) := dg dtL_law_5_ok 46 rfl
theorem dL_law_493 : decode cL_law 493 = .ok (.aload_n 2, 1) := dg dtL_law_5_ok 47 rfl
def dtL_law_6 : List (Nat × Instr × Nat) := [(494, .aload_n 0, 1), (495, .iload_n 3, 1), (496, .iconst 1, 1), (497, .iadd, 1), (498, .iaload, 1), (499, .aload_n 0, 1), (500, .iload_n 3, 1), (501, .iconst 2, 1), (502, .iadd, 1), (503, .iaload, 1), (504, .invokevirtual 56, 3), (507, .if_icmp .eq 522, 3), (510, .iconst 0, 1), (511, .ireturn, 1), (512, .aload_n 1, 1), (513, .aload_n 0, 1), (514, .iload_n 3, 1), (515, .iconst 1, 1), (516, .iadd, 1), (517, .iaload, 1), (518, .invokevirtual 57, 3), (521, .aload_n 2, 1), (522, .aload_n 0, 1), (523, .iload_n 3, 1), (524, .iconst 1, 1), (525, .iadd, 1), (526, .iaload, 1), (527, .invokevirtual 61, 3), (530, .if_icmp .eq 499, 3), (533, .iconst 0, 1), (534, .ireturn, 1), (535, .aload_n 1, 1), (536, .aload_n 0, 1), (537, .iload_n 3, 1), (538, .iconst 1, 1), (539, .iadd, 1), (540, .iaload, 1), (541, .aload_n 0, 1), (542, .iload_n 3, 1), (543, .iconst 2, 1), (544, .iadd, 1), (545, .iaload, 1), (546, .invokevirtual 62, 3), (549, .aload_n 2, 1), (550, .aload_n 0, 1), (551, .iload_n 3, 1), (552, .iconst 1, 1), (553, .iadd, 1)]
theorem dtL_law_6_ok : ∀ q ∈ dtL_law_6, decode cL_law q.1 = .ok q.2 := by decide +kernel
theorem dL_law_494 : decode cL_law 494 = .ok (.aload_n 0, 1) := dg dtL_law_6_ok 0 rfl
theorem dL_law_495 : decode cL_law 495 = .ok (.iload_n 3, 1) := dg dtL_law_6_ok 1 rfl
theorem dL_law_496 : decode cL_law 496 = .ok (.iconst 1, 1) := dg dtL_law_6_ok 2 rfl
theorem dL_law_497 : decode cL_law 497 = .ok (.iadd, 1) := dg dtL_law_6_ok 3 rfl
theorem dL_law_498 : decode cL_law 498 = .ok (.iaload, 1) := dg dtL_law_6_ok 4 rfl
theorem dL_law_499 : decode cL_law 499 = .ok (.aload_n 0, 1) := dg dtL_law_6_ok 5 rfl
theorem dL_law_500 : decode cL_law 500 = .ok (.iload_n 3, 1) := dg dtL_law_6_ok 6 rfl
theorem dL_law_501 : decode cL_law 501 = .ok (.iconst 2, 1) := dg dtL_law_6_ok 7 rfl
theorem dL_law_502 : decode cL_law 502 = .ok (.iadd, 1) := dg dtL_law_6_ok 8 rfl
theorem dL_law_503 : decode cL_law 503 = .ok (.iaload, 1) := dg dtL_law_6_ok 9 rfl
theorem dL_law_504 : decode cL_law 504 = .ok (.invokevirtual 56, 3) := dg dtL_law_6_ok 10 rfl
theorem dL_law_507 : decode cL_law 507 = .ok (.if_icmp .eq 522, 3) := dg dtL_law_6_ok 11 rfl
theorem dL_law_510 : decode cL_law 510 = .ok (.iconst 0, 1) := dg dtL_law_6_ok 12 rfl
theorem dL_law_511 : decode cL_law 511 = .ok (.ireturn, 1) := dg dtL_law_6_ok 13 rfl
theorem dL_law_512 : decode cL_law 512 = .ok (.aload_n 1, 1) := dg dtL_law_6_ok 14 rfl
theorem dL_law_513 : decode cL_law 513 = .ok (.aload_n 0, 1) := dg dtL_law_6_ok 15 rfl
theorem dL_law_514 : decode cL_law 514 = .ok (.iload_n 3, 1) := dg dtL_law_6_ok 16 rfl
theorem dL_law_515 : decode cL_law 515 = .ok (.iconst 1, 1) := dg dtL_law_6_ok 17 rfl
theorem dL_law_516 : decode cL_law 516 = .ok (.iadd, 1) := dg dtL_law_6_ok 18 rfl
theorem dL_law_517 : decode cL_law 517 = .ok (.iaload, 1) := dg dtL_law_6_ok 19 rfl
theorem dL_law_518 : decode cL_law 518 = .ok (.invokevirtual 57, 3) := dg dtL_law_6_ok 20 rfl
theorem dL_law_521 : decode cL_law 521 = .ok (.aload_n 2, 1) := dg dtL_law_6_ok 21 rfl
theorem dL_law_522 : decode cL_law 522 = .ok (.aload_n 0, 1) := dg dtL_law_6_ok 22 rfl
theorem dL_law_523 : decode cL_law 523 = .ok (.iload_n 3, 1) := dg dtL_law_6_ok 23 rfl
theorem dL_law_524 : decode cL_law 524 = .ok (.iconst 1, 1) := dg dtL_law_6_ok 24 rfl
theorem dL_law_525 : decode cL_law 525 = .ok (.iadd, 1) := dg dtL_law_6_ok 25 rfl
theorem dL_law_526 : decode cL_law 526 = .ok (.iaload, 1) := dg dtL_law_6_ok 26 rfl
theorem dL_law_527 : decode cL_law 527 = .ok (.invokevirtual 61, 3) := dg dtL_law_6_ok 27 rfl
theorem dL_law_530 : decode cL_law 530 = .ok (.if_icmp .eq 499, 3) := dg dtL_law_6_ok 28 rfl
theorem dL_law_533 : decode cL_law 533 = .ok (.iconst 0, 1) := dg dtL_law_6_ok 29 rfl
theorem dL_law_534 : decode cL_law 534 = .ok (.ireturn, 1) := dg dtL_law_6_ok 30 rfl
theorem dL_law_535 : decode cL_law 535 = .ok (.aload_n 1, 1) := dg dtL_law_6_ok 31 rfl
theorem dL_law_536 : decode cL_law 536 = .ok (.aload_n 0, 1) := dg dtL_law_6_ok 32 rfl
theorem dL_law_537 : decode cL_law 537 = .ok (.iload_n 3, 1) := dg dtL_law_6_ok 33 rfl
theorem dL_law_538 : decode cL_law 538 = .ok (.iconst 1, 1) := dg dtL_law_6_ok 34 rfl
theorem dL_law_539 : decode cL_law 539 = .ok (.iadd, 1) := dg dtL_law_6_ok 35 rfl
theorem dL_law_540 : decode cL_law 540 = .ok (.iaload, 1) := dg dtL_law_6_ok 36 rfl
theorem dL_law_541 : decode cL_law 541 = .ok (.aload_n 0, 1) := dg dtL_law_6_ok 37 rfl
theorem dL_law_542 : decode cL_law 542 = .ok (.iload_n 3, 1) := dg dtL_law_6_ok 38 rfl
theorem dL_law_543 : decode cL_law 543 = .ok (.iconst 2, 1) := dg dtL_law_6_ok 39 rfl
theorem dL_law_544 : decode cL_law 544 = .ok (.iadd, 1) := dg dtL_law_6_ok 40 rfl
theorem dL_law_545 : decode cL_law 545 = .ok (.iaload, 1) := dg dtL_law_6_ok 41 rfl
theorem dL_law_546 : decode cL_law 546 = .ok (.invokevirtual 62, 3) := dg dtL_law_6_ok 42 rfl
theorem dL_law_549 : decode cL_law 549 = .ok (.aload_n 2, 1) := dg dtL_law_6_ok 43 rfl
theorem dL_law_550 : decode cL_law 550 = .ok (.aload_n 0, 1) := dg dtL_law_6_ok 44 rfl
theorem dL_law_551 : decode cL_law 551 = .ok (.iload_n 3, 1) := dg dtL_law_6_ok 45 rfl
theorem dL_law_552 : decode cL_law 552 = .ok (.iconst 1, 1) := dg dtL_law_6_ok 46 rfl
theorem dL_law_553 : decode cL_law 553 = .ok (.iadd, 1) := dg dtL_law_6_ok 47 rfl
def dtL_law_7 : List (Nat × Instr × Nat) := [(554, .iaload, 1), (555, .aload_n 0, 1), (556, .iload_n 3, 1), (557, .iconst 2, 1), (558, .iadd, 1), (559, .iaload, 1), (560, .invokevirtual 65, 3), (563, .if_icmp .eq 466, 3), (566, .iconst 0, 1), (567, .ireturn, 1), (568, .aload_n 1, 1), (569, .aload_n 0, 1), (570, .iload_n 3, 1), (571, .iconst 1, 1), (572, .iadd, 1), (573, .iaload, 1), (574, .aload_n 0, 1), (575, .iload_n 3, 1), (576, .iconst 2, 1), (577, .iadd, 1), (578, .iaload, 1), (579, .invokevirtual 66, 3), (582, .aload_n 2, 1), (583, .aload_n 0, 1), (584, .iload_n 3, 1), (585, .iconst 1, 1), (586, .iadd, 1), (587, .iaload, 1), (588, .aload_n 0, 1), (589, .iload_n 3, 1), (590, .iconst 2, 1), (591, .iadd, 1), (592, .iaload, 1), (593, .invokevirtual 69, 3), (596, .if_icmp .eq 433, 3), (599, .iconst 0, 1), (600, .ireturn, 1), (601, .aload_n 1, 1), (602, .aload_n 0, 1), (603, .iload_n 3, 1), (604, .iconst 1, 1), (605, .iadd, 1), (606, .iaload, 1), (607, .invokevirtual 70, 3), (610, .aload_n 2, 1), (611, .aload_n 0, 1), (612, .iload_n 3, 1), (613, .iconst 1, 1)]
theorem dtL_law_7_ok : ∀ q ∈ dtL_law_7, decode cL_law q.1 = .ok q.2 := by decide +kernel
theorem dL_law_554 : decode cL_law 554 = .ok (.iaload, 1) := dg dtL_law_7_ok 0 rfl
theorem dL_law_555 : decode cL_law 555 = .ok (.aload_n 0, 1) := dg dtL_law_7_ok 1 rfl
theorem dL_law_556 : decode cL_law 556 = .ok (.iload_n 3, 1) := dg dtL_law_7_ok 2 rfl
theorem dL_law_557 : decode cL_law 557 = .ok (.iconst 2, 1) := dg dtL_law_7_ok 3 rfl
theorem dL_law_558 : decode cL_law 558 = .ok (.iadd, 1) := dg dtL_law_7_ok 4 rfl
theorem dL_law_559 : decode cL_law 559 = .ok (.iaload, 1) := dg dtL_law_7_ok 5 rfl
theorem dL_law_560 : decode cL_law 560 = .ok (.invokevirtual 65, 3) := dg dtL_law_7_ok 6 rfl
theorem dL_law_563 : decode cL_law 563 = .ok (.if_icmp .eq 466, 3) := dg dtL_law_7_ok 7 rfl
theorem dL_law_566 : decode cL_law 566 = .ok (.iconst 0, 1) := dg dtL_law_7_ok 8 rfl
theorem dL_law_567 : decode cL_law 567 = .ok (.ireturn, 1) := dg dtL_law_7_ok 9 rfl
theorem dL_law_568 : decode cL_law 568 = .ok (.aload_n 1, 1) := dg dtL_law_7_ok 10 rfl
theorem dL_law_569 : decode cL_law 569 = .ok (.aload_n 0, 1) := dg dtL_law_7_ok 11 rfl
theorem dL_law_570 : decode cL_law 570 = .ok (.iload_n 3, 1) := dg dtL_law_7_ok 12 rfl
theorem dL_law_571 : decode cL_law 571 = .ok (.iconst 1, 1) := dg dtL_law_7_ok 13 rfl
theorem dL_law_572 : decode cL_law 572 = .ok (.iadd, 1) := dg dtL_law_7_ok 14 rfl
theorem dL_law_573 : decode cL_law 573 = .ok (.iaload, 1) := dg dtL_law_7_ok 15 rfl
theorem dL_law_574 : decode cL_law 574 = .ok (.aload_n 0, 1) := dg dtL_law_7_ok 16 rfl
theorem dL_law_575 : decode cL_law 575 = .ok (.iload_n 3, 1) := dg dtL_law_7_ok 17 rfl
theorem dL_law_576 : decode cL_law 576 = .ok (.iconst 2, 1) := dg dtL_law_7_ok 18 rfl
theorem dL_law_577 : decode cL_law 577 = .ok (.iadd, 1) := dg dtL_law_7_ok 19 rfl
theorem dL_law_578 : decode cL_law 578 = .ok (.iaload, 1) := dg dtL_law_7_ok 20 rfl
theorem dL_law_579 : decode cL_law 579 = .ok (.invokevirtual 66, 3) := dg dtL_law_7_ok 21 rfl
theorem dL_law_582 : decode cL_law 582 = .ok (.aload_n 2, 1) := dg dtL_law_7_ok 22 rfl
theorem dL_law_583 : decode cL_law 583 = .ok (.aload_n 0, 1) := dg dtL_law_7_ok 23 rfl
theorem dL_law_584 : decode cL_law 584 = .ok (.iload_n 3, 1) := dg dtL_law_7_ok 24 rfl
theorem dL_law_585 : decode cL_law 585 = .ok (.iconst 1, 1) := dg dtL_law_7_ok 25 rfl
theorem dL_law_586 : decode cL_law 586 = .ok (.iadd, 1) := dg dtL_law_7_ok 26 rfl
theorem dL_law_587 : decode cL_law 587 = .ok (.iaload, 1) := dg dtL_law_7_ok 27 rfl
theorem dL_law_588 : decode cL_law 588 = .ok (.aload_n 0, 1) := dg dtL_law_7_ok 28 rfl
theorem dL_law_589 : decode cL_law 589 = .ok (.iload_n 3, 1) := dg dtL_law_7_ok 29 rfl
theorem dL_law_590 : decode cL_law 590 = .ok (.iconst 2, 1) := dg dtL_law_7_ok 30 rfl
theorem dL_law_591 : decode cL_law 591 = .ok (.iadd, 1) := dg dtL_law_7_ok 31 rfl
theorem dL_law_592 : decode cL_law 592 = .ok (.iaload, 1) := dg dtL_law_7_ok 32 rfl
theorem dL_law_593 : decode cL_law 593 = .ok (.invokevirtual 69, 3) := dg dtL_law_7_ok 33 rfl
theorem dL_law_596 : decode cL_law 596 = .ok (.if_icmp .eq 433, 3) := dg dtL_law_7_ok 34 rfl
theorem dL_law_599 : decode cL_law 599 = .ok (.iconst 0, 1) := dg dtL_law_7_ok 35 rfl
theorem dL_law_600 : decode cL_law 600 = .ok (.ireturn, 1) := dg dtL_law_7_ok 36 rfl
theorem dL_law_601 : decode cL_law 601 = .ok (.aload_n 1, 1) := dg dtL_law_7_ok 37 rfl
theorem dL_law_602 : decode cL_law 602 = .ok (.aload_n 0, 1) := dg dtL_law_7_ok 38 rfl
theorem dL_law_603 : decode cL_law 603 = .ok (.iload_n 3, 1) := dg dtL_law_7_ok 39 rfl
theorem dL_law_604 : decode cL_law 604 = .ok (.iconst 1, 1) := dg dtL_law_7_ok 40 rfl
theorem dL_law_605 : decode cL_law 605 = .ok (.iadd, 1) := dg dtL_law_7_ok 41 rfl
theorem dL_law_606 : decode cL_law 606 = .ok (.iaload, 1) := dg dtL_law_7_ok 42 rfl
theorem dL_law_607 : decode cL_law 607 = .ok (.invokevirtual 70, 3) := dg dtL_law_7_ok 43 rfl
theorem dL_law_610 : decode cL_law 610 = .ok (.aload_n 2, 1) := dg dtL_law_7_ok 44 rfl
theorem dL_law_611 : decode cL_law 611 = .ok (.aload_n 0, 1) := dg dtL_law_7_ok 45 rfl
theorem dL_law_612 : decode cL_law 612 = .ok (.iload_n 3, 1) := dg dtL_law_7_ok 46 rfl
theorem dL_law_613 : decode cL_law 613 = .ok (.iconst 1, 1) := dg dtL_law_7_ok 47 rfl
def dtL_law_8 : List (Nat × Instr × Nat) := [(614, .iadd, 1), (615, .iaload, 1), (616, .invokevirtual 73, 3), (619, .if_icmp .eq 410, 3), (622, .iconst 0, 1), (623, .ireturn, 1), (624, .aload_n 1, 1), (625, .aload_n 0, 1), (626, .iload_n 3, 1), (627, .iconst 1, 1), (628, .iadd, 1), (629, .iaload, 1), (630, .i2c, 1), (631, .invokevirtual 74, 3), (634, .aload_n 2, 1), (635, .aload_n 0, 1), (636, .iload_n 3, 1), (637, .iconst 1, 1), (638, .iadd, 1), (639, .iaload, 1), (640, .i2c, 1), (641, .invokevirtual 78, 3), (644, .if_icmp .eq 385, 3), (647, .iconst 0, 1), (648, .ireturn, 1), (649, .aload_n 1, 1), (650, .invokevirtual 79, 3), (653, .aload_n 2, 1), (654, .invokevirtual 82, 3), (657, .if_icmp .eq 372, 3), (660, .iconst 0, 1), (661, .ireturn, 1), (662, .aload_n 1, 1), (663, .invokevirtual 83, 3), (666, .aload_n 2, 1), (667, .invokevirtual 86, 3), (670, .if_icmp .eq 359, 3), (673, .iconst 0, 1), (674, .ireturn, 1), (675, .aload_n 1, 1), (676, .invokevirtual 87, 3), (679, .aload_n 2, 1), (680, .invokevirtual 90, 3), (683, .if_icmp .eq 346, 3), (686, .iconst 0, 1), (687, .ireturn, 1), (688, .aload_n 1, 1), (689, .aload_n 0, 1)]
theorem dtL_law_8_ok : ∀ q ∈ dtL_law_8, decode cL_law q.1 = .ok q.2 := by decide +kernel
theorem dL_law_614 : decode cL_law 614 = .ok (.iadd, 1) := dg dtL_law_8_ok 0 rfl
theorem dL_law_615 : decode cL_law 615 = .ok (.iaload, 1) := dg dtL_law_8_ok 1 rfl
theorem dL_law_616 : decode cL_law 616 = .ok (.invokevirtual 73, 3) := dg dtL_law_8_ok 2 rfl
theorem dL_law_619 : decode cL_law 619 = .ok (.if_icmp .eq 410, 3) := dg dtL_law_8_ok 3 rfl
theorem dL_law_622 : decode cL_law 622 = .ok (.iconst 0, 1) := dg dtL_law_8_ok 4 rfl
theorem dL_law_623 : decode cL_law 623 = .ok (.ireturn, 1) := dg dtL_law_8_ok 5 rfl
theorem dL_law_624 : decode cL_law 624 = .ok (.aload_n 1, 1) := dg dtL_law_8_ok 6 rfl
theorem dL_law_625 : decode cL_law 625 = .ok (.aload_n 0, 1) := dg dtL_law_8_ok 7 rfl
theorem dL_law_626 : decode cL_law 626 = .ok (.iload_n 3, 1) := dg dtL_law_8_ok 8 rfl
theorem dL_law_627 : decode cL_law 627 = .ok (.iconst 1, 1) := dg dtL_law_8_ok 9 rfl
theorem dL_law_628 : decode cL_law 628 = .ok (.iadd, 1) := dg dtL_law_8_ok 10 rfl
theorem dL_law_629 : decode cL_law 629 = .ok (.iaload, 1) := dg dtL_law_8_ok 11 rfl
theorem dL_law_630 : decode cL_law 630 = .ok (.i2c, 1) := dg dtL_law_8_ok 12 rfl
theorem dL_law_631 : decode cL_law 631 = .ok (.invokevirtual 74, 3) := dg dtL_law_8_ok 13 rfl
theorem dL_law_634 : decode cL_law 634 = .ok (.aload_n 2, 1) := dg dtL_law_8_ok 14 rfl
theorem dL_law_635 : decode cL_law 635 = .ok (.aload_n 0, 1) := dg dtL_law_8_ok 15 rfl
theorem dL_law_636 : decode cL_law 636 = .ok (.iload_n 3, 1) := dg dtL_law_8_ok 16 rfl
theorem dL_law_637 : decode cL_law 637 = .ok (.iconst 1, 1) := dg dtL_law_8_ok 17 rfl
theorem dL_law_638 : decode cL_law 638 = .ok (.iadd, 1) := dg dtL_law_8_ok 18 rfl
theorem dL_law_639 : decode cL_law 639 = .ok (.iaload, 1) := dg dtL_law_8_ok 19 rfl
theorem dL_law_640 : decode cL_law 640 = .ok (.i2c, 1) := dg dtL_law_8_ok 20 rfl
theorem dL_law_641 : decode cL_law 641 = .ok (.invokevirtual 78, 3) := dg dtL_law_8_ok 21 rfl
theorem dL_law_644 : decode cL_law 644 = .ok (.if_icmp .eq 385, 3) := dg dtL_law_8_ok 22 rfl
theorem dL_law_647 : decode cL_law 647 = .ok (.iconst 0, 1) := dg dtL_law_8_ok 23 rfl
theorem dL_law_648 : decode cL_law 648 = .ok (.ireturn, 1) := dg dtL_law_8_ok 24 rfl
theorem dL_law_649 : decode cL_law 649 = .ok (.aload_n 1, 1) := dg dtL_law_8_ok 25 rfl
theorem dL_law_650 : decode cL_law 650 = .ok (.invokevirtual 79, 3) := dg dtL_law_8_ok 26 rfl
theorem dL_law_653 : decode cL_law 653 = .ok (.aload_n 2, 1) := dg dtL_law_8_ok 27 rfl
theorem dL_law_654 : decode cL_law 654 = .ok (.invokevirtual 82, 3) := dg dtL_law_8_ok 28 rfl
theorem dL_law_657 : decode cL_law 657 = .ok (.if_icmp .eq 372, 3) := dg dtL_law_8_ok 29 rfl
theorem dL_law_660 : decode cL_law 660 = .ok (.iconst 0, 1) := dg dtL_law_8_ok 30 rfl
theorem dL_law_661 : decode cL_law 661 = .ok (.ireturn, 1) := dg dtL_law_8_ok 31 rfl
theorem dL_law_662 : decode cL_law 662 = .ok (.aload_n 1, 1) := dg dtL_law_8_ok 32 rfl
theorem dL_law_663 : decode cL_law 663 = .ok (.invokevirtual 83, 3) := dg dtL_law_8_ok 33 rfl
theorem dL_law_666 : decode cL_law 666 = .ok (.aload_n 2, 1) := dg dtL_law_8_ok 34 rfl
theorem dL_law_667 : decode cL_law 667 = .ok (.invokevirtual 86, 3) := dg dtL_law_8_ok 35 rfl
theorem dL_law_670 : decode cL_law 670 = .ok (.if_icmp .eq 359, 3) := dg dtL_law_8_ok 36 rfl
theorem dL_law_673 : decode cL_law 673 = .ok (.iconst 0, 1) := dg dtL_law_8_ok 37 rfl
theorem dL_law_674 : decode cL_law 674 = .ok (.ireturn, 1) := dg dtL_law_8_ok 38 rfl
theorem dL_law_675 : decode cL_law 675 = .ok (.aload_n 1, 1) := dg dtL_law_8_ok 39 rfl
theorem dL_law_676 : decode cL_law 676 = .ok (.invokevirtual 87, 3) := dg dtL_law_8_ok 40 rfl
theorem dL_law_679 : decode cL_law 679 = .ok (.aload_n 2, 1) := dg dtL_law_8_ok 41 rfl
theorem dL_law_680 : decode cL_law 680 = .ok (.invokevirtual 90, 3) := dg dtL_law_8_ok 42 rfl
theorem dL_law_683 : decode cL_law 683 = .ok (.if_icmp .eq 346, 3) := dg dtL_law_8_ok 43 rfl
theorem dL_law_686 : decode cL_law 686 = .ok (.iconst 0, 1) := dg dtL_law_8_ok 44 rfl
theorem dL_law_687 : decode cL_law 687 = .ok (.ireturn, 1) := dg dtL_law_8_ok 45 rfl
theorem dL_law_688 : decode cL_law 688 = .ok (.aload_n 1, 1) := dg dtL_law_8_ok 46 rfl
theorem dL_law_689 : decode cL_law 689 = .ok (.aload_n 0, 1) := dg dtL_law_8_ok 47 rfl
def dtL_law_9 : List (Nat × Instr × Nat) := [(690, .iload_n 3, 1), (691, .iconst 1, 1), (692, .iadd, 1), (693, .iaload, 1), (694, .invokevirtual 91, 3), (697, .aload_n 2, 1), (698, .aload_n 0, 1), (699, .iload_n 3, 1), (700, .iconst 1, 1), (701, .iadd, 1), (702, .iaload, 1), (703, .invokevirtual 94, 3), (706, .if_icmp .eq 323, 3), (709, .iconst 0, 1), (710, .ireturn, 1), (711, .aload_n 1, 1), (712, .aload_n 0, 1), (713, .iload_n 3, 1), (714, .iconst 1, 1), (715, .iadd, 1), (716, .iaload, 1), (717, .invokevirtual 95, 3), (720, .aload_n 2, 1), (721, .aload_n 0, 1), (722, .iload_n 3, 1), (723, .iconst 1, 1), (724, .iadd, 1), (725, .iaload, 1), (726, .invokevirtual 98, 3), (729, .if_icmp .eq 300, 3), (732, .iconst 0, 1), (733, .ireturn, 1), (734, .aload_n 1, 1), (735, .aload_n 0, 1), (736, .iload_n 3, 1), (737, .iconst 1, 1), (738, .iadd, 1), (739, .iaload, 1), (740, .aload_n 0, 1), (741, .iload_n 3, 1), (742, .iconst 2, 1), (743, .iadd, 1), (744, .iaload, 1), (745, .invokevirtual 99, 3), (748, .aload_n 2, 1), (749, .aload_n 0, 1), (750, .iload_n 3, 1), (751, .iconst 1, 1)]
theorem dtL_law_9_ok : ∀ q ∈ dtL_law_9, decode cL_law q.1 = .ok q.2 := by decide +kernel
theorem dL_law_690 : decode cL_law 690 = .ok (.iload_n 3, 1) := dg dtL_law_9_ok 0 rfl
theorem dL_law_691 : decode cL_law 691 = .ok (.iconst 1, 1) := dg dtL_law_9_ok 1 rfl
theorem dL_law_692 : decode cL_law 692 = .ok (.iadd, 1) := dg dtL_law_9_ok 2 rfl
theorem dL_law_693 : decode cL_law 693 = .ok (.iaload, 1) := dg dtL_law_9_ok 3 rfl
theorem dL_law_694 : decode cL_law 694 = .ok (.invokevirtual 91, 3) := dg dtL_law_9_ok 4 rfl
theorem dL_law_697 : decode cL_law 697 = .ok (.aload_n 2, 1) := dg dtL_law_9_ok 5 rfl
theorem dL_law_698 : decode cL_law 698 = .ok (.aload_n 0, 1) := dg dtL_law_9_ok 6 rfl
theorem dL_law_699 : decode cL_law 699 = .ok (.iload_n 3, 1) := dg dtL_law_9_ok 7 rfl
theorem dL_law_700 : decode cL_law 700 = .ok (.iconst 1, 1) := dg dtL_law_9_ok 8 rfl
theorem dL_law_701 : decode cL_law 701 = .ok (.iadd, 1) := dg dtL_law_9_ok 9 rfl
theorem dL_law_702 : decode cL_law 702 = .ok (.iaload, 1) := dg dtL_law_9_ok 10 rfl
theorem dL_law_703 : decode cL_law 703 = .ok (.invokevirtual 94, 3) := dg dtL_law_9_ok 11 rfl
theorem dL_law_706 : decode cL_law 706 = .ok (.if_icmp .eq 323, 3) := dg dtL_law_9_ok 12 rfl
theorem dL_law_709 : decode cL_law 709 = .ok (.iconst 0, 1) := dg dtL_law_9_ok 13 rfl
theorem dL_law_710 : decode cL_law 710 = .ok (.ireturn, 1) := dg dtL_law_9_ok 14 rfl
theorem dL_law_711 : decode cL_law 711 = .ok (.aload_n 1, 1) := dg dtL_law_9_ok 15 rfl
theorem dL_law_712 : decode cL_law 712 = .ok (.aload_n 0, 1) := dg dtL_law_9_ok 16 rfl
theorem dL_law_713 : decode cL_law 713 = .ok (.iload_n 3, 1) := dg dtL_law_9_ok 17 rfl
theorem dL_law_714 : decode cL_law 714 = .ok (.iconst 1, 1) := dg dtL_law_9_ok 18 rfl
theorem dL_law_715 : decode cL_law 715 = .ok (.iadd, 1) := dg dtL_law_9_ok 19 rfl
theorem dL_law_716 : decode cL_law 716 = .ok (.iaload, 1) := dg dtL_law_9_ok 20 rfl
theorem dL_law_717 : decode cL_law 717 = .ok (.invokevirtual 95, 3) := dg dtL_law_9_ok 21 rfl
theorem dL_law_720 : decode cL_law 720 = .ok (.aload_n 2, 1) := dg dtL_law_9_ok 22 rfl
theorem dL_law_721 : decode cL_law 721 = .ok (.aload_n 0, 1) := dg dtL_law_9_ok 23 rfl
theorem dL_law_722 : decode cL_law 722 = .ok (.iload_n 3, 1) := dg dtL_law_9_ok 24 rfl
theorem dL_law_723 : decode cL_law 723 = .ok (.iconst 1, 1) := dg dtL_law_9_ok 25 rfl
theorem dL_law_724 : decode cL_law 724 = .ok (.iadd, 1) := dg dtL_law_9_ok 26 rfl
theorem dL_law_725 : decode cL_law 725 = .ok (.iaload, 1) := dg dtL_law_9_ok 27 rfl
theorem dL_law_726 : decode cL_law 726 = .ok (.invokevirtual 98, 3) := dg dtL_law_9_ok 28 rfl
theorem dL_law_729 : decode cL_law 729 = .ok (.if_icmp .eq 300, 3) := dg dtL_law_9_ok 29 rfl
theorem dL_law_732 : decode cL_law 732 = .ok (.iconst 0, 1) := dg dtL_law_9_ok 30 rfl
theorem dL_law_733 : decode cL_law 733 = .ok (.ireturn, 1) := dg dtL_law_9_ok 31 rfl
theorem dL_law_734 : decode cL_law 734 = .ok (.aload_n 1, 1) := dg dtL_law_9_ok 32 rfl
theorem dL_law_735 : decode cL_law 735 = .ok (.aload_n 0, 1) := dg dtL_law_9_ok 33 rfl
theorem dL_law_736 : decode cL_law 736 = .ok (.iload_n 3, 1) := dg dtL_law_9_ok 34 rfl
theorem dL_law_737 : decode cL_law 737 = .ok (.iconst 1, 1) := dg dtL_law_9_ok 35 rfl
theorem dL_law_738 : decode cL_law 738 = .ok (.iadd, 1) := dg dtL_law_9_ok 36 rfl
theorem dL_law_739 : decode cL_law 739 = .ok (.iaload, 1) := dg dtL_law_9_ok 37 rfl
theorem dL_law_740 : decode cL_law 740 = .ok (.aload_n 0, 1) := dg dtL_law_9_ok 38 rfl
theorem dL_law_741 : decode cL_law 741 = .ok (.iload_n 3, 1) := dg dtL_law_9_ok 39 rfl
theorem dL_law_742 : decode cL_law 742 = .ok (.iconst 2, 1) := dg dtL_law_9_ok 40 rfl
theorem dL_law_743 : decode cL_law 743 = .ok (.iadd, 1) := dg dtL_law_9_ok 41 rfl
theorem dL_law_744 : decode cL_law 744 = .ok (.iaload, 1) := dg dtL_law_9_ok 42 rfl
theorem dL_law_745 : decode cL_law 745 = .ok (.invokevirtual 99, 3) := dg dtL_law_9_ok 43 rfl
theorem dL_law_748 : decode cL_law 748 = .ok (.aload_n 2, 1) := dg dtL_law_9_ok 44 rfl
theorem dL_law_749 : decode cL_law 749 = .ok (.aload_n 0, 1) := dg dtL_law_9_ok 45 rfl
theorem dL_law_750 : decode cL_law 750 = .ok (.iload_n 3, 1) := dg dtL_law_9_ok 46 rfl
theorem dL_law_751 : decode cL_law 751 = .ok (.iconst 1, 1) := dg dtL_law_9_ok 47 rfl
def dtL_law_10 : List (Nat × Instr × Nat) := [(752, .iadd, 1), (753, .iaload, 1), (754, .aload_n 0, 1), (755, .iload_n 3, 1), (756, .iconst 2, 1), (757, .iadd, 1), (758, .iaload, 1), (759, .invokevirtual 103, 3), (762, .lcmp, 1), (763, .ifCond .eq 266, 3), (766, .iconst 0, 1), (767, .ireturn, 1), (768, .aload_n 1, 1), (769, .aload_n 0, 1), (770, .iload_n 3, 1), (771, .iconst 1, 1), (772, .iadd, 1), (773, .iaload, 1), (774, .aload_n 0, 1), (775, .iload_n 3, 1), (776, .iconst 2, 1), (777, .iadd, 1), (778, .iaload, 1), (779, .invokevirtual 104, 3), (782, .aload_n 2, 1), (783, .aload_n 0, 1), (784, .iload_n 3, 1), (785, .iconst 1, 1), (786, .iadd, 1), (787, .iaload, 1), (788, .aload_n 0, 1), (789, .iload_n 3, 1), (790, .iconst 2, 1), (791, .iadd, 1), (792, .iaload, 1), (793, .invokevirtual 107, 3), (796, .if_icmp .eq 233, 3), (799, .iconst 0, 1), (800, .ireturn, 1), (801, .aload_n 1, 1), (802, .aload_n 0, 1), (803, .iload_n 3, 1), (804, .iconst 1, 1), (805, .iadd, 1), (806, .iaload, 1), (807, .aload_n 0, 1), (808, .iload_n 3, 1), (809, .iconst 2, 1)]
theorem dtL_law_10_ok : ∀ q ∈ dtL_law_10, decode cL_law q.1 = .ok q.2 := by decide +kernel
theorem dL_law_752 : decode cL_law 752 = .ok (.iadd, 1) := dg dtL_law_10_ok 0 rfl
theorem dL_law_753 : decode cL_law 753 = .ok (.iaload, 1) := dg dtL_law_10_ok 1 rfl
theorem dL_law_754 : decode cL_law 754 = .ok (.aload_n 0, 1) := dg dtL_law_10_ok 2 rfl
theorem dL_law_755 : decode cL_law 755 = .ok (.iload_n 3, 1) := dg dtL_law_10_ok 3 rfl
theorem dL_law_756 : decode cL_law 756 = .ok (.iconst 2, 1) := dg dtL_law_10_ok 4 rfl
theorem dL_law_757 : decode cL_law 757 = .ok (.iadd, 1) := dg dtL_law_10_ok 5 rfl
theorem dL_law_758 : decode cL_law 758 = .ok (.iaload, 1) := dg dtL_law_10_ok 6 rfl
theorem dL_law_759 : decode cL_law 759 = .ok (.invokevirtual 103, 3) := dg dtL_law_10_ok 7 rfl
theorem dL_law_762 : decode cL_law 762 = .ok (.lcmp, 1) := dg dtL_law_10_ok 8 rfl
theorem dL_law_763 : decode cL_law 763 = .ok (.ifCond .eq 266, 3) := dg dtL_law_10_ok 9 rfl
theorem dL_law_766 : decode cL_law 766 = .ok (.iconst 0, 1) := dg dtL_law_10_ok 10 rfl
theorem dL_law_767 : decode cL_law 767 = .ok (.ireturn, 1) := dg dtL_law_10_ok 11 rfl
theorem dL_law_768 : decode cL_law 768 = .ok (.aload_n 1, 1) := dg dtL_law_10_ok 12 rfl
theorem dL_law_769 : decode cL_law 769 = .ok (.aload_n 0, 1) := dg dtL_law_10_ok 13 rfl
theorem dL_law_770 : decode cL_law 770 = .ok (.iload_n 3, 1) := dg dtL_law_10_ok 14 rfl
theorem dL_law_771 : decode cL_law 771 = .ok (.iconst 1, 1) := dg dtL_law_10_ok 15 rfl
theorem dL_law_772 : decode cL_law 772 = .ok (.iadd, 1) := dg dtL_law_10_ok 16 rfl
theorem dL_law_773 : decode cL_law 773 = .ok (.iaload, 1) := dg dtL_law_10_ok 17 rfl
theorem dL_law_774 : decode cL_law 774 = .ok (.aload_n 0, 1) := dg dtL_law_10_ok 18 rfl
theorem dL_law_775 : decode cL_law 775 = .ok (.iload_n 3, 1) := dg dtL_law_10_ok 19 rfl
theorem dL_law_776 : decode cL_law 776 = .ok (.iconst 2, 1) := dg dtL_law_10_ok 20 rfl
theorem dL_law_777 : decode cL_law 777 = .ok (.iadd, 1) := dg dtL_law_10_ok 21 rfl
theorem dL_law_778 : decode cL_law 778 = .ok (.iaload, 1) := dg dtL_law_10_ok 22 rfl
theorem dL_law_779 : decode cL_law 779 = .ok (.invokevirtual 104, 3) := dg dtL_law_10_ok 23 rfl
theorem dL_law_782 : decode cL_law 782 = .ok (.aload_n 2, 1) := dg dtL_law_10_ok 24 rfl
theorem dL_law_783 : decode cL_law 783 = .ok (.aload_n 0, 1) := dg dtL_law_10_ok 25 rfl
theorem dL_law_784 : decode cL_law 784 = .ok (.iload_n 3, 1) := dg dtL_law_10_ok 26 rfl
theorem dL_law_785 : decode cL_law 785 = .ok (.iconst 1, 1) := dg dtL_law_10_ok 27 rfl
theorem dL_law_786 : decode cL_law 786 = .ok (.iadd, 1) := dg dtL_law_10_ok 28 rfl
theorem dL_law_787 : decode cL_law 787 = .ok (.iaload, 1) := dg dtL_law_10_ok 29 rfl
theorem dL_law_788 : decode cL_law 788 = .ok (.aload_n 0, 1) := dg dtL_law_10_ok 30 rfl
theorem dL_law_789 : decode cL_law 789 = .ok (.iload_n 3, 1) := dg dtL_law_10_ok 31 rfl
theorem dL_law_790 : decode cL_law 790 = .ok (.iconst 2, 1) := dg dtL_law_10_ok 32 rfl
theorem dL_law_791 : decode cL_law 791 = .ok (.iadd, 1) := dg dtL_law_10_ok 33 rfl
theorem dL_law_792 : decode cL_law 792 = .ok (.iaload, 1) := dg dtL_law_10_ok 34 rfl
theorem dL_law_793 : decode cL_law 793 = .ok (.invokevirtual 107, 3) := dg dtL_law_10_ok 35 rfl
theorem dL_law_796 : decode cL_law 796 = .ok (.if_icmp .eq 233, 3) := dg dtL_law_10_ok 36 rfl
theorem dL_law_799 : decode cL_law 799 = .ok (.iconst 0, 1) := dg dtL_law_10_ok 37 rfl
theorem dL_law_800 : decode cL_law 800 = .ok (.ireturn, 1) := dg dtL_law_10_ok 38 rfl
theorem dL_law_801 : decode cL_law 801 = .ok (.aload_n 1, 1) := dg dtL_law_10_ok 39 rfl
theorem dL_law_802 : decode cL_law 802 = .ok (.aload_n 0, 1) := dg dtL_law_10_ok 40 rfl
theorem dL_law_803 : decode cL_law 803 = .ok (.iload_n 3, 1) := dg dtL_law_10_ok 41 rfl
theorem dL_law_804 : decode cL_law 804 = .ok (.iconst 1, 1) := dg dtL_law_10_ok 42 rfl
theorem dL_law_805 : decode cL_law 805 = .ok (.iadd, 1) := dg dtL_law_10_ok 43 rfl
theorem dL_law_806 : decode cL_law 806 = .ok (.iaload, 1) := dg dtL_law_10_ok 44 rfl
theorem dL_law_807 : decode cL_law 807 = .ok (.aload_n 0, 1) := dg dtL_law_10_ok 45 rfl
theorem dL_law_808 : decode cL_law 808 = .ok (.iload_n 3, 1) := dg dtL_law_10_ok 46 rfl
theorem dL_law_809 : decode cL_law 809 = .ok (.iconst 2, 1) := dg dtL_law_10_ok 47 rfl
def dtL_law_11 : List (Nat × Instr × Nat) := [(810, .iadd, 1), (811, .iaload, 1), (812, .invokevirtual 108, 3), (815, .aload_n 2, 1), (816, .aload_n 0, 1), (817, .iload_n 3, 1), (818, .iconst 1, 1), (819, .iadd, 1), (820, .iaload, 1), (821, .aload_n 0, 1), (822, .iload_n 3, 1), (823, .iconst 2, 1), (824, .iadd, 1), (825, .iaload, 1), (826, .invokevirtual 111, 3), (829, .if_icmp .eq 200, 3), (832, .iconst 0, 1), (833, .ireturn, 1), (834, .aload_n 1, 1), (835, .aload_n 0, 1), (836, .iload_n 3, 1), (837, .iconst 1, 1), (838, .iadd, 1), (839, .iaload, 1), (840, .invokevirtual 112, 3), (843, .aload_n 2, 1), (844, .aload_n 0, 1), (845, .iload_n 3, 1), (846, .iconst 1, 1), (847, .iadd, 1), (848, .iaload, 1), (849, .invokevirtual 115, 3), (852, .if_icmp .eq 177, 3), (855, .iconst 0, 1), (856, .ireturn, 1), (857, .aload_n 1, 1), (858, .aload_n 0, 1), (859, .iload_n 3, 1), (860, .iconst 1, 1), (861, .iadd, 1), (862, .iaload, 1), (863, .aload_n 0, 1), (864, .iload_n 3, 1), (865, .iconst 2, 1), (866, .iadd, 1), (867, .iaload, 1), (868, .invokevirtual 116, 3), (871, .aload_n 2, 1)]
theorem dtL_law_11_ok : ∀ q ∈ dtL_law_11, decode cL_law q.1 = .ok q.2 := by decide +kernel
theorem dL_law_810 : decode cL_law 810 = .ok (.iadd, 1) := dg dtL_law_11_ok 0 rfl
theorem dL_law_811 : decode cL_law 811 = .ok (.iaload, 1) := dg dtL_law_11_ok 1 rfl
theorem dL_law_812 : decode cL_law 812 = .ok (.invokevirtual 108, 3) := dg dtL_law_11_ok 2 rfl
theorem dL_law_815 : decode cL_law 815 = .ok (.aload_n 2, 1) := dg dtL_law_11_ok 3 rfl
theorem dL_law_816 : decode cL_law 816 = .ok (.aload_n 0, 1) := dg dtL_law_11_ok 4 rfl
theorem dL_law_817 : decode cL_law 817 = .ok (.iload_n 3, 1) := dg dtL_law_11_ok 5 rfl
theorem dL_law_818 : decode cL_law 818 = .ok (.iconst 1, 1) := dg dtL_law_11_ok 6 rfl
theorem dL_law_819 : decode cL_law 819 = .ok (.iadd, 1) := dg dtL_law_11_ok 7 rfl
theorem dL_law_820 : decode cL_law 820 = .ok (.iaload, 1) := dg dtL_law_11_ok 8 rfl
theorem dL_law_821 : decode cL_law 821 = .ok (.aload_n 0, 1) := dg dtL_law_11_ok 9 rfl
theorem dL_law_822 : decode cL_law 822 = .ok (.iload_n 3, 1) := dg dtL_law_11_ok 10 rfl
theorem dL_law_823 : decode cL_law 823 = .ok (.iconst 2, 1) := dg dtL_law_11_ok 11 rfl
theorem dL_law_824 : decode cL_law 824 = .ok (.iadd, 1) := dg dtL_law_11_ok 12 rfl
theorem dL_law_825 : decode cL_law 825 = .ok (.iaload, 1) := dg dtL_law_11_ok 13 rfl
theorem dL_law_826 : decode cL_law 826 = .ok (.invokevirtual 111, 3) := dg dtL_law_11_ok 14 rfl
theorem dL_law_829 : decode cL_law 829 = .ok (.if_icmp .eq 200, 3) := dg dtL_law_11_ok 15 rfl
theorem dL_law_832 : decode cL_law 832 = .ok (.iconst 0, 1) := dg dtL_law_11_ok 16 rfl
theorem dL_law_833 : decode cL_law 833 = .ok (.ireturn, 1) := dg dtL_law_11_ok 17 rfl
theorem dL_law_834 : decode cL_law 834 = .ok (.aload_n 1, 1) := dg dtL_law_11_ok 18 rfl
theorem dL_law_835 : decode cL_law 835 = .ok (.aload_n 0, 1) := dg dtL_law_11_ok 19 rfl
theorem dL_law_836 : decode cL_law 836 = .ok (.iload_n 3, 1) := dg dtL_law_11_ok 20 rfl
theorem dL_law_837 : decode cL_law 837 = .ok (.iconst 1, 1) := dg dtL_law_11_ok 21 rfl
theorem dL_law_838 : decode cL_law 838 = .ok (.iadd, 1) := dg dtL_law_11_ok 22 rfl
theorem dL_law_839 : decode cL_law 839 = .ok (.iaload, 1) := dg dtL_law_11_ok 23 rfl
theorem dL_law_840 : decode cL_law 840 = .ok (.invokevirtual 112, 3) := dg dtL_law_11_ok 24 rfl
theorem dL_law_843 : decode cL_law 843 = .ok (.aload_n 2, 1) := dg dtL_law_11_ok 25 rfl
theorem dL_law_844 : decode cL_law 844 = .ok (.aload_n 0, 1) := dg dtL_law_11_ok 26 rfl
theorem dL_law_845 : decode cL_law 845 = .ok (.iload_n 3, 1) := dg dtL_law_11_ok 27 rfl
theorem dL_law_846 : decode cL_law 846 = .ok (.iconst 1, 1) := dg dtL_law_11_ok 28 rfl
theorem dL_law_847 : decode cL_law 847 = .ok (.iadd, 1) := dg dtL_law_11_ok 29 rfl
theorem dL_law_848 : decode cL_law 848 = .ok (.iaload, 1) := dg dtL_law_11_ok 30 rfl
theorem dL_law_849 : decode cL_law 849 = .ok (.invokevirtual 115, 3) := dg dtL_law_11_ok 31 rfl
theorem dL_law_852 : decode cL_law 852 = .ok (.if_icmp .eq 177, 3) := dg dtL_law_11_ok 32 rfl
theorem dL_law_855 : decode cL_law 855 = .ok (.iconst 0, 1) := dg dtL_law_11_ok 33 rfl
theorem dL_law_856 : decode cL_law 856 = .ok (.ireturn, 1) := dg dtL_law_11_ok 34 rfl
theorem dL_law_857 : decode cL_law 857 = .ok (.aload_n 1, 1) := dg dtL_law_11_ok 35 rfl
theorem dL_law_858 : decode cL_law 858 = .ok (.aload_n 0, 1) := dg dtL_law_11_ok 36 rfl
theorem dL_law_859 : decode cL_law 859 = .ok (.iload_n 3, 1) := dg dtL_law_11_ok 37 rfl
theorem dL_law_860 : decode cL_law 860 = .ok (.iconst 1, 1) := dg dtL_law_11_ok 38 rfl
theorem dL_law_861 : decode cL_law 861 = .ok (.iadd, 1) := dg dtL_law_11_ok 39 rfl
theorem dL_law_862 : decode cL_law 862 = .ok (.iaload, 1) := dg dtL_law_11_ok 40 rfl
theorem dL_law_863 : decode cL_law 863 = .ok (.aload_n 0, 1) := dg dtL_law_11_ok 41 rfl
theorem dL_law_864 : decode cL_law 864 = .ok (.iload_n 3, 1) := dg dtL_law_11_ok 42 rfl
theorem dL_law_865 : decode cL_law 865 = .ok (.iconst 2, 1) := dg dtL_law_11_ok 43 rfl
theorem dL_law_866 : decode cL_law 866 = .ok (.iadd, 1) := dg dtL_law_11_ok 44 rfl
theorem dL_law_867 : decode cL_law 867 = .ok (.iaload, 1) := dg dtL_law_11_ok 45 rfl
theorem dL_law_868 : decode cL_law 868 = .ok (.invokevirtual 116, 3) := dg dtL_law_11_ok 46 rfl
theorem dL_law_871 : decode cL_law 871 = .ok (.aload_n 2, 1) := dg dtL_law_11_ok 47 rfl
def dtL_law_12 : List (Nat × Instr × Nat) := [(872, .aload_n 0, 1), (873, .iload_n 3, 1), (874, .iconst 1, 1), (875, .iadd, 1), (876, .iaload, 1), (877, .aload_n 0, 1), (878, .iload_n 3, 1), (879, .iconst 2, 1), (880, .iadd, 1), (881, .iaload, 1), (882, .invokevirtual 119, 3), (885, .if_icmp .eq 144, 3), (888, .iconst 0, 1), (889, .ireturn, 1), (890, .aload_n 1, 1), (891, .invokevirtual 120, 3), (894, .aload_n 2, 1), (895, .invokevirtual 123, 3), (898, .if_icmp .eq 131, 3), (901, .iconst 0, 1), (902, .ireturn, 1), (903, .aload_n 1, 1), (904, .aload_n 0, 1), (905, .iload_n 3, 1), (906, .iconst 1, 1), (907, .iadd, 1), (908, .iaload, 1), (909, .invokevirtual 124, 3), (912, .aload_n 2, 1), (913, .aload_n 0, 1), (914, .iload_n 3, 1), (915, .iconst 1, 1), (916, .iadd, 1), (917, .iaload, 1), (918, .invokevirtual 127, 3), (921, .if_icmp .eq 108, 3), (924, .iconst 0, 1), (925, .ireturn, 1), (926, .aload_n 1, 1), (927, .aload_n 0, 1), (928, .iload_n 3, 1), (929, .iconst 1, 1), (930, .iadd, 1), (931, .iaload, 1), (932, .aload_n 0, 1), (933, .iload_n 3, 1), (934, .iconst 2, 1), (935, .iadd, 1)]
theorem dtL_law_12_ok : ∀ q ∈ dtL_law_12, decode cL_law q.1 = .ok q.2 := by decide +kernel
theorem dL_law_872 : decode cL_law 872 = .ok (.aload_n 0, 1) := dg dtL_law_12_ok 0 rfl
theorem dL_law_873 : decode cL_law 873 = .ok (.iload_n 3, 1) := dg dtL_law_12_ok 1 rfl
theorem dL_law_874 : decode cL_law 874 = .ok (.iconst 1, 1) := dg dtL_law_12_ok 2 rfl
theorem dL_law_875 : decode cL_law 875 = .ok (.iadd, 1) := dg dtL_law_12_ok 3 rfl
theorem dL_law_876 : decode cL_law 876 = .ok (.iaload, 1) := dg dtL_law_12_ok 4 rfl
theorem dL_law_877 : decode cL_law 877 = .ok (.aload_n 0, 1) := dg dtL_law_12_ok 5 rfl
theorem dL_law_878 : decode cL_law 878 = .ok (.iload_n 3, 1) := dg dtL_law_12_ok 6 rfl
theorem dL_law_879 : decode cL_law 879 = .ok (.iconst 2, 1) := dg dtL_law_12_ok 7 rfl
theorem dL_law_880 : decode cL_law 880 = .ok (.iadd, 1) := dg dtL_law_12_ok 8 rfl
theorem dL_law_881 : decode cL_law 881 = .ok (.iaload, 1) := dg dtL_law_12_ok 9 rfl
theorem dL_law_882 : decode cL_law 882 = .ok (.invokevirtual 119, 3) := dg dtL_law_12_ok 10 rfl
theorem dL_law_885 : decode cL_law 885 = .ok (.if_icmp .eq 144, 3) := dg dtL_law_12_ok 11 rfl
theorem dL_law_888 : decode cL_law 888 = .ok (.iconst 0, 1) := dg dtL_law_12_ok 12 rfl
theorem dL_law_889 : decode cL_law 889 = .ok (.ireturn, 1) := dg dtL_law_12_ok 13 rfl
theorem dL_law_890 : decode cL_law 890 = .ok (.aload_n 1, 1) := dg dtL_law_12_ok 14 rfl
theorem dL_law_891 : decode cL_law 891 = .ok (.invokevirtual 120, 3) := dg dtL_law_12_ok 15 rfl
theorem dL_law_894 : decode cL_law 894 = .ok (.aload_n 2, 1) := dg dtL_law_12_ok 16 rfl
theorem dL_law_895 : decode cL_law 895 = .ok (.invokevirtual 123, 3) := dg dtL_law_12_ok 17 rfl
theorem dL_law_898 : decode cL_law 898 = .ok (.if_icmp .eq 131, 3) := dg dtL_law_12_ok 18 rfl
theorem dL_law_901 : decode cL_law 901 = .ok (.iconst 0, 1) := dg dtL_law_12_ok 19 rfl
theorem dL_law_902 : decode cL_law 902 = .ok (.ireturn, 1) := dg dtL_law_12_ok 20 rfl
theorem dL_law_903 : decode cL_law 903 = .ok (.aload_n 1, 1) := dg dtL_law_12_ok 21 rfl
theorem dL_law_904 : decode cL_law 904 = .ok (.aload_n 0, 1) := dg dtL_law_12_ok 22 rfl
theorem dL_law_905 : decode cL_law 905 = .ok (.iload_n 3, 1) := dg dtL_law_12_ok 23 rfl
theorem dL_law_906 : decode cL_law 906 = .ok (.iconst 1, 1) := dg dtL_law_12_ok 24 rfl
theorem dL_law_907 : decode cL_law 907 = .ok (.iadd, 1) := dg dtL_law_12_ok 25 rfl
theorem dL_law_908 : decode cL_law 908 = .ok (.iaload, 1) := dg dtL_law_12_ok 26 rfl
theorem dL_law_909 : decode cL_law 909 = .ok (.invokevirtual 124, 3) := dg dtL_law_12_ok 27 rfl
theorem dL_law_912 : decode cL_law 912 = .ok (.aload_n 2, 1) := dg dtL_law_12_ok 28 rfl
theorem dL_law_913 : decode cL_law 913 = .ok (.aload_n 0, 1) := dg dtL_law_12_ok 29 rfl
theorem dL_law_914 : decode cL_law 914 = .ok (.iload_n 3, 1) := dg dtL_law_12_ok 30 rfl
theorem dL_law_915 : decode cL_law 915 = .ok (.iconst 1, 1) := dg dtL_law_12_ok 31 rfl
theorem dL_law_916 : decode cL_law 916 = .ok (.iadd, 1) := dg dtL_law_12_ok 32 rfl
theorem dL_law_917 : decode cL_law 917 = .ok (.iaload, 1) := dg dtL_law_12_ok 33 rfl
theorem dL_law_918 : decode cL_law 918 = .ok (.invokevirtual 127, 3) := dg dtL_law_12_ok 34 rfl
theorem dL_law_921 : decode cL_law 921 = .ok (.if_icmp .eq 108, 3) := dg dtL_law_12_ok 35 rfl
theorem dL_law_924 : decode cL_law 924 = .ok (.iconst 0, 1) := dg dtL_law_12_ok 36 rfl
theorem dL_law_925 : decode cL_law 925 = .ok (.ireturn, 1) := dg dtL_law_12_ok 37 rfl
theorem dL_law_926 : decode cL_law 926 = .ok (.aload_n 1, 1) := dg dtL_law_12_ok 38 rfl
theorem dL_law_927 : decode cL_law 927 = .ok (.aload_n 0, 1) := dg dtL_law_12_ok 39 rfl
theorem dL_law_928 : decode cL_law 928 = .ok (.iload_n 3, 1) := dg dtL_law_12_ok 40 rfl
theorem dL_law_929 : decode cL_law 929 = .ok (.iconst 1, 1) := dg dtL_law_12_ok 41 rfl
theorem dL_law_930 : decode cL_law 930 = .ok (.iadd, 1) := dg dtL_law_12_ok 42 rfl
theorem dL_law_931 : decode cL_law 931 = .ok (.iaload, 1) := dg dtL_law_12_ok 43 rfl
theorem dL_law_932 : decode cL_law 932 = .ok (.aload_n 0, 1) := dg dtL_law_12_ok 44 rfl
theorem dL_law_933 : decode cL_law 933 = .ok (.iload_n 3, 1) := dg dtL_law_12_ok 45 rfl
theorem dL_law_934 : decode cL_law 934 = .ok (.iconst 2, 1) := dg dtL_law_12_ok 46 rfl
theorem dL_law_935 : decode cL_law 935 = .ok (.iadd, 1) := dg dtL_law_12_ok 47 rfl
def dtL_law_13 : List (Nat × Instr × Nat) := [(936, .iaload, 1), (937, .invokevirtual 128, 3), (940, .aload_n 2, 1), (941, .aload_n 0, 1), (942, .iload_n 3, 1), (943, .iconst 1, 1), (944, .iadd, 1), (945, .iaload, 1), (946, .aload_n 0, 1), (947, .iload_n 3, 1), (948, .iconst 2, 1), (949, .iadd, 1), (950, .iaload, 1), (951, .invokevirtual 131, 3), (954, .if_icmp .eq 75, 3), (957, .iconst 0, 1), (958, .ireturn, 1), (959, .aload_n 1, 1), (960, .aload_n 0, 1), (961, .iload_n 3, 1), (962, .iconst 1, 1), (963, .iadd, 1), (964, .iaload, 1), (965, .invokevirtual 132, 3), (968, .aload_n 2, 1), (969, .aload_n 0, 1), (970, .iload_n 3, 1), (971, .iconst 1, 1), (972, .iadd, 1), (973, .iaload, 1), (974, .invokevirtual 136, 3), (977, .lcmp, 1), (978, .ifCond .eq 51, 3), (981, .iconst 0, 1), (982, .ireturn, 1), (983, .aload_n 1, 1), (984, .aload_n 0, 1), (985, .iload_n 3, 1), (986, .iconst 1, 1), (987, .iadd, 1), (988, .iaload, 1), (989, .invokevirtual 137, 3), (992, .aload_n 2, 1), (993, .aload_n 0, 1), (994, .iload_n 3, 1), (995, .iconst 1, 1), (996, .iadd, 1), (997, .iaload, 1)]
theorem dtL_law_13_ok : ∀ q ∈ dtL_law_13, decode cL_law q.1 = .ok q.2 := by decide +kernel
theorem dL_law_936 : decode cL_law 936 = .ok (.iaload, 1) := dg dtL_law_13_ok 0 rfl
theorem dL_law_937 : decode cL_law 937 = .ok (.invokevirtual 128, 3) := dg dtL_law_13_ok 1 rfl
theorem dL_law_940 : decode cL_law 940 = .ok (.aload_n 2, 1) := dg dtL_law_13_ok 2 rfl
theorem dL_law_941 : decode cL_law 941 = .ok (.aload_n 0, 1) := dg dtL_law_13_ok 3 rfl
theorem dL_law_942 : decode cL_law 942 = .ok (.iload_n 3, 1) := dg dtL_law_13_ok 4 rfl
theorem dL_law_943 : decode cL_law 943 = .ok (.iconst 1, 1) := dg dtL_law_13_ok 5 rfl
theorem dL_law_944 : decode cL_law 944 = .ok (.iadd, 1) := dg dtL_law_13_ok 6 rfl
theorem dL_law_945 : decode cL_law 945 = .ok (.iaload, 1) := dg dtL_law_13_ok 7 rfl
theorem dL_law_946 : decode cL_law 946 = .ok (.aload_n 0, 1) := dg dtL_law_13_ok 8 rfl
theorem dL_law_947 : decode cL_law 947 = .ok (.iload_n 3, 1) := dg dtL_law_13_ok 9 rfl
theorem dL_law_948 : decode cL_law 948 = .ok (.iconst 2, 1) := dg dtL_law_13_ok 10 rfl
theorem dL_law_949 : decode cL_law 949 = .ok (.iadd, 1) := dg dtL_law_13_ok 11 rfl
theorem dL_law_950 : decode cL_law 950 = .ok (.iaload, 1) := dg dtL_law_13_ok 12 rfl
theorem dL_law_951 : decode cL_law 951 = .ok (.invokevirtual 131, 3) := dg dtL_law_13_ok 13 rfl
theorem dL_law_954 : decode cL_law 954 = .ok (.if_icmp .eq 75, 3) := dg dtL_law_13_ok 14 rfl
theorem dL_law_957 : decode cL_law 957 = .ok (.iconst 0, 1) := dg dtL_law_13_ok 15 rfl
theorem dL_law_958 : decode cL_law 958 = .ok (.ireturn, 1) := dg dtL_law_13_ok 16 rfl
theorem dL_law_959 : decode cL_law 959 = .ok (.aload_n 1, 1) := dg dtL_law_13_ok 17 rfl
theorem dL_law_960 : decode cL_law 960 = .ok (.aload_n 0, 1) := dg dtL_law_13_ok 18 rfl
theorem dL_law_961 : decode cL_law 961 = .ok (.iload_n 3, 1) := dg dtL_law_13_ok 19 rfl
theorem dL_law_962 : decode cL_law 962 = .ok (.iconst 1, 1) := dg dtL_law_13_ok 20 rfl
theorem dL_law_963 : decode cL_law 963 = .ok (.iadd, 1) := dg dtL_law_13_ok 21 rfl
theorem dL_law_964 : decode cL_law 964 = .ok (.iaload, 1) := dg dtL_law_13_ok 22 rfl
theorem dL_law_965 : decode cL_law 965 = .ok (.invokevirtual 132, 3) := dg dtL_law_13_ok 23 rfl
theorem dL_law_968 : decode cL_law 968 = .ok (.aload_n 2, 1) := dg dtL_law_13_ok 24 rfl
theorem dL_law_969 : decode cL_law 969 = .ok (.aload_n 0, 1) := dg dtL_law_13_ok 25 rfl
theorem dL_law_970 : decode cL_law 970 = .ok (.iload_n 3, 1) := dg dtL_law_13_ok 26 rfl
theorem dL_law_971 : decode cL_law 971 = .ok (.iconst 1, 1) := dg dtL_law_13_ok 27 rfl
theorem dL_law_972 : decode cL_law 972 = .ok (.iadd, 1) := dg dtL_law_13_ok 28 rfl
theorem dL_law_973 : decode cL_law 973 = .ok (.iaload, 1) := dg dtL_law_13_ok 29 rfl
theorem dL_law_974 : decode cL_law 974 = .ok (.invokevirtual 136, 3) := dg dtL_law_13_ok 30 rfl
theorem dL_law_977 : decode cL_law 977 = .ok (.lcmp, 1) := dg dtL_law_13_ok 31 rfl
theorem dL_law_978 : decode cL_law 978 = .ok (.ifCond .eq 51, 3) := dg dtL_law_13_ok 32 rfl
theorem dL_law_981 : decode cL_law 981 = .ok (.iconst 0, 1) := dg dtL_law_13_ok 33 rfl
theorem dL_law_982 : decode cL_law 982 = .ok (.ireturn, 1) := dg dtL_law_13_ok 34 rfl
theorem dL_law_983 : decode cL_law 983 = .ok (.aload_n 1, 1) := dg dtL_law_13_ok 35 rfl
theorem dL_law_984 : decode cL_law 984 = .ok (.aload_n 0, 1) := dg dtL_law_13_ok 36 rfl
theorem dL_law_985 : decode cL_law 985 = .ok (.iload_n 3, 1) := dg dtL_law_13_ok 37 rfl
theorem dL_law_986 : decode cL_law 986 = .ok (.iconst 1, 1) := dg dtL_law_13_ok 38 rfl
theorem dL_law_987 : decode cL_law 987 = .ok (.iadd, 1) := dg dtL_law_13_ok 39 rfl
theorem dL_law_988 : decode cL_law 988 = .ok (.iaload, 1) := dg dtL_law_13_ok 40 rfl
theorem dL_law_989 : decode cL_law 989 = .ok (.invokevirtual 137, 3) := dg dtL_law_13_ok 41 rfl
theorem dL_law_992 : decode cL_law 992 = .ok (.aload_n 2, 1) := dg dtL_law_13_ok 42 rfl
theorem dL_law_993 : decode cL_law 993 = .ok (.aload_n 0, 1) := dg dtL_law_13_ok 43 rfl
theorem dL_law_994 : decode cL_law 994 = .ok (.iload_n 3, 1) := dg dtL_law_13_ok 44 rfl
theorem dL_law_995 : decode cL_law 995 = .ok (.iconst 1, 1) := dg dtL_law_13_ok 45 rfl
theorem dL_law_996 : decode cL_law 996 = .ok (.iadd, 1) := dg dtL_law_13_ok 46 rfl
theorem dL_law_997 : decode cL_law 997 = .ok (.iaload, 1) := dg dtL_law_13_ok 47 rfl
def dtL_law_14 : List (Nat × Instr × Nat) := [(998, .invokevirtual 140, 3), (1001, .if_icmp .eq 28, 3), (1004, .iconst 0, 1), (1005, .ireturn, 1), (1006, .aload_n 1, 1), (1007, .aload_n 0, 1), (1008, .iload_n 3, 1), (1009, .iconst 1, 1), (1010, .iadd, 1), (1011, .iaload, 1), (1012, .invokevirtual 141, 3), (1015, .aload_n 2, 1), (1016, .aload_n 0, 1), (1017, .iload_n 3, 1), (1018, .iconst 1, 1), (1019, .iadd, 1), (1020, .iaload, 1), (1021, .invokevirtual 144, 3), (1024, .if_icmp .eq 5, 3), (1027, .iconst 0, 1), (1028, .ireturn, 1), (1029, .iinc 3 5, 3), (1032, .goto (-1014), 3), (1035, .iconst 1, 1), (1036, .ireturn, 1)]
theorem dtL_law_14_ok : ∀ q ∈ dtL_law_14, decode cL_law q.1 = .ok q.2 := by decide +kernel
theorem dL_law_998 : decode cL_law 998 = .ok (.invokevirtual 140, 3) := dg dtL_law_14_ok 0 rfl
theorem dL_law_1001 : decode cL_law 1001 = .ok (.if_icmp .eq 28, 3) := dg dtL_law_14_ok 1 rfl
theorem dL_law_1004 : decode cL_law 1004 = .ok (.iconst 0, 1) := dg dtL_law_14_ok 2 rfl
theorem dL_law_1005 : decode cL_law 1005 = .ok (.ireturn, 1) := dg dtL_law_14_ok 3 rfl
theorem dL_law_1006 : decode cL_law 1006 = .ok (.aload_n 1, 1) := dg dtL_law_14_ok 4 rfl
theorem dL_law_1007 : decode cL_law 1007 = .ok (.aload_n 0, 1) := dg dtL_law_14_ok 5 rfl
theorem dL_law_1008 : decode cL_law 1008 = .ok (.iload_n 3, 1) := dg dtL_law_14_ok 6 rfl
theorem dL_law_1009 : decode cL_law 1009 = .ok (.iconst 1, 1) := dg dtL_law_14_ok 7 rfl
theorem dL_law_1010 : decode cL_law 1010 = .ok (.iadd, 1) := dg dtL_law_14_ok 8 rfl
theorem dL_law_1011 : decode cL_law 1011 = .ok (.iaload, 1) := dg dtL_law_14_ok 9 rfl
theorem dL_law_1012 : decode cL_law 1012 = .ok (.invokevirtual 141, 3) := dg dtL_law_14_ok 10 rfl
theorem dL_law_1015 : decode cL_law 1015 = .ok (.aload_n 2, 1) := dg dtL_law_14_ok 11 rfl
theorem dL_law_1016 : decode cL_law 1016 = .ok (.aload_n 0, 1) := dg dtL_law_14_ok 12 rfl
theorem dL_law_1017 : decode cL_law 1017 = .ok (.iload_n 3, 1) := dg dtL_law_14_ok 13 rfl
theorem dL_law_1018 : decode cL_law 1018 = .ok (.iconst 1, 1) := dg dtL_law_14_ok 14 rfl
theorem dL_law_1019 : decode cL_law 1019 = .ok (.iadd, 1) := dg dtL_law_14_ok 15 rfl
theorem dL_law_1020 : decode cL_law 1020 = .ok (.iaload, 1) := dg dtL_law_14_ok 16 rfl
theorem dL_law_1021 : decode cL_law 1021 = .ok (.invokevirtual 144, 3) := dg dtL_law_14_ok 17 rfl
theorem dL_law_1024 : decode cL_law 1024 = .ok (.if_icmp .eq 5, 3) := dg dtL_law_14_ok 18 rfl
theorem dL_law_1027 : decode cL_law 1027 = .ok (.iconst 0, 1) := dg dtL_law_14_ok 19 rfl
theorem dL_law_1028 : decode cL_law 1028 = .ok (.ireturn, 1) := dg dtL_law_14_ok 20 rfl
theorem dL_law_1029 : decode cL_law 1029 = .ok (.iinc 3 5, 3) := dg dtL_law_14_ok 21 rfl
theorem dL_law_1032 : decode cL_law 1032 = .ok (.goto (-1014), 3) := dg dtL_law_14_ok 22 rfl
theorem dL_law_1035 : decode cL_law 1035 = .ok (.iconst 1, 1) := dg dtL_law_14_ok 23 rfl
theorem dL_law_1036 : decode cL_law 1036 = .ok (.ireturn, 1) := dg dtL_law_14_ok 24 rfl
