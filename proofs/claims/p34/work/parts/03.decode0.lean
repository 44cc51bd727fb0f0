/-! decode rows: a table a method, one decision each -/
theorem dg {cc : ByteArray} {l : List (Nat × Instr × Nat)} (h : ∀ q ∈ l, decode cc q.1 = .ok q.2) (i : Nat) {pc : Nat} {r : Instr × Nat} (hi : l[i]? = some (pc, r)) : decode cc pc = .ok r := h (pc, r) (List.mem_of_getElem? hi)
def dtX0_init_0 : List (Nat × Instr × Nat) := [(0, .aload_n 0, 1), (1, .invokespecial 1, 3), (4, .return_, 1)]
theorem dtX0_init_0_ok : ∀ q ∈ dtX0_init_0, decode cX0_init q.1 = .ok q.2 := by decide +kernel
theorem dX0_init_0 : decode cX0_init 0 = .ok (.aload_n 0, 1) := dg dtX0_init_0_ok 0 rfl
theorem dX0_init_1 : decode cX0_init 1 = .ok (.invokespecial 1, 3) := dg dtX0_init_0_ok 1 rfl
theorem dX0_init_4 : decode cX0_init 4 = .ok (.return_, 1) := dg dtX0_init_0_ok 2 rfl
def dtX0_copyFrom_0 : List (Nat × Instr × Nat) := [(0, .aload_n 0, 1), (1, .aload_n 1, 1), (2, .getfield 7, 3), (5, .putfield 7, 3), (8, .aload_n 0, 1), (9, .aload_n 1, 1), (10, .getfield 13, 3), (13, .putfield 13, 3), (16, .aload_n 0, 1), (17, .aload_n 1, 1), (18, .getfield 16, 3), (21, .putfield 16, 3), (24, .aload_n 0, 1), (25, .aload_n 1, 1), (26, .getfield 19, 3), (29, .putfield 19, 3), (32, .aload_n 0, 1), (33, .aload_n 1, 1), (34, .getfield 22, 3), (37, .putfield 22, 3), (40, .return_, 1)]
theorem dtX0_copyFrom_0_ok : ∀ q ∈ dtX0_copyFrom_0, decode cX0_copyFrom q.1 = .ok q.2 := by decide +kernel
theorem dX0_copyFrom_0 : decode cX0_copyFrom 0 = .ok (.aload_n 0, 1) := dg dtX0_copyFrom_0_ok 0 rfl
theorem dX0_copyFrom_1 : decode cX0_copyFrom 1 = .ok (.aload_n 1, 1) := dg dtX0_copyFrom_0_ok 1 rfl
theorem dX0_copyFrom_2 : decode cX0_copyFrom 2 = .ok (.getfield 7, 3) := dg dtX0_copyFrom_0_ok 2 rfl
theorem dX0_copyFrom_5 : decode cX0_copyFrom 5 = .ok (.putfield 7, 3) := dg dtX0_copyFrom_0_ok 3 rfl
theorem dX0_copyFrom_8 : decode cX0_copyFrom 8 = .ok (.aload_n 0, 1) := dg dtX0_copyFrom_0_ok 4 rfl
theorem dX0_copyFrom_9 : decode cX0_copyFrom 9 = .ok (.aload_n 1, 1) := dg dtX0_copyFrom_0_ok 5 rfl
theorem dX0_copyFrom_10 : decode cX0_copyFrom 10 = .ok (.getfield 13, 3) := dg dtX0_copyFrom_0_ok 6 rfl
theorem dX0_copyFrom_13 : decode cX0_copyFrom 13 = .ok (.putfield 13, 3) := dg dtX0_copyFrom_0_ok 7 rfl
theorem dX0_copyFrom_16 : decode cX0_copyFrom 16 = .ok (.aload_n 0, 1) := dg dtX0_copyFrom_0_ok 8 rfl
theorem dX0_copyFrom_17 : decode cX0_copyFrom 17 = .ok (.aload_n 1, 1) := dg dtX0_copyFrom_0_ok 9 rfl
theorem dX0_copyFrom_18 : decode cX0_copyFrom 18 = .ok (.getfield 16, 3) := dg dtX0_copyFrom_0_ok 10 rfl
theorem dX0_copyFrom_21 : decode cX0_copyFrom 21 = .ok (.putfield 16, 3) := dg dtX0_copyFrom_0_ok 11 rfl
theorem dX0_copyFrom_24 : decode cX0_copyFrom 24 = .ok (.aload_n 0, 1) := dg dtX0_copyFrom_0_ok 12 rfl
theorem dX0_copyFrom_25 : decode cX0_copyFrom 25 = .ok (.aload_n 1, 1) := dg dtX0_copyFrom_0_ok 13 rfl
theorem dX0_copyFrom_26 : decode cX0_copyFrom 26 = .ok (.getfield 19, 3) := dg dtX0_copyFrom_0_ok 14 rfl
theorem dX0_copyFrom_29 : decode cX0_copyFrom 29 = .ok (.putfield 19, 3) := dg dtX0_copyFrom_0_ok 15 rfl
theorem dX0_copyFrom_32 : decode cX0_copyFrom 32 = .ok (.aload_n 0, 1) := dg dtX0_copyFrom_0_ok 16 rfl
theorem dX0_copyFrom_33 : decode cX0_copyFrom 33 = .ok (.aload_n 1, 1) := dg dtX0_copyFrom_0_ok 17 rfl
theorem dX0_copyFrom_34 : decode cX0_copyFrom 34 = .ok (.getfield 22, 3) := dg dtX0_copyFrom_0_ok 18 rfl
theorem dX0_copyFrom_37 : decode cX0_copyFrom 37 = .ok (.putfield 22, 3) := dg dtX0_copyFrom_0_ok 19 rfl
theorem dX0_copyFrom_40 : decode cX0_copyFrom 40 = .ok (.return_, 1) := dg dtX0_copyFrom_0_ok 20 rfl
def dtX0_waits_0 : List (Nat × Instr × Nat) := [(0, .aload_n 0, 1), (1, .getfield 22, 3), (4, .ifCond .ne 7, 3), (7, .iconst 1, 1), (8, .goto 4, 3), (11, .iconst 0, 1), (12, .ireturn, 1)]
theorem dtX0_waits_0_ok : ∀ q ∈ dtX0_waits_0, decode cX0_waits q.1 = .ok q.2 := by decide +kernel
theorem dX0_waits_0 : decode cX0_waits 0 = .ok (.aload_n 0, 1) := dg dtX0_waits_0_ok 0 rfl
theorem dX0_waits_1 : decode cX0_waits 1 = .ok (.getfield 22, 3) := dg dtX0_waits_0_ok 1 rfl
theorem dX0_waits_4 : decode cX0_waits 4 = .ok (.ifCond .ne 7, 3) := dg dtX0_waits_0_ok 2 rfl
theorem dX0_waits_7 : decode cX0_waits 7 = .ok (.iconst 1, 1) := dg dtX0_waits_0_ok 3 rfl
theorem dX0_waits_8 : decode cX0_waits 8 = .ok (.goto 4, 3) := dg dtX0_waits_0_ok 4 rfl
theorem dX0_waits_11 : decode cX0_waits 11 = .ok (.iconst 0, 1) := dg dtX0_waits_0_ok 5 rfl
theorem dX0_waits_12 : decode cX0_waits 12 = .ok (.ireturn, 1) := dg dtX0_waits_0_ok 6 rfl
def dtX0_endsBefore_0 : List (Nat × Instr × Nat) := [(0, .aload_n 0, 1), (1, .invokevirtual 25, 3), (4, .ifCond .eq 15, 3), (7, .aload_n 0, 1), (8, .getfield 19, 3), (11, .iload_n 1, 1), (12, .if_icmp .ge 7, 3), (15, .iconst 1, 1), (16, .goto 4, 3), (19, .iconst 0, 1), (20, .ireturn, 1)]
theorem dtX0_endsBefore_0_ok : ∀ q ∈ dtX0_endsBefore_0, decode cX0_endsBefore q.1 = .ok q.2 := by decide +kernel
theorem dX0_endsBefore_0 : decode cX0_endsBefore 0 = .ok (.aload_n 0, 1) := dg dtX0_endsBefore_0_ok 0 rfl
theorem dX0_endsBefore_1 : decode cX0_endsBefore 1 = .ok (.invokevirtual 25, 3) := dg dtX0_endsBefore_0_ok 1 rfl
theorem dX0_endsBefore_4 : decode cX0_endsBefore 4 = .ok (.ifCond .eq 15, 3) := dg dtX0_endsBefore_0_ok 2 rfl
theorem dX0_endsBefore_7 : decode cX0_endsBefore 7 = .ok (.aload_n 0, 1) := dg dtX0_endsBefore_0_ok 3 rfl
theorem dX0_endsBefore_8 : decode cX0_endsBefore 8 = .ok (.getfield 19, 3) := dg dtX0_endsBefore_0_ok 4 rfl
theorem dX0_endsBefore_11 : decode cX0_endsBefore 11 = .ok (.iload_n 1, 1) := dg dtX0_endsBefore_0_ok 5 rfl
theorem dX0_endsBefore_12 : decode cX0_endsBefore 12 = .ok (.if_icmp .ge 7, 3) := dg dtX0_endsBefore_0_ok 6 rfl
theorem dX0_endsBefore_15 : decode cX0_endsBefore 15 = .ok (.iconst 1, 1) := dg dtX0_endsBefore_0_ok 7 rfl
theorem dX0_endsBefore_16 : decode cX0_endsBefore 16 = .ok (.goto 4, 3) := dg dtX0_endsBefore_0_ok 8 rfl
theorem dX0_endsBefore_19 : decode cX0_endsBefore 19 = .ok (.iconst 0, 1) := dg dtX0_endsBefore_0_ok 9 rfl
theorem dX0_endsBefore_20 : decode cX0_endsBefore 20 = .ok (.ireturn, 1) := dg dtX0_endsBefore_0_ok 10 rfl
def dtX1_init_0 : List (Nat × Instr × Nat) := [(0, .aload_n 0, 1), (1, .invokespecial 3, 3), (4, .aload_n 0, 1), (5, .bipush 7, 2), (7, .anewarray 9, 3), (10, .putfield 11, 3), (13, .iconst 0, 1), (14, .istore_n 1, 1), (15, .iload_n 1, 1), (16, .bipush 7, 2), (18, .if_icmp .ge 22, 3), (21, .aload_n 0, 1), (22, .getfield 11, 3), (25, .iload_n 1, 1), (26, .new 9, 3), (29, .dup, 1), (30, .invokespecial 15, 3), (33, .aastore, 1), (34, .iinc 1 1, 3), (37, .goto (-22), 3), (40, .return_, 1)]
theorem dtX1_init_0_ok : ∀ q ∈ dtX1_init_0, decode cX1_init q.1 = .ok q.2 := by decide +kernel
theorem dX1_init_0 : decode cX1_init 0 = .ok (.aload_n 0, 1) := dg dtX1_init_0_ok 0 rfl
theorem dX1_init_1 : decode cX1_init 1 = .ok (.invokespecial 3, 3) := dg dtX1_init_0_ok 1 rfl
theorem dX1_init_4 : decode cX1_init 4 = .ok (.aload_n 0, 1) := dg dtX1_init_0_ok 2 rfl
theorem dX1_init_5 : decode cX1_init 5 = .ok (.bipush 7, 2) := dg dtX1_init_0_ok 3 rfl
theorem dX1_init_7 : decode cX1_init 7 = .ok (.anewarray 9, 3) := dg dtX1_init_0_ok 4 rfl
theorem dX1_init_10 : decode cX1_init 10 = .ok (.putfield 11, 3) := dg dtX1_init_0_ok 5 rfl
theorem dX1_init_13 : decode cX1_init 13 = .ok (.iconst 0, 1) := dg dtX1_init_0_ok 6 rfl
theorem dX1_init_14 : decode cX1_init 14 = .ok (.istore_n 1, 1) := dg dtX1_init_0_ok 7 rfl
theorem dX1_init_15 : decode cX1_init 15 = .ok (.iload_n 1, 1) := dg dtX1_init_0_ok 8 rfl
theorem dX1_init_16 : decode cX1_init 16 = .ok (.bipush 7, 2) := dg dtX1_init_0_ok 9 rfl
theorem dX1_init_18 : decode cX1_init 18 = .ok (.if_icmp .ge 22, 3) := dg dtX1_init_0_ok 10 rfl
theorem dX1_init_21 : decode cX1_init 21 = .ok (.aload_n 0, 1) := dg dtX1_init_0_ok 11 rfl
theorem dX1_init_22 : decode cX1_init 22 = .ok (.getfield 11, 3) := dg dtX1_init_0_ok 12 rfl
theorem dX1_init_25 : decode cX1_init 25 = .ok (.iload_n 1, 1) := dg dtX1_init_0_ok 13 rfl
theorem dX1_init_26 : decode cX1_init 26 = .ok (.new 9, 3) := dg dtX1_init_0_ok 14 rfl
theorem dX1_init_29 : decode cX1_init 29 = .ok (.dup, 1) := dg dtX1_init_0_ok 15 rfl
theorem dX1_init_30 : decode cX1_init 30 = .ok (.invokespecial 15, 3) := dg dtX1_init_0_ok 16 rfl
theorem dX1_init_33 : decode cX1_init 33 = .ok (.aastore, 1) := dg dtX1_init_0_ok 17 rfl
theorem dX1_init_34 : decode cX1_init 34 = .ok (.iinc 1 1, 3) := dg dtX1_init_0_ok 18 rfl
theorem dX1_init_37 : decode cX1_init 37 = .ok (.goto (-22), 3) := dg dtX1_init_0_ok 19 rfl
theorem dX1_init_40 : decode cX1_init 40 = .ok (.return_, 1) := dg dtX1_init_0_ok 20 rfl
def dtX1_prepare_0 : List (Nat × Instr × Nat) := [(0, .aload_n 0, 1), (1, .getfield 11, 3), (4, .aload_n 0, 1), (5, .getfield 16, 3), (8, .aload_n 0, 1), (9, .getfield 20, 3), (12, .iadd, 1), (13, .bipush 7, 2), (15, .irem, 1), (16, .aaload, 1), (17, .aload_n 1, 1), (18, .invokevirtual 23, 3), (21, .return_, 1)]
theorem dtX1_prepare_0_ok : ∀ q ∈ dtX1_prepare_0, decode cX1_prepare q.1 = .ok q.2 := by decide +kernel
theorem dX1_prepare_0 : decode cX1_prepare 0 = .ok (.aload_n 0, 1) := dg dtX1_prepare_0_ok 0 rfl
theorem dX1_prepare_1 : decode cX1_prepare 1 = .ok (.getfield 11, 3) := dg dtX1_prepare_0_ok 1 rfl
theorem dX1_prepare_4 : decode cX1_prepare 4 = .ok (.aload_n 0, 1) := dg dtX1_prepare_0_ok 2 rfl
theorem dX1_prepare_5 : decode cX1_prepare 5 = .ok (.getfield 16, 3) := dg dtX1_prepare_0_ok 3 rfl
theorem dX1_prepare_8 : decode cX1_prepare 8 = .ok (.aload_n 0, 1) := dg dtX1_prepare_0_ok 4 rfl
theorem dX1_prepare_9 : decode cX1_prepare 9 = .ok (.getfield 20, 3) := dg dtX1_prepare_0_ok 5 rfl
theorem dX1_prepare_12 : decode cX1_prepare 12 = .ok (.iadd, 1) := dg dtX1_prepare_0_ok 6 rfl
theorem dX1_prepare_13 : decode cX1_prepare 13 = .ok (.bipush 7, 2) := dg dtX1_prepare_0_ok 7 rfl
theorem dX1_prepare_15 : decode cX1_prepare 15 = .ok (.irem, 1) := dg dtX1_prepare_0_ok 8 rfl
theorem dX1_prepare_16 : decode cX1_prepare 16 = .ok (.aaload, 1) := dg dtX1_prepare_0_ok 9 rfl
theorem dX1_prepare_17 : decode cX1_prepare 17 = .ok (.aload_n 1, 1) := dg dtX1_prepare_0_ok 10 rfl
theorem dX1_prepare_18 : decode cX1_prepare 18 = .ok (.invokevirtual 23, 3) := dg dtX1_prepare_0_ok 11 rfl
theorem dX1_prepare_21 : decode cX1_prepare 21 = .ok (.return_, 1) := dg dtX1_prepare_0_ok 12 rfl
def dtX1_addPrepared_0 : List (Nat × Instr × Nat) := [(0, .aload_n 0, 1), (1, .getfield 20, 3), (4, .bipush 6, 2), (6, .if_icmp .ge 16, 3), (9, .aload_n 0, 1), (10, .dup, 1), (11, .getfield 20, 3), (14, .iconst 1, 1), (15, .iadd, 1), (16, .putfield 20, 3), (19, .goto 16, 3), (22, .aload_n 0, 1), (23, .aload_n 0, 1), (24, .getfield 16, 3), (27, .iconst 1, 1), (28, .iadd, 1), (29, .bipush 7, 2), (31, .irem, 1), (32, .putfield 16, 3), (35, .return_, 1)]
theorem dtX1_addPrepared_0_ok : ∀ q ∈ dtX1_addPrepared_0, decode cX1_addPrepared q.1 = .ok q.2 := by decide +kernel
theorem dX1_addPrepared_0 : decode cX1_addPrepared 0 = .ok (.aload_n 0, 1) := dg dtX1_addPrepared_0_ok 0 rfl
theorem dX1_addPrepared_1 : decode cX1_addPrepared 1 = .ok (.getfield 20, 3) := dg dtX1_addPrepared_0_ok 1 rfl
theorem dX1_addPrepared_4 : decode cX1_addPrepared 4 = .ok (.bipush 6, 2) := dg dtX1_addPrepared_0_ok 2 rfl
theorem dX1_addPrepared_6 : decode cX1_addPrepared 6 = .ok (.if_icmp .ge 16, 3) := dg dtX1_addPrepared_0_ok 3 rfl
theorem dX1_addPrepared_9 : decode cX1_addPrepared 9 = .ok (.aload_n 0, 1) := dg dtX1_addPrepared_0_ok 4 rfl
theorem dX1_addPrepared_10 : decode cX1_addPrepared 10 = .ok (.dup, 1) := dg dtX1_addPrepared_0_ok 5 rfl
theorem dX1_addPrepared_11 : decode cX1_addPrepared 11 = .ok (.getfield 20, 3) := dg dtX1_addPrepared_0_ok 6 rfl
theorem dX1_addPrepared_14 : decode cX1_addPrepared 14 = .ok (.iconst 1, 1) := dg dtX1_addPrepared_0_ok 7 rfl
theorem dX1_addPrepared_15 : decode cX1_addPrepared 15 = .ok (.iadd, 1) := dg dtX1_addPrepared_0_ok 8 rfl
theorem dX1_addPrepared_16 : decode cX1_addPrepared 16 = .ok (.putfield 20, 3) := dg dtX1_addPrepared_0_ok 9 rfl
theorem dX1_addPrepared_19 : decode cX1_addPrepared 19 = .ok (.goto 16, 3) := dg dtX1_addPrepared_0_ok 10 rfl
theorem dX1_addPrepared_22 : decode cX1_addPrepared 22 = .ok (.aload_n 0, 1) := dg dtX1_addPrepared_0_ok 11 rfl
theorem dX1_addPrepared_23 : decode cX1_addPrepared 23 = .ok (.aload_n 0, 1) := dg dtX1_addPrepared_0_ok 12 rfl
theorem dX1_addPrepared_24 : decode cX1_addPrepared 24 = .ok (.getfield 16, 3) := dg dtX1_addPrepared_0_ok 13 rfl
theorem dX1_addPrepared_27 : decode cX1_addPrepared 27 = .ok (.iconst 1, 1) := dg dtX1_addPrepared_0_ok 14 rfl
theorem dX1_addPrepared_28 : decode cX1_addPrepared 28 = .ok (.iadd, 1) := dg dtX1_addPrepared_0_ok 15 rfl
theorem dX1_addPrepared_29 : decode cX1_addPrepared 29 = .ok (.bipush 7, 2) := dg dtX1_addPrepared_0_ok 16 rfl
theorem dX1_addPrepared_31 : decode cX1_addPrepared 31 = .ok (.irem, 1) := dg dtX1_addPrepared_0_ok 17 rfl
theorem dX1_addPrepared_32 : decode cX1_addPrepared 32 = .ok (.putfield 16, 3) := dg dtX1_addPrepared_0_ok 18 rfl
theorem dX1_addPrepared_35 : decode cX1_addPrepared 35 = .ok (.return_, 1) := dg dtX1_addPrepared_0_ok 19 rfl
def dtX1_takeBack_0 : List (Nat × Instr × Nat) := [(0, .aload_n 0, 1), (1, .getfield 20, 3), (4, .ifCond .ne 5, 3), (7, .iconst 0, 1), (8, .ireturn, 1), (9, .aload_n 0, 1), (10, .dup, 1), (11, .getfield 20, 3), (14, .iconst 1, 1), (15, .isub, 1), (16, .putfield 20, 3), (19, .aload_n 1, 1), (20, .aload_n 0, 1), (21, .getfield 11, 3), (24, .aload_n 0, 1), (25, .getfield 16, 3), (28, .aload_n 0, 1), (29, .getfield 20, 3), (32, .iadd, 1), (33, .bipush 7, 2), (35, .irem, 1), (36, .aaload, 1), (37, .invokevirtual 23, 3), (40, .iconst 1, 1), (41, .ireturn, 1)]
theorem dtX1_takeBack_0_ok : ∀ q ∈ dtX1_takeBack_0, decode cX1_takeBack q.1 = .ok q.2 := by decide +kernel
theorem dX1_takeBack_0 : decode cX1_takeBack 0 = .ok (.aload_n 0, 1) := dg dtX1_takeBack_0_ok 0 rfl
theorem dX1_takeBack_1 : decode cX1_takeBack 1 = .ok (.getfield 20, 3) := dg dtX1_takeBack_0_ok 1 rfl
theorem dX1_takeBack_4 : decode cX1_takeBack 4 = .ok (.ifCond .ne 5, 3) := dg dtX1_takeBack_0_ok 2 rfl
theorem dX1_takeBack_7 : decode cX1_takeBack 7 = .ok (.iconst 0, 1) := dg dtX1_takeBack_0_ok 3 rfl
theorem dX1_takeBack_8 : decode cX1_takeBack 8 = .ok (.ireturn, 1) := dg dtX1_takeBack_0_ok 4 rfl
theorem dX1_takeBack_9 : decode cX1_takeBack 9 = .ok (.aload_n 0, 1) := dg dtX1_takeBack_0_ok 5 rfl
theorem dX1_takeBack_10 : decode cX1_takeBack 10 = .ok (.dup, 1) := dg dtX1_takeBack_0_ok 6 rfl
theorem dX1_takeBack_11 : decode cX1_takeBack 11 = .ok (.getfield 20, 3) := dg dtX1_takeBack_0_ok 7 rfl
theorem dX1_takeBack_14 : decode cX1_takeBack 14 = .ok (.iconst 1, 1) := dg dtX1_takeBack_0_ok 8 rfl
theorem dX1_takeBack_15 : decode cX1_takeBack 15 = .ok (.isub, 1) := dg dtX1_takeBack_0_ok 9 rfl
theorem dX1_takeBack_16 : decode cX1_takeBack 16 = .ok (.putfield 20, 3) := dg dtX1_takeBack_0_ok 10 rfl
theorem dX1_takeBack_19 : decode cX1_takeBack 19 = .ok (.aload_n 1, 1) := dg dtX1_takeBack_0_ok 11 rfl
theorem dX1_takeBack_20 : decode cX1_takeBack 20 = .ok (.aload_n 0, 1) := dg dtX1_takeBack_0_ok 12 rfl
theorem dX1_takeBack_21 : decode cX1_takeBack 21 = .ok (.getfield 11, 3) := dg dtX1_takeBack_0_ok 13 rfl
theorem dX1_takeBack_24 : decode cX1_takeBack 24 = .ok (.aload_n 0, 1) := dg dtX1_takeBack_0_ok 14 rfl
theorem dX1_takeBack_25 : decode cX1_takeBack 25 = .ok (.getfield 16, 3) := dg dtX1_takeBack_0_ok 15 rfl
theorem dX1_takeBack_28 : decode cX1_takeBack 28 = .ok (.aload_n 0, 1) := dg dtX1_takeBack_0_ok 16 rfl
theorem dX1_takeBack_29 : decode cX1_takeBack 29 = .ok (.getfield 20, 3) := dg dtX1_takeBack_0_ok 17 rfl
theorem dX1_takeBack_32 : decode cX1_takeBack 32 = .ok (.iadd, 1) := dg dtX1_takeBack_0_ok 18 rfl
theorem dX1_takeBack_33 : decode cX1_takeBack 33 = .ok (.bipush 7, 2) := dg dtX1_takeBack_0_ok 19 rfl
theorem dX1_takeBack_35 : decode cX1_takeBack 35 = .ok (.irem, 1) := dg dtX1_takeBack_0_ok 20 rfl
theorem dX1_takeBack_36 : decode cX1_takeBack 36 = .ok (.aaload, 1) := dg dtX1_takeBack_0_ok 21 rfl
theorem dX1_takeBack_37 : decode cX1_takeBack 37 = .ok (.invokevirtual 23, 3) := dg dtX1_takeBack_0_ok 22 rfl
theorem dX1_takeBack_40 : decode cX1_takeBack 40 = .ok (.iconst 1, 1) := dg dtX1_takeBack_0_ok 23 rfl
theorem dX1_takeBack_41 : decode cX1_takeBack 41 = .ok (.ireturn, 1) := dg dtX1_takeBack_0_ok 24 rfl
def dtX2_init_0 : List (Nat × Instr × Nat) := [(0, .aload_n 0, 1), (1, .invokespecial 1, 3), (4, .return_, 1)]
theorem dtX2_init_0_ok : ∀ q ∈ dtX2_init_0, decode cX2_init q.1 = .ok q.2 := by decide +kernel
theorem dX2_init_0 : decode cX2_init 0 = .ok (.aload_n 0, 1) := dg dtX2_init_0_ok 0 rfl
theorem dX2_init_1 : decode cX2_init 1 = .ok (.invokespecial 1, 3) := dg dtX2_init_0_ok 1 rfl
theorem dX2_init_4 : decode cX2_init 4 = .ok (.return_, 1) := dg dtX2_init_0_ok 2 rfl
def dtX2_copyFrom_0 : List (Nat × Instr × Nat) := [(0, .aload_n 0, 1), (1, .aload_n 1, 1), (2, .getfield 7, 3), (5, .putfield 7, 3), (8, .aload_n 0, 1), (9, .aload_n 1, 1), (10, .getfield 13, 3), (13, .putfield 13, 3), (16, .aload_n 0, 1), (17, .aload_n 1, 1), (18, .getfield 16, 3), (21, .putfield 16, 3), (24, .aload_n 0, 1), (25, .aload_n 1, 1), (26, .getfield 19, 3), (29, .putfield 19, 3), (32, .aload_n 0, 1), (33, .aload_n 1, 1), (34, .getfield 22, 3), (37, .putfield 22, 3), (40, .aload_n 0, 1), (41, .aload_n 1, 1), (42, .getfield 25, 3), (45, .putfield 25, 3), (48, .aload_n 0, 1), (49, .aload_n 1, 1), (50, .getfield 28, 3), (53, .putfield 28, 3), (56, .aload_n 0, 1), (57, .aload_n 1, 1), (58, .getfield 31, 3), (61, .putfield 31, 3), (64, .aload_n 0, 1), (65, .aload_n 1, 1), (66, .getfield 34, 3), (69, .putfield 34, 3), (72, .aload_n 0, 1), (73, .aload_n 1, 1), (74, .getfield 37, 3), (77, .putfield 37, 3), (80, .aload_n 0, 1), (81, .aload_n 1, 1), (82, .getfield 40, 3), (85, .putfield 40, 3), (88, .return_, 1)]
theorem dtX2_copyFrom_0_ok : ∀ q ∈ dtX2_copyFrom_0, decode cX2_copyFrom q.1 = .ok q.2 := by decide +kernel
theorem dX2_copyFrom_0 : decode cX2_copyFrom 0 = .ok (.aload_n 0, 1) := dg dtX2_copyFrom_0_ok 0 rfl
theorem dX2_copyFrom_1 : decode cX2_copyFrom 1 = .ok (.aload_n 1, 1) := dg dtX2_copyFrom_0_ok 1 rfl
theorem dX2_copyFrom_2 : decode cX2_copyFrom 2 = .ok (.getfield 7, 3) := dg dtX2_copyFrom_0_ok 2 rfl
theorem dX2_copyFrom_5 : decode cX2_copyFrom 5 = .ok (.putfield 7, 3) := dg dtX2_copyFrom_0_ok 3 rfl
theorem dX2_copyFrom_8 : decode cX2_copyFrom 8 = .ok (.aload_n 0, 1) := dg dtX2_copyFrom_0_ok 4 rfl
theorem dX2_copyFrom_9 : decode cX2_copyFrom 9 = .ok (.aload_n 1, 1) := dg dtX2_copyFrom_0_ok 5 rfl
theorem dX2_copyFrom_10 : decode cX2_copyFrom 10 = .ok (.getfield 13, 3) := dg dtX2_copyFrom_0_ok 6 rfl
theorem dX2_copyFrom_13 : decode cX2_copyFrom 13 = .ok (.putfield 13, 3) := dg dtX2_copyFrom_0_ok 7 rfl
theorem dX2_copyFrom_16 : decode cX2_copyFrom 16 = .ok (.aload_n 0, 1) := dg dtX2_copyFrom_0_ok 8 rfl
theorem dX2_copyFrom_17 : decode cX2_copyFrom 17 = .ok (.aload_n 1, 1) := dg dtX2_copyFrom_0_ok 9 rfl
theorem dX2_copyFrom_18 : decode cX2_copyFrom 18 = .ok (.getfield 16, 3) := dg dtX2_copyFrom_0_ok 10 rfl
theorem dX2_copyFrom_21 : decode cX2_copyFrom 21 = .ok (.putfield 16, 3) := dg dtX2_copyFrom_0_ok 11 rfl
theorem dX2_copyFrom_24 : decode cX2_copyFrom 24 = .ok (.aload_n 0, 1) := dg dtX2_copyFrom_0_ok 12 rfl
theorem dX2_copyFrom_25 : decode cX2_copyFrom 25 = .ok (.aload_n 1, 1) := dg dtX2_copyFrom_0_ok 13 rfl
theorem dX2_copyFrom_26 : decode cX2_copyFrom 26 = .ok (.getfield 19, 3) := dg dtX2_copyFrom_0_ok 14 rfl
theorem dX2_copyFrom_29 : decode cX2_copyFrom 29 = .ok (.putfield 19, 3) := dg dtX2_copyFrom_0_ok 15 rfl
theorem dX2_copyFrom_32 : decode cX2_copyFrom 32 = .ok (.aload_n 0, 1) := dg dtX2_copyFrom_0_ok 16 rfl
theorem dX2_copyFrom_33 : decode cX2_copyFrom 33 = .ok (.aload_n 1, 1) := dg dtX2_copyFrom_0_ok 17 rfl
theorem dX2_copyFrom_34 : decode cX2_copyFrom 34 = .ok (.getfield 22, 3) := dg dtX2_copyFrom_0_ok 18 rfl
theorem dX2_copyFrom_37 : decode cX2_copyFrom 37 = .ok (.putfield 22, 3) := dg dtX2_copyFrom_0_ok 19 rfl
theorem dX2_copyFrom_40 : decode cX2_copyFrom 40 = .ok (.aload_n 0, 1) := dg dtX2_copyFrom_0_ok 20 rfl
theorem dX2_copyFrom_41 : decode cX2_copyFrom 41 = .ok (.aload_n 1, 1) := dg dtX2_copyFrom_0_ok 21 rfl
theorem dX2_copyFrom_42 : decode cX2_copyFrom 42 = .ok (.getfield 25, 3) := dg dtX2_copyFrom_0_ok 22 rfl
theorem dX2_copyFrom_45 : decode cX2_copyFrom 45 = .ok (.putfield 25, 3) := dg dtX2_copyFrom_0_ok 23 rfl
theorem dX2_copyFrom_48 : decode cX2_copyFrom 48 = .ok (.aload_n 0, 1) := dg dtX2_copyFrom_0_ok 24 rfl
theorem dX2_copyFrom_49 : decode cX2_copyFrom 49 = .ok (.aload_n 1, 1) := dg dtX2_copyFrom_0_ok 25 rfl
theorem dX2_copyFrom_50 : decode cX2_copyFrom 50 = .ok (.getfield 28, 3) := dg dtX2_copyFrom_0_ok 26 rfl
theorem dX2_copyFrom_53 : decode cX2_copyFrom 53 = .ok (.putfield 28, 3) := dg dtX2_copyFrom_0_ok 27 rfl
theorem dX2_copyFrom_56 : decode cX2_copyFrom 56 = .ok (.aload_n 0, 1) := dg dtX2_copyFrom_0_ok 28 rfl
theorem dX2_copyFrom_57 : decode cX2_copyFrom 57 = .ok (.aload_n 1, 1) := dg dtX2_copyFrom_0_ok 29 rfl
theorem dX2_copyFrom_58 : decode cX2_copyFrom 58 = .ok (.getfield 31, 3) := dg dtX2_copyFrom_0_ok 30 rfl
theorem dX2_copyFrom_61 : decode cX2_copyFrom 61 = .ok (.putfield 31, 3) := dg dtX2_copyFrom_0_ok 31 rfl
theorem dX2_copyFrom_64 : decode cX2_copyFrom 64 = .ok (.aload_n 0, 1) := dg dtX2_copyFrom_0_ok 32 rfl
theorem dX2_copyFrom_65 : decode cX2_copyFrom 65 = .ok (.aload_n 1, 1) := dg dtX2_copyFrom_0_ok 33 rfl
theorem dX2_copyFrom_66 : decode cX2_copyFrom 66 = .ok (.getfield 34, 3) := dg dtX2_copyFrom_0_ok 34 rfl
theorem dX2_copyFrom_69 : decode cX2_copyFrom 69 = .ok (.putfield 34, 3) := dg dtX2_copyFrom_0_ok 35 rfl
theorem dX2_copyFrom_72 : decode cX2_copyFrom 72 = .ok (.aload_n 0, 1) := dg dtX2_copyFrom_0_ok 36 rfl
theorem dX2_copyFrom_73 : decode cX2_copyFrom 73 = .ok (.aload_n 1, 1) := dg dtX2_copyFrom_0_ok 37 rfl
theorem dX2_copyFrom_74 : decode cX2_copyFrom 74 = .ok (.getfield 37, 3) := dg dtX2_copyFrom_0_ok 38 rfl
theorem dX2_copyFrom_77 : decode cX2_copyFrom 77 = .ok (.putfield 37, 3) := dg dtX2_copyFrom_0_ok 39 rfl
theorem dX2_copyFrom_80 : decode cX2_copyFrom 80 = .ok (.aload_n 0, 1) := dg dtX2_copyFrom_0_ok 40 rfl
theorem dX2_copyFrom_81 : decode cX2_copyFrom 81 = .ok (.aload_n 1, 1) := dg dtX2_copyFrom_0_ok 41 rfl
theorem dX2_copyFrom_82 : decode cX2_copyFrom 82 = .ok (.getfield 40, 3) := dg dtX2_copyFrom_0_ok 42 rfl
theorem dX2_copyFrom_85 : decode cX2_copyFrom 85 = .ok (.putfield 40, 3) := dg dtX2_copyFrom_0_ok 43 rfl
theorem dX2_copyFrom_88 : decode cX2_copyFrom 88 = .ok (.return_, 1) := dg dtX2_copyFrom_0_ok 44 rfl
def dtX2_suspended_0 : List (Nat × Instr × Nat) := [(0, .aload_n 0, 1), (1, .getfield 28, 3), (4, .aload_n 0, 1), (5, .getfield 34, 3), (8, .isub, 1), (9, .aload_n 0, 1), (10, .getfield 37, 3), (13, .isub, 1), (14, .ireturn, 1)]
theorem dtX2_suspended_0_ok : ∀ q ∈ dtX2_suspended_0, decode cX2_suspended q.1 = .ok q.2 := by decide +kernel
theorem dX2_suspended_0 : decode cX2_suspended 0 = .ok (.aload_n 0, 1) := dg dtX2_suspended_0_ok 0 rfl
theorem dX2_suspended_1 : decode cX2_suspended 1 = .ok (.getfield 28, 3) := dg dtX2_suspended_0_ok 1 rfl
theorem dX2_suspended_4 : decode cX2_suspended 4 = .ok (.aload_n 0, 1) := dg dtX2_suspended_0_ok 2 rfl
theorem dX2_suspended_5 : decode cX2_suspended 5 = .ok (.getfield 34, 3) := dg dtX2_suspended_0_ok 3 rfl
theorem dX2_suspended_8 : decode cX2_suspended 8 = .ok (.isub, 1) := dg dtX2_suspended_0_ok 4 rfl
theorem dX2_suspended_9 : decode cX2_suspended 9 = .ok (.aload_n 0, 1) := dg dtX2_suspended_0_ok 5 rfl
theorem dX2_suspended_10 : decode cX2_suspended 10 = .ok (.getfield 37, 3) := dg dtX2_suspended_0_ok 6 rfl
theorem dX2_suspended_13 : decode cX2_suspended 13 = .ok (.isub, 1) := dg dtX2_suspended_0_ok 7 rfl
theorem dX2_suspended_14 : decode cX2_suspended 14 = .ok (.ireturn, 1) := dg dtX2_suspended_0_ok 8 rfl
def dtX2_partOfDuty_0 : List (Nat × Instr × Nat) := [(0, .iload_n 1, 1), (1, .tableswitch 42 0 2 #[27, 32, 37], 27), (28, .aload_n 0, 1), (29, .getfield 28, 3), (32, .ireturn, 1), (33, .aload_n 0, 1), (34, .invokevirtual 43, 3), (37, .ireturn, 1), (38, .aload_n 0, 1), (39, .getfield 34, 3), (42, .ireturn, 1), (43, .aload_n 0, 1), (44, .getfield 37, 3), (47, .ireturn, 1)]
theorem dtX2_partOfDuty_0_ok : ∀ q ∈ dtX2_partOfDuty_0, decode cX2_partOfDuty q.1 = .ok q.2 := by decide +kernel
theorem dX2_partOfDuty_0 : decode cX2_partOfDuty 0 = .ok (.iload_n 1, 1) := dg dtX2_partOfDuty_0_ok 0 rfl
theorem dX2_partOfDuty_1 : decode cX2_partOfDuty 1 = .ok (.tableswitch 42 0 2 #[27, 32, 37], 27) := dg dtX2_partOfDuty_0_ok 1 rfl
theorem dX2_partOfDuty_28 : decode cX2_partOfDuty 28 = .ok (.aload_n 0, 1) := dg dtX2_partOfDuty_0_ok 2 rfl
theorem dX2_partOfDuty_29 : decode cX2_partOfDuty 29 = .ok (.getfield 28, 3) := dg dtX2_partOfDuty_0_ok 3 rfl
theorem dX2_partOfDuty_32 : decode cX2_partOfDuty 32 = .ok (.ireturn, 1) := dg dtX2_partOfDuty_0_ok 4 rfl
theorem dX2_partOfDuty_33 : decode cX2_partOfDuty 33 = .ok (.aload_n 0, 1) := dg dtX2_partOfDuty_0_ok 5 rfl
theorem dX2_partOfDuty_34 : decode cX2_partOfDuty 34 = .ok (.invokevirtual 43, 3) := dg dtX2_partOfDuty_0_ok 6 rfl
theorem dX2_partOfDuty_37 : decode cX2_partOfDuty 37 = .ok (.ireturn, 1) := dg dtX2_partOfDuty_0_ok 7 rfl
theorem dX2_partOfDuty_38 : decode cX2_partOfDuty 38 = .ok (.aload_n 0, 1) := dg dtX2_partOfDuty_0_ok 8 rfl
theorem dX2_partOfDuty_39 : decode cX2_partOfDuty 39 = .ok (.getfield 34, 3) := dg dtX2_partOfDuty_0_ok 9 rfl
theorem dX2_partOfDuty_42 : decode cX2_partOfDuty 42 = .ok (.ireturn, 1) := dg dtX2_partOfDuty_0_ok 10 rfl
theorem dX2_partOfDuty_43 : decode cX2_partOfDuty 43 = .ok (.aload_n 0, 1) := dg dtX2_partOfDuty_0_ok 11 rfl
theorem dX2_partOfDuty_44 : decode cX2_partOfDuty 44 = .ok (.getfield 37, 3) := dg dtX2_partOfDuty_0_ok 12 rfl
theorem dX2_partOfDuty_47 : decode cX2_partOfDuty 47 = .ok (.ireturn, 1) := dg dtX2_partOfDuty_0_ok 13 rfl
def dtX2_dutyOfNext_0 : List (Nat × Instr × Nat) := [(0, .aload_n 0, 1), (1, .getfield 16, 3), (4, .aload_n 0, 1), (5, .getfield 31, 3), (8, .isub, 1), (9, .iload_n 1, 1), (10, .iadd, 1), (11, .istore_n 3, 1), (12, .aload_n 0, 1), (13, .iload_n 3, 1), (14, .iload_n 2, 1), (15, .iadd, 1), (16, .invokevirtual 47, 3), (19, .aload_n 0, 1), (20, .iload_n 3, 1), (21, .invokevirtual 47, 3), (24, .isub, 1), (25, .ireturn, 1)]
theorem dtX2_dutyOfNext_0_ok : ∀ q ∈ dtX2_dutyOfNext_0, decode cX2_dutyOfNext q.1 = .ok q.2 := by decide +kernel
theorem dX2_dutyOfNext_0 : decode cX2_dutyOfNext 0 = .ok (.aload_n 0, 1) := dg dtX2_dutyOfNext_0_ok 0 rfl
theorem dX2_dutyOfNext_1 : decode cX2_dutyOfNext 1 = .ok (.getfield 16, 3) := dg dtX2_dutyOfNext_0_ok 1 rfl
theorem dX2_dutyOfNext_4 : decode cX2_dutyOfNext 4 = .ok (.aload_n 0, 1) := dg dtX2_dutyOfNext_0_ok 2 rfl
theorem dX2_dutyOfNext_5 : decode cX2_dutyOfNext 5 = .ok (.getfield 31, 3) := dg dtX2_dutyOfNext_0_ok 3 rfl
theorem dX2_dutyOfNext_8 : decode cX2_dutyOfNext 8 = .ok (.isub, 1) := dg dtX2_dutyOfNext_0_ok 4 rfl
theorem dX2_dutyOfNext_9 : decode cX2_dutyOfNext 9 = .ok (.iload_n 1, 1) := dg dtX2_dutyOfNext_0_ok 5 rfl
theorem dX2_dutyOfNext_10 : decode cX2_dutyOfNext 10 = .ok (.iadd, 1) := dg dtX2_dutyOfNext_0_ok 6 rfl
theorem dX2_dutyOfNext_11 : decode cX2_dutyOfNext 11 = .ok (.istore_n 3, 1) := dg dtX2_dutyOfNext_0_ok 7 rfl
theorem dX2_dutyOfNext_12 : decode cX2_dutyOfNext 12 = .ok (.aload_n 0, 1) := dg dtX2_dutyOfNext_0_ok 8 rfl
theorem dX2_dutyOfNext_13 : decode cX2_dutyOfNext 13 = .ok (.iload_n 3, 1) := dg dtX2_dutyOfNext_0_ok 9 rfl
theorem dX2_dutyOfNext_14 : decode cX2_dutyOfNext 14 = .ok (.iload_n 2, 1) := dg dtX2_dutyOfNext_0_ok 10 rfl
theorem dX2_dutyOfNext_15 : decode cX2_dutyOfNext 15 = .ok (.iadd, 1) := dg dtX2_dutyOfNext_0_ok 11 rfl
theorem dX2_dutyOfNext_16 : decode cX2_dutyOfNext 16 = .ok (.invokevirtual 47, 3) := dg dtX2_dutyOfNext_0_ok 12 rfl
theorem dX2_dutyOfNext_19 : decode cX2_dutyOfNext 19 = .ok (.aload_n 0, 1) := dg dtX2_dutyOfNext_0_ok 13 rfl
theorem dX2_dutyOfNext_20 : decode cX2_dutyOfNext 20 = .ok (.iload_n 3, 1) := dg dtX2_dutyOfNext_0_ok 14 rfl
theorem dX2_dutyOfNext_21 : decode cX2_dutyOfNext 21 = .ok (.invokevirtual 47, 3) := dg dtX2_dutyOfNext_0_ok 15 rfl
theorem dX2_dutyOfNext_24 : decode cX2_dutyOfNext 24 = .ok (.isub, 1) := dg dtX2_dutyOfNext_0_ok 16 rfl
theorem dX2_dutyOfNext_25 : decode cX2_dutyOfNext 25 = .ok (.ireturn, 1) := dg dtX2_dutyOfNext_0_ok 17 rfl
def dtX2_dutyOfFirst_0 : List (Nat × Instr × Nat) := [(0, .aload_n 0, 1), (1, .getfield 16, 3), (4, .ifCond .gt 5, 3), (7, .iconst 0, 1), (8, .ireturn, 1), (9, .aload_n 0, 1), (10, .getfield 28, 3), (13, .i2l, 1), (14, .iload_n 1, 1), (15, .i2l, 1), (16, .lmul, 1), (17, .aload_n 0, 1), (18, .getfield 16, 3), (21, .i2l, 1), (22, .ldiv, 1), (23, .l2i, 1), (24, .ireturn, 1)]
theorem dtX2_dutyOfFirst_0_ok : ∀ q ∈ dtX2_dutyOfFirst_0, decode cX2_dutyOfFirst q.1 = .ok q.2 := by decide +kernel
theorem dX2_dutyOfFirst_0 : decode cX2_dutyOfFirst 0 = .ok (.aload_n 0, 1) := dg dtX2_dutyOfFirst_0_ok 0 rfl
theorem dX2_dutyOfFirst_1 : decode cX2_dutyOfFirst 1 = .ok (.getfield 16, 3) := dg dtX2_dutyOfFirst_0_ok 1 rfl
theorem dX2_dutyOfFirst_4 : decode cX2_dutyOfFirst 4 = .ok (.ifCond .gt 5, 3) := dg dtX2_dutyOfFirst_0_ok 2 rfl
theorem dX2_dutyOfFirst_7 : decode cX2_dutyOfFirst 7 = .ok (.iconst 0, 1) := dg dtX2_dutyOfFirst_0_ok 3 rfl
theorem dX2_dutyOfFirst_8 : decode cX2_dutyOfFirst 8 = .ok (.ireturn, 1) := dg dtX2_dutyOfFirst_0_ok 4 rfl
theorem dX2_dutyOfFirst_9 : decode cX2_dutyOfFirst 9 = .ok (.aload_n 0, 1) := dg dtX2_dutyOfFirst_0_ok 5 rfl
theorem dX2_dutyOfFirst_10 : decode cX2_dutyOfFirst 10 = .ok (.getfield 28, 3) := dg dtX2_dutyOfFirst_0_ok 6 rfl
theorem dX2_dutyOfFirst_13 : decode cX2_dutyOfFirst 13 = .ok (.i2l, 1) := dg dtX2_dutyOfFirst_0_ok 7 rfl
theorem dX2_dutyOfFirst_14 : decode cX2_dutyOfFirst 14 = .ok (.iload_n 1, 1) := dg dtX2_dutyOfFirst_0_ok 8 rfl
theorem dX2_dutyOfFirst_15 : decode cX2_dutyOfFirst 15 = .ok (.i2l, 1) := dg dtX2_dutyOfFirst_0_ok 9 rfl
theorem dX2_dutyOfFirst_16 : decode cX2_dutyOfFirst 16 = .ok (.lmul, 1) := dg dtX2_dutyOfFirst_0_ok 10 rfl
theorem dX2_dutyOfFirst_17 : decode cX2_dutyOfFirst 17 = .ok (.aload_n 0, 1) := dg dtX2_dutyOfFirst_0_ok 11 rfl
theorem dX2_dutyOfFirst_18 : decode cX2_dutyOfFirst 18 = .ok (.getfield 16, 3) := dg dtX2_dutyOfFirst_0_ok 12 rfl
theorem dX2_dutyOfFirst_21 : decode cX2_dutyOfFirst 21 = .ok (.i2l, 1) := dg dtX2_dutyOfFirst_0_ok 13 rfl
theorem dX2_dutyOfFirst_22 : decode cX2_dutyOfFirst 22 = .ok (.ldiv, 1) := dg dtX2_dutyOfFirst_0_ok 14 rfl
theorem dX2_dutyOfFirst_23 : decode cX2_dutyOfFirst 23 = .ok (.l2i, 1) := dg dtX2_dutyOfFirst_0_ok 15 rfl
theorem dX2_dutyOfFirst_24 : decode cX2_dutyOfFirst 24 = .ok (.ireturn, 1) := dg dtX2_dutyOfFirst_0_ok 16 rfl
def dtX2_endsBefore_0 : List (Nat × Instr × Nat) := [(0, .aload_n 0, 1), (1, .getfield 31, 3), (4, .ifCond .le 15, 3), (7, .aload_n 0, 1), (8, .getfield 25, 3), (11, .iload_n 1, 1), (12, .if_icmp .ge 7, 3), (15, .iconst 1, 1), (16, .goto 4, 3), (19, .iconst 0, 1), (20, .ireturn, 1)]
theorem dtX2_endsBefore_0_ok : ∀ q ∈ dtX2_endsBefore_0, decode cX2_endsBefore q.1 = .ok q.2 := by decide +kernel
theorem dX2_endsBefore_0 : decode cX2_endsBefore 0 = .ok (.aload_n 0, 1) := dg dtX2_endsBefore_0_ok 0 rfl
theorem dX2_endsBefore_1 : decode cX2_endsBefore 1 = .ok (.getfield 31, 3) := dg dtX2_endsBefore_0_ok 1 rfl
theorem dX2_endsBefore_4 : decode cX2_endsBefore 4 = .ok (.ifCond .le 15, 3) := dg dtX2_endsBefore_0_ok 2 rfl
theorem dX2_endsBefore_7 : decode cX2_endsBefore 7 = .ok (.aload_n 0, 1) := dg dtX2_endsBefore_0_ok 3 rfl
theorem dX2_endsBefore_8 : decode cX2_endsBefore 8 = .ok (.getfield 25, 3) := dg dtX2_endsBefore_0_ok 4 rfl
theorem dX2_endsBefore_11 : decode cX2_endsBefore 11 = .ok (.iload_n 1, 1) := dg dtX2_endsBefore_0_ok 5 rfl
theorem dX2_endsBefore_12 : decode cX2_endsBefore 12 = .ok (.if_icmp .ge 7, 3) := dg dtX2_endsBefore_0_ok 6 rfl
theorem dX2_endsBefore_15 : decode cX2_endsBefore 15 = .ok (.iconst 1, 1) := dg dtX2_endsBefore_0_ok 7 rfl
theorem dX2_endsBefore_16 : decode cX2_endsBefore 16 = .ok (.goto 4, 3) := dg dtX2_endsBefore_0_ok 8 rfl
theorem dX2_endsBefore_19 : decode cX2_endsBefore 19 = .ok (.iconst 0, 1) := dg dtX2_endsBefore_0_ok 9 rfl
theorem dX2_endsBefore_20 : decode cX2_endsBefore 20 = .ok (.ireturn, 1) := dg dtX2_endsBefore_0_ok 10 rfl
def dtX3_init_0 : List (Nat × Instr × Nat) := [(0, .aload_n 0, 1), (1, .invokespecial 3, 3), (4, .aload_n 0, 1), (5, .bipush 80, 2), (7, .newarray .char, 2), (9, .putfield 11, 3), (12, .aload_n 0, 1), (13, .iconst 4, 1), (14, .newarray .int, 2), (16, .putfield 15, 3), (19, .return_, 1)]
theorem dtX3_init_0_ok : ∀ q ∈ dtX3_init_0, decode cX3_init q.1 = .ok q.2 := by decide +kernel
theorem dX3_init_0 : decode cX3_init 0 = .ok (.aload_n 0, 1) := dg dtX3_init_0_ok 0 rfl
theorem dX3_init_1 : decode cX3_init 1 = .ok (.invokespecial 3, 3) := dg dtX3_init_0_ok 1 rfl
theorem dX3_init_4 : decode cX3_init 4 = .ok (.aload_n 0, 1) := dg dtX3_init_0_ok 2 rfl
theorem dX3_init_5 : decode cX3_init 5 = .ok (.bipush 80, 2) := dg dtX3_init_0_ok 3 rfl
theorem dX3_init_7 : decode cX3_init 7 = .ok (.newarray .char, 2) := dg dtX3_init_0_ok 4 rfl
theorem dX3_init_9 : decode cX3_init 9 = .ok (.putfield 11, 3) := dg dtX3_init_0_ok 5 rfl
theorem dX3_init_12 : decode cX3_init 12 = .ok (.aload_n 0, 1) := dg dtX3_init_0_ok 6 rfl
theorem dX3_init_13 : decode cX3_init 13 = .ok (.iconst 4, 1) := dg dtX3_init_0_ok 7 rfl
theorem dX3_init_14 : decode cX3_init 14 = .ok (.newarray .int, 2) := dg dtX3_init_0_ok 8 rfl
theorem dX3_init_16 : decode cX3_init 16 = .ok (.putfield 15, 3) := dg dtX3_init_0_ok 9 rfl
theorem dX3_init_19 : decode cX3_init 19 = .ok (.return_, 1) := dg dtX3_init_0_ok 10 rfl
def dtX3_append_0 : List (Nat × Instr × Nat) := [(0, .aload_n 0, 1), (1, .getfield 19, 3), (4, .bipush 80, 2), (6, .if_icmp .lt 5, 3), (9, .iconst 0, 1), (10, .ireturn, 1), (11, .aload_n 0, 1), (12, .getfield 11, 3), (15, .aload_n 0, 1), (16, .getfield 19, 3), (19, .iload_n 1, 1), (20, .castore, 1), (21, .aload_n 0, 1), (22, .dup, 1), (23, .getfield 19, 3), (26, .iconst 1, 1), (27, .iadd, 1), (28, .putfield 19, 3), (31, .iconst 1, 1), (32, .ireturn, 1)]
theorem dtX3_append_0_ok : ∀ q ∈ dtX3_append_0, decode cX3_append q.1 = .ok q.2 := by decide +kernel
theorem dX3_append_0 : decode cX3_append 0 = .ok (.aload_n 0, 1) := dg dtX3_append_0_ok 0 rfl
theorem dX3_append_1 : decode cX3_append 1 = .ok (.getfield 19, 3) := dg dtX3_append_0_ok 1 rfl
theorem dX3_append_4 : decode cX3_append 4 = .ok (.bipush 80, 2) := dg dtX3_append_0_ok 2 rfl
theorem dX3_append_6 : decode cX3_append 6 = .ok (.if_icmp .lt 5, 3) := dg dtX3_append_0_ok 3 rfl
theorem dX3_append_9 : decode cX3_append 9 = .ok (.iconst 0, 1) := dg dtX3_append_0_ok 4 rfl
theorem dX3_append_10 : decode cX3_append 10 = .ok (.ireturn, 1) := dg dtX3_append_0_ok 5 rfl
theorem dX3_append_11 : decode cX3_append 11 = .ok (.aload_n 0, 1) := dg dtX3_append_0_ok 6 rfl
theorem dX3_append_12 : decode cX3_append 12 = .ok (.getfield 11, 3) := dg dtX3_append_0_ok 7 rfl
theorem dX3_append_15 : decode cX3_append 15 = .ok (.aload_n 0, 1) := dg dtX3_append_0_ok 8 rfl
theorem dX3_append_16 : decode cX3_append 16 = .ok (.getfield 19, 3) := dg dtX3_append_0_ok 9 rfl
theorem dX3_append_19 : decode cX3_append 19 = .ok (.iload_n 1, 1) := dg dtX3_append_0_ok 10 rfl
theorem dX3_append_20 : decode cX3_append 20 = .ok (.castore, 1) := dg dtX3_append_0_ok 11 rfl
theorem dX3_append_21 : decode cX3_append 21 = .ok (.aload_n 0, 1) := dg dtX3_append_0_ok 12 rfl
theorem dX3_append_22 : decode cX3_append 22 = .ok (.dup, 1) := dg dtX3_append_0_ok 13 rfl
theorem dX3_append_23 : decode cX3_append 23 = .ok (.getfield 19, 3) := dg dtX3_append_0_ok 14 rfl
theorem dX3_append_26 : decode cX3_append 26 = .ok (.iconst 1, 1) := dg dtX3_append_0_ok 15 rfl
theorem dX3_append_27 : decode cX3_append 27 = .ok (.iadd, 1) := dg dtX3_append_0_ok 16 rfl
theorem dX3_append_28 : decode cX3_append 28 = .ok (.putfield 19, 3) := dg dtX3_append_0_ok 17 rfl
theorem dX3_append_31 : decode cX3_append 31 = .ok (.iconst 1, 1) := dg dtX3_append_0_ok 18 rfl
theorem dX3_append_32 : decode cX3_append 32 = .ok (.ireturn, 1) := dg dtX3_append_0_ok 19 rfl
def dtX3_findFault_0 : List (Nat × Instr × Nat) := [(0, .aload_n 0, 1), (1, .invokevirtual 23, 3), (4, .iconst 0, 1), (5, .istore_n 1, 1), (6, .iload_n 1, 1), (7, .aload_n 0, 1), (8, .getfield 19, 3), (11, .if_icmp .gt 34, 3), (14, .aload_n 0, 1), (15, .invokevirtual 26, 3), (18, .ifCond .ne 8, 3), (21, .aload_n 0, 1), (22, .getfield 30, 3), (25, .ireturn, 1), (26, .aload_n 0, 1), (27, .invokevirtual 33, 3), (30, .ifCond .eq 5, 3), (33, .iconst (-1), 1), (34, .ireturn, 1), (35, .aload_n 0, 1), (36, .invokevirtual 36, 3), (39, .iinc 1 1, 3), (42, .goto (-36), 3), (45, .aload_n 0, 1), (46, .getfield 30, 3), (49, .ireturn, 1)]
theorem dtX3_findFault_0_ok : ∀ q ∈ dtX3_findFault_0, decode cX3_findFault q.1 = .ok q.2 := by decide +kernel
theorem dX3_findFault_0 : decode cX3_findFault 0 = .ok (.aload_n 0, 1) := dg dtX3_findFault_0_ok 0 rfl
theorem dX3_findFault_1 : decode cX3_findFault 1 = .ok (.invokevirtual 23, 3) := dg dtX3_findFault_0_ok 1 rfl
theorem dX3_findFault_4 : decode cX3_findFault 4 = .ok (.iconst 0, 1) := dg dtX3_findFault_0_ok 2 rfl
theorem dX3_findFault_5 : decode cX3_findFault 5 = .ok (.istore_n 1, 1) := dg dtX3_findFault_0_ok 3 rfl
theorem dX3_findFault_6 : decode cX3_findFault 6 = .ok (.iload_n 1, 1) := dg dtX3_findFault_0_ok 4 rfl
theorem dX3_findFault_7 : decode cX3_findFault 7 = .ok (.aload_n 0, 1) := dg dtX3_findFault_0_ok 5 rfl
theorem dX3_findFault_8 : decode cX3_findFault 8 = .ok (.getfield 19, 3) := dg dtX3_findFault_0_ok 6 rfl
theorem dX3_findFault_11 : decode cX3_findFault 11 = .ok (.if_icmp .gt 34, 3) := dg dtX3_findFault_0_ok 7 rfl
theorem dX3_findFault_14 : decode cX3_findFault 14 = .ok (.aload_n 0, 1) := dg dtX3_findFault_0_ok 8 rfl
theorem dX3_findFault_15 : decode cX3_findFault 15 = .ok (.invokevirtual 26, 3) := dg dtX3_findFault_0_ok 9 rfl
theorem dX3_findFault_18 : decode cX3_findFault 18 = .ok (.ifCond .ne 8, 3) := dg dtX3_findFault_0_ok 10 rfl
theorem dX3_findFault_21 : decode cX3_findFault 21 = .ok (.aload_n 0, 1) := dg dtX3_findFault_0_ok 11 rfl
theorem dX3_findFault_22 : decode cX3_findFault 22 = .ok (.getfield 30, 3) := dg dtX3_findFault_0_ok 12 rfl
theorem dX3_findFault_25 : decode cX3_findFault 25 = .ok (.ireturn, 1) := dg dtX3_findFault_0_ok 13 rfl
theorem dX3_findFault_26 : decode cX3_findFault 26 = .ok (.aload_n 0, 1) := dg dtX3_findFault_0_ok 14 rfl
theorem dX3_findFault_27 : decode cX3_findFault 27 = .ok (.invokevirtual 33, 3) := dg dtX3_findFault_0_ok 15 rfl
theorem dX3_findFault_30 : decode cX3_findFault 30 = .ok (.ifCond .eq 5, 3) := dg dtX3_findFault_0_ok 16 rfl
theorem dX3_findFault_33 : decode cX3_findFault 33 = .ok (.iconst (-1), 1) := dg dtX3_findFault_0_ok 17 rfl
theorem dX3_findFault_34 : decode cX3_findFault 34 = .ok (.ireturn, 1) := dg dtX3_findFault_0_ok 18 rfl
theorem dX3_findFault_35 : decode cX3_findFault 35 = .ok (.aload_n 0, 1) := dg dtX3_findFault_0_ok 19 rfl
theorem dX3_findFault_36 : decode cX3_findFault 36 = .ok (.invokevirtual 36, 3) := dg dtX3_findFault_0_ok 20 rfl
theorem dX3_findFault_39 : decode cX3_findFault 39 = .ok (.iinc 1 1, 3) := dg dtX3_findFault_0_ok 21 rfl
theorem dX3_findFault_42 : decode cX3_findFault 42 = .ok (.goto (-36), 3) := dg dtX3_findFault_0_ok 22 rfl
theorem dX3_findFault_45 : decode cX3_findFault 45 = .ok (.aload_n 0, 1) := dg dtX3_findFault_0_ok 23 rfl
theorem dX3_findFault_46 : decode cX3_findFault 46 = .ok (.getfield 30, 3) := dg dtX3_findFault_0_ok 24 rfl
theorem dX3_findFault_49 : decode cX3_findFault 49 = .ok (.ireturn, 1) := dg dtX3_findFault_0_ok 25 rfl
def dtX3_goToStart_0 : List (Nat × Instr × Nat) := [(0, .aload_n 0, 1), (1, .iconst 0, 1), (2, .putfield 30, 3), (5, .return_, 1)]
theorem dtX3_goToStart_0_ok : ∀ q ∈ dtX3_goToStart_0, decode cX3_goToStart q.1 = .ok q.2 := by decide +kernel
theorem dX3_goToStart_0 : decode cX3_goToStart 0 = .ok (.aload_n 0, 1) := dg dtX3_goToStart_0_ok 0 rfl
theorem dX3_goToStart_1 : decode cX3_goToStart 1 = .ok (.iconst 0, 1) := dg dtX3_goToStart_0_ok 1 rfl
theorem dX3_goToStart_2 : decode cX3_goToStart 2 = .ok (.putfield 30, 3) := dg dtX3_goToStart_0_ok 2 rfl
theorem dX3_goToStart_5 : decode cX3_goToStart 5 = .ok (.return_, 1) := dg dtX3_goToStart_0_ok 3 rfl
def dtX3_atEnd_0 : List (Nat × Instr × Nat) := [(0, .aload_n 0, 1), (1, .getfield 30, 3), (4, .aload_n 0, 1), (5, .getfield 19, 3), (8, .if_icmp .lt 7, 3), (11, .iconst 1, 1), (12, .goto 4, 3), (15, .iconst 0, 1), (16, .ireturn, 1)]
theorem dtX3_atEnd_0_ok : ∀ q ∈ dtX3_atEnd_0, decode cX3_atEnd q.1 = .ok q.2 := by decide +kernel
theorem dX3_atEnd_0 : decode cX3_atEnd 0 = .ok (.aload_n 0, 1) := dg dtX3_atEnd_0_ok 0 rfl
theorem dX3_atEnd_1 : decode cX3_atEnd 1 = .ok (.getfield 30, 3) := dg dtX3_atEnd_0_ok 1 rfl
theorem dX3_atEnd_4 : decode cX3_atEnd 4 = .ok (.aload_n 0, 1) := dg dtX3_atEnd_0_ok 2 rfl
theorem dX3_atEnd_5 : decode cX3_atEnd 5 = .ok (.getfield 19, 3) := dg dtX3_atEnd_0_ok 3 rfl
theorem dX3_atEnd_8 : decode cX3_atEnd 8 = .ok (.if_icmp .lt 7, 3) := dg dtX3_atEnd_0_ok 4 rfl
theorem dX3_atEnd_11 : decode cX3_atEnd 11 = .ok (.iconst 1, 1) := dg dtX3_atEnd_0_ok 5 rfl
theorem dX3_atEnd_12 : decode cX3_atEnd 12 = .ok (.goto 4, 3) := dg dtX3_atEnd_0_ok 6 rfl
theorem dX3_atEnd_15 : decode cX3_atEnd 15 = .ok (.iconst 0, 1) := dg dtX3_atEnd_0_ok 7 rfl
theorem dX3_atEnd_16 : decode cX3_atEnd 16 = .ok (.ireturn, 1) := dg dtX3_atEnd_0_ok 8 rfl
def dtX3_skipSeparator_0 : List (Nat × Instr × Nat) := [(0, .aload_n 0, 1), (1, .dup, 1), (2, .getfield 30, 3), (5, .iconst 1, 1), (6, .iadd, 1), (7, .putfield 30, 3), (10, .return_, 1)]
theorem dtX3_skipSeparator_0_ok : ∀ q ∈ dtX3_skipSeparator_0, decode cX3_skipSeparator q.1 = .ok q.2 := by decide +kernel
theorem dX3_skipSeparator_0 : decode cX3_skipSeparator 0 = .ok (.aload_n 0, 1) := dg dtX3_skipSeparator_0_ok 0 rfl
theorem dX3_skipSeparator_1 : decode cX3_skipSeparator 1 = .ok (.dup, 1) := dg dtX3_skipSeparator_0_ok 1 rfl
theorem dX3_skipSeparator_2 : decode cX3_skipSeparator 2 = .ok (.getfield 30, 3) := dg dtX3_skipSeparator_0_ok 2 rfl
theorem dX3_skipSeparator_5 : decode cX3_skipSeparator 5 = .ok (.iconst 1, 1) := dg dtX3_skipSeparator_0_ok 3 rfl
theorem dX3_skipSeparator_6 : decode cX3_skipSeparator 6 = .ok (.iadd, 1) := dg dtX3_skipSeparator_0_ok 4 rfl
theorem dX3_skipSeparator_7 : decode cX3_skipSeparator 7 = .ok (.putfield 30, 3) := dg dtX3_skipSeparator_0_ok 5 rfl
theorem dX3_skipSeparator_10 : decode cX3_skipSeparator 10 = .ok (.return_, 1) := dg dtX3_skipSeparator_0_ok 6 rfl
def dtX3_readOrder_0 : List (Nat × Instr × Nat) := [(0, .aload_n 0, 1), (1, .aload_n 0, 1), (2, .getfield 30, 3), (5, .invokevirtual 39, 3), (8, .istore_n 1, 1), (9, .aload_n 0, 1), (10, .aload_n 0, 1), (11, .aload_n 0, 1), (12, .getfield 30, 3), (15, .iload_n 1, 1), (16, .invokevirtual 43, 3), (19, .putfield 47, 3), (22, .aload_n 0, 1), (23, .getfield 47, 3), (26, .iconst (-1), 1), (27, .if_icmp .ne 5, 3), (30, .iconst 0, 1), (31, .ireturn, 1), (32, .aload_n 0, 1), (33, .iload_n 1, 1), (34, .putfield 30, 3), (37, .aload_n 0, 1), (38, .getfield 47, 3), (41, .invokestatic 50, 3), (44, .astore_n 2, 1), (45, .iconst 0, 1), (46, .istore_n 3, 1), (47, .iload_n 3, 1), (48, .aload_n 2, 1), (49, .invokevirtual 54, 3), (52, .if_icmp .ge 93, 3), (55, .iload_n 3, 1), (56, .iconst 4, 1), (57, .if_icmp .ge 88, 3), (60, .aload_n 0, 1), (61, .invokevirtual 33, 3), (64, .ifCond .ne 17, 3), (67, .aload_n 0, 1), (68, .getfield 11, 3), (71, .aload_n 0, 1), (72, .getfield 30, 3), (75, .caload, 1), (76, .bipush 32, 2), (78, .if_icmp .eq 5, 3), (81, .iconst 0, 1), (82, .ireturn, 1), (83, .aload_n 0, 1), (84, .dup, 1)]
theorem dtX3_readOrder_0_ok : ∀ q ∈ dtX3_readOrder_0, decode cX3_readOrder q.1 = .ok q.2 := by decide +kernel
theorem dX3_readOrder_0 : decode cX3_readOrder 0 = .ok (.aload_n 0, 1) := dg dtX3_readOrder_0_ok 0 rfl
theorem dX3_readOrder_1 : decode cX3_readOrder 1 = .ok (.aload_n 0, 1) := dg dtX3_readOrder_0_ok 1 rfl
theorem dX3_readOrder_2 : decode cX3_readOrder 2 = .ok (.getfield 30, 3) := dg dtX3_readOrder_0_ok 2 rfl
theorem dX3_readOrder_5 : decode cX3_readOrder 5 = .ok (.invokevirtual 39, 3) := dg dtX3_readOrder_0_ok 3 rfl
theorem dX3_readOrder_8 : decode cX3_readOrder 8 = .ok (.istore_n 1, 1) := dg dtX3_readOrder_0_ok 4 rfl
theorem dX3_readOrder_9 : decode cX3_readOrder 9 = .ok (.aload_n 0, 1) := dg dtX3_readOrder_0_ok 5 rfl
theorem dX3_readOrder_10 : decode cX3_readOrder 10 = .ok (.aload_n 0, 1) := dg dtX3_readOrder_0_ok 6 rfl
theorem dX3_readOrder_11 : decode cX3_readOrder 11 = .ok (.aload_n 0, 1) := dg dtX3_readOrder_0_ok 7 rfl
theorem dX3_readOrder_12 : decode cX3_readOrder 12 = .ok (.getfield 30, 3) := dg dtX3_readOrder_0_ok 8 rfl
theorem dX3_readOrder_15 : decode cX3_readOrder 15 = .ok (.iload_n 1, 1) := dg dtX3_readOrder_0_ok 9 rfl
theorem dX3_readOrder_16 : decode cX3_readOrder 16 = .ok (.invokevirtual 43, 3) := dg dtX3_readOrder_0_ok 10 rfl
theorem dX3_readOrder_19 : decode cX3_readOrder 19 = .ok (.putfield 47, 3) := dg dtX3_readOrder_0_ok 11 rfl
theorem dX3_readOrder_22 : decode cX3_readOrder 22 = .ok (.aload_n 0, 1) := dg dtX3_readOrder_0_ok 12 rfl
theorem dX3_readOrder_23 : decode cX3_readOrder 23 = .ok (.getfield 47, 3) := dg dtX3_readOrder_0_ok 13 rfl
theorem dX3_readOrder_26 : decode cX3_readOrder 26 = .ok (.iconst (-1), 1) := dg dtX3_readOrder_0_ok 14 rfl
theorem dX3_readOrder_27 : decode cX3_readOrder 27 = .ok (.if_icmp .ne 5, 3) := dg dtX3_readOrder_0_ok 15 rfl
theorem dX3_readOrder_30 : decode cX3_readOrder 30 = .ok (.iconst 0, 1) := dg dtX3_readOrder_0_ok 16 rfl
theorem dX3_readOrder_31 : decode cX3_readOrder 31 = .ok (.ireturn, 1) := dg dtX3_readOrder_0_ok 17 rfl
theorem dX3_readOrder_32 : decode cX3_readOrder 32 = .ok (.aload_n 0, 1) := dg dtX3_readOrder_0_ok 18 rfl
theorem dX3_readOrder_33 : decode cX3_readOrder 33 = .ok (.iload_n 1, 1) := dg dtX3_readOrder_0_ok 19 rfl
theorem dX3_readOrder_34 : decode cX3_readOrder 34 = .ok (.putfield 30, 3) := dg dtX3_readOrder_0_ok 20 rfl
theorem dX3_readOrder_37 : decode cX3_readOrder 37 = .ok (.aload_n 0, 1) := dg dtX3_readOrder_0_ok 21 rfl
theorem dX3_readOrder_38 : decode cX3_readOrder 38 = .ok (.getfield 47, 3) := dg dtX3_readOrder_0_ok 22 rfl
theorem dX3_readOrder_41 : decode cX3_readOrder 41 = .ok (.invokestatic 50, 3) := dg dtX3_readOrder_0_ok 23 rfl
theorem dX3_readOrder_44 : decode cX3_readOrder 44 = .ok (.astore_n 2, 1) := dg dtX3_readOrder_0_ok 24 rfl
theorem dX3_readOrder_45 : decode cX3_readOrder 45 = .ok (.iconst 0, 1) := dg dtX3_readOrder_0_ok 25 rfl
theorem dX3_readOrder_46 : decode cX3_readOrder 46 = .ok (.istore_n 3, 1) := dg dtX3_readOrder_0_ok 26 rfl
theorem dX3_readOrder_47 : decode cX3_readOrder 47 = .ok (.iload_n 3, 1) := dg dtX3_readOrder_0_ok 27 rfl
theorem dX3_readOrder_48 : decode cX3_readOrder 48 = .ok (.aload_n 2, 1) := dg dtX3_readOrder_0_ok 28 rfl
theorem dX3_readOrder_49 : decode cX3_readOrder 49 = .ok (.invokevirtual 54, 3) := dg dtX3_readOrder_0_ok 29 rfl
theorem dX3_readOrder_52 : decode cX3_readOrder 52 = .ok (.if_icmp .ge 93, 3) := dg dtX3_readOrder_0_ok 30 rfl
theorem dX3_readOrder_55 : decode cX3_readOrder 55 = .ok (.iload_n 3, 1) := dg dtX3_readOrder_0_ok 31 rfl
theorem dX3_readOrder_56 : decode cX3_readOrder 56 = .ok (.iconst 4, 1) := dg dtX3_readOrder_0_ok 32 rfl
theorem dX3_readOrder_57 : decode cX3_readOrder 57 = .ok (.if_icmp .ge 88, 3) := dg dtX3_readOrder_0_ok 33 rfl
theorem dX3_readOrder_60 : decode cX3_readOrder 60 = .ok (.aload_n 0, 1) := dg dtX3_readOrder_0_ok 34 rfl
theorem dX3_readOrder_61 : decode cX3_readOrder 61 = .ok (.invokevirtual 33, 3) := dg dtX3_readOrder_0_ok 35 rfl
theorem dX3_readOrder_64 : decode cX3_readOrder 64 = .ok (.ifCond .ne 17, 3) := dg dtX3_readOrder_0_ok 36 rfl
theorem dX3_readOrder_67 : decode cX3_readOrder 67 = .ok (.aload_n 0, 1) := dg dtX3_readOrder_0_ok 37 rfl
theorem dX3_readOrder_68 : decode cX3_readOrder 68 = .ok (.getfield 11, 3) := dg dtX3_readOrder_0_ok 38 rfl
theorem dX3_readOrder_71 : decode cX3_readOrder 71 = .ok (.aload_n 0, 1) := dg dtX3_readOrder_0_ok 39 rfl
theorem dX3_readOrder_72 : decode cX3_readOrder 72 = .ok (.getfield 30, 3) := dg dtX3_readOrder_0_ok 40 rfl
theorem dX3_readOrder_75 : decode cX3_readOrder 75 = .ok (.caload, 1) := dg dtX3_readOrder_0_ok 41 rfl
theorem dX3_readOrder_76 : decode cX3_readOrder 76 = .ok (.bipush 32, 2) := dg dtX3_readOrder_0_ok 42 rfl
theorem dX3_readOrder_78 : decode cX3_readOrder 78 = .ok (.if_icmp .eq 5, 3) := dg dtX3_readOrder_0_ok 43 rfl
theorem dX3_readOrder_81 : decode cX3_readOrder 81 = .ok (.iconst 0, 1) := dg dtX3_readOrder_0_ok 44 rfl
theorem dX3_readOrder_82 : decode cX3_readOrder 82 = .ok (.ireturn, 1) := dg dtX3_readOrder_0_ok 45 rfl
theorem dX3_readOrder_83 : decode cX3_readOrder 83 = .ok (.aload_n 0, 1) := dg dtX3_readOrder_0_ok 46 rfl
theorem dX3_readOrder_84 : decode cX3_readOrder 84 = .ok (.dup, 1) := dg dtX3_readOrder_0_ok 47 rfl
def dtX3_readOrder_1 : List (Nat × Instr × Nat) := [(85, .getfield 30, 3), (88, .iconst 1, 1), (89, .iadd, 1), (90, .putfield 30, 3), (93, .aload_n 0, 1), (94, .aload_n 0, 1), (95, .getfield 30, 3), (98, .invokevirtual 39, 3), (101, .istore_n 1, 1), (102, .aload_n 0, 1), (103, .getfield 15, 3), (106, .iload_n 3, 1), (107, .aload_n 0, 1), (108, .aload_n 0, 1), (109, .getfield 30, 3), (112, .iload_n 1, 1), (113, .aload_n 2, 1), (114, .iload_n 3, 1), (115, .invokevirtual 59, 3), (118, .invokevirtual 63, 3), (121, .iastore, 1), (122, .aload_n 0, 1), (123, .getfield 15, 3), (126, .iload_n 3, 1), (127, .iaload, 1), (128, .iconst (-1), 1), (129, .if_icmp .ne 5, 3), (132, .iconst 0, 1), (133, .ireturn, 1), (134, .aload_n 0, 1), (135, .iload_n 1, 1), (136, .putfield 30, 3), (139, .iinc 3 1, 3), (142, .goto (-95), 3), (145, .aload_n 0, 1), (146, .invokevirtual 33, 3), (149, .ifCond .ne 17, 3), (152, .aload_n 0, 1), (153, .getfield 11, 3), (156, .aload_n 0, 1), (157, .getfield 30, 3), (160, .caload, 1), (161, .bipush 59, 2), (163, .if_icmp .ne 7, 3), (166, .iconst 1, 1), (167, .goto 4, 3), (170, .iconst 0, 1), (171, .ireturn, 1)]
theorem dtX3_readOrder_1_ok : ∀ q ∈ dtX3_readOrder_1, decode cX3_readOrder q.1 = .ok q.2 := by decide +kernel
theorem dX3_readOrder_85 : decode cX3_readOrder 85 = .ok (.getfield 30, 3) := dg dtX3_readOrder_1_ok 0 rfl
theorem dX3_readOrder_88 : decode cX3_readOrder 88 = .ok (.iconst 1, 1) := dg dtX3_readOrder_1_ok 1 rfl
theorem dX3_readOrder_89 : decode cX3_readOrder 89 = .ok (.iadd, 1) := dg dtX3_readOrder_1_ok 2 rfl
theorem dX3_readOrder_90 : decode cX3_readOrder 90 = .ok (.putfield 30, 3) := dg dtX3_readOrder_1_ok 3 rfl
theorem dX3_readOrder_93 : decode cX3_readOrder 93 = .ok (.aload_n 0, 1) := dg dtX3_readOrder_1_ok 4 rfl
theorem dX3_readOrder_94 : decode cX3_readOrder 94 = .ok (.aload_n 0, 1) := dg dtX3_readOrder_1_ok 5 rfl
theorem dX3_readOrder_95 : decode cX3_readOrder 95 = .ok (.getfield 30, 3) := dg dtX3_readOrder_1_ok 6 rfl
theorem dX3_readOrder_98 : decode cX3_readOrder 98 = .ok (.invokevirtual 39, 3) := dg dtX3_readOrder_1_ok 7 rfl
theorem dX3_readOrder_101 : decode cX3_readOrder 101 = .ok (.istore_n 1, 1) := dg dtX3_readOrder_1_ok 8 rfl
theorem dX3_readOrder_102 : decode cX3_readOrder 102 = .ok (.aload_n 0, 1) := dg dtX3_readOrder_1_ok 9 rfl
theorem dX3_readOrder_103 : decode cX3_readOrder 103 = .ok (.getfield 15, 3) := dg dtX3_readOrder_1_ok 10 rfl
theorem dX3_readOrder_106 : decode cX3_readOrder 106 = .ok (.iload_n 3, 1) := dg dtX3_readOrder_1_ok 11 rfl
theorem dX3_readOrder_107 : decode cX3_readOrder 107 = .ok (.aload_n 0, 1) := dg dtX3_readOrder_1_ok 12 rfl
theorem dX3_readOrder_108 : decode cX3_readOrder 108 = .ok (.aload_n 0, 1) := dg dtX3_readOrder_1_ok 13 rfl
theorem dX3_readOrder_109 : decode cX3_readOrder 109 = .ok (.getfield 30, 3) := dg dtX3_readOrder_1_ok 14 rfl
theorem dX3_readOrder_112 : decode cX3_readOrder 112 = .ok (.iload_n 1, 1) := dg dtX3_readOrder_1_ok 15 rfl
theorem dX3_readOrder_113 : decode cX3_readOrder 113 = .ok (.aload_n 2, 1) := dg dtX3_readOrder_1_ok 16 rfl
theorem dX3_readOrder_114 : decode cX3_readOrder 114 = .ok (.iload_n 3, 1) := dg dtX3_readOrder_1_ok 17 rfl
theorem dX3_readOrder_115 : decode cX3_readOrder 115 = .ok (.invokevirtual 59, 3) := dg dtX3_readOrder_1_ok 18 rfl
theorem dX3_readOrder_118 : decode cX3_readOrder 118 = .ok (.invokevirtual 63, 3) := dg dtX3_readOrder_1_ok 19 rfl
theorem dX3_readOrder_121 : decode cX3_readOrder 121 = .ok (.iastore, 1) := dg dtX3_readOrder_1_ok 20 rfl
theorem dX3_readOrder_122 : decode cX3_readOrder 122 = .ok (.aload_n 0, 1) := dg dtX3_readOrder_1_ok 21 rfl
theorem dX3_readOrder_123 : decode cX3_readOrder 123 = .ok (.getfield 15, 3) := dg dtX3_readOrder_1_ok 22 rfl
theorem dX3_readOrder_126 : decode cX3_readOrder 126 = .ok (.iload_n 3, 1) := dg dtX3_readOrder_1_ok 23 rfl
theorem dX3_readOrder_127 : decode cX3_readOrder 127 = .ok (.iaload, 1) := dg dtX3_readOrder_1_ok 24 rfl
theorem dX3_readOrder_128 : decode cX3_readOrder 128 = .ok (.iconst (-1), 1) := dg dtX3_readOrder_1_ok 25 rfl
theorem dX3_readOrder_129 : decode cX3_readOrder 129 = .ok (.if_icmp .ne 5, 3) := dg dtX3_readOrder_1_ok 26 rfl
theorem dX3_readOrder_132 : decode cX3_readOrder 132 = .ok (.iconst 0, 1) := dg dtX3_readOrder_1_ok 27 rfl
theorem dX3_readOrder_133 : decode cX3_readOrder 133 = .ok (.ireturn, 1) := dg dtX3_readOrder_1_ok 28 rfl
theorem dX3_readOrder_134 : decode cX3_readOrder 134 = .ok (.aload_n 0, 1) := dg dtX3_readOrder_1_ok 29 rfl
theorem dX3_readOrder_135 : decode cX3_readOrder 135 = .ok (.iload_n 1, 1) := dg dtX3_readOrder_1_ok 30 rfl
theorem dX3_readOrder_136 : decode cX3_readOrder 136 = .ok (.putfield 30, 3) := dg dtX3_readOrder_1_ok 31 rfl
theorem dX3_readOrder_139 : decode cX3_readOrder 139 = .ok (.iinc 3 1, 3) := dg dtX3_readOrder_1_ok 32 rfl
theorem dX3_readOrder_142 : decode cX3_readOrder 142 = .ok (.goto (-95), 3) := dg dtX3_readOrder_1_ok 33 rfl
theorem dX3_readOrder_145 : decode cX3_readOrder 145 = .ok (.aload_n 0, 1) := dg dtX3_readOrder_1_ok 34 rfl
theorem dX3_readOrder_146 : decode cX3_readOrder 146 = .ok (.invokevirtual 33, 3) := dg dtX3_readOrder_1_ok 35 rfl
theorem dX3_readOrder_149 : decode cX3_readOrder 149 = .ok (.ifCond .ne 17, 3) := dg dtX3_readOrder_1_ok 36 rfl
theorem dX3_readOrder_152 : decode cX3_readOrder 152 = .ok (.aload_n 0, 1) := dg dtX3_readOrder_1_ok 37 rfl
theorem dX3_readOrder_153 : decode cX3_readOrder 153 = .ok (.getfield 11, 3) := dg dtX3_readOrder_1_ok 38 rfl
theorem dX3_readOrder_156 : decode cX3_readOrder 156 = .ok (.aload_n 0, 1) := dg dtX3_readOrder_1_ok 39 rfl
theorem dX3_readOrder_157 : decode cX3_readOrder 157 = .ok (.getfield 30, 3) := dg dtX3_readOrder_1_ok 40 rfl
theorem dX3_readOrder_160 : decode cX3_readOrder 160 = .ok (.caload, 1) := dg dtX3_readOrder_1_ok 41 rfl
theorem dX3_readOrder_161 : decode cX3_readOrder 161 = .ok (.bipush 59, 2) := dg dtX3_readOrder_1_ok 42 rfl
theorem dX3_readOrder_163 : decode cX3_readOrder 163 = .ok (.if_icmp .ne 7, 3) := dg dtX3_readOrder_1_ok 43 rfl
theorem dX3_readOrder_166 : decode cX3_readOrder 166 = .ok (.iconst 1, 1) := dg dtX3_readOrder_1_ok 44 rfl
theorem dX3_readOrder_167 : decode cX3_readOrder 167 = .ok (.goto 4, 3) := dg dtX3_readOrder_1_ok 45 rfl
theorem dX3_readOrder_170 : decode cX3_readOrder 170 = .ok (.iconst 0, 1) := dg dtX3_readOrder_1_ok 46 rfl
theorem dX3_readOrder_171 : decode cX3_readOrder 171 = .ok (.ireturn, 1) := dg dtX3_readOrder_1_ok 47 rfl
def dtX3_endOfToken_0 : List (Nat × Instr × Nat) := [(0, .iload_n 1, 1), (1, .istore_n 2, 1), (2, .iload_n 2, 1), (3, .aload_n 0, 1), (4, .getfield 19, 3), (7, .if_icmp .ge 33, 3), (10, .aload_n 0, 1), (11, .getfield 11, 3), (14, .iload_n 2, 1), (15, .caload, 1), (16, .bipush 32, 2), (18, .if_icmp .eq 14, 3), (21, .aload_n 0, 1), (22, .getfield 11, 3), (25, .iload_n 2, 1), (26, .caload, 1), (27, .bipush 59, 2), (29, .if_icmp .ne 5, 3), (32, .iload_n 2, 1), (33, .ireturn, 1), (34, .iinc 2 1, 3), (37, .goto (-35), 3), (40, .aload_n 0, 1), (41, .getfield 19, 3), (44, .ireturn, 1)]
theorem dtX3_endOfToken_0_ok : ∀ q ∈ dtX3_endOfToken_0, decode cX3_endOfToken q.1 = .ok q.2 := by decide +kernel
theorem dX3_endOfToken_0 : decode cX3_endOfToken 0 = .ok (.iload_n 1, 1) := dg dtX3_endOfToken_0_ok 0 rfl
theorem dX3_endOfToken_1 : decode cX3_endOfToken 1 = .ok (.istore_n 2, 1) := dg dtX3_endOfToken_0_ok 1 rfl
theorem dX3_endOfToken_2 : decode cX3_endOfToken 2 = .ok (.iload_n 2, 1) := dg dtX3_endOfToken_0_ok 2 rfl
theorem dX3_endOfToken_3 : decode cX3_endOfToken 3 = .ok (.aload_n 0, 1) := dg dtX3_endOfToken_0_ok 3 rfl
theorem dX3_endOfToken_4 : decode cX3_endOfToken 4 = .ok (.getfield 19, 3) := dg dtX3_endOfToken_0_ok 4 rfl
theorem dX3_endOfToken_7 : decode cX3_endOfToken 7 = .ok (.if_icmp .ge 33, 3) := dg dtX3_endOfToken_0_ok 5 rfl
theorem dX3_endOfToken_10 : decode cX3_endOfToken 10 = .ok (.aload_n 0, 1) := dg dtX3_endOfToken_0_ok 6 rfl
theorem dX3_endOfToken_11 : decode cX3_endOfToken 11 = .ok (.getfield 11, 3) := dg dtX3_endOfToken_0_ok 7 rfl
theorem dX3_endOfToken_14 : decode cX3_endOfToken 14 = .ok (.iload_n 2, 1) := dg dtX3_endOfToken_0_ok 8 rfl
theorem dX3_endOfToken_15 : decode cX3_endOfToken 15 = .ok (.caload, 1) := dg dtX3_endOfToken_0_ok 9 rfl
theorem dX3_endOfToken_16 : decode cX3_endOfToken 16 = .ok (.bipush 32, 2) := dg dtX3_endOfToken_0_ok 10 rfl
theorem dX3_endOfToken_18 : decode cX3_endOfToken 18 = .ok (.if_icmp .eq 14, 3) := dg dtX3_endOfToken_0_ok 11 rfl
theorem dX3_endOfToken_21 : decode cX3_endOfToken 21 = .ok (.aload_n 0, 1) := dg dtX3_endOfToken_0_ok 12 rfl
theorem dX3_endOfToken_22 : decode cX3_endOfToken 22 = .ok (.getfield 11, 3) := dg dtX3_endOfToken_0_ok 13 rfl
theorem dX3_endOfToken_25 : decode cX3_endOfToken 25 = .ok (.iload_n 2, 1) := dg dtX3_endOfToken_0_ok 14 rfl
theorem dX3_endOfToken_26 : decode cX3_endOfToken 26 = .ok (.caload, 1) := dg dtX3_endOfToken_0_ok 15 rfl
theorem dX3_endOfToken_27 : decode cX3_endOfToken 27 = .ok (.bipush 59, 2) := dg dtX3_endOfToken_0_ok 16 rfl
theorem dX3_endOfToken_29 : decode cX3_endOfToken 29 = .ok (.if_icmp .ne 5, 3) := dg dtX3_endOfToken_0_ok 17 rfl
theorem dX3_endOfToken_32 : decode cX3_endOfToken 32 = .ok (.iload_n 2, 1) := dg dtX3_endOfToken_0_ok 18 rfl
theorem dX3_endOfToken_33 : decode cX3_endOfToken 33 = .ok (.ireturn, 1) := dg dtX3_endOfToken_0_ok 19 rfl
theorem dX3_endOfToken_34 : decode cX3_endOfToken 34 = .ok (.iinc 2 1, 3) := dg dtX3_endOfToken_0_ok 20 rfl
theorem dX3_endOfToken_37 : decode cX3_endOfToken 37 = .ok (.goto (-35), 3) := dg dtX3_endOfToken_0_ok 21 rfl
theorem dX3_endOfToken_40 : decode cX3_endOfToken 40 = .ok (.aload_n 0, 1) := dg dtX3_endOfToken_0_ok 22 rfl
theorem dX3_endOfToken_41 : decode cX3_endOfToken 41 = .ok (.getfield 19, 3) := dg dtX3_endOfToken_0_ok 23 rfl
theorem dX3_endOfToken_44 : decode cX3_endOfToken 44 = .ok (.ireturn, 1) := dg dtX3_endOfToken_0_ok 24 rfl
def dtX3_wordBetween_0 : List (Nat × Instr × Nat) := [(0, .iconst 0, 1), (1, .istore_n 3, 1), (2, .iload_n 3, 1), (3, .bipush 8, 2), (5, .if_icmp .ge 24, 3), (8, .aload_n 0, 1), (9, .iload_n 1, 1), (10, .iload_n 2, 1), (11, .iload_n 3, 1), (12, .invokestatic 67, 3), (15, .invokevirtual 70, 3), (18, .ifCond .eq 5, 3), (21, .iload_n 3, 1), (22, .ireturn, 1), (23, .iinc 3 1, 3), (26, .goto (-24), 3), (29, .iconst (-1), 1), (30, .ireturn, 1)]
theorem dtX3_wordBetween_0_ok : ∀ q ∈ dtX3_wordBetween_0, decode cX3_wordBetween q.1 = .ok q.2 := by decide +kernel
theorem dX3_wordBetween_0 : decode cX3_wordBetween 0 = .ok (.iconst 0, 1) := dg dtX3_wordBetween_0_ok 0 rfl
theorem dX3_wordBetween_1 : decode cX3_wordBetween 1 = .ok (.istore_n 3, 1) := dg dtX3_wordBetween_0_ok 1 rfl
theorem dX3_wordBetween_2 : decode cX3_wordBetween 2 = .ok (.iload_n 3, 1) := dg dtX3_wordBetween_0_ok 2 rfl
theorem dX3_wordBetween_3 : decode cX3_wordBetween 3 = .ok (.bipush 8, 2) := dg dtX3_wordBetween_0_ok 3 rfl
theorem dX3_wordBetween_5 : decode cX3_wordBetween 5 = .ok (.if_icmp .ge 24, 3) := dg dtX3_wordBetween_0_ok 4 rfl
theorem dX3_wordBetween_8 : decode cX3_wordBetween 8 = .ok (.aload_n 0, 1) := dg dtX3_wordBetween_0_ok 5 rfl
theorem dX3_wordBetween_9 : decode cX3_wordBetween 9 = .ok (.iload_n 1, 1) := dg dtX3_wordBetween_0_ok 6 rfl
theorem dX3_wordBetween_10 : decode cX3_wordBetween 10 = .ok (.iload_n 2, 1) := dg dtX3_wordBetween_0_ok 7 rfl
theorem dX3_wordBetween_11 : decode cX3_wordBetween 11 = .ok (.iload_n 3, 1) := dg dtX3_wordBetween_0_ok 8 rfl
theorem dX3_wordBetween_12 : decode cX3_wordBetween 12 = .ok (.invokestatic 67, 3) := dg dtX3_wordBetween_0_ok 9 rfl
theorem dX3_wordBetween_15 : decode cX3_wordBetween 15 = .ok (.invokevirtual 70, 3) := dg dtX3_wordBetween_0_ok 10 rfl
theorem dX3_wordBetween_18 : decode cX3_wordBetween 18 = .ok (.ifCond .eq 5, 3) := dg dtX3_wordBetween_0_ok 11 rfl
theorem dX3_wordBetween_21 : decode cX3_wordBetween 21 = .ok (.iload_n 3, 1) := dg dtX3_wordBetween_0_ok 12 rfl
theorem dX3_wordBetween_22 : decode cX3_wordBetween 22 = .ok (.ireturn, 1) := dg dtX3_wordBetween_0_ok 13 rfl
theorem dX3_wordBetween_23 : decode cX3_wordBetween 23 = .ok (.iinc 3 1, 3) := dg dtX3_wordBetween_0_ok 14 rfl
theorem dX3_wordBetween_26 : decode cX3_wordBetween 26 = .ok (.goto (-24), 3) := dg dtX3_wordBetween_0_ok 15 rfl
theorem dX3_wordBetween_29 : decode cX3_wordBetween 29 = .ok (.iconst (-1), 1) := dg dtX3_wordBetween_0_ok 16 rfl
theorem dX3_wordBetween_30 : decode cX3_wordBetween 30 = .ok (.ireturn, 1) := dg dtX3_wordBetween_0_ok 17 rfl
def dtX3_standsBetween_0 : List (Nat × Instr × Nat) := [(0, .iload_n 2, 1), (1, .iload_n 1, 1), (2, .isub, 1), (3, .aload_n 3, 1), (4, .invokevirtual 54, 3), (7, .if_icmp .eq 5, 3), (10, .iconst 0, 1), (11, .ireturn, 1), (12, .iload_n 1, 1), (13, .istore 4, 2), (15, .iload 4, 2), (17, .iload_n 2, 1), (18, .if_icmp .ge 29, 3), (21, .aload_n 0, 1), (22, .getfield 11, 3), (25, .iload 4, 2), (27, .caload, 1), (28, .aload_n 3, 1), (29, .iload 4, 2), (31, .iload_n 1, 1), (32, .isub, 1), (33, .invokevirtual 59, 3), (36, .if_icmp .eq 5, 3), (39, .iconst 0, 1), (40, .ireturn, 1), (41, .iinc 4 1, 3), (44, .goto (-29), 3), (47, .iconst 1, 1), (48, .ireturn, 1)]
theorem dtX3_standsBetween_0_ok : ∀ q ∈ dtX3_standsBetween_0, decode cX3_standsBetween q.1 = .ok q.2 := by decide +kernel
theorem dX3_standsBetween_0 : decode cX3_standsBetween 0 = .ok (.iload_n 2, 1) := dg dtX3_standsBetween_0_ok 0 rfl
theorem dX3_standsBetween_1 : decode cX3_standsBetween 1 = .ok (.iload_n 1, 1) := dg dtX3_standsBetween_0_ok 1 rfl
theorem dX3_standsBetween_2 : decode cX3_standsBetween 2 = .ok (.isub, 1) := dg dtX3_standsBetween_0_ok 2 rfl
theorem dX3_standsBetween_3 : decode cX3_standsBetween 3 = .ok (.aload_n 3, 1) := dg dtX3_standsBetween_0_ok 3 rfl
theorem dX3_standsBetween_4 : decode cX3_standsBetween 4 = .ok (.invokevirtual 54, 3) := dg dtX3_standsBetween_0_ok 4 rfl
theorem dX3_standsBetween_7 : decode cX3_standsBetween 7 = .ok (.if_icmp .eq 5, 3) := dg dtX3_standsBetween_0_ok 5 rfl
theorem dX3_standsBetween_10 : decode cX3_standsBetween 10 = .ok (.iconst 0, 1) := dg dtX3_standsBetween_0_ok 6 rfl
theorem dX3_standsBetween_11 : decode cX3_standsBetween 11 = .ok (.ireturn, 1) := dg dtX3_standsBetween_0_ok 7 rfl
theorem dX3_standsBetween_12 : decode cX3_standsBetween 12 = .ok (.iload_n 1, 1) := dg dtX3_standsBetween_0_ok 8 rfl
theorem dX3_standsBetween_13 : decode cX3_standsBetween 13 = .ok (.istore 4, 2) := dg dtX3_standsBetween_0_ok 9 rfl
theorem dX3_standsBetween_15 : decode cX3_standsBetween 15 = .ok (.iload 4, 2) := dg dtX3_standsBetween_0_ok 10 rfl
theorem dX3_standsBetween_17 : decode cX3_standsBetween 17 = .ok (.iload_n 2, 1) := dg dtX3_standsBetween_0_ok 11 rfl
theorem dX3_standsBetween_18 : decode cX3_standsBetween 18 = .ok (.if_icmp .ge 29, 3) := dg dtX3_standsBetween_0_ok 12 rfl
theorem dX3_standsBetween_21 : decode cX3_standsBetween 21 = .ok (.aload_n 0, 1) := dg dtX3_standsBetween_0_ok 13 rfl
theorem dX3_standsBetween_22 : decode cX3_standsBetween 22 = .ok (.getfield 11, 3) := dg dtX3_standsBetween_0_ok 14 rfl
theorem dX3_standsBetween_25 : decode cX3_standsBetween 25 = .ok (.iload 4, 2) := dg dtX3_standsBetween_0_ok 15 rfl
theorem dX3_standsBetween_27 : decode cX3_standsBetween 27 = .ok (.caload, 1) := dg dtX3_standsBetween_0_ok 16 rfl
theorem dX3_standsBetween_28 : decode cX3_standsBetween 28 = .ok (.aload_n 3, 1) := dg dtX3_standsBetween_0_ok 17 rfl
theorem dX3_standsBetween_29 : decode cX3_standsBetween 29 = .ok (.iload 4, 2) := dg dtX3_standsBetween_0_ok 18 rfl
theorem dX3_standsBetween_31 : decode cX3_standsBetween 31 = .ok (.iload_n 1, 1) := dg dtX3_standsBetween_0_ok 19 rfl
theorem dX3_standsBetween_32 : decode cX3_standsBetween 32 = .ok (.isub, 1) := dg dtX3_standsBetween_0_ok 20 rfl
theorem dX3_standsBetween_33 : decode cX3_standsBetween 33 = .ok (.invokevirtual 59, 3) := dg dtX3_standsBetween_0_ok 21 rfl
theorem dX3_standsBetween_36 : decode cX3_standsBetween 36 = .ok (.if_icmp .eq 5, 3) := dg dtX3_standsBetween_0_ok 22 rfl
theorem dX3_standsBetween_39 : decode cX3_standsBetween 39 = .ok (.iconst 0, 1) := dg dtX3_standsBetween_0_ok 23 rfl
theorem dX3_standsBetween_40 : decode cX3_standsBetween 40 = .ok (.ireturn, 1) := dg dtX3_standsBetween_0_ok 24 rfl
theorem dX3_standsBetween_41 : decode cX3_standsBetween 41 = .ok (.iinc 4 1, 3) := dg dtX3_standsBetween_0_ok 25 rfl
theorem dX3_standsBetween_44 : decode cX3_standsBetween 44 = .ok (.goto (-29), 3) := dg dtX3_standsBetween_0_ok 26 rfl
theorem dX3_standsBetween_47 : decode cX3_standsBetween 47 = .ok (.iconst 1, 1) := dg dtX3_standsBetween_0_ok 27 rfl
theorem dX3_standsBetween_48 : decode cX3_standsBetween 48 = .ok (.ireturn, 1) := dg dtX3_standsBetween_0_ok 28 rfl
def dtX3_numberBetween_0 : List (Nat × Instr × Nat) := [(0, .iload_n 2, 1), (1, .iload_n 1, 1), (2, .if_icmp .le 11, 3), (5, .iload_n 2, 1), (6, .iload_n 1, 1), (7, .isub, 1), (8, .bipush 8, 2), (10, .if_icmp .le 5, 3), (13, .iconst (-1), 1), (14, .ireturn, 1), (15, .iconst 0, 1), (16, .istore 4, 2), (18, .iload_n 1, 1), (19, .istore 5, 2), (21, .iload 5, 2), (23, .iload_n 2, 1), (24, .if_icmp .ge 53, 3), (27, .aload_n 0, 1), (28, .getfield 11, 3), (31, .iload 5, 2), (33, .caload, 1), (34, .bipush 48, 2), (36, .if_icmp .lt 15, 3), (39, .aload_n 0, 1), (40, .getfield 11, 3), (43, .iload 5, 2), (45, .caload, 1), (46, .bipush 57, 2), (48, .if_icmp .le 5, 3), (51, .iconst (-1), 1), (52, .ireturn, 1), (53, .iload 4, 2), (55, .bipush 10, 2), (57, .imul, 1), (58, .aload_n 0, 1), (59, .getfield 11, 3), (62, .iload 5, 2), (64, .caload, 1), (65, .bipush 48, 2), (67, .isub, 1), (68, .iadd, 1), (69, .istore 4, 2), (71, .iinc 5 1, 3), (74, .goto (-53), 3), (77, .iload 4, 2), (79, .iload_n 3, 1), (80, .invokestatic 74, 3), (83, .iload_n 3, 1)]
theorem dtX3_numberBetween_0_ok : ∀ q ∈ dtX3_numberBetween_0, decode cX3_numberBetween q.1 = .ok q.2 := by decide +kernel
theorem dX3_numberBetween_0 : decode cX3_numberBetween 0 = .ok (.iload_n 2, 1) := dg dtX3_numberBetween_0_ok 0 rfl
theorem dX3_numberBetween_1 : decode cX3_numberBetween 1 = .ok (.iload_n 1, 1) := dg dtX3_numberBetween_0_ok 1 rfl
theorem dX3_numberBetween_2 : decode cX3_numberBetween 2 = .ok (.if_icmp .le 11, 3) := dg dtX3_numberBetween_0_ok 2 rfl
theorem dX3_numberBetween_5 : decode cX3_numberBetween 5 = .ok (.iload_n 2, 1) := dg dtX3_numberBetween_0_ok 3 rfl
theorem dX3_numberBetween_6 : decode cX3_numberBetween 6 = .ok (.iload_n 1, 1) := dg dtX3_numberBetween_0_ok 4 rfl
theorem dX3_numberBetween_7 : decode cX3_numberBetween 7 = .ok (.isub, 1) := dg dtX3_numberBetween_0_ok 5 rfl
theorem dX3_numberBetween_8 : decode cX3_numberBetween 8 = .ok (.bipush 8, 2) := dg dtX3_numberBetween_0_ok 6 rfl
theorem dX3_numberBetween_10 : decode cX3_numberBetween 10 = .ok (.if_icmp .le 5, 3) := dg dtX3_numberBetween_0_ok 7 rfl
theorem dX3_numberBetween_13 : decode cX3_numberBetween 13 = .ok (.iconst (-1), 1) := dg dtX3_numberBetween_0_ok 8 rfl
theorem dX3_numberBetween_14 : decode cX3_numberBetween 14 = .ok (.ireturn, 1) := dg dtX3_numberBetween_0_ok 9 rfl
theorem dX3_numberBetween_15 : decode cX3_numberBetween 15 = .ok (.iconst 0, 1) := dg dtX3_numberBetween_0_ok 10 rfl
theorem dX3_numberBetween_16 : decode cX3_numberBetween 16 = .ok (.istore 4, 2) := dg dtX3_numberBetween_0_ok 11 rfl
theorem dX3_numberBetween_18 : decode cX3_numberBetween 18 = .ok (.iload_n 1, 1) := dg dtX3_numberBetween_0_ok 12 rfl
theorem dX3_numberBetween_19 : decode cX3_numberBetween 19 = .ok (.istore 5, 2) := dg dtX3_numberBetween_0_ok 13 rfl
theorem dX3_numberBetween_21 : decode cX3_numberBetween 21 = .ok (.iload 5, 2) := dg dtX3_numberBetween_0_ok 14 rfl
theorem dX3_numberBetween_23 : decode cX3_numberBetween 23 = .ok (.iload_n 2, 1) := dg dtX3_numberBetween_0_ok 15 rfl
theorem dX3_numberBetween_24 : decode cX3_numberBetween 24 = .ok (.if_icmp .ge 53, 3) := dg dtX3_numberBetween_0_ok 16 rfl
theorem dX3_numberBetween_27 : decode cX3_numberBetween 27 = .ok (.aload_n 0, 1) := dg dtX3_numberBetween_0_ok 17 rfl
theorem dX3_numberBetween_28 : decode cX3_numberBetween 28 = .ok (.getfield 11, 3) := dg dtX3_numberBetween_0_ok 18 rfl
theorem dX3_numberBetween_31 : decode cX3_numberBetween 31 = .ok (.iload 5, 2) := dg dtX3_numberBetween_0_ok 19 rfl
theorem dX3_numberBetween_33 : decode cX3_numberBetween 33 = .ok (.caload, 1) := dg dtX3_numberBetween_0_ok 20 rfl
theorem dX3_numberBetween_34 : decode cX3_numberBetween 34 = .ok (.bipush 48, 2) := dg dtX3_numberBetween_0_ok 21 rfl
theorem dX3_numberBetween_36 : decode cX3_numberBetween 36 = .ok (.if_icmp .lt 15, 3) := dg dtX3_numberBetween_0_ok 22 rfl
theorem dX3_numberBetween_39 : decode cX3_numberBetween 39 = .ok (.aload_n 0, 1) := dg dtX3_numberBetween_0_ok 23 rfl
theorem dX3_numberBetween_40 : decode cX3_numberBetween 40 = .ok (.getfield 11, 3) := dg dtX3_numberBetween_0_ok 24 rfl
theorem dX3_numberBetween_43 : decode cX3_numberBetween 43 = .ok (.iload 5, 2) := dg dtX3_numberBetween_0_ok 25 rfl
theorem dX3_numberBetween_45 : decode cX3_numberBetween 45 = .ok (.caload, 1) := dg dtX3_numberBetween_0_ok 26 rfl
theorem dX3_numberBetween_46 : decode cX3_numberBetween 46 = .ok (.bipush 57, 2) := dg dtX3_numberBetween_0_ok 27 rfl
theorem dX3_numberBetween_48 : decode cX3_numberBetween 48 = .ok (.if_icmp .le 5, 3) := dg dtX3_numberBetween_0_ok 28 rfl
theorem dX3_numberBetween_51 : decode cX3_numberBetween 51 = .ok (.iconst (-1), 1) := dg dtX3_numberBetween_0_ok 29 rfl
theorem dX3_numberBetween_52 : decode cX3_numberBetween 52 = .ok (.ireturn, 1) := dg dtX3_numberBetween_0_ok 30 rfl
theorem dX3_numberBetween_53 : decode cX3_numberBetween 53 = .ok (.iload 4, 2) := dg dtX3_numberBetween_0_ok 31 rfl
theorem dX3_numberBetween_55 : decode cX3_numberBetween 55 = .ok (.bipush 10, 2) := dg dtX3_numberBetween_0_ok 32 rfl
theorem dX3_numberBetween_57 : decode cX3_numberBetween 57 = .ok (.imul, 1) := dg dtX3_numberBetween_0_ok 33 rfl
theorem dX3_numberBetween_58 : decode cX3_numberBetween 58 = .ok (.aload_n 0, 1) := dg dtX3_numberBetween_0_ok 34 rfl
theorem dX3_numberBetween_59 : decode cX3_numberBetween 59 = .ok (.getfield 11, 3) := dg dtX3_numberBetween_0_ok 35 rfl
theorem dX3_numberBetween_62 : decode cX3_numberBetween 62 = .ok (.iload 5, 2) := dg dtX3_numberBetween_0_ok 36 rfl
theorem dX3_numberBetween_64 : decode cX3_numberBetween 64 = .ok (.caload, 1) := dg dtX3_numberBetween_0_ok 37 rfl
theorem dX3_numberBetween_65 : decode cX3_numberBetween 65 = .ok (.bipush 48, 2) := dg dtX3_numberBetween_0_ok 38 rfl
theorem dX3_numberBetween_67 : decode cX3_numberBetween 67 = .ok (.isub, 1) := dg dtX3_numberBetween_0_ok 39 rfl
theorem dX3_numberBetween_68 : decode cX3_numberBetween 68 = .ok (.iadd, 1) := dg dtX3_numberBetween_0_ok 40 rfl
theorem dX3_numberBetween_69 : decode cX3_numberBetween 69 = .ok (.istore 4, 2) := dg dtX3_numberBetween_0_ok 41 rfl
theorem dX3_numberBetween_71 : decode cX3_numberBetween 71 = .ok (.iinc 5 1, 3) := dg dtX3_numberBetween_0_ok 42 rfl
theorem dX3_numberBetween_74 : decode cX3_numberBetween 74 = .ok (.goto (-53), 3) := dg dtX3_numberBetween_0_ok 43 rfl
theorem dX3_numberBetween_77 : decode cX3_numberBetween 77 = .ok (.iload 4, 2) := dg dtX3_numberBetween_0_ok 44 rfl
theorem dX3_numberBetween_79 : decode cX3_numberBetween 79 = .ok (.iload_n 3, 1) := dg dtX3_numberBetween_0_ok 45 rfl
theorem dX3_numberBetween_80 : decode cX3_numberBetween 80 = .ok (.invokestatic 74, 3) := dg dtX3_numberBetween_0_ok 46 rfl
theorem dX3_numberBetween_83 : decode cX3_numberBetween 83 = .ok (.iload_n 3, 1) := dg dtX3_numberBetween_0_ok 47 rfl
def dtX3_numberBetween_1 : List (Nat × Instr × Nat) := [(84, .invokestatic 78, 3), (87, .invokestatic 81, 3), (90, .ifCond .eq 7, 3), (93, .iconst (-1), 1), (94, .goto 5, 3), (97, .iload 4, 2), (99, .ireturn, 1)]
theorem dtX3_numberBetween_1_ok : ∀ q ∈ dtX3_numberBetween_1, decode cX3_numberBetween q.1 = .ok q.2 := by decide +kernel
theorem dX3_numberBetween_84 : decode cX3_numberBetween 84 = .ok (.invokestatic 78, 3) := dg dtX3_numberBetween_1_ok 0 rfl
theorem dX3_numberBetween_87 : decode cX3_numberBetween 87 = .ok (.invokestatic 81, 3) := dg dtX3_numberBetween_1_ok 1 rfl
theorem dX3_numberBetween_90 : decode cX3_numberBetween 90 = .ok (.ifCond .eq 7, 3) := dg dtX3_numberBetween_1_ok 2 rfl
theorem dX3_numberBetween_93 : decode cX3_numberBetween 93 = .ok (.iconst (-1), 1) := dg dtX3_numberBetween_1_ok 3 rfl
theorem dX3_numberBetween_94 : decode cX3_numberBetween 94 = .ok (.goto 5, 3) := dg dtX3_numberBetween_1_ok 4 rfl
theorem dX3_numberBetween_97 : decode cX3_numberBetween 97 = .ok (.iload 4, 2) := dg dtX3_numberBetween_1_ok 5 rfl
theorem dX3_numberBetween_99 : decode cX3_numberBetween 99 = .ok (.ireturn, 1) := dg dtX3_numberBetween_1_ok 6 rfl
def dtX3_wordOf_0 : List (Nat × Instr × Nat) := [(0, .iload_n 0, 1), (1, .tableswitch 64 0 6 #[43, 46, 49, 52, 55, 58, 61], 43), (44, .ldc 85, 2), (46, .areturn, 1), (47, .ldc 87, 2), (49, .areturn, 1), (50, .ldc 89, 2), (52, .areturn, 1), (53, .ldc 91, 2), (55, .areturn, 1), (56, .ldc 93, 2), (58, .areturn, 1), (59, .ldc 95, 2), (61, .areturn, 1), (62, .ldc 97, 2), (64, .areturn, 1), (65, .ldc 99, 2), (67, .areturn, 1)]
theorem dtX3_wordOf_0_ok : ∀ q ∈ dtX3_wordOf_0, decode cX3_wordOf q.1 = .ok q.2 := by decide +kernel
theorem dX3_wordOf_0 : decode cX3_wordOf 0 = .ok (.iload_n 0, 1) := dg dtX3_wordOf_0_ok 0 rfl
theorem dX3_wordOf_1 : decode cX3_wordOf 1 = .ok (.tableswitch 64 0 6 #[43, 46, 49, 52, 55, 58, 61], 43) := dg dtX3_wordOf_0_ok 1 rfl
theorem dX3_wordOf_44 : decode cX3_wordOf 44 = .ok (.ldc 85, 2) := dg dtX3_wordOf_0_ok 2 rfl
theorem dX3_wordOf_46 : decode cX3_wordOf 46 = .ok (.areturn, 1) := dg dtX3_wordOf_0_ok 3 rfl
theorem dX3_wordOf_47 : decode cX3_wordOf 47 = .ok (.ldc 87, 2) := dg dtX3_wordOf_0_ok 4 rfl
theorem dX3_wordOf_49 : decode cX3_wordOf 49 = .ok (.areturn, 1) := dg dtX3_wordOf_0_ok 5 rfl
theorem dX3_wordOf_50 : decode cX3_wordOf 50 = .ok (.ldc 89, 2) := dg dtX3_wordOf_0_ok 6 rfl
theorem dX3_wordOf_52 : decode cX3_wordOf 52 = .ok (.areturn, 1) := dg dtX3_wordOf_0_ok 7 rfl
theorem dX3_wordOf_53 : decode cX3_wordOf 53 = .ok (.ldc 91, 2) := dg dtX3_wordOf_0_ok 8 rfl
theorem dX3_wordOf_55 : decode cX3_wordOf 55 = .ok (.areturn, 1) := dg dtX3_wordOf_0_ok 9 rfl
theorem dX3_wordOf_56 : decode cX3_wordOf 56 = .ok (.ldc 93, 2) := dg dtX3_wordOf_0_ok 10 rfl
theorem dX3_wordOf_58 : decode cX3_wordOf 58 = .ok (.areturn, 1) := dg dtX3_wordOf_0_ok 11 rfl
theorem dX3_wordOf_59 : decode cX3_wordOf 59 = .ok (.ldc 95, 2) := dg dtX3_wordOf_0_ok 12 rfl
theorem dX3_wordOf_61 : decode cX3_wordOf 61 = .ok (.areturn, 1) := dg dtX3_wordOf_0_ok 13 rfl
theorem dX3_wordOf_62 : decode cX3_wordOf 62 = .ok (.ldc 97, 2) := dg dtX3_wordOf_0_ok 14 rfl
theorem dX3_wordOf_64 : decode cX3_wordOf 64 = .ok (.areturn, 1) := dg dtX3_wordOf_0_ok 15 rfl
theorem dX3_wordOf_65 : decode cX3_wordOf 65 = .ok (.ldc 99, 2) := dg dtX3_wordOf_0_ok 16 rfl
theorem dX3_wordOf_67 : decode cX3_wordOf 67 = .ok (.areturn, 1) := dg dtX3_wordOf_0_ok 17 rfl
def dtX3_placesOf_0 : List (Nat × Instr × Nat) := [(0, .iload_n 0, 1), (1, .tableswitch 59 0 7 #[47, 59, 59, 59, 50, 59, 53, 56], 47), (48, .ldc 101, 2), (50, .areturn, 1), (51, .ldc 103, 2), (53, .areturn, 1), (54, .ldc 105, 2), (56, .areturn, 1), (57, .ldc 107, 2), (59, .areturn, 1), (60, .ldc 109, 2), (62, .areturn, 1)]
theorem dtX3_placesOf_0_ok : ∀ q ∈ dtX3_placesOf_0, decode cX3_placesOf q.1 = .ok q.2 := by decide +kernel
theorem dX3_placesOf_0 : decode cX3_placesOf 0 = .ok (.iload_n 0, 1) := dg dtX3_placesOf_0_ok 0 rfl
theorem dX3_placesOf_1 : decode cX3_placesOf 1 = .ok (.tableswitch 59 0 7 #[47, 59, 59, 59, 50, 59, 53, 56], 47) := dg dtX3_placesOf_0_ok 1 rfl
theorem dX3_placesOf_48 : decode cX3_placesOf 48 = .ok (.ldc 101, 2) := dg dtX3_placesOf_0_ok 2 rfl
theorem dX3_placesOf_50 : decode cX3_placesOf 50 = .ok (.areturn, 1) := dg dtX3_placesOf_0_ok 3 rfl
theorem dX3_placesOf_51 : decode cX3_placesOf 51 = .ok (.ldc 103, 2) := dg dtX3_placesOf_0_ok 4 rfl
theorem dX3_placesOf_53 : decode cX3_placesOf 53 = .ok (.areturn, 1) := dg dtX3_placesOf_0_ok 5 rfl
theorem dX3_placesOf_54 : decode cX3_placesOf 54 = .ok (.ldc 105, 2) := dg dtX3_placesOf_0_ok 6 rfl
theorem dX3_placesOf_56 : decode cX3_placesOf 56 = .ok (.areturn, 1) := dg dtX3_placesOf_0_ok 7 rfl
theorem dX3_placesOf_57 : decode cX3_placesOf 57 = .ok (.ldc 107, 2) := dg dtX3_placesOf_0_ok 8 rfl
theorem dX3_placesOf_59 : decode cX3_placesOf 59 = .ok (.areturn, 1) := dg dtX3_placesOf_0_ok 9 rfl
theorem dX3_placesOf_60 : decode cX3_placesOf 60 = .ok (.ldc 109, 2) := dg dtX3_placesOf_0_ok 10 rfl
theorem dX3_placesOf_62 : decode cX3_placesOf 62 = .ok (.areturn, 1) := dg dtX3_placesOf_0_ok 11 rfl
def dtX3_leastAt_0 : List (Nat × Instr × Nat) := [(0, .iload_n 0, 1), (1, .bipush 81, 2), (3, .if_icmp .eq 9, 3), (6, .iload_n 0, 1), (7, .bipush 78, 2), (9, .if_icmp .ne 7, 3), (12, .iconst 1, 1), (13, .goto 4, 3), (16, .iconst 0, 1), (17, .ireturn, 1)]
theorem dtX3_leastAt_0_ok : ∀ q ∈ dtX3_leastAt_0, decode cX3_leastAt q.1 = .ok q.2 := by decide +kernel
theorem dX3_leastAt_0 : decode cX3_leastAt 0 = .ok (.iload_n 0, 1) := dg dtX3_leastAt_0_ok 0 rfl
theorem dX3_leastAt_1 : decode cX3_leastAt 1 = .ok (.bipush 81, 2) := dg dtX3_leastAt_0_ok 1 rfl
theorem dX3_leastAt_3 : decode cX3_leastAt 3 = .ok (.if_icmp .eq 9, 3) := dg dtX3_leastAt_0_ok 2 rfl
theorem dX3_leastAt_6 : decode cX3_leastAt 6 = .ok (.iload_n 0, 1) := dg dtX3_leastAt_0_ok 3 rfl
theorem dX3_leastAt_7 : decode cX3_leastAt 7 = .ok (.bipush 78, 2) := dg dtX3_leastAt_0_ok 4 rfl
theorem dX3_leastAt_9 : decode cX3_leastAt 9 = .ok (.if_icmp .ne 7, 3) := dg dtX3_leastAt_0_ok 5 rfl
theorem dX3_leastAt_12 : decode cX3_leastAt 12 = .ok (.iconst 1, 1) := dg dtX3_leastAt_0_ok 6 rfl
theorem dX3_leastAt_13 : decode cX3_leastAt 13 = .ok (.goto 4, 3) := dg dtX3_leastAt_0_ok 7 rfl
theorem dX3_leastAt_16 : decode cX3_leastAt 16 = .ok (.iconst 0, 1) := dg dtX3_leastAt_0_ok 8 rfl
theorem dX3_leastAt_17 : decode cX3_leastAt 17 = .ok (.ireturn, 1) := dg dtX3_leastAt_0_ok 9 rfl
def dtX3_mostAt_0 : List (Nat × Instr × Nat) := [(0, .iload_n 0, 1), (1, .tableswitch 103 69 86 #[94, 103, 103, 103, 103, 103, 89, 91, 103, 103, 87, 103, 97, 103, 103, 103, 103, 100], 87), (88, .iconst 4, 1), (89, .ireturn, 1), (90, .iconst 5, 1), (91, .ireturn, 1), (92, .bipush 29, 2), (94, .ireturn, 1), (95, .bipush 29, 2), (97, .ireturn, 1), (98, .ldc 111, 2), (100, .ireturn, 1), (101, .ldc 112, 2), (103, .ireturn, 1), (104, .bipush 100, 2), (106, .ireturn, 1)]
theorem dtX3_mostAt_0_ok : ∀ q ∈ dtX3_mostAt_0, decode cX3_mostAt q.1 = .ok q.2 := by decide +kernel
theorem dX3_mostAt_0 : decode cX3_mostAt 0 = .ok (.iload_n 0, 1) := dg dtX3_mostAt_0_ok 0 rfl
theorem dX3_mostAt_1 : decode cX3_mostAt 1 = .ok (.tableswitch 103 69 86 #[94, 103, 103, 103, 103, 103, 89, 91, 103, 103, 87, 103, 97, 103, 103, 103, 103, 100], 87) := dg dtX3_mostAt_0_ok 1 rfl
theorem dX3_mostAt_88 : decode cX3_mostAt 88 = .ok (.iconst 4, 1) := dg dtX3_mostAt_0_ok 2 rfl
theorem dX3_mostAt_89 : decode cX3_mostAt 89 = .ok (.ireturn, 1) := dg dtX3_mostAt_0_ok 3 rfl
theorem dX3_mostAt_90 : decode cX3_mostAt 90 = .ok (.iconst 5, 1) := dg dtX3_mostAt_0_ok 4 rfl
theorem dX3_mostAt_91 : decode cX3_mostAt 91 = .ok (.ireturn, 1) := dg dtX3_mostAt_0_ok 5 rfl
theorem dX3_mostAt_92 : decode cX3_mostAt 92 = .ok (.bipush 29, 2) := dg dtX3_mostAt_0_ok 6 rfl
theorem dX3_mostAt_94 : decode cX3_mostAt 94 = .ok (.ireturn, 1) := dg dtX3_mostAt_0_ok 7 rfl
theorem dX3_mostAt_95 : decode cX3_mostAt 95 = .ok (.bipush 29, 2) := dg dtX3_mostAt_0_ok 8 rfl
theorem dX3_mostAt_97 : decode cX3_mostAt 97 = .ok (.ireturn, 1) := dg dtX3_mostAt_0_ok 9 rfl
theorem dX3_mostAt_98 : decode cX3_mostAt 98 = .ok (.ldc 111, 2) := dg dtX3_mostAt_0_ok 10 rfl
theorem dX3_mostAt_100 : decode cX3_mostAt 100 = .ok (.ireturn, 1) := dg dtX3_mostAt_0_ok 11 rfl
theorem dX3_mostAt_101 : decode cX3_mostAt 101 = .ok (.ldc 112, 2) := dg dtX3_mostAt_0_ok 12 rfl
theorem dX3_mostAt_103 : decode cX3_mostAt 103 = .ok (.ireturn, 1) := dg dtX3_mostAt_0_ok 13 rfl
theorem dX3_mostAt_104 : decode cX3_mostAt 104 = .ok (.bipush 100, 2) := dg dtX3_mostAt_0_ok 14 rfl
theorem dX3_mostAt_106 : decode cX3_mostAt 106 = .ok (.ireturn, 1) := dg dtX3_mostAt_0_ok 15 rfl
def dtX4_init_0 : List (Nat × Instr × Nat) := [(0, .aload_n 0, 1), (1, .invokespecial 1, 3), (4, .return_, 1)]
theorem dtX4_init_0_ok : ∀ q ∈ dtX4_init_0, decode cX4_init q.1 = .ok q.2 := by decide +kernel
theorem dX4_init_0 : decode cX4_init 0 = .ok (.aload_n 0, 1) := dg dtX4_init_0_ok 0 rfl
theorem dX4_init_1 : decode cX4_init 1 = .ok (.invokespecial 1, 3) := dg dtX4_init_0_ok 1 rfl
theorem dX4_init_4 : decode cX4_init 4 = .ok (.return_, 1) := dg dtX4_init_0_ok 2 rfl
def dtX4_copyFrom_0 : List (Nat × Instr × Nat) := [(0, .aload_n 0, 1), (1, .aload_n 1, 1), (2, .getfield 7, 3), (5, .putfield 7, 3), (8, .aload_n 0, 1), (9, .aload_n 1, 1), (10, .getfield 13, 3), (13, .putfield 13, 3), (16, .aload_n 0, 1), (17, .aload_n 1, 1), (18, .getfield 17, 3), (21, .putfield 17, 3), (24, .aload_n 0, 1), (25, .aload_n 1, 1), (26, .getfield 20, 3), (29, .putfield 20, 3), (32, .return_, 1)]
theorem dtX4_copyFrom_0_ok : ∀ q ∈ dtX4_copyFrom_0, decode cX4_copyFrom q.1 = .ok q.2 := by decide +kernel
theorem dX4_copyFrom_0 : decode cX4_copyFrom 0 = .ok (.aload_n 0, 1) := dg dtX4_copyFrom_0_ok 0 rfl
theorem dX4_copyFrom_1 : decode cX4_copyFrom 1 = .ok (.aload_n 1, 1) := dg dtX4_copyFrom_0_ok 1 rfl
theorem dX4_copyFrom_2 : decode cX4_copyFrom 2 = .ok (.getfield 7, 3) := dg dtX4_copyFrom_0_ok 2 rfl
theorem dX4_copyFrom_5 : decode cX4_copyFrom 5 = .ok (.putfield 7, 3) := dg dtX4_copyFrom_0_ok 3 rfl
theorem dX4_copyFrom_8 : decode cX4_copyFrom 8 = .ok (.aload_n 0, 1) := dg dtX4_copyFrom_0_ok 4 rfl
theorem dX4_copyFrom_9 : decode cX4_copyFrom 9 = .ok (.aload_n 1, 1) := dg dtX4_copyFrom_0_ok 5 rfl
theorem dX4_copyFrom_10 : decode cX4_copyFrom 10 = .ok (.getfield 13, 3) := dg dtX4_copyFrom_0_ok 6 rfl
theorem dX4_copyFrom_13 : decode cX4_copyFrom 13 = .ok (.putfield 13, 3) := dg dtX4_copyFrom_0_ok 7 rfl
theorem dX4_copyFrom_16 : decode cX4_copyFrom 16 = .ok (.aload_n 0, 1) := dg dtX4_copyFrom_0_ok 8 rfl
theorem dX4_copyFrom_17 : decode cX4_copyFrom 17 = .ok (.aload_n 1, 1) := dg dtX4_copyFrom_0_ok 9 rfl
theorem dX4_copyFrom_18 : decode cX4_copyFrom 18 = .ok (.getfield 17, 3) := dg dtX4_copyFrom_0_ok 10 rfl
theorem dX4_copyFrom_21 : decode cX4_copyFrom 21 = .ok (.putfield 17, 3) := dg dtX4_copyFrom_0_ok 11 rfl
theorem dX4_copyFrom_24 : decode cX4_copyFrom 24 = .ok (.aload_n 0, 1) := dg dtX4_copyFrom_0_ok 12 rfl
theorem dX4_copyFrom_25 : decode cX4_copyFrom 25 = .ok (.aload_n 1, 1) := dg dtX4_copyFrom_0_ok 13 rfl
theorem dX4_copyFrom_26 : decode cX4_copyFrom 26 = .ok (.getfield 20, 3) := dg dtX4_copyFrom_0_ok 14 rfl
theorem dX4_copyFrom_29 : decode cX4_copyFrom 29 = .ok (.putfield 20, 3) := dg dtX4_copyFrom_0_ok 15 rfl
theorem dX4_copyFrom_32 : decode cX4_copyFrom 32 = .ok (.return_, 1) := dg dtX4_copyFrom_0_ok 16 rfl
def dtX4_payIn_0 : List (Nat × Instr × Nat) := [(0, .aload_n 0, 1), (1, .getfield 17, 3), (4, .iload_n 1, 1), (5, .invokestatic 23, 3), (8, .istore_n 2, 1), (9, .aload_n 0, 1), (10, .dup, 1), (11, .getfield 17, 3), (14, .iload_n 2, 1), (15, .isub, 1), (16, .putfield 17, 3), (19, .aload_n 0, 1), (20, .dup, 1), (21, .getfield 7, 3), (24, .iload_n 1, 1), (25, .iload_n 2, 1), (26, .isub, 1), (27, .i2l, 1), (28, .ladd, 1), (29, .putfield 7, 3), (32, .return_, 1)]
theorem dtX4_payIn_0_ok : ∀ q ∈ dtX4_payIn_0, decode cX4_payIn q.1 = .ok q.2 := by decide +kernel
theorem dX4_payIn_0 : decode cX4_payIn 0 = .ok (.aload_n 0, 1) := dg dtX4_payIn_0_ok 0 rfl
theorem dX4_payIn_1 : decode cX4_payIn 1 = .ok (.getfield 17, 3) := dg dtX4_payIn_0_ok 1 rfl
theorem dX4_payIn_4 : decode cX4_payIn 4 = .ok (.iload_n 1, 1) := dg dtX4_payIn_0_ok 2 rfl
theorem dX4_payIn_5 : decode cX4_payIn 5 = .ok (.invokestatic 23, 3) := dg dtX4_payIn_0_ok 3 rfl
theorem dX4_payIn_8 : decode cX4_payIn 8 = .ok (.istore_n 2, 1) := dg dtX4_payIn_0_ok 4 rfl
theorem dX4_payIn_9 : decode cX4_payIn 9 = .ok (.aload_n 0, 1) := dg dtX4_payIn_0_ok 5 rfl
theorem dX4_payIn_10 : decode cX4_payIn 10 = .ok (.dup, 1) := dg dtX4_payIn_0_ok 6 rfl
theorem dX4_payIn_11 : decode cX4_payIn 11 = .ok (.getfield 17, 3) := dg dtX4_payIn_0_ok 7 rfl
theorem dX4_payIn_14 : decode cX4_payIn 14 = .ok (.iload_n 2, 1) := dg dtX4_payIn_0_ok 8 rfl
theorem dX4_payIn_15 : decode cX4_payIn 15 = .ok (.isub, 1) := dg dtX4_payIn_0_ok 9 rfl
theorem dX4_payIn_16 : decode cX4_payIn 16 = .ok (.putfield 17, 3) := dg dtX4_payIn_0_ok 10 rfl
theorem dX4_payIn_19 : decode cX4_payIn 19 = .ok (.aload_n 0, 1) := dg dtX4_payIn_0_ok 11 rfl
theorem dX4_payIn_20 : decode cX4_payIn 20 = .ok (.dup, 1) := dg dtX4_payIn_0_ok 12 rfl
theorem dX4_payIn_21 : decode cX4_payIn 21 = .ok (.getfield 7, 3) := dg dtX4_payIn_0_ok 13 rfl
theorem dX4_payIn_24 : decode cX4_payIn 24 = .ok (.iload_n 1, 1) := dg dtX4_payIn_0_ok 14 rfl
theorem dX4_payIn_25 : decode cX4_payIn 25 = .ok (.iload_n 2, 1) := dg dtX4_payIn_0_ok 15 rfl
theorem dX4_payIn_26 : decode cX4_payIn 26 = .ok (.isub, 1) := dg dtX4_payIn_0_ok 16 rfl
theorem dX4_payIn_27 : decode cX4_payIn 27 = .ok (.i2l, 1) := dg dtX4_payIn_0_ok 17 rfl
theorem dX4_payIn_28 : decode cX4_payIn 28 = .ok (.ladd, 1) := dg dtX4_payIn_0_ok 18 rfl
theorem dX4_payIn_29 : decode cX4_payIn 29 = .ok (.putfield 7, 3) := dg dtX4_payIn_0_ok 19 rfl
theorem dX4_payIn_32 : decode cX4_payIn 32 = .ok (.return_, 1) := dg dtX4_payIn_0_ok 20 rfl
def dtX4_answerFor_0 : List (Nat × Instr × Nat) := [(0, .aload_n 0, 1), (1, .getfield 13, 3), (4, .iload_n 1, 1), (5, .if_icmp .ge 10, 3), (8, .aload_n 0, 1), (9, .getfield 13, 3), (12, .goto 4, 3), (15, .iload_n 1, 1), (16, .istore_n 2, 1), (17, .aload_n 0, 1), (18, .dup, 1), (19, .getfield 13, 3), (22, .iload_n 2, 1), (23, .isub, 1), (24, .putfield 13, 3), (27, .aload_n 0, 1), (28, .dup, 1), (29, .getfield 17, 3), (32, .iload_n 1, 1), (33, .iload_n 2, 1), (34, .isub, 1), (35, .iadd, 1), (36, .putfield 17, 3), (39, .aload_n 0, 1), (40, .dup, 1), (41, .getfield 20, 3), (44, .iload_n 1, 1), (45, .iadd, 1), (46, .putfield 20, 3), (49, .return_, 1)]
theorem dtX4_answerFor_0_ok : ∀ q ∈ dtX4_answerFor_0, decode cX4_answerFor q.1 = .ok q.2 := by decide +kernel
theorem dX4_answerFor_0 : decode cX4_answerFor 0 = .ok (.aload_n 0, 1) := dg dtX4_answerFor_0_ok 0 rfl
theorem dX4_answerFor_1 : decode cX4_answerFor 1 = .ok (.getfield 13, 3) := dg dtX4_answerFor_0_ok 1 rfl
theorem dX4_answerFor_4 : decode cX4_answerFor 4 = .ok (.iload_n 1, 1) := dg dtX4_answerFor_0_ok 2 rfl
theorem dX4_answerFor_5 : decode cX4_answerFor 5 = .ok (.if_icmp .ge 10, 3) := dg dtX4_answerFor_0_ok 3 rfl
theorem dX4_answerFor_8 : decode cX4_answerFor 8 = .ok (.aload_n 0, 1) := dg dtX4_answerFor_0_ok 4 rfl
theorem dX4_answerFor_9 : decode cX4_answerFor 9 = .ok (.getfield 13, 3) := dg dtX4_answerFor_0_ok 5 rfl
theorem dX4_answerFor_12 : decode cX4_answerFor 12 = .ok (.goto 4, 3) := dg dtX4_answerFor_0_ok 6 rfl
theorem dX4_answerFor_15 : decode cX4_answerFor 15 = .ok (.iload_n 1, 1) := dg dtX4_answerFor_0_ok 7 rfl
theorem dX4_answerFor_16 : decode cX4_answerFor 16 = .ok (.istore_n 2, 1) := dg dtX4_answerFor_0_ok 8 rfl
theorem dX4_answerFor_17 : decode cX4_answerFor 17 = .ok (.aload_n 0, 1) := dg dtX4_answerFor_0_ok 9 rfl
theorem dX4_answerFor_18 : decode cX4_answerFor 18 = .ok (.dup, 1) := dg dtX4_answerFor_0_ok 10 rfl
theorem dX4_answerFor_19 : decode cX4_answerFor 19 = .ok (.getfield 13, 3) := dg dtX4_answerFor_0_ok 11 rfl
theorem dX4_answerFor_22 : decode cX4_answerFor 22 = .ok (.iload_n 2, 1) := dg dtX4_answerFor_0_ok 12 rfl
theorem dX4_answerFor_23 : decode cX4_answerFor 23 = .ok (.isub, 1) := dg dtX4_answerFor_0_ok 13 rfl
theorem dX4_answerFor_24 : decode cX4_answerFor 24 = .ok (.putfield 13, 3) := dg dtX4_answerFor_0_ok 14 rfl
theorem dX4_answerFor_27 : decode cX4_answerFor 27 = .ok (.aload_n 0, 1) := dg dtX4_answerFor_0_ok 15 rfl
theorem dX4_answerFor_28 : decode cX4_answerFor 28 = .ok (.dup, 1) := dg dtX4_answerFor_0_ok 16 rfl
theorem dX4_answerFor_29 : decode cX4_answerFor 29 = .ok (.getfield 17, 3) := dg dtX4_answerFor_0_ok 17 rfl
theorem dX4_answerFor_32 : decode cX4_answerFor 32 = .ok (.iload_n 1, 1) := dg dtX4_answerFor_0_ok 18 rfl
theorem dX4_answerFor_33 : decode cX4_answerFor 33 = .ok (.iload_n 2, 1) := dg dtX4_answerFor_0_ok 19 rfl
theorem dX4_answerFor_34 : decode cX4_answerFor 34 = .ok (.isub, 1) := dg dtX4_answerFor_0_ok 20 rfl
theorem dX4_answerFor_35 : decode cX4_answerFor 35 = .ok (.iadd, 1) := dg dtX4_answerFor_0_ok 21 rfl
theorem dX4_answerFor_36 : decode cX4_answerFor 36 = .ok (.putfield 17, 3) := dg dtX4_answerFor_0_ok 22 rfl
theorem dX4_answerFor_39 : decode cX4_answerFor 39 = .ok (.aload_n 0, 1) := dg dtX4_answerFor_0_ok 23 rfl
theorem dX4_answerFor_40 : decode cX4_answerFor 40 = .ok (.dup, 1) := dg dtX4_answerFor_0_ok 24 rfl
theorem dX4_answerFor_41 : decode cX4_answerFor 41 = .ok (.getfield 20, 3) := dg dtX4_answerFor_0_ok 25 rfl
theorem dX4_answerFor_44 : decode cX4_answerFor 44 = .ok (.iload_n 1, 1) := dg dtX4_answerFor_0_ok 26 rfl
theorem dX4_answerFor_45 : decode cX4_answerFor 45 = .ok (.iadd, 1) := dg dtX4_answerFor_0_ok 27 rfl
theorem dX4_answerFor_46 : decode cX4_answerFor 46 = .ok (.putfield 20, 3) := dg dtX4_answerFor_0_ok 28 rfl
theorem dX4_answerFor_49 : decode cX4_answerFor 49 = .ok (.return_, 1) := dg dtX4_answerFor_0_ok 29 rfl
def dtX5_init_0 : List (Nat × Instr × Nat) := [(0, .aload_n 0, 1), (1, .invokespecial 3, 3), (4, .aload_n 0, 1), (5, .bipush 6, 2), (7, .newarray .int, 2), (9, .putfield 9, 3), (12, .iconst 0, 1), (13, .istore_n 1, 1), (14, .iload_n 1, 1), (15, .bipush 6, 2), (17, .if_icmp .ge 17, 3), (20, .aload_n 0, 1), (21, .getfield 9, 3), (24, .iload_n 1, 1), (25, .bipush 100, 2), (27, .iastore, 1), (28, .iinc 1 1, 3), (31, .goto (-17), 3), (34, .aload_n 0, 1), (35, .bipush 100, 2), (37, .putfield 15, 3), (40, .aload_n 0, 1), (41, .bipush 30, 2), (43, .putfield 19, 3), (46, .aload_n 0, 1), (47, .bipush 20, 2), (49, .putfield 22, 3), (52, .aload_n 0, 1), (53, .bipush 20, 2), (55, .putfield 25, 3), (58, .aload_n 0, 1), (59, .bipush 10, 2), (61, .putfield 28, 3), (64, .return_, 1)]
theorem dtX5_init_0_ok : ∀ q ∈ dtX5_init_0, decode cX5_init q.1 = .ok q.2 := by decide +kernel
theorem dX5_init_0 : decode cX5_init 0 = .ok (.aload_n 0, 1) := dg dtX5_init_0_ok 0 rfl
theorem dX5_init_1 : decode cX5_init 1 = .ok (.invokespecial 3, 3) := dg dtX5_init_0_ok 1 rfl
theorem dX5_init_4 : decode cX5_init 4 = .ok (.aload_n 0, 1) := dg dtX5_init_0_ok 2 rfl
theorem dX5_init_5 : decode cX5_init 5 = .ok (.bipush 6, 2) := dg dtX5_init_0_ok 3 rfl
theorem dX5_init_7 : decode cX5_init 7 = .ok (.newarray .int, 2) := dg dtX5_init_0_ok 4 rfl
theorem dX5_init_9 : decode cX5_init 9 = .ok (.putfield 9, 3) := dg dtX5_init_0_ok 5 rfl
theorem dX5_init_12 : decode cX5_init 12 = .ok (.iconst 0, 1) := dg dtX5_init_0_ok 6 rfl
theorem dX5_init_13 : decode cX5_init 13 = .ok (.istore_n 1, 1) := dg dtX5_init_0_ok 7 rfl
theorem dX5_init_14 : decode cX5_init 14 = .ok (.iload_n 1, 1) := dg dtX5_init_0_ok 8 rfl
theorem dX5_init_15 : decode cX5_init 15 = .ok (.bipush 6, 2) := dg dtX5_init_0_ok 9 rfl
theorem dX5_init_17 : decode cX5_init 17 = .ok (.if_icmp .ge 17, 3) := dg dtX5_init_0_ok 10 rfl
theorem dX5_init_20 : decode cX5_init 20 = .ok (.aload_n 0, 1) := dg dtX5_init_0_ok 11 rfl
theorem dX5_init_21 : decode cX5_init 21 = .ok (.getfield 9, 3) := dg dtX5_init_0_ok 12 rfl
theorem dX5_init_24 : decode cX5_init 24 = .ok (.iload_n 1, 1) := dg dtX5_init_0_ok 13 rfl
theorem dX5_init_25 : decode cX5_init 25 = .ok (.bipush 100, 2) := dg dtX5_init_0_ok 14 rfl
theorem dX5_init_27 : decode cX5_init 27 = .ok (.iastore, 1) := dg dtX5_init_0_ok 15 rfl
theorem dX5_init_28 : decode cX5_init 28 = .ok (.iinc 1 1, 3) := dg dtX5_init_0_ok 16 rfl
theorem dX5_init_31 : decode cX5_init 31 = .ok (.goto (-17), 3) := dg dtX5_init_0_ok 17 rfl
theorem dX5_init_34 : decode cX5_init 34 = .ok (.aload_n 0, 1) := dg dtX5_init_0_ok 18 rfl
theorem dX5_init_35 : decode cX5_init 35 = .ok (.bipush 100, 2) := dg dtX5_init_0_ok 19 rfl
theorem dX5_init_37 : decode cX5_init 37 = .ok (.putfield 15, 3) := dg dtX5_init_0_ok 20 rfl
theorem dX5_init_40 : decode cX5_init 40 = .ok (.aload_n 0, 1) := dg dtX5_init_0_ok 21 rfl
theorem dX5_init_41 : decode cX5_init 41 = .ok (.bipush 30, 2) := dg dtX5_init_0_ok 22 rfl
theorem dX5_init_43 : decode cX5_init 43 = .ok (.putfield 19, 3) := dg dtX5_init_0_ok 23 rfl
theorem dX5_init_46 : decode cX5_init 46 = .ok (.aload_n 0, 1) := dg dtX5_init_0_ok 24 rfl
theorem dX5_init_47 : decode cX5_init 47 = .ok (.bipush 20, 2) := dg dtX5_init_0_ok 25 rfl
theorem dX5_init_49 : decode cX5_init 49 = .ok (.putfield 22, 3) := dg dtX5_init_0_ok 26 rfl
theorem dX5_init_52 : decode cX5_init 52 = .ok (.aload_n 0, 1) := dg dtX5_init_0_ok 27 rfl
theorem dX5_init_53 : decode cX5_init 53 = .ok (.bipush 20, 2) := dg dtX5_init_0_ok 28 rfl
theorem dX5_init_55 : decode cX5_init 55 = .ok (.putfield 25, 3) := dg dtX5_init_0_ok 29 rfl
theorem dX5_init_58 : decode cX5_init 58 = .ok (.aload_n 0, 1) := dg dtX5_init_0_ok 30 rfl
theorem dX5_init_59 : decode cX5_init 59 = .ok (.bipush 10, 2) := dg dtX5_init_0_ok 31 rfl
theorem dX5_init_61 : decode cX5_init 61 = .ok (.putfield 28, 3) := dg dtX5_init_0_ok 32 rfl
theorem dX5_init_64 : decode cX5_init 64 = .ok (.return_, 1) := dg dtX5_init_0_ok 33 rfl
def dtX5_copyFrom_0 : List (Nat × Instr × Nat) := [(0, .aload_n 1, 1), (1, .getfield 9, 3), (4, .iconst 0, 1), (5, .aload_n 0, 1), (6, .getfield 9, 3), (9, .iconst 0, 1), (10, .bipush 6, 2), (12, .invokestatic 31, 3), (15, .aload_n 0, 1), (16, .aload_n 1, 1), (17, .getfield 15, 3), (20, .putfield 15, 3), (23, .aload_n 0, 1), (24, .aload_n 1, 1), (25, .getfield 19, 3), (28, .putfield 19, 3), (31, .aload_n 0, 1), (32, .aload_n 1, 1), (33, .getfield 22, 3), (36, .putfield 22, 3), (39, .aload_n 0, 1), (40, .aload_n 1, 1), (41, .getfield 25, 3), (44, .putfield 25, 3), (47, .aload_n 0, 1), (48, .aload_n 1, 1), (49, .getfield 28, 3), (52, .putfield 28, 3), (55, .return_, 1)]
theorem dtX5_copyFrom_0_ok : ∀ q ∈ dtX5_copyFrom_0, decode cX5_copyFrom q.1 = .ok q.2 := by decide +kernel
theorem dX5_copyFrom_0 : decode cX5_copyFrom 0 = .ok (.aload_n 1, 1) := dg dtX5_copyFrom_0_ok 0 rfl
theorem dX5_copyFrom_1 : decode cX5_copyFrom 1 = .ok (.getfield 9, 3) := dg dtX5_copyFrom_0_ok 1 rfl
theorem dX5_copyFrom_4 : decode cX5_copyFrom 4 = .ok (.iconst 0, 1) := dg dtX5_copyFrom_0_ok 2 rfl
theorem dX5_copyFrom_5 : decode cX5_copyFrom 5 = .ok (.aload_n 0, 1) := dg dtX5_copyFrom_0_ok 3 rfl
theorem dX5_copyFrom_6 : decode cX5_copyFrom 6 = .ok (.getfield 9, 3) := dg dtX5_copyFrom_0_ok 4 rfl
theorem dX5_copyFrom_9 : decode cX5_copyFrom 9 = .ok (.iconst 0, 1) := dg dtX5_copyFrom_0_ok 5 rfl
theorem dX5_copyFrom_10 : decode cX5_copyFrom 10 = .ok (.bipush 6, 2) := dg dtX5_copyFrom_0_ok 6 rfl
theorem dX5_copyFrom_12 : decode cX5_copyFrom 12 = .ok (.invokestatic 31, 3) := dg dtX5_copyFrom_0_ok 7 rfl
theorem dX5_copyFrom_15 : decode cX5_copyFrom 15 = .ok (.aload_n 0, 1) := dg dtX5_copyFrom_0_ok 8 rfl
theorem dX5_copyFrom_16 : decode cX5_copyFrom 16 = .ok (.aload_n 1, 1) := dg dtX5_copyFrom_0_ok 9 rfl
theorem dX5_copyFrom_17 : decode cX5_copyFrom 17 = .ok (.getfield 15, 3) := dg dtX5_copyFrom_0_ok 10 rfl
theorem dX5_copyFrom_20 : decode cX5_copyFrom 20 = .ok (.putfield 15, 3) := dg dtX5_copyFrom_0_ok 11 rfl
theorem dX5_copyFrom_23 : decode cX5_copyFrom 23 = .ok (.aload_n 0, 1) := dg dtX5_copyFrom_0_ok 12 rfl
theorem dX5_copyFrom_24 : decode cX5_copyFrom 24 = .ok (.aload_n 1, 1) := dg dtX5_copyFrom_0_ok 13 rfl
theorem dX5_copyFrom_25 : decode cX5_copyFrom 25 = .ok (.getfield 19, 3) := dg dtX5_copyFrom_0_ok 14 rfl
theorem dX5_copyFrom_28 : decode cX5_copyFrom 28 = .ok (.putfield 19, 3) := dg dtX5_copyFrom_0_ok 15 rfl
theorem dX5_copyFrom_31 : decode cX5_copyFrom 31 = .ok (.aload_n 0, 1) := dg dtX5_copyFrom_0_ok 16 rfl
theorem dX5_copyFrom_32 : decode cX5_copyFrom 32 = .ok (.aload_n 1, 1) := dg dtX5_copyFrom_0_ok 17 rfl
theorem dX5_copyFrom_33 : decode cX5_copyFrom 33 = .ok (.getfield 22, 3) := dg dtX5_copyFrom_0_ok 18 rfl
theorem dX5_copyFrom_36 : decode cX5_copyFrom 36 = .ok (.putfield 22, 3) := dg dtX5_copyFrom_0_ok 19 rfl
theorem dX5_copyFrom_39 : decode cX5_copyFrom 39 = .ok (.aload_n 0, 1) := dg dtX5_copyFrom_0_ok 20 rfl
theorem dX5_copyFrom_40 : decode cX5_copyFrom 40 = .ok (.aload_n 1, 1) := dg dtX5_copyFrom_0_ok 21 rfl
theorem dX5_copyFrom_41 : decode cX5_copyFrom 41 = .ok (.getfield 25, 3) := dg dtX5_copyFrom_0_ok 22 rfl
theorem dX5_copyFrom_44 : decode cX5_copyFrom 44 = .ok (.putfield 25, 3) := dg dtX5_copyFrom_0_ok 23 rfl
theorem dX5_copyFrom_47 : decode cX5_copyFrom 47 = .ok (.aload_n 0, 1) := dg dtX5_copyFrom_0_ok 24 rfl
theorem dX5_copyFrom_48 : decode cX5_copyFrom 48 = .ok (.aload_n 1, 1) := dg dtX5_copyFrom_0_ok 25 rfl
theorem dX5_copyFrom_49 : decode cX5_copyFrom 49 = .ok (.getfield 28, 3) := dg dtX5_copyFrom_0_ok 26 rfl
theorem dX5_copyFrom_52 : decode cX5_copyFrom 52 = .ok (.putfield 28, 3) := dg dtX5_copyFrom_0_ok 27 rfl
theorem dX5_copyFrom_55 : decode cX5_copyFrom 55 = .ok (.return_, 1) := dg dtX5_copyFrom_0_ok 28 rfl
def dtX5_dutyOf_0 : List (Nat × Instr × Nat) := [(0, .iload_n 1, 1), (1, .ifCond .lt 9, 3), (4, .iload_n 1, 1), (5, .bipush 6, 2), (7, .if_icmp .lt 5, 3), (10, .iconst 0, 1), (11, .ireturn, 1), (12, .iload_n 2, 1), (13, .i2l, 1), (14, .aload_n 0, 1), (15, .getfield 9, 3), (18, .iload_n 1, 1), (19, .iaload, 1), (20, .i2l, 1), (21, .lmul, 1), (22, .ldc2_w 37, 3), (25, .ldiv, 1), (26, .l2i, 1), (27, .ireturn, 1)]
theorem dtX5_dutyOf_0_ok : ∀ q ∈ dtX5_dutyOf_0, decode cX5_dutyOf q.1 = .ok q.2 := by decide +kernel
theorem dX5_dutyOf_0 : decode cX5_dutyOf 0 = .ok (.iload_n 1, 1) := dg dtX5_dutyOf_0_ok 0 rfl
theorem dX5_dutyOf_1 : decode cX5_dutyOf 1 = .ok (.ifCond .lt 9, 3) := dg dtX5_dutyOf_0_ok 1 rfl
theorem dX5_dutyOf_4 : decode cX5_dutyOf 4 = .ok (.iload_n 1, 1) := dg dtX5_dutyOf_0_ok 2 rfl
theorem dX5_dutyOf_5 : decode cX5_dutyOf 5 = .ok (.bipush 6, 2) := dg dtX5_dutyOf_0_ok 3 rfl
theorem dX5_dutyOf_7 : decode cX5_dutyOf 7 = .ok (.if_icmp .lt 5, 3) := dg dtX5_dutyOf_0_ok 4 rfl
theorem dX5_dutyOf_10 : decode cX5_dutyOf 10 = .ok (.iconst 0, 1) := dg dtX5_dutyOf_0_ok 5 rfl
theorem dX5_dutyOf_11 : decode cX5_dutyOf 11 = .ok (.ireturn, 1) := dg dtX5_dutyOf_0_ok 6 rfl
theorem dX5_dutyOf_12 : decode cX5_dutyOf 12 = .ok (.iload_n 2, 1) := dg dtX5_dutyOf_0_ok 7 rfl
theorem dX5_dutyOf_13 : decode cX5_dutyOf 13 = .ok (.i2l, 1) := dg dtX5_dutyOf_0_ok 8 rfl
theorem dX5_dutyOf_14 : decode cX5_dutyOf 14 = .ok (.aload_n 0, 1) := dg dtX5_dutyOf_0_ok 9 rfl
theorem dX5_dutyOf_15 : decode cX5_dutyOf 15 = .ok (.getfield 9, 3) := dg dtX5_dutyOf_0_ok 10 rfl
theorem dX5_dutyOf_18 : decode cX5_dutyOf 18 = .ok (.iload_n 1, 1) := dg dtX5_dutyOf_0_ok 11 rfl
theorem dX5_dutyOf_19 : decode cX5_dutyOf 19 = .ok (.iaload, 1) := dg dtX5_dutyOf_0_ok 12 rfl
theorem dX5_dutyOf_20 : decode cX5_dutyOf 20 = .ok (.i2l, 1) := dg dtX5_dutyOf_0_ok 13 rfl
theorem dX5_dutyOf_21 : decode cX5_dutyOf 21 = .ok (.lmul, 1) := dg dtX5_dutyOf_0_ok 14 rfl
theorem dX5_dutyOf_22 : decode cX5_dutyOf 22 = .ok (.ldc2_w 37, 3) := dg dtX5_dutyOf_0_ok 15 rfl
theorem dX5_dutyOf_25 : decode cX5_dutyOf 25 = .ok (.ldiv, 1) := dg dtX5_dutyOf_0_ok 16 rfl
theorem dX5_dutyOf_26 : decode cX5_dutyOf 26 = .ok (.l2i, 1) := dg dtX5_dutyOf_0_ok 17 rfl
theorem dX5_dutyOf_27 : decode cX5_dutyOf 27 = .ok (.ireturn, 1) := dg dtX5_dutyOf_0_ok 18 rfl
def dtX5_covers_0 : List (Nat × Instr × Nat) := [(0, .iload_n 2, 1), (1, .i2l, 1), (2, .aload_n 0, 1), (3, .getfield 22, 3), (6, .i2l, 1), (7, .lmul, 1), (8, .ldc2_w 39, 3), (11, .ldiv, 1), (12, .iload_n 1, 1), (13, .i2l, 1), (14, .lcmp, 1), (15, .ifCond .gt 7, 3), (18, .iconst 1, 1), (19, .goto 4, 3), (22, .iconst 0, 1), (23, .ireturn, 1)]
theorem dtX5_covers_0_ok : ∀ q ∈ dtX5_covers_0, decode cX5_covers q.1 = .ok q.2 := by decide +kernel
theorem dX5_covers_0 : decode cX5_covers 0 = .ok (.iload_n 2, 1) := dg dtX5_covers_0_ok 0 rfl
theorem dX5_covers_1 : decode cX5_covers 1 = .ok (.i2l, 1) := dg dtX5_covers_0_ok 1 rfl
theorem dX5_covers_2 : decode cX5_covers 2 = .ok (.aload_n 0, 1) := dg dtX5_covers_0_ok 2 rfl
theorem dX5_covers_3 : decode cX5_covers 3 = .ok (.getfield 22, 3) := dg dtX5_covers_0_ok 3 rfl
theorem dX5_covers_6 : decode cX5_covers 6 = .ok (.i2l, 1) := dg dtX5_covers_0_ok 4 rfl
theorem dX5_covers_7 : decode cX5_covers 7 = .ok (.lmul, 1) := dg dtX5_covers_0_ok 5 rfl
theorem dX5_covers_8 : decode cX5_covers 8 = .ok (.ldc2_w 39, 3) := dg dtX5_covers_0_ok 6 rfl
theorem dX5_covers_11 : decode cX5_covers 11 = .ok (.ldiv, 1) := dg dtX5_covers_0_ok 7 rfl
theorem dX5_covers_12 : decode cX5_covers 12 = .ok (.iload_n 1, 1) := dg dtX5_covers_0_ok 8 rfl
theorem dX5_covers_13 : decode cX5_covers 13 = .ok (.i2l, 1) := dg dtX5_covers_0_ok 9 rfl
theorem dX5_covers_14 : decode cX5_covers 14 = .ok (.lcmp, 1) := dg dtX5_covers_0_ok 10 rfl
theorem dX5_covers_15 : decode cX5_covers 15 = .ok (.ifCond .gt 7, 3) := dg dtX5_covers_0_ok 11 rfl
theorem dX5_covers_18 : decode cX5_covers 18 = .ok (.iconst 1, 1) := dg dtX5_covers_0_ok 12 rfl
theorem dX5_covers_19 : decode cX5_covers 19 = .ok (.goto 4, 3) := dg dtX5_covers_0_ok 13 rfl
theorem dX5_covers_22 : decode cX5_covers 22 = .ok (.iconst 0, 1) := dg dtX5_covers_0_ok 14 rfl
theorem dX5_covers_23 : decode cX5_covers 23 = .ok (.ireturn, 1) := dg dtX5_covers_0_ok 15 rfl
def dtX5_freeUnitsOf_0 : List (Nat × Instr × Nat) := [(0, .aload_n 1, 1), (1, .getfield 41, 3), (4, .i2l, 1), (5, .aload_n 0, 1), (6, .getfield 25, 3), (9, .i2l, 1), (10, .lmul, 1), (11, .ldc2_w 37, 3), (14, .ldiv, 1), (15, .l2i, 1), (16, .istore_n 2, 1), (17, .iconst 0, 1), (18, .iload_n 2, 1), (19, .aload_n 1, 1), (20, .getfield 46, 3), (23, .isub, 1), (24, .invokestatic 49, 3), (27, .ireturn, 1)]
theorem dtX5_freeUnitsOf_0_ok : ∀ q ∈ dtX5_freeUnitsOf_0, decode cX5_freeUnitsOf q.1 = .ok q.2 := by decide +kernel
theorem dX5_freeUnitsOf_0 : decode cX5_freeUnitsOf 0 = .ok (.aload_n 1, 1) := dg dtX5_freeUnitsOf_0_ok 0 rfl
theorem dX5_freeUnitsOf_1 : decode cX5_freeUnitsOf 1 = .ok (.getfield 41, 3) := dg dtX5_freeUnitsOf_0_ok 1 rfl
theorem dX5_freeUnitsOf_4 : decode cX5_freeUnitsOf 4 = .ok (.i2l, 1) := dg dtX5_freeUnitsOf_0_ok 2 rfl
theorem dX5_freeUnitsOf_5 : decode cX5_freeUnitsOf 5 = .ok (.aload_n 0, 1) := dg dtX5_freeUnitsOf_0_ok 3 rfl
theorem dX5_freeUnitsOf_6 : decode cX5_freeUnitsOf 6 = .ok (.getfield 25, 3) := dg dtX5_freeUnitsOf_0_ok 4 rfl
theorem dX5_freeUnitsOf_9 : decode cX5_freeUnitsOf 9 = .ok (.i2l, 1) := dg dtX5_freeUnitsOf_0_ok 5 rfl
theorem dX5_freeUnitsOf_10 : decode cX5_freeUnitsOf 10 = .ok (.lmul, 1) := dg dtX5_freeUnitsOf_0_ok 6 rfl
theorem dX5_freeUnitsOf_11 : decode cX5_freeUnitsOf 11 = .ok (.ldc2_w 37, 3) := dg dtX5_freeUnitsOf_0_ok 7 rfl
theorem dX5_freeUnitsOf_14 : decode cX5_freeUnitsOf 14 = .ok (.ldiv, 1) := dg dtX5_freeUnitsOf_0_ok 8 rfl
theorem dX5_freeUnitsOf_15 : decode cX5_freeUnitsOf 15 = .ok (.l2i, 1) := dg dtX5_freeUnitsOf_0_ok 9 rfl
theorem dX5_freeUnitsOf_16 : decode cX5_freeUnitsOf 16 = .ok (.istore_n 2, 1) := dg dtX5_freeUnitsOf_0_ok 10 rfl
theorem dX5_freeUnitsOf_17 : decode cX5_freeUnitsOf 17 = .ok (.iconst 0, 1) := dg dtX5_freeUnitsOf_0_ok 11 rfl
theorem dX5_freeUnitsOf_18 : decode cX5_freeUnitsOf 18 = .ok (.iload_n 2, 1) := dg dtX5_freeUnitsOf_0_ok 12 rfl
theorem dX5_freeUnitsOf_19 : decode cX5_freeUnitsOf 19 = .ok (.aload_n 1, 1) := dg dtX5_freeUnitsOf_0_ok 13 rfl
theorem dX5_freeUnitsOf_20 : decode cX5_freeUnitsOf 20 = .ok (.getfield 46, 3) := dg dtX5_freeUnitsOf_0_ok 14 rfl
theorem dX5_freeUnitsOf_23 : decode cX5_freeUnitsOf 23 = .ok (.isub, 1) := dg dtX5_freeUnitsOf_0_ok 15 rfl
theorem dX5_freeUnitsOf_24 : decode cX5_freeUnitsOf 24 = .ok (.invokestatic 49, 3) := dg dtX5_freeUnitsOf_0_ok 16 rfl
theorem dX5_freeUnitsOf_27 : decode cX5_freeUnitsOf 27 = .ok (.ireturn, 1) := dg dtX5_freeUnitsOf_0_ok 17 rfl
def dtX6_init_0 : List (Nat × Instr × Nat) := [(0, .aload_n 0, 1), (1, .invokespecial 3, 3), (4, .aload_n 0, 1), (5, .new 9, 3), (8, .dup, 1), (9, .invokespecial 11, 3), (12, .putfield 12, 3), (15, .aload_n 0, 1), (16, .iconst 5, 1), (17, .anewarray 18, 3), (20, .putfield 20, 3), (23, .iconst 0, 1), (24, .istore_n 1, 1), (25, .iload_n 1, 1), (26, .iconst 5, 1), (27, .if_icmp .ge 22, 3), (30, .aload_n 0, 1), (31, .getfield 20, 3), (34, .iload_n 1, 1), (35, .new 18, 3), (38, .dup, 1), (39, .invokespecial 24, 3), (42, .aastore, 1), (43, .iinc 1 1, 3), (46, .goto (-21), 3), (49, .aload_n 0, 1), (50, .bipush 30, 2), (52, .anewarray 25, 3), (55, .putfield 27, 3), (58, .iconst 0, 1), (59, .istore_n 1, 1), (60, .iload_n 1, 1), (61, .bipush 30, 2), (63, .if_icmp .ge 22, 3), (66, .aload_n 0, 1), (67, .getfield 27, 3), (70, .iload_n 1, 1), (71, .new 25, 3), (74, .dup, 1), (75, .invokespecial 31, 3), (78, .aastore, 1), (79, .iinc 1 1, 3), (82, .goto (-22), 3), (85, .aload_n 0, 1), (86, .bipush 30, 2), (88, .anewarray 32, 3), (91, .putfield 34, 3), (94, .iconst 0, 1)]
theorem dtX6_init_0_ok : ∀ q ∈ dtX6_init_0, decode cX6_init q.1 = .ok q.2 := by decide +kernel
theorem dX6_init_0 : decode cX6_init 0 = .ok (.aload_n 0, 1) := dg dtX6_init_0_ok 0 rfl
theorem dX6_init_1 : decode cX6_init 1 = .ok (.invokespecial 3, 3) := dg dtX6_init_0_ok 1 rfl
theorem dX6_init_4 : decode cX6_init 4 = .ok (.aload_n 0, 1) := dg dtX6_init_0_ok 2 rfl
theorem dX6_init_5 : decode cX6_init 5 = .ok (.new 9, 3) := dg dtX6_init_0_ok 3 rfl
theorem dX6_init_8 : decode cX6_init 8 = .ok (.dup, 1) := dg dtX6_init_0_ok 4 rfl
theorem dX6_init_9 : decode cX6_init 9 = .ok (.invokespecial 11, 3) := dg dtX6_init_0_ok 5 rfl
theorem dX6_init_12 : decode cX6_init 12 = .ok (.putfield 12, 3) := dg dtX6_init_0_ok 6 rfl
theorem dX6_init_15 : decode cX6_init 15 = .ok (.aload_n 0, 1) := dg dtX6_init_0_ok 7 rfl
theorem dX6_init_16 : decode cX6_init 16 = .ok (.iconst 5, 1) := dg dtX6_init_0_ok 8 rfl
theorem dX6_init_17 : decode cX6_init 17 = .ok (.anewarray 18, 3) := dg dtX6_init_0_ok 9 rfl
theorem dX6_init_20 : decode cX6_init 20 = .ok (.putfield 20, 3) := dg dtX6_init_0_ok 10 rfl
theorem dX6_init_23 : decode cX6_init 23 = .ok (.iconst 0, 1) := dg dtX6_init_0_ok 11 rfl
theorem dX6_init_24 : decode cX6_init 24 = .ok (.istore_n 1, 1) := dg dtX6_init_0_ok 12 rfl
theorem dX6_init_25 : decode cX6_init 25 = .ok (.iload_n 1, 1) := dg dtX6_init_0_ok 13 rfl
theorem dX6_init_26 : decode cX6_init 26 = .ok (.iconst 5, 1) := dg dtX6_init_0_ok 14 rfl
theorem dX6_init_27 : decode cX6_init 27 = .ok (.if_icmp .ge 22, 3) := dg dtX6_init_0_ok 15 rfl
theorem dX6_init_30 : decode cX6_init 30 = .ok (.aload_n 0, 1) := dg dtX6_init_0_ok 16 rfl
theorem dX6_init_31 : decode cX6_init 31 = .ok (.getfield 20, 3) := dg dtX6_init_0_ok 17 rfl
theorem dX6_init_34 : decode cX6_init 34 = .ok (.iload_n 1, 1) := dg dtX6_init_0_ok 18 rfl
theorem dX6_init_35 : decode cX6_init 35 = .ok (.new 18, 3) := dg dtX6_init_0_ok 19 rfl
theorem dX6_init_38 : decode cX6_init 38 = .ok (.dup, 1) := dg dtX6_init_0_ok 20 rfl
theorem dX6_init_39 : decode cX6_init 39 = .ok (.invokespecial 24, 3) := dg dtX6_init_0_ok 21 rfl
theorem dX6_init_42 : decode cX6_init 42 = .ok (.aastore, 1) := dg dtX6_init_0_ok 22 rfl
theorem dX6_init_43 : decode cX6_init 43 = .ok (.iinc 1 1, 3) := dg dtX6_init_0_ok 23 rfl
theorem dX6_init_46 : decode cX6_init 46 = .ok (.goto (-21), 3) := dg dtX6_init_0_ok 24 rfl
theorem dX6_init_49 : decode cX6_init 49 = .ok (.aload_n 0, 1) := dg dtX6_init_0_ok 25 rfl
theorem dX6_init_50 : decode cX6_init 50 = .ok (.bipush 30, 2) := dg dtX6_init_0_ok 26 rfl
theorem dX6_init_52 : decode cX6_init 52 = .ok (.anewarray 25, 3) := dg dtX6_init_0_ok 27 rfl
theorem dX6_init_55 : decode cX6_init 55 = .ok (.putfield 27, 3) := dg dtX6_init_0_ok 28 rfl
theorem dX6_init_58 : decode cX6_init 58 = .ok (.iconst 0, 1) := dg dtX6_init_0_ok 29 rfl
theorem dX6_init_59 : decode cX6_init 59 = .ok (.istore_n 1, 1) := dg dtX6_init_0_ok 30 rfl
theorem dX6_init_60 : decode cX6_init 60 = .ok (.iload_n 1, 1) := dg dtX6_init_0_ok 31 rfl
theorem dX6_init_61 : decode cX6_init 61 = .ok (.bipush 30, 2) := dg dtX6_init_0_ok 32 rfl
theorem dX6_init_63 : decode cX6_init 63 = .ok (.if_icmp .ge 22, 3) := dg dtX6_init_0_ok 33 rfl
theorem dX6_init_66 : decode cX6_init 66 = .ok (.aload_n 0, 1) := dg dtX6_init_0_ok 34 rfl
theorem dX6_init_67 : decode cX6_init 67 = .ok (.getfield 27, 3) := dg dtX6_init_0_ok 35 rfl
theorem dX6_init_70 : decode cX6_init 70 = .ok (.iload_n 1, 1) := dg dtX6_init_0_ok 36 rfl
theorem dX6_init_71 : decode cX6_init 71 = .ok (.new 25, 3) := dg dtX6_init_0_ok 37 rfl
theorem dX6_init_74 : decode cX6_init 74 = .ok (.dup, 1) := dg dtX6_init_0_ok 38 rfl
theorem dX6_init_75 : decode cX6_init 75 = .ok (.invokespecial 31, 3) := dg dtX6_init_0_ok 39 rfl
theorem dX6_init_78 : decode cX6_init 78 = .ok (.aastore, 1) := dg dtX6_init_0_ok 40 rfl
theorem dX6_init_79 : decode cX6_init 79 = .ok (.iinc 1 1, 3) := dg dtX6_init_0_ok 41 rfl
theorem dX6_init_82 : decode cX6_init 82 = .ok (.goto (-22), 3) := dg dtX6_init_0_ok 42 rfl
theorem dX6_init_85 : decode cX6_init 85 = .ok (.aload_n 0, 1) := dg dtX6_init_0_ok 43 rfl
theorem dX6_init_86 : decode cX6_init 86 = .ok (.bipush 30, 2) := dg dtX6_init_0_ok 44 rfl
theorem dX6_init_88 : decode cX6_init 88 = .ok (.anewarray 32, 3) := dg dtX6_init_0_ok 45 rfl
theorem dX6_init_91 : decode cX6_init 91 = .ok (.putfield 34, 3) := dg dtX6_init_0_ok 46 rfl
theorem dX6_init_94 : decode cX6_init 94 = .ok (.iconst 0, 1) := dg dtX6_init_0_ok 47 rfl
def dtX6_init_1 : List (Nat × Instr × Nat) := [(95, .istore_n 1, 1), (96, .iload_n 1, 1), (97, .bipush 30, 2), (99, .if_icmp .ge 22, 3), (102, .aload_n 0, 1), (103, .getfield 34, 3), (106, .iload_n 1, 1), (107, .new 32, 3), (110, .dup, 1), (111, .invokespecial 38, 3), (114, .aastore, 1), (115, .iinc 1 1, 3), (118, .goto (-22), 3), (121, .return_, 1)]
theorem dtX6_init_1_ok : ∀ q ∈ dtX6_init_1, decode cX6_init q.1 = .ok q.2 := by decide +kernel
theorem dX6_init_95 : decode cX6_init 95 = .ok (.istore_n 1, 1) := dg dtX6_init_1_ok 0 rfl
theorem dX6_init_96 : decode cX6_init 96 = .ok (.iload_n 1, 1) := dg dtX6_init_1_ok 1 rfl
theorem dX6_init_97 : decode cX6_init 97 = .ok (.bipush 30, 2) := dg dtX6_init_1_ok 2 rfl
theorem dX6_init_99 : decode cX6_init 99 = .ok (.if_icmp .ge 22, 3) := dg dtX6_init_1_ok 3 rfl
theorem dX6_init_102 : decode cX6_init 102 = .ok (.aload_n 0, 1) := dg dtX6_init_1_ok 4 rfl
theorem dX6_init_103 : decode cX6_init 103 = .ok (.getfield 34, 3) := dg dtX6_init_1_ok 5 rfl
theorem dX6_init_106 : decode cX6_init 106 = .ok (.iload_n 1, 1) := dg dtX6_init_1_ok 6 rfl
theorem dX6_init_107 : decode cX6_init 107 = .ok (.new 32, 3) := dg dtX6_init_1_ok 7 rfl
theorem dX6_init_110 : decode cX6_init 110 = .ok (.dup, 1) := dg dtX6_init_1_ok 8 rfl
theorem dX6_init_111 : decode cX6_init 111 = .ok (.invokespecial 38, 3) := dg dtX6_init_1_ok 9 rfl
theorem dX6_init_114 : decode cX6_init 114 = .ok (.aastore, 1) := dg dtX6_init_1_ok 10 rfl
theorem dX6_init_115 : decode cX6_init 115 = .ok (.iinc 1 1, 3) := dg dtX6_init_1_ok 11 rfl
theorem dX6_init_118 : decode cX6_init 118 = .ok (.goto (-22), 3) := dg dtX6_init_1_ok 12 rfl
theorem dX6_init_121 : decode cX6_init 121 = .ok (.return_, 1) := dg dtX6_init_1_ok 13 rfl
def dtX6_copyFrom_0 : List (Nat × Instr × Nat) := [(0, .aload_n 0, 1), (1, .getfield 12, 3), (4, .aload_n 1, 1), (5, .getfield 12, 3), (8, .invokevirtual 39, 3), (11, .iconst 0, 1), (12, .istore_n 2, 1), (13, .iload_n 2, 1), (14, .iconst 5, 1), (15, .if_icmp .ge 24, 3), (18, .aload_n 0, 1), (19, .getfield 20, 3), (22, .iload_n 2, 1), (23, .aaload, 1), (24, .aload_n 1, 1), (25, .getfield 20, 3), (28, .iload_n 2, 1), (29, .aaload, 1), (30, .invokevirtual 43, 3), (33, .iinc 2 1, 3), (36, .goto (-23), 3), (39, .iconst 0, 1), (40, .istore_n 2, 1), (41, .iload_n 2, 1), (42, .bipush 30, 2), (44, .if_icmp .ge 24, 3), (47, .aload_n 0, 1), (48, .getfield 27, 3), (51, .iload_n 2, 1), (52, .aaload, 1), (53, .aload_n 1, 1), (54, .getfield 27, 3), (57, .iload_n 2, 1), (58, .aaload, 1), (59, .invokevirtual 46, 3), (62, .iinc 2 1, 3), (65, .goto (-24), 3), (68, .iconst 0, 1), (69, .istore_n 2, 1), (70, .iload_n 2, 1), (71, .bipush 30, 2), (73, .if_icmp .ge 24, 3), (76, .aload_n 0, 1), (77, .getfield 34, 3), (80, .iload_n 2, 1), (81, .aaload, 1), (82, .aload_n 1, 1), (83, .getfield 34, 3)]
theorem dtX6_copyFrom_0_ok : ∀ q ∈ dtX6_copyFrom_0, decode cX6_copyFrom q.1 = .ok q.2 := by decide +kernel
theorem dX6_copyFrom_0 : decode cX6_copyFrom 0 = .ok (.aload_n 0, 1) := dg dtX6_copyFrom_0_ok 0 rfl
theorem dX6_copyFrom_1 : decode cX6_copyFrom 1 = .ok (.getfield 12, 3) := dg dtX6_copyFrom_0_ok 1 rfl
theorem dX6_copyFrom_4 : decode cX6_copyFrom 4 = .ok (.aload_n 1, 1) := dg dtX6_copyFrom_0_ok 2 rfl
theorem dX6_copyFrom_5 : decode cX6_copyFrom 5 = .ok (.getfield 12, 3) := dg dtX6_copyFrom_0_ok 3 rfl
theorem dX6_copyFrom_8 : decode cX6_copyFrom 8 = .ok (.invokevirtual 39, 3) := dg dtX6_copyFrom_0_ok 4 rfl
theorem dX6_copyFrom_11 : decode cX6_copyFrom 11 = .ok (.iconst 0, 1) := dg dtX6_copyFrom_0_ok 5 rfl
theorem dX6_copyFrom_12 : decode cX6_copyFrom 12 = .ok (.istore_n 2, 1) := dg dtX6_copyFrom_0_ok 6 rfl
theorem dX6_copyFrom_13 : decode cX6_copyFrom 13 = .ok (.iload_n 2, 1) := dg dtX6_copyFrom_0_ok 7 rfl
theorem dX6_copyFrom_14 : decode cX6_copyFrom 14 = .ok (.iconst 5, 1) := dg dtX6_copyFrom_0_ok 8 rfl
theorem dX6_copyFrom_15 : decode cX6_copyFrom 15 = .ok (.if_icmp .ge 24, 3) := dg dtX6_copyFrom_0_ok 9 rfl
theorem dX6_copyFrom_18 : decode cX6_copyFrom 18 = .ok (.aload_n 0, 1) := dg dtX6_copyFrom_0_ok 10 rfl
theorem dX6_copyFrom_19 : decode cX6_copyFrom 19 = .ok (.getfield 20, 3) := dg dtX6_copyFrom_0_ok 11 rfl
theorem dX6_copyFrom_22 : decode cX6_copyFrom 22 = .ok (.iload_n 2, 1) := dg dtX6_copyFrom_0_ok 12 rfl
theorem dX6_copyFrom_23 : decode cX6_copyFrom 23 = .ok (.aaload, 1) := dg dtX6_copyFrom_0_ok 13 rfl
theorem dX6_copyFrom_24 : decode cX6_copyFrom 24 = .ok (.aload_n 1, 1) := dg dtX6_copyFrom_0_ok 14 rfl
theorem dX6_copyFrom_25 : decode cX6_copyFrom 25 = .ok (.getfield 20, 3) := dg dtX6_copyFrom_0_ok 15 rfl
theorem dX6_copyFrom_28 : decode cX6_copyFrom 28 = .ok (.iload_n 2, 1) := dg dtX6_copyFrom_0_ok 16 rfl
theorem dX6_copyFrom_29 : decode cX6_copyFrom 29 = .ok (.aaload, 1) := dg dtX6_copyFrom_0_ok 17 rfl
theorem dX6_copyFrom_30 : decode cX6_copyFrom 30 = .ok (.invokevirtual 43, 3) := dg dtX6_copyFrom_0_ok 18 rfl
theorem dX6_copyFrom_33 : decode cX6_copyFrom 33 = .ok (.iinc 2 1, 3) := dg dtX6_copyFrom_0_ok 19 rfl
theorem dX6_copyFrom_36 : decode cX6_copyFrom 36 = .ok (.goto (-23), 3) := dg dtX6_copyFrom_0_ok 20 rfl
theorem dX6_copyFrom_39 : decode cX6_copyFrom 39 = .ok (.iconst 0, 1) := dg dtX6_copyFrom_0_ok 21 rfl
theorem dX6_copyFrom_40 : decode cX6_copyFrom 40 = .ok (.istore_n 2, 1) := dg dtX6_copyFrom_0_ok 22 rfl
theorem dX6_copyFrom_41 : decode cX6_copyFrom 41 = .ok (.iload_n 2, 1) := dg dtX6_copyFrom_0_ok 23 rfl
theorem dX6_copyFrom_42 : decode cX6_copyFrom 42 = .ok (.bipush 30, 2) := dg dtX6_copyFrom_0_ok 24 rfl
theorem dX6_copyFrom_44 : decode cX6_copyFrom 44 = .ok (.if_icmp .ge 24, 3) := dg dtX6_copyFrom_0_ok 25 rfl
theorem dX6_copyFrom_47 : decode cX6_copyFrom 47 = .ok (.aload_n 0, 1) := dg dtX6_copyFrom_0_ok 26 rfl
theorem dX6_copyFrom_48 : decode cX6_copyFrom 48 = .ok (.getfield 27, 3) := dg dtX6_copyFrom_0_ok 27 rfl
theorem dX6_copyFrom_51 : decode cX6_copyFrom 51 = .ok (.iload_n 2, 1) := dg dtX6_copyFrom_0_ok 28 rfl
theorem dX6_copyFrom_52 : decode cX6_copyFrom 52 = .ok (.aaload, 1) := dg dtX6_copyFrom_0_ok 29 rfl
theorem dX6_copyFrom_53 : decode cX6_copyFrom 53 = .ok (.aload_n 1, 1) := dg dtX6_copyFrom_0_ok 30 rfl
theorem dX6_copyFrom_54 : decode cX6_copyFrom 54 = .ok (.getfield 27, 3) := dg dtX6_copyFrom_0_ok 31 rfl
theorem dX6_copyFrom_57 : decode cX6_copyFrom 57 = .ok (.iload_n 2, 1) := dg dtX6_copyFrom_0_ok 32 rfl
theorem dX6_copyFrom_58 : decode cX6_copyFrom 58 = .ok (.aaload, 1) := dg dtX6_copyFrom_0_ok 33 rfl
theorem dX6_copyFrom_59 : decode cX6_copyFrom 59 = .ok (.invokevirtual 46, 3) := dg dtX6_copyFrom_0_ok 34 rfl
theorem dX6_copyFrom_62 : decode cX6_copyFrom 62 = .ok (.iinc 2 1, 3) := dg dtX6_copyFrom_0_ok 35 rfl
theorem dX6_copyFrom_65 : decode cX6_copyFrom 65 = .ok (.goto (-24), 3) := dg dtX6_copyFrom_0_ok 36 rfl
theorem dX6_copyFrom_68 : decode cX6_copyFrom 68 = .ok (.iconst 0, 1) := dg dtX6_copyFrom_0_ok 37 rfl
theorem dX6_copyFrom_69 : decode cX6_copyFrom 69 = .ok (.istore_n 2, 1) := dg dtX6_copyFrom_0_ok 38 rfl
theorem dX6_copyFrom_70 : decode cX6_copyFrom 70 = .ok (.iload_n 2, 1) := dg dtX6_copyFrom_0_ok 39 rfl
theorem dX6_copyFrom_71 : decode cX6_copyFrom 71 = .ok (.bipush 30, 2) := dg dtX6_copyFrom_0_ok 40 rfl
theorem dX6_copyFrom_73 : decode cX6_copyFrom 73 = .ok (.if_icmp .ge 24, 3) := dg dtX6_copyFrom_0_ok 41 rfl
theorem dX6_copyFrom_76 : decode cX6_copyFrom 76 = .ok (.aload_n 0, 1) := dg dtX6_copyFrom_0_ok 42 rfl
theorem dX6_copyFrom_77 : decode cX6_copyFrom 77 = .ok (.getfield 34, 3) := dg dtX6_copyFrom_0_ok 43 rfl
theorem dX6_copyFrom_80 : decode cX6_copyFrom 80 = .ok (.iload_n 2, 1) := dg dtX6_copyFrom_0_ok 44 rfl
theorem dX6_copyFrom_81 : decode cX6_copyFrom 81 = .ok (.aaload, 1) := dg dtX6_copyFrom_0_ok 45 rfl
theorem dX6_copyFrom_82 : decode cX6_copyFrom 82 = .ok (.aload_n 1, 1) := dg dtX6_copyFrom_0_ok 46 rfl
theorem dX6_copyFrom_83 : decode cX6_copyFrom 83 = .ok (.getfield 34, 3) := dg dtX6_copyFrom_0_ok 47 rfl
def dtX6_copyFrom_1 : List (Nat × Instr × Nat) := [(86, .iload_n 2, 1), (87, .aaload, 1), (88, .invokevirtual 49, 3), (91, .iinc 2 1, 3), (94, .goto (-24), 3), (97, .aload_n 0, 1), (98, .aload_n 1, 1), (99, .getfield 52, 3), (102, .putfield 52, 3), (105, .aload_n 0, 1), (106, .aload_n 1, 1), (107, .getfield 56, 3), (110, .putfield 56, 3), (113, .aload_n 0, 1), (114, .aload_n 1, 1), (115, .getfield 59, 3), (118, .putfield 59, 3), (121, .aload_n 0, 1), (122, .aload_n 1, 1), (123, .getfield 62, 3), (126, .putfield 62, 3), (129, .aload_n 0, 1), (130, .aload_n 1, 1), (131, .getfield 65, 3), (134, .putfield 65, 3), (137, .aload_n 0, 1), (138, .aload_n 1, 1), (139, .getfield 68, 3), (142, .putfield 68, 3), (145, .aload_n 0, 1), (146, .aload_n 1, 1), (147, .getfield 72, 3), (150, .putfield 72, 3), (153, .return_, 1)]
theorem dtX6_copyFrom_1_ok : ∀ q ∈ dtX6_copyFrom_1, decode cX6_copyFrom q.1 = .ok q.2 := by decide +kernel
theorem dX6_copyFrom_86 : decode cX6_copyFrom 86 = .ok (.iload_n 2, 1) := dg dtX6_copyFrom_1_ok 0 rfl
theorem dX6_copyFrom_87 : decode cX6_copyFrom 87 = .ok (.aaload, 1) := dg dtX6_copyFrom_1_ok 1 rfl
theorem dX6_copyFrom_88 : decode cX6_copyFrom 88 = .ok (.invokevirtual 49, 3) := dg dtX6_copyFrom_1_ok 2 rfl
theorem dX6_copyFrom_91 : decode cX6_copyFrom 91 = .ok (.iinc 2 1, 3) := dg dtX6_copyFrom_1_ok 3 rfl
theorem dX6_copyFrom_94 : decode cX6_copyFrom 94 = .ok (.goto (-24), 3) := dg dtX6_copyFrom_1_ok 4 rfl
theorem dX6_copyFrom_97 : decode cX6_copyFrom 97 = .ok (.aload_n 0, 1) := dg dtX6_copyFrom_1_ok 5 rfl
theorem dX6_copyFrom_98 : decode cX6_copyFrom 98 = .ok (.aload_n 1, 1) := dg dtX6_copyFrom_1_ok 6 rfl
theorem dX6_copyFrom_99 : decode cX6_copyFrom 99 = .ok (.getfield 52, 3) := dg dtX6_copyFrom_1_ok 7 rfl
theorem dX6_copyFrom_102 : decode cX6_copyFrom 102 = .ok (.putfield 52, 3) := dg dtX6_copyFrom_1_ok 8 rfl
theorem dX6_copyFrom_105 : decode cX6_copyFrom 105 = .ok (.aload_n 0, 1) := dg dtX6_copyFrom_1_ok 9 rfl
theorem dX6_copyFrom_106 : decode cX6_copyFrom 106 = .ok (.aload_n 1, 1) := dg dtX6_copyFrom_1_ok 10 rfl
theorem dX6_copyFrom_107 : decode cX6_copyFrom 107 = .ok (.getfield 56, 3) := dg dtX6_copyFrom_1_ok 11 rfl
theorem dX6_copyFrom_110 : decode cX6_copyFrom 110 = .ok (.putfield 56, 3) := dg dtX6_copyFrom_1_ok 12 rfl
theorem dX6_copyFrom_113 : decode cX6_copyFrom 113 = .ok (.aload_n 0, 1) := dg dtX6_copyFrom_1_ok 13 rfl
theorem dX6_copyFrom_114 : decode cX6_copyFrom 114 = .ok (.aload_n 1, 1) := dg dtX6_copyFrom_1_ok 14 rfl
theorem dX6_copyFrom_115 : decode cX6_copyFrom 115 = .ok (.getfield 59, 3) := dg dtX6_copyFrom_1_ok 15 rfl
theorem dX6_copyFrom_118 : decode cX6_copyFrom 118 = .ok (.putfield 59, 3) := dg dtX6_copyFrom_1_ok 16 rfl
theorem dX6_copyFrom_121 : decode cX6_copyFrom 121 = .ok (.aload_n 0, 1) := dg dtX6_copyFrom_1_ok 17 rfl
theorem dX6_copyFrom_122 : decode cX6_copyFrom 122 = .ok (.aload_n 1, 1) := dg dtX6_copyFrom_1_ok 18 rfl
theorem dX6_copyFrom_123 : decode cX6_copyFrom 123 = .ok (.getfield 62, 3) := dg dtX6_copyFrom_1_ok 19 rfl
theorem dX6_copyFrom_126 : decode cX6_copyFrom 126 = .ok (.putfield 62, 3) := dg dtX6_copyFrom_1_ok 20 rfl
theorem dX6_copyFrom_129 : decode cX6_copyFrom 129 = .ok (.aload_n 0, 1) := dg dtX6_copyFrom_1_ok 21 rfl
theorem dX6_copyFrom_130 : decode cX6_copyFrom 130 = .ok (.aload_n 1, 1) := dg dtX6_copyFrom_1_ok 22 rfl
theorem dX6_copyFrom_131 : decode cX6_copyFrom 131 = .ok (.getfield 65, 3) := dg dtX6_copyFrom_1_ok 23 rfl
theorem dX6_copyFrom_134 : decode cX6_copyFrom 134 = .ok (.putfield 65, 3) := dg dtX6_copyFrom_1_ok 24 rfl
theorem dX6_copyFrom_137 : decode cX6_copyFrom 137 = .ok (.aload_n 0, 1) := dg dtX6_copyFrom_1_ok 25 rfl
theorem dX6_copyFrom_138 : decode cX6_copyFrom 138 = .ok (.aload_n 1, 1) := dg dtX6_copyFrom_1_ok 26 rfl
theorem dX6_copyFrom_139 : decode cX6_copyFrom 139 = .ok (.getfield 68, 3) := dg dtX6_copyFrom_1_ok 27 rfl
theorem dX6_copyFrom_142 : decode cX6_copyFrom 142 = .ok (.putfield 68, 3) := dg dtX6_copyFrom_1_ok 28 rfl
theorem dX6_copyFrom_145 : decode cX6_copyFrom 145 = .ok (.aload_n 0, 1) := dg dtX6_copyFrom_1_ok 29 rfl
theorem dX6_copyFrom_146 : decode cX6_copyFrom 146 = .ok (.aload_n 1, 1) := dg dtX6_copyFrom_1_ok 30 rfl
theorem dX6_copyFrom_147 : decode cX6_copyFrom 147 = .ok (.getfield 72, 3) := dg dtX6_copyFrom_1_ok 31 rfl
theorem dX6_copyFrom_150 : decode cX6_copyFrom 150 = .ok (.putfield 72, 3) := dg dtX6_copyFrom_1_ok 32 rfl
theorem dX6_copyFrom_153 : decode cX6_copyFrom 153 = .ok (.return_, 1) := dg dtX6_copyFrom_1_ok 33 rfl
def dtX6_findOwner_0 : List (Nat × Instr × Nat) := [(0, .iload_n 1, 1), (1, .ifCond .lt 11, 3), (4, .iload_n 1, 1), (5, .aload_n 0, 1), (6, .getfield 52, 3), (9, .if_icmp .lt 7, 3), (12, .aconst_null, 1), (13, .goto 9, 3), (16, .aload_n 0, 1), (17, .getfield 20, 3), (20, .iload_n 1, 1), (21, .aaload, 1), (22, .areturn, 1)]
theorem dtX6_findOwner_0_ok : ∀ q ∈ dtX6_findOwner_0, decode cX6_findOwner q.1 = .ok q.2 := by decide +kernel
theorem dX6_findOwner_0 : decode cX6_findOwner 0 = .ok (.iload_n 1, 1) := dg dtX6_findOwner_0_ok 0 rfl
theorem dX6_findOwner_1 : decode cX6_findOwner 1 = .ok (.ifCond .lt 11, 3) := dg dtX6_findOwner_0_ok 1 rfl
theorem dX6_findOwner_4 : decode cX6_findOwner 4 = .ok (.iload_n 1, 1) := dg dtX6_findOwner_0_ok 2 rfl
theorem dX6_findOwner_5 : decode cX6_findOwner 5 = .ok (.aload_n 0, 1) := dg dtX6_findOwner_0_ok 3 rfl
theorem dX6_findOwner_6 : decode cX6_findOwner 6 = .ok (.getfield 52, 3) := dg dtX6_findOwner_0_ok 4 rfl
theorem dX6_findOwner_9 : decode cX6_findOwner 9 = .ok (.if_icmp .lt 7, 3) := dg dtX6_findOwner_0_ok 5 rfl
theorem dX6_findOwner_12 : decode cX6_findOwner 12 = .ok (.aconst_null, 1) := dg dtX6_findOwner_0_ok 6 rfl
theorem dX6_findOwner_13 : decode cX6_findOwner 13 = .ok (.goto 9, 3) := dg dtX6_findOwner_0_ok 7 rfl
theorem dX6_findOwner_16 : decode cX6_findOwner 16 = .ok (.aload_n 0, 1) := dg dtX6_findOwner_0_ok 8 rfl
theorem dX6_findOwner_17 : decode cX6_findOwner 17 = .ok (.getfield 20, 3) := dg dtX6_findOwner_0_ok 9 rfl
theorem dX6_findOwner_20 : decode cX6_findOwner 20 = .ok (.iload_n 1, 1) := dg dtX6_findOwner_0_ok 10 rfl
theorem dX6_findOwner_21 : decode cX6_findOwner 21 = .ok (.aaload, 1) := dg dtX6_findOwner_0_ok 11 rfl
theorem dX6_findOwner_22 : decode cX6_findOwner 22 = .ok (.areturn, 1) := dg dtX6_findOwner_0_ok 12 rfl
def dtX6_findLot_0 : List (Nat × Instr × Nat) := [(0, .iload_n 1, 1), (1, .ifCond .lt 11, 3), (4, .iload_n 1, 1), (5, .aload_n 0, 1), (6, .getfield 56, 3), (9, .if_icmp .lt 7, 3), (12, .aconst_null, 1), (13, .goto 9, 3), (16, .aload_n 0, 1), (17, .getfield 27, 3), (20, .iload_n 1, 1), (21, .aaload, 1), (22, .areturn, 1)]
theorem dtX6_findLot_0_ok : ∀ q ∈ dtX6_findLot_0, decode cX6_findLot q.1 = .ok q.2 := by decide +kernel
theorem dX6_findLot_0 : decode cX6_findLot 0 = .ok (.iload_n 1, 1) := dg dtX6_findLot_0_ok 0 rfl
theorem dX6_findLot_1 : decode cX6_findLot 1 = .ok (.ifCond .lt 11, 3) := dg dtX6_findLot_0_ok 1 rfl
theorem dX6_findLot_4 : decode cX6_findLot 4 = .ok (.iload_n 1, 1) := dg dtX6_findLot_0_ok 2 rfl
theorem dX6_findLot_5 : decode cX6_findLot 5 = .ok (.aload_n 0, 1) := dg dtX6_findLot_0_ok 3 rfl
theorem dX6_findLot_6 : decode cX6_findLot 6 = .ok (.getfield 56, 3) := dg dtX6_findLot_0_ok 4 rfl
theorem dX6_findLot_9 : decode cX6_findLot 9 = .ok (.if_icmp .lt 7, 3) := dg dtX6_findLot_0_ok 5 rfl
theorem dX6_findLot_12 : decode cX6_findLot 12 = .ok (.aconst_null, 1) := dg dtX6_findLot_0_ok 6 rfl
theorem dX6_findLot_13 : decode cX6_findLot 13 = .ok (.goto 9, 3) := dg dtX6_findLot_0_ok 7 rfl
theorem dX6_findLot_16 : decode cX6_findLot 16 = .ok (.aload_n 0, 1) := dg dtX6_findLot_0_ok 8 rfl
theorem dX6_findLot_17 : decode cX6_findLot 17 = .ok (.getfield 27, 3) := dg dtX6_findLot_0_ok 9 rfl
theorem dX6_findLot_20 : decode cX6_findLot 20 = .ok (.iload_n 1, 1) := dg dtX6_findLot_0_ok 10 rfl
theorem dX6_findLot_21 : decode cX6_findLot 21 = .ok (.aaload, 1) := dg dtX6_findLot_0_ok 11 rfl
theorem dX6_findLot_22 : decode cX6_findLot 22 = .ok (.areturn, 1) := dg dtX6_findLot_0_ok 12 rfl
def dtX6_findExport_0 : List (Nat × Instr × Nat) := [(0, .iload_n 1, 1), (1, .ifCond .lt 11, 3), (4, .iload_n 1, 1), (5, .aload_n 0, 1), (6, .getfield 59, 3), (9, .if_icmp .lt 7, 3), (12, .aconst_null, 1), (13, .goto 9, 3), (16, .aload_n 0, 1), (17, .getfield 34, 3), (20, .iload_n 1, 1), (21, .aaload, 1), (22, .areturn, 1)]
theorem dtX6_findExport_0_ok : ∀ q ∈ dtX6_findExport_0, decode cX6_findExport q.1 = .ok q.2 := by decide +kernel
theorem dX6_findExport_0 : decode cX6_findExport 0 = .ok (.iload_n 1, 1) := dg dtX6_findExport_0_ok 0 rfl
theorem dX6_findExport_1 : decode cX6_findExport 1 = .ok (.ifCond .lt 11, 3) := dg dtX6_findExport_0_ok 1 rfl
theorem dX6_findExport_4 : decode cX6_findExport 4 = .ok (.iload_n 1, 1) := dg dtX6_findExport_0_ok 2 rfl
theorem dX6_findExport_5 : decode cX6_findExport 5 = .ok (.aload_n 0, 1) := dg dtX6_findExport_0_ok 3 rfl
theorem dX6_findExport_6 : decode cX6_findExport 6 = .ok (.getfield 59, 3) := dg dtX6_findExport_0_ok 4 rfl
theorem dX6_findExport_9 : decode cX6_findExport 9 = .ok (.if_icmp .lt 7, 3) := dg dtX6_findExport_0_ok 5 rfl
theorem dX6_findExport_12 : decode cX6_findExport 12 = .ok (.aconst_null, 1) := dg dtX6_findExport_0_ok 6 rfl
theorem dX6_findExport_13 : decode cX6_findExport 13 = .ok (.goto 9, 3) := dg dtX6_findExport_0_ok 7 rfl
theorem dX6_findExport_16 : decode cX6_findExport 16 = .ok (.aload_n 0, 1) := dg dtX6_findExport_0_ok 8 rfl
theorem dX6_findExport_17 : decode cX6_findExport 17 = .ok (.getfield 34, 3) := dg dtX6_findExport_0_ok 9 rfl
theorem dX6_findExport_20 : decode cX6_findExport 20 = .ok (.iload_n 1, 1) := dg dtX6_findExport_0_ok 10 rfl
theorem dX6_findExport_21 : decode cX6_findExport 21 = .ok (.aaload, 1) := dg dtX6_findExport_0_ok 11 rfl
theorem dX6_findExport_22 : decode cX6_findExport 22 = .ok (.areturn, 1) := dg dtX6_findExport_0_ok 12 rfl
def dtX6_useOf_0 : List (Nat × Instr × Nat) := [(0, .iconst 0, 1), (1, .istore_n 2, 1), (2, .iconst 0, 1), (3, .istore_n 3, 1), (4, .iload_n 3, 1), (5, .aload_n 0, 1), (6, .getfield 56, 3), (9, .if_icmp .ge 34, 3), (12, .aload_n 0, 1), (13, .getfield 27, 3), (16, .iload_n 3, 1), (17, .aaload, 1), (18, .getfield 75, 3), (21, .iload_n 1, 1), (22, .if_icmp .ne 15, 3), (25, .iload_n 2, 1), (26, .aload_n 0, 1), (27, .getfield 27, 3), (30, .iload_n 3, 1), (31, .aaload, 1), (32, .invokevirtual 78, 3), (35, .iadd, 1), (36, .istore_n 2, 1), (37, .iinc 3 1, 3), (40, .goto (-36), 3), (43, .iload_n 2, 1), (44, .ireturn, 1)]
theorem dtX6_useOf_0_ok : ∀ q ∈ dtX6_useOf_0, decode cX6_useOf q.1 = .ok q.2 := by decide +kernel
theorem dX6_useOf_0 : decode cX6_useOf 0 = .ok (.iconst 0, 1) := dg dtX6_useOf_0_ok 0 rfl
theorem dX6_useOf_1 : decode cX6_useOf 1 = .ok (.istore_n 2, 1) := dg dtX6_useOf_0_ok 1 rfl
theorem dX6_useOf_2 : decode cX6_useOf 2 = .ok (.iconst 0, 1) := dg dtX6_useOf_0_ok 2 rfl
theorem dX6_useOf_3 : decode cX6_useOf 3 = .ok (.istore_n 3, 1) := dg dtX6_useOf_0_ok 3 rfl
theorem dX6_useOf_4 : decode cX6_useOf 4 = .ok (.iload_n 3, 1) := dg dtX6_useOf_0_ok 4 rfl
theorem dX6_useOf_5 : decode cX6_useOf 5 = .ok (.aload_n 0, 1) := dg dtX6_useOf_0_ok 5 rfl
theorem dX6_useOf_6 : decode cX6_useOf 6 = .ok (.getfield 56, 3) := dg dtX6_useOf_0_ok 6 rfl
theorem dX6_useOf_9 : decode cX6_useOf 9 = .ok (.if_icmp .ge 34, 3) := dg dtX6_useOf_0_ok 7 rfl
theorem dX6_useOf_12 : decode cX6_useOf 12 = .ok (.aload_n 0, 1) := dg dtX6_useOf_0_ok 8 rfl
theorem dX6_useOf_13 : decode cX6_useOf 13 = .ok (.getfield 27, 3) := dg dtX6_useOf_0_ok 9 rfl
theorem dX6_useOf_16 : decode cX6_useOf 16 = .ok (.iload_n 3, 1) := dg dtX6_useOf_0_ok 10 rfl
theorem dX6_useOf_17 : decode cX6_useOf 17 = .ok (.aaload, 1) := dg dtX6_useOf_0_ok 11 rfl
theorem dX6_useOf_18 : decode cX6_useOf 18 = .ok (.getfield 75, 3) := dg dtX6_useOf_0_ok 12 rfl
theorem dX6_useOf_21 : decode cX6_useOf 21 = .ok (.iload_n 1, 1) := dg dtX6_useOf_0_ok 13 rfl
theorem dX6_useOf_22 : decode cX6_useOf 22 = .ok (.if_icmp .ne 15, 3) := dg dtX6_useOf_0_ok 14 rfl
theorem dX6_useOf_25 : decode cX6_useOf 25 = .ok (.iload_n 2, 1) := dg dtX6_useOf_0_ok 15 rfl
theorem dX6_useOf_26 : decode cX6_useOf 26 = .ok (.aload_n 0, 1) := dg dtX6_useOf_0_ok 16 rfl
theorem dX6_useOf_27 : decode cX6_useOf 27 = .ok (.getfield 27, 3) := dg dtX6_useOf_0_ok 17 rfl
theorem dX6_useOf_30 : decode cX6_useOf 30 = .ok (.iload_n 3, 1) := dg dtX6_useOf_0_ok 18 rfl
theorem dX6_useOf_31 : decode cX6_useOf 31 = .ok (.aaload, 1) := dg dtX6_useOf_0_ok 19 rfl
theorem dX6_useOf_32 : decode cX6_useOf 32 = .ok (.invokevirtual 78, 3) := dg dtX6_useOf_0_ok 20 rfl
theorem dX6_useOf_35 : decode cX6_useOf 35 = .ok (.iadd, 1) := dg dtX6_useOf_0_ok 21 rfl
theorem dX6_useOf_36 : decode cX6_useOf 36 = .ok (.istore_n 2, 1) := dg dtX6_useOf_0_ok 22 rfl
theorem dX6_useOf_37 : decode cX6_useOf 37 = .ok (.iinc 3 1, 3) := dg dtX6_useOf_0_ok 23 rfl
theorem dX6_useOf_40 : decode cX6_useOf 40 = .ok (.goto (-36), 3) := dg dtX6_useOf_0_ok 24 rfl
theorem dX6_useOf_43 : decode cX6_useOf 43 = .ok (.iload_n 2, 1) := dg dtX6_useOf_0_ok 25 rfl
theorem dX6_useOf_44 : decode cX6_useOf 44 = .ok (.ireturn, 1) := dg dtX6_useOf_0_ok 26 rfl
def dtX6_storedLotsOf_0 : List (Nat × Instr × Nat) := [(0, .iconst 0, 1), (1, .istore_n 2, 1), (2, .iconst 0, 1), (3, .istore_n 3, 1), (4, .iload_n 3, 1), (5, .aload_n 0, 1), (6, .getfield 56, 3), (9, .if_icmp .ge 37, 3), (12, .aload_n 0, 1), (13, .getfield 27, 3), (16, .iload_n 3, 1), (17, .aaload, 1), (18, .getfield 75, 3), (21, .iload_n 1, 1), (22, .if_icmp .ne 18, 3), (25, .aload_n 0, 1), (26, .getfield 27, 3), (29, .iload_n 3, 1), (30, .aaload, 1), (31, .getfield 82, 3), (34, .ifCond .le 6, 3), (37, .iinc 2 1, 3), (40, .iinc 3 1, 3), (43, .goto (-39), 3), (46, .iload_n 2, 1), (47, .ireturn, 1)]
theorem dtX6_storedLotsOf_0_ok : ∀ q ∈ dtX6_storedLotsOf_0, decode cX6_storedLotsOf q.1 = .ok q.2 := by decide +kernel
theorem dX6_storedLotsOf_0 : decode cX6_storedLotsOf 0 = .ok (.iconst 0, 1) := dg dtX6_storedLotsOf_0_ok 0 rfl
theorem dX6_storedLotsOf_1 : decode cX6_storedLotsOf 1 = .ok (.istore_n 2, 1) := dg dtX6_storedLotsOf_0_ok 1 rfl
theorem dX6_storedLotsOf_2 : decode cX6_storedLotsOf 2 = .ok (.iconst 0, 1) := dg dtX6_storedLotsOf_0_ok 2 rfl
theorem dX6_storedLotsOf_3 : decode cX6_storedLotsOf 3 = .ok (.istore_n 3, 1) := dg dtX6_storedLotsOf_0_ok 3 rfl
theorem dX6_storedLotsOf_4 : decode cX6_storedLotsOf 4 = .ok (.iload_n 3, 1) := dg dtX6_storedLotsOf_0_ok 4 rfl
theorem dX6_storedLotsOf_5 : decode cX6_storedLotsOf 5 = .ok (.aload_n 0, 1) := dg dtX6_storedLotsOf_0_ok 5 rfl
theorem dX6_storedLotsOf_6 : decode cX6_storedLotsOf 6 = .ok (.getfield 56, 3) := dg dtX6_storedLotsOf_0_ok 6 rfl
theorem dX6_storedLotsOf_9 : decode cX6_storedLotsOf 9 = .ok (.if_icmp .ge 37, 3) := dg dtX6_storedLotsOf_0_ok 7 rfl
theorem dX6_storedLotsOf_12 : decode cX6_storedLotsOf 12 = .ok (.aload_n 0, 1) := dg dtX6_storedLotsOf_0_ok 8 rfl
theorem dX6_storedLotsOf_13 : decode cX6_storedLotsOf 13 = .ok (.getfield 27, 3) := dg dtX6_storedLotsOf_0_ok 9 rfl
theorem dX6_storedLotsOf_16 : decode cX6_storedLotsOf 16 = .ok (.iload_n 3, 1) := dg dtX6_storedLotsOf_0_ok 10 rfl
theorem dX6_storedLotsOf_17 : decode cX6_storedLotsOf 17 = .ok (.aaload, 1) := dg dtX6_storedLotsOf_0_ok 11 rfl
theorem dX6_storedLotsOf_18 : decode cX6_storedLotsOf 18 = .ok (.getfield 75, 3) := dg dtX6_storedLotsOf_0_ok 12 rfl
theorem dX6_storedLotsOf_21 : decode cX6_storedLotsOf 21 = .ok (.iload_n 1, 1) := dg dtX6_storedLotsOf_0_ok 13 rfl
theorem dX6_storedLotsOf_22 : decode cX6_storedLotsOf 22 = .ok (.if_icmp .ne 18, 3) := dg dtX6_storedLotsOf_0_ok 14 rfl
theorem dX6_storedLotsOf_25 : decode cX6_storedLotsOf 25 = .ok (.aload_n 0, 1) := dg dtX6_storedLotsOf_0_ok 15 rfl
theorem dX6_storedLotsOf_26 : decode cX6_storedLotsOf 26 = .ok (.getfield 27, 3) := dg dtX6_storedLotsOf_0_ok 16 rfl
theorem dX6_storedLotsOf_29 : decode cX6_storedLotsOf 29 = .ok (.iload_n 3, 1) := dg dtX6_storedLotsOf_0_ok 17 rfl
theorem dX6_storedLotsOf_30 : decode cX6_storedLotsOf 30 = .ok (.aaload, 1) := dg dtX6_storedLotsOf_0_ok 18 rfl
theorem dX6_storedLotsOf_31 : decode cX6_storedLotsOf 31 = .ok (.getfield 82, 3) := dg dtX6_storedLotsOf_0_ok 19 rfl
theorem dX6_storedLotsOf_34 : decode cX6_storedLotsOf 34 = .ok (.ifCond .le 6, 3) := dg dtX6_storedLotsOf_0_ok 20 rfl
theorem dX6_storedLotsOf_37 : decode cX6_storedLotsOf 37 = .ok (.iinc 2 1, 3) := dg dtX6_storedLotsOf_0_ok 21 rfl
theorem dX6_storedLotsOf_40 : decode cX6_storedLotsOf 40 = .ok (.iinc 3 1, 3) := dg dtX6_storedLotsOf_0_ok 22 rfl
theorem dX6_storedLotsOf_43 : decode cX6_storedLotsOf 43 = .ok (.goto (-39), 3) := dg dtX6_storedLotsOf_0_ok 23 rfl
theorem dX6_storedLotsOf_46 : decode cX6_storedLotsOf 46 = .ok (.iload_n 2, 1) := dg dtX6_storedLotsOf_0_ok 24 rfl
theorem dX6_storedLotsOf_47 : decode cX6_storedLotsOf 47 = .ok (.ireturn, 1) := dg dtX6_storedLotsOf_0_ok 25 rfl
def dtX6_sumOfLots_0 : List (Nat × Instr × Nat) := [(0, .iconst 0, 1), (1, .istore_n 2, 1), (2, .iconst 0, 1), (3, .istore_n 3, 1), (4, .iload_n 3, 1), (5, .aload_n 0, 1), (6, .getfield 56, 3), (9, .if_icmp .ge 22, 3), (12, .iload_n 2, 1), (13, .aload_n 0, 1), (14, .getfield 27, 3), (17, .iload_n 3, 1), (18, .aaload, 1), (19, .iload_n 1, 1), (20, .invokevirtual 85, 3), (23, .iadd, 1), (24, .istore_n 2, 1), (25, .iinc 3 1, 3), (28, .goto (-24), 3), (31, .iload_n 2, 1), (32, .ireturn, 1)]
theorem dtX6_sumOfLots_0_ok : ∀ q ∈ dtX6_sumOfLots_0, decode cX6_sumOfLots q.1 = .ok q.2 := by decide +kernel
theorem dX6_sumOfLots_0 : decode cX6_sumOfLots 0 = .ok (.iconst 0, 1) := dg dtX6_sumOfLots_0_ok 0 rfl
theorem dX6_sumOfLots_1 : decode cX6_sumOfLots 1 = .ok (.istore_n 2, 1) := dg dtX6_sumOfLots_0_ok 1 rfl
theorem dX6_sumOfLots_2 : decode cX6_sumOfLots 2 = .ok (.iconst 0, 1) := dg dtX6_sumOfLots_0_ok 2 rfl
theorem dX6_sumOfLots_3 : decode cX6_sumOfLots 3 = .ok (.istore_n 3, 1) := dg dtX6_sumOfLots_0_ok 3 rfl
theorem dX6_sumOfLots_4 : decode cX6_sumOfLots 4 = .ok (.iload_n 3, 1) := dg dtX6_sumOfLots_0_ok 4 rfl
theorem dX6_sumOfLots_5 : decode cX6_sumOfLots 5 = .ok (.aload_n 0, 1) := dg dtX6_sumOfLots_0_ok 5 rfl
theorem dX6_sumOfLots_6 : decode cX6_sumOfLots 6 = .ok (.getfield 56, 3) := dg dtX6_sumOfLots_0_ok 6 rfl
theorem dX6_sumOfLots_9 : decode cX6_sumOfLots 9 = .ok (.if_icmp .ge 22, 3) := dg dtX6_sumOfLots_0_ok 7 rfl
theorem dX6_sumOfLots_12 : decode cX6_sumOfLots 12 = .ok (.iload_n 2, 1) := dg dtX6_sumOfLots_0_ok 8 rfl
theorem dX6_sumOfLots_13 : decode cX6_sumOfLots 13 = .ok (.aload_n 0, 1) := dg dtX6_sumOfLots_0_ok 9 rfl
theorem dX6_sumOfLots_14 : decode cX6_sumOfLots 14 = .ok (.getfield 27, 3) := dg dtX6_sumOfLots_0_ok 10 rfl
theorem dX6_sumOfLots_17 : decode cX6_sumOfLots 17 = .ok (.iload_n 3, 1) := dg dtX6_sumOfLots_0_ok 11 rfl
theorem dX6_sumOfLots_18 : decode cX6_sumOfLots 18 = .ok (.aaload, 1) := dg dtX6_sumOfLots_0_ok 12 rfl
theorem dX6_sumOfLots_19 : decode cX6_sumOfLots 19 = .ok (.iload_n 1, 1) := dg dtX6_sumOfLots_0_ok 13 rfl
theorem dX6_sumOfLots_20 : decode cX6_sumOfLots 20 = .ok (.invokevirtual 85, 3) := dg dtX6_sumOfLots_0_ok 14 rfl
theorem dX6_sumOfLots_23 : decode cX6_sumOfLots 23 = .ok (.iadd, 1) := dg dtX6_sumOfLots_0_ok 15 rfl
theorem dX6_sumOfLots_24 : decode cX6_sumOfLots 24 = .ok (.istore_n 2, 1) := dg dtX6_sumOfLots_0_ok 16 rfl
theorem dX6_sumOfLots_25 : decode cX6_sumOfLots 25 = .ok (.iinc 3 1, 3) := dg dtX6_sumOfLots_0_ok 17 rfl
theorem dX6_sumOfLots_28 : decode cX6_sumOfLots 28 = .ok (.goto (-24), 3) := dg dtX6_sumOfLots_0_ok 18 rfl
theorem dX6_sumOfLots_31 : decode cX6_sumOfLots 31 = .ok (.iload_n 2, 1) := dg dtX6_sumOfLots_0_ok 19 rfl
theorem dX6_sumOfLots_32 : decode cX6_sumOfLots 32 = .ok (.ireturn, 1) := dg dtX6_sumOfLots_0_ok 20 rfl
def dtX6_calledOfAll_0 : List (Nat × Instr × Nat) := [(0, .iconst 0, 1), (1, .istore_n 1, 1), (2, .iconst 0, 1), (3, .istore_n 2, 1), (4, .iload_n 2, 1), (5, .aload_n 0, 1), (6, .getfield 52, 3), (9, .if_icmp .ge 21, 3), (12, .iload_n 1, 1), (13, .aload_n 0, 1), (14, .getfield 20, 3), (17, .iload_n 2, 1), (18, .aaload, 1), (19, .getfield 89, 3), (22, .iadd, 1), (23, .istore_n 1, 1), (24, .iinc 2 1, 3), (27, .goto (-23), 3), (30, .iload_n 1, 1), (31, .ireturn, 1)]
theorem dtX6_calledOfAll_0_ok : ∀ q ∈ dtX6_calledOfAll_0, decode cX6_calledOfAll q.1 = .ok q.2 := by decide +kernel
theorem dX6_calledOfAll_0 : decode cX6_calledOfAll 0 = .ok (.iconst 0, 1) := dg dtX6_calledOfAll_0_ok 0 rfl
theorem dX6_calledOfAll_1 : decode cX6_calledOfAll 1 = .ok (.istore_n 1, 1) := dg dtX6_calledOfAll_0_ok 1 rfl
theorem dX6_calledOfAll_2 : decode cX6_calledOfAll 2 = .ok (.iconst 0, 1) := dg dtX6_calledOfAll_0_ok 2 rfl
theorem dX6_calledOfAll_3 : decode cX6_calledOfAll 3 = .ok (.istore_n 2, 1) := dg dtX6_calledOfAll_0_ok 3 rfl
theorem dX6_calledOfAll_4 : decode cX6_calledOfAll 4 = .ok (.iload_n 2, 1) := dg dtX6_calledOfAll_0_ok 4 rfl
theorem dX6_calledOfAll_5 : decode cX6_calledOfAll 5 = .ok (.aload_n 0, 1) := dg dtX6_calledOfAll_0_ok 5 rfl
theorem dX6_calledOfAll_6 : decode cX6_calledOfAll 6 = .ok (.getfield 52, 3) := dg dtX6_calledOfAll_0_ok 6 rfl
theorem dX6_calledOfAll_9 : decode cX6_calledOfAll 9 = .ok (.if_icmp .ge 21, 3) := dg dtX6_calledOfAll_0_ok 7 rfl
theorem dX6_calledOfAll_12 : decode cX6_calledOfAll 12 = .ok (.iload_n 1, 1) := dg dtX6_calledOfAll_0_ok 8 rfl
theorem dX6_calledOfAll_13 : decode cX6_calledOfAll 13 = .ok (.aload_n 0, 1) := dg dtX6_calledOfAll_0_ok 9 rfl
theorem dX6_calledOfAll_14 : decode cX6_calledOfAll 14 = .ok (.getfield 20, 3) := dg dtX6_calledOfAll_0_ok 10 rfl
theorem dX6_calledOfAll_17 : decode cX6_calledOfAll 17 = .ok (.iload_n 2, 1) := dg dtX6_calledOfAll_0_ok 11 rfl
theorem dX6_calledOfAll_18 : decode cX6_calledOfAll 18 = .ok (.aaload, 1) := dg dtX6_calledOfAll_0_ok 12 rfl
theorem dX6_calledOfAll_19 : decode cX6_calledOfAll 19 = .ok (.getfield 89, 3) := dg dtX6_calledOfAll_0_ok 13 rfl
theorem dX6_calledOfAll_22 : decode cX6_calledOfAll 22 = .ok (.iadd, 1) := dg dtX6_calledOfAll_0_ok 14 rfl
theorem dX6_calledOfAll_23 : decode cX6_calledOfAll 23 = .ok (.istore_n 1, 1) := dg dtX6_calledOfAll_0_ok 15 rfl
theorem dX6_calledOfAll_24 : decode cX6_calledOfAll 24 = .ok (.iinc 2 1, 3) := dg dtX6_calledOfAll_0_ok 16 rfl
theorem dX6_calledOfAll_27 : decode cX6_calledOfAll 27 = .ok (.goto (-23), 3) := dg dtX6_calledOfAll_0_ok 17 rfl
theorem dX6_calledOfAll_30 : decode cX6_calledOfAll 30 = .ok (.iload_n 1, 1) := dg dtX6_calledOfAll_0_ok 18 rfl
theorem dX6_calledOfAll_31 : decode cX6_calledOfAll 31 = .ok (.ireturn, 1) := dg dtX6_calledOfAll_0_ok 19 rfl
def dtX6_waitingUnitsOf_0 : List (Nat × Instr × Nat) := [(0, .iconst 0, 1), (1, .istore_n 2, 1), (2, .iconst 0, 1), (3, .istore_n 3, 1), (4, .iload_n 3, 1), (5, .aload_n 0, 1), (6, .getfield 59, 3), (9, .if_icmp .ge 46, 3), (12, .aload_n 0, 1), (13, .getfield 34, 3), (16, .iload_n 3, 1), (17, .aaload, 1), (18, .getfield 92, 3), (21, .iload_n 1, 1), (22, .if_icmp .ne 27, 3), (25, .aload_n 0, 1), (26, .getfield 34, 3), (29, .iload_n 3, 1), (30, .aaload, 1), (31, .invokevirtual 95, 3), (34, .ifCond .eq 15, 3), (37, .iload_n 2, 1), (38, .aload_n 0, 1), (39, .getfield 34, 3), (42, .iload_n 3, 1), (43, .aaload, 1), (44, .getfield 99, 3), (47, .iadd, 1), (48, .istore_n 2, 1), (49, .iinc 3 1, 3), (52, .goto (-48), 3), (55, .iload_n 2, 1), (56, .ireturn, 1)]
theorem dtX6_waitingUnitsOf_0_ok : ∀ q ∈ dtX6_waitingUnitsOf_0, decode cX6_waitingUnitsOf q.1 = .ok q.2 := by decide +kernel
theorem dX6_waitingUnitsOf_0 : decode cX6_waitingUnitsOf 0 = .ok (.iconst 0, 1) := dg dtX6_waitingUnitsOf_0_ok 0 rfl
theorem dX6_waitingUnitsOf_1 : decode cX6_waitingUnitsOf 1 = .ok (.istore_n 2, 1) := dg dtX6_waitingUnitsOf_0_ok 1 rfl
theorem dX6_waitingUnitsOf_2 : decode cX6_waitingUnitsOf 2 = .ok (.iconst 0, 1) := dg dtX6_waitingUnitsOf_0_ok 2 rfl
theorem dX6_waitingUnitsOf_3 : decode cX6_waitingUnitsOf 3 = .ok (.istore_n 3, 1) := dg dtX6_waitingUnitsOf_0_ok 3 rfl
theorem dX6_waitingUnitsOf_4 : decode cX6_waitingUnitsOf 4 = .ok (.iload_n 3, 1) := dg dtX6_waitingUnitsOf_0_ok 4 rfl
theorem dX6_waitingUnitsOf_5 : decode cX6_waitingUnitsOf 5 = .ok (.aload_n 0, 1) := dg dtX6_waitingUnitsOf_0_ok 5 rfl
theorem dX6_waitingUnitsOf_6 : decode cX6_waitingUnitsOf 6 = .ok (.getfield 59, 3) := dg dtX6_waitingUnitsOf_0_ok 6 rfl
theorem dX6_waitingUnitsOf_9 : decode cX6_waitingUnitsOf 9 = .ok (.if_icmp .ge 46, 3) := dg dtX6_waitingUnitsOf_0_ok 7 rfl
theorem dX6_waitingUnitsOf_12 : decode cX6_waitingUnitsOf 12 = .ok (.aload_n 0, 1) := dg dtX6_waitingUnitsOf_0_ok 8 rfl
theorem dX6_waitingUnitsOf_13 : decode cX6_waitingUnitsOf 13 = .ok (.getfield 34, 3) := dg dtX6_waitingUnitsOf_0_ok 9 rfl
theorem dX6_waitingUnitsOf_16 : decode cX6_waitingUnitsOf 16 = .ok (.iload_n 3, 1) := dg dtX6_waitingUnitsOf_0_ok 10 rfl
theorem dX6_waitingUnitsOf_17 : decode cX6_waitingUnitsOf 17 = .ok (.aaload, 1) := dg dtX6_waitingUnitsOf_0_ok 11 rfl
theorem dX6_waitingUnitsOf_18 : decode cX6_waitingUnitsOf 18 = .ok (.getfield 92, 3) := dg dtX6_waitingUnitsOf_0_ok 12 rfl
theorem dX6_waitingUnitsOf_21 : decode cX6_waitingUnitsOf 21 = .ok (.iload_n 1, 1) := dg dtX6_waitingUnitsOf_0_ok 13 rfl
theorem dX6_waitingUnitsOf_22 : decode cX6_waitingUnitsOf 22 = .ok (.if_icmp .ne 27, 3) := dg dtX6_waitingUnitsOf_0_ok 14 rfl
theorem dX6_waitingUnitsOf_25 : decode cX6_waitingUnitsOf 25 = .ok (.aload_n 0, 1) := dg dtX6_waitingUnitsOf_0_ok 15 rfl
theorem dX6_waitingUnitsOf_26 : decode cX6_waitingUnitsOf 26 = .ok (.getfield 34, 3) := dg dtX6_waitingUnitsOf_0_ok 16 rfl
theorem dX6_waitingUnitsOf_29 : decode cX6_waitingUnitsOf 29 = .ok (.iload_n 3, 1) := dg dtX6_waitingUnitsOf_0_ok 17 rfl
theorem dX6_waitingUnitsOf_30 : decode cX6_waitingUnitsOf 30 = .ok (.aaload, 1) := dg dtX6_waitingUnitsOf_0_ok 18 rfl
theorem dX6_waitingUnitsOf_31 : decode cX6_waitingUnitsOf 31 = .ok (.invokevirtual 95, 3) := dg dtX6_waitingUnitsOf_0_ok 19 rfl
theorem dX6_waitingUnitsOf_34 : decode cX6_waitingUnitsOf 34 = .ok (.ifCond .eq 15, 3) := dg dtX6_waitingUnitsOf_0_ok 20 rfl
theorem dX6_waitingUnitsOf_37 : decode cX6_waitingUnitsOf 37 = .ok (.iload_n 2, 1) := dg dtX6_waitingUnitsOf_0_ok 21 rfl
theorem dX6_waitingUnitsOf_38 : decode cX6_waitingUnitsOf 38 = .ok (.aload_n 0, 1) := dg dtX6_waitingUnitsOf_0_ok 22 rfl
theorem dX6_waitingUnitsOf_39 : decode cX6_waitingUnitsOf 39 = .ok (.getfield 34, 3) := dg dtX6_waitingUnitsOf_0_ok 23 rfl
theorem dX6_waitingUnitsOf_42 : decode cX6_waitingUnitsOf 42 = .ok (.iload_n 3, 1) := dg dtX6_waitingUnitsOf_0_ok 24 rfl
theorem dX6_waitingUnitsOf_43 : decode cX6_waitingUnitsOf 43 = .ok (.aaload, 1) := dg dtX6_waitingUnitsOf_0_ok 25 rfl
theorem dX6_waitingUnitsOf_44 : decode cX6_waitingUnitsOf 44 = .ok (.getfield 99, 3) := dg dtX6_waitingUnitsOf_0_ok 26 rfl
theorem dX6_waitingUnitsOf_47 : decode cX6_waitingUnitsOf 47 = .ok (.iadd, 1) := dg dtX6_waitingUnitsOf_0_ok 27 rfl
theorem dX6_waitingUnitsOf_48 : decode cX6_waitingUnitsOf 48 = .ok (.istore_n 2, 1) := dg dtX6_waitingUnitsOf_0_ok 28 rfl
theorem dX6_waitingUnitsOf_49 : decode cX6_waitingUnitsOf 49 = .ok (.iinc 3 1, 3) := dg dtX6_waitingUnitsOf_0_ok 29 rfl
theorem dX6_waitingUnitsOf_52 : decode cX6_waitingUnitsOf 52 = .ok (.goto (-48), 3) := dg dtX6_waitingUnitsOf_0_ok 30 rfl
theorem dX6_waitingUnitsOf_55 : decode cX6_waitingUnitsOf 55 = .ok (.iload_n 2, 1) := dg dtX6_waitingUnitsOf_0_ok 31 rfl
theorem dX6_waitingUnitsOf_56 : decode cX6_waitingUnitsOf 56 = .ok (.ireturn, 1) := dg dtX6_waitingUnitsOf_0_ok 32 rfl
def dtX6_waitingExports_0 : List (Nat × Instr × Nat) := [(0, .iconst 0, 1), (1, .istore_n 1, 1), (2, .iconst 0, 1), (3, .istore_n 2, 1), (4, .iload_n 2, 1), (5, .aload_n 0, 1), (6, .getfield 59, 3), (9, .if_icmp .ge 24, 3), (12, .aload_n 0, 1), (13, .getfield 34, 3), (16, .iload_n 2, 1), (17, .aaload, 1), (18, .invokevirtual 95, 3), (21, .ifCond .eq 6, 3), (24, .iinc 1 1, 3), (27, .iinc 2 1, 3), (30, .goto (-26), 3), (33, .iload_n 1, 1), (34, .ireturn, 1)]
theorem dtX6_waitingExports_0_ok : ∀ q ∈ dtX6_waitingExports_0, decode cX6_waitingExports q.1 = .ok q.2 := by decide +kernel
theorem dX6_waitingExports_0 : decode cX6_waitingExports 0 = .ok (.iconst 0, 1) := dg dtX6_waitingExports_0_ok 0 rfl
theorem dX6_waitingExports_1 : decode cX6_waitingExports 1 = .ok (.istore_n 1, 1) := dg dtX6_waitingExports_0_ok 1 rfl
theorem dX6_waitingExports_2 : decode cX6_waitingExports 2 = .ok (.iconst 0, 1) := dg dtX6_waitingExports_0_ok 2 rfl
theorem dX6_waitingExports_3 : decode cX6_waitingExports 3 = .ok (.istore_n 2, 1) := dg dtX6_waitingExports_0_ok 3 rfl
theorem dX6_waitingExports_4 : decode cX6_waitingExports 4 = .ok (.iload_n 2, 1) := dg dtX6_waitingExports_0_ok 4 rfl
theorem dX6_waitingExports_5 : decode cX6_waitingExports 5 = .ok (.aload_n 0, 1) := dg dtX6_waitingExports_0_ok 5 rfl
theorem dX6_waitingExports_6 : decode cX6_waitingExports 6 = .ok (.getfield 59, 3) := dg dtX6_waitingExports_0_ok 6 rfl
theorem dX6_waitingExports_9 : decode cX6_waitingExports 9 = .ok (.if_icmp .ge 24, 3) := dg dtX6_waitingExports_0_ok 7 rfl
theorem dX6_waitingExports_12 : decode cX6_waitingExports 12 = .ok (.aload_n 0, 1) := dg dtX6_waitingExports_0_ok 8 rfl
theorem dX6_waitingExports_13 : decode cX6_waitingExports 13 = .ok (.getfield 34, 3) := dg dtX6_waitingExports_0_ok 9 rfl
theorem dX6_waitingExports_16 : decode cX6_waitingExports 16 = .ok (.iload_n 2, 1) := dg dtX6_waitingExports_0_ok 10 rfl
theorem dX6_waitingExports_17 : decode cX6_waitingExports 17 = .ok (.aaload, 1) := dg dtX6_waitingExports_0_ok 11 rfl
theorem dX6_waitingExports_18 : decode cX6_waitingExports 18 = .ok (.invokevirtual 95, 3) := dg dtX6_waitingExports_0_ok 12 rfl
theorem dX6_waitingExports_21 : decode cX6_waitingExports 21 = .ok (.ifCond .eq 6, 3) := dg dtX6_waitingExports_0_ok 13 rfl
theorem dX6_waitingExports_24 : decode cX6_waitingExports 24 = .ok (.iinc 1 1, 3) := dg dtX6_waitingExports_0_ok 14 rfl
theorem dX6_waitingExports_27 : decode cX6_waitingExports 27 = .ok (.iinc 2 1, 3) := dg dtX6_waitingExports_0_ok 15 rfl
theorem dX6_waitingExports_30 : decode cX6_waitingExports 30 = .ok (.goto (-26), 3) := dg dtX6_waitingExports_0_ok 16 rfl
theorem dX6_waitingExports_33 : decode cX6_waitingExports 33 = .ok (.iload_n 1, 1) := dg dtX6_waitingExports_0_ok 17 rfl
theorem dX6_waitingExports_34 : decode cX6_waitingExports 34 = .ok (.ireturn, 1) := dg dtX6_waitingExports_0_ok 18 rfl
def dtX6_hasExportEndingBefore_0 : List (Nat × Instr × Nat) := [(0, .iconst 0, 1), (1, .istore_n 3, 1), (2, .iload_n 3, 1), (3, .aload_n 0, 1), (4, .getfield 59, 3), (7, .if_icmp .ge 37, 3), (10, .aload_n 0, 1), (11, .getfield 34, 3), (14, .iload_n 3, 1), (15, .aaload, 1), (16, .getfield 92, 3), (19, .iload_n 1, 1), (20, .if_icmp .ne 18, 3), (23, .aload_n 0, 1), (24, .getfield 34, 3), (27, .iload_n 3, 1), (28, .aaload, 1), (29, .iload_n 2, 1), (30, .invokevirtual 102, 3), (33, .ifCond .eq 5, 3), (36, .iconst 1, 1), (37, .ireturn, 1), (38, .iinc 3 1, 3), (41, .goto (-39), 3), (44, .iconst 0, 1), (45, .ireturn, 1)]
theorem dtX6_hasExportEndingBefore_0_ok : ∀ q ∈ dtX6_hasExportEndingBefore_0, decode cX6_hasExportEndingBefore q.1 = .ok q.2 := by decide +kernel
theorem dX6_hasExportEndingBefore_0 : decode cX6_hasExportEndingBefore 0 = .ok (.iconst 0, 1) := dg dtX6_hasExportEndingBefore_0_ok 0 rfl
theorem dX6_hasExportEndingBefore_1 : decode cX6_hasExportEndingBefore 1 = .ok (.istore_n 3, 1) := dg dtX6_hasExportEndingBefore_0_ok 1 rfl
theorem dX6_hasExportEndingBefore_2 : decode cX6_hasExportEndingBefore 2 = .ok (.iload_n 3, 1) := dg dtX6_hasExportEndingBefore_0_ok 2 rfl
theorem dX6_hasExportEndingBefore_3 : decode cX6_hasExportEndingBefore 3 = .ok (.aload_n 0, 1) := dg dtX6_hasExportEndingBefore_0_ok 3 rfl
theorem dX6_hasExportEndingBefore_4 : decode cX6_hasExportEndingBefore 4 = .ok (.getfield 59, 3) := dg dtX6_hasExportEndingBefore_0_ok 4 rfl
theorem dX6_hasExportEndingBefore_7 : decode cX6_hasExportEndingBefore 7 = .ok (.if_icmp .ge 37, 3) := dg dtX6_hasExportEndingBefore_0_ok 5 rfl
theorem dX6_hasExportEndingBefore_10 : decode cX6_hasExportEndingBefore 10 = .ok (.aload_n 0, 1) := dg dtX6_hasExportEndingBefore_0_ok 6 rfl
theorem dX6_hasExportEndingBefore_11 : decode cX6_hasExportEndingBefore 11 = .ok (.getfield 34, 3) := dg dtX6_hasExportEndingBefore_0_ok 7 rfl
theorem dX6_hasExportEndingBefore_14 : decode cX6_hasExportEndingBefore 14 = .ok (.iload_n 3, 1) := dg dtX6_hasExportEndingBefore_0_ok 8 rfl
theorem dX6_hasExportEndingBefore_15 : decode cX6_hasExportEndingBefore 15 = .ok (.aaload, 1) := dg dtX6_hasExportEndingBefore_0_ok 9 rfl
theorem dX6_hasExportEndingBefore_16 : decode cX6_hasExportEndingBefore 16 = .ok (.getfield 92, 3) := dg dtX6_hasExportEndingBefore_0_ok 10 rfl
theorem dX6_hasExportEndingBefore_19 : decode cX6_hasExportEndingBefore 19 = .ok (.iload_n 1, 1) := dg dtX6_hasExportEndingBefore_0_ok 11 rfl
theorem dX6_hasExportEndingBefore_20 : decode cX6_hasExportEndingBefore 20 = .ok (.if_icmp .ne 18, 3) := dg dtX6_hasExportEndingBefore_0_ok 12 rfl
theorem dX6_hasExportEndingBefore_23 : decode cX6_hasExportEndingBefore 23 = .ok (.aload_n 0, 1) := dg dtX6_hasExportEndingBefore_0_ok 13 rfl
theorem dX6_hasExportEndingBefore_24 : decode cX6_hasExportEndingBefore 24 = .ok (.getfield 34, 3) := dg dtX6_hasExportEndingBefore_0_ok 14 rfl
theorem dX6_hasExportEndingBefore_27 : decode cX6_hasExportEndingBefore 27 = .ok (.iload_n 3, 1) := dg dtX6_hasExportEndingBefore_0_ok 15 rfl
theorem dX6_hasExportEndingBefore_28 : decode cX6_hasExportEndingBefore 28 = .ok (.aaload, 1) := dg dtX6_hasExportEndingBefore_0_ok 16 rfl
theorem dX6_hasExportEndingBefore_29 : decode cX6_hasExportEndingBefore 29 = .ok (.iload_n 2, 1) := dg dtX6_hasExportEndingBefore_0_ok 17 rfl
theorem dX6_hasExportEndingBefore_30 : decode cX6_hasExportEndingBefore 30 = .ok (.invokevirtual 102, 3) := dg dtX6_hasExportEndingBefore_0_ok 18 rfl
theorem dX6_hasExportEndingBefore_33 : decode cX6_hasExportEndingBefore 33 = .ok (.ifCond .eq 5, 3) := dg dtX6_hasExportEndingBefore_0_ok 19 rfl
theorem dX6_hasExportEndingBefore_36 : decode cX6_hasExportEndingBefore 36 = .ok (.iconst 1, 1) := dg dtX6_hasExportEndingBefore_0_ok 20 rfl
theorem dX6_hasExportEndingBefore_37 : decode cX6_hasExportEndingBefore 37 = .ok (.ireturn, 1) := dg dtX6_hasExportEndingBefore_0_ok 21 rfl
theorem dX6_hasExportEndingBefore_38 : decode cX6_hasExportEndingBefore 38 = .ok (.iinc 3 1, 3) := dg dtX6_hasExportEndingBefore_0_ok 22 rfl
theorem dX6_hasExportEndingBefore_41 : decode cX6_hasExportEndingBefore 41 = .ok (.goto (-39), 3) := dg dtX6_hasExportEndingBefore_0_ok 23 rfl
theorem dX6_hasExportEndingBefore_44 : decode cX6_hasExportEndingBefore 44 = .ok (.iconst 0, 1) := dg dtX6_hasExportEndingBefore_0_ok 24 rfl
theorem dX6_hasExportEndingBefore_45 : decode cX6_hasExportEndingBefore 45 = .ok (.ireturn, 1) := dg dtX6_hasExportEndingBefore_0_ok 25 rfl
def dtX6_dutyEndingBefore_0 : List (Nat × Instr × Nat) := [(0, .iconst 0, 1), (1, .istore_n 2, 1), (2, .iconst 0, 1), (3, .istore_n 3, 1), (4, .iload_n 3, 1), (5, .aload_n 0, 1), (6, .getfield 59, 3), (9, .if_icmp .ge 34, 3), (12, .aload_n 0, 1), (13, .getfield 34, 3), (16, .iload_n 3, 1), (17, .aaload, 1), (18, .iload_n 1, 1), (19, .invokevirtual 102, 3), (22, .ifCond .eq 15, 3), (25, .iload_n 2, 1), (26, .aload_n 0, 1), (27, .getfield 34, 3), (30, .iload_n 3, 1), (31, .aaload, 1), (32, .getfield 106, 3), (35, .iadd, 1), (36, .istore_n 2, 1), (37, .iinc 3 1, 3), (40, .goto (-36), 3), (43, .iconst 0, 1), (44, .istore_n 3, 1), (45, .iload_n 3, 1), (46, .aload_n 0, 1), (47, .getfield 56, 3), (50, .if_icmp .ge 44, 3), (53, .aload_n 0, 1), (54, .getfield 27, 3), (57, .iload_n 3, 1), (58, .aaload, 1), (59, .iload_n 1, 1), (60, .invokevirtual 109, 3), (63, .ifCond .eq 25, 3), (66, .iload_n 2, 1), (67, .aload_n 0, 1), (68, .getfield 27, 3), (71, .iload_n 3, 1), (72, .aaload, 1), (73, .iconst 0, 1), (74, .aload_n 0, 1), (75, .getfield 27, 3), (78, .iload_n 3, 1), (79, .aaload, 1)]
theorem dtX6_dutyEndingBefore_0_ok : ∀ q ∈ dtX6_dutyEndingBefore_0, decode cX6_dutyEndingBefore q.1 = .ok q.2 := by decide +kernel
theorem dX6_dutyEndingBefore_0 : decode cX6_dutyEndingBefore 0 = .ok (.iconst 0, 1) := dg dtX6_dutyEndingBefore_0_ok 0 rfl
theorem dX6_dutyEndingBefore_1 : decode cX6_dutyEndingBefore 1 = .ok (.istore_n 2, 1) := dg dtX6_dutyEndingBefore_0_ok 1 rfl
theorem dX6_dutyEndingBefore_2 : decode cX6_dutyEndingBefore 2 = .ok (.iconst 0, 1) := dg dtX6_dutyEndingBefore_0_ok 2 rfl
theorem dX6_dutyEndingBefore_3 : decode cX6_dutyEndingBefore 3 = .ok (.istore_n 3, 1) := dg dtX6_dutyEndingBefore_0_ok 3 rfl
theorem dX6_dutyEndingBefore_4 : decode cX6_dutyEndingBefore 4 = .ok (.iload_n 3, 1) := dg dtX6_dutyEndingBefore_0_ok 4 rfl
theorem dX6_dutyEndingBefore_5 : decode cX6_dutyEndingBefore 5 = .ok (.aload_n 0, 1) := dg dtX6_dutyEndingBefore_0_ok 5 rfl
theorem dX6_dutyEndingBefore_6 : decode cX6_dutyEndingBefore 6 = .ok (.getfield 59, 3) := dg dtX6_dutyEndingBefore_0_ok 6 rfl
theorem dX6_dutyEndingBefore_9 : decode cX6_dutyEndingBefore 9 = .ok (.if_icmp .ge 34, 3) := dg dtX6_dutyEndingBefore_0_ok 7 rfl
theorem dX6_dutyEndingBefore_12 : decode cX6_dutyEndingBefore 12 = .ok (.aload_n 0, 1) := dg dtX6_dutyEndingBefore_0_ok 8 rfl
theorem dX6_dutyEndingBefore_13 : decode cX6_dutyEndingBefore 13 = .ok (.getfield 34, 3) := dg dtX6_dutyEndingBefore_0_ok 9 rfl
theorem dX6_dutyEndingBefore_16 : decode cX6_dutyEndingBefore 16 = .ok (.iload_n 3, 1) := dg dtX6_dutyEndingBefore_0_ok 10 rfl
theorem dX6_dutyEndingBefore_17 : decode cX6_dutyEndingBefore 17 = .ok (.aaload, 1) := dg dtX6_dutyEndingBefore_0_ok 11 rfl
theorem dX6_dutyEndingBefore_18 : decode cX6_dutyEndingBefore 18 = .ok (.iload_n 1, 1) := dg dtX6_dutyEndingBefore_0_ok 12 rfl
theorem dX6_dutyEndingBefore_19 : decode cX6_dutyEndingBefore 19 = .ok (.invokevirtual 102, 3) := dg dtX6_dutyEndingBefore_0_ok 13 rfl
theorem dX6_dutyEndingBefore_22 : decode cX6_dutyEndingBefore 22 = .ok (.ifCond .eq 15, 3) := dg dtX6_dutyEndingBefore_0_ok 14 rfl
theorem dX6_dutyEndingBefore_25 : decode cX6_dutyEndingBefore 25 = .ok (.iload_n 2, 1) := dg dtX6_dutyEndingBefore_0_ok 15 rfl
theorem dX6_dutyEndingBefore_26 : decode cX6_dutyEndingBefore 26 = .ok (.aload_n 0, 1) := dg dtX6_dutyEndingBefore_0_ok 16 rfl
theorem dX6_dutyEndingBefore_27 : decode cX6_dutyEndingBefore 27 = .ok (.getfield 34, 3) := dg dtX6_dutyEndingBefore_0_ok 17 rfl
theorem dX6_dutyEndingBefore_30 : decode cX6_dutyEndingBefore 30 = .ok (.iload_n 3, 1) := dg dtX6_dutyEndingBefore_0_ok 18 rfl
theorem dX6_dutyEndingBefore_31 : decode cX6_dutyEndingBefore 31 = .ok (.aaload, 1) := dg dtX6_dutyEndingBefore_0_ok 19 rfl
theorem dX6_dutyEndingBefore_32 : decode cX6_dutyEndingBefore 32 = .ok (.getfield 106, 3) := dg dtX6_dutyEndingBefore_0_ok 20 rfl
theorem dX6_dutyEndingBefore_35 : decode cX6_dutyEndingBefore 35 = .ok (.iadd, 1) := dg dtX6_dutyEndingBefore_0_ok 21 rfl
theorem dX6_dutyEndingBefore_36 : decode cX6_dutyEndingBefore 36 = .ok (.istore_n 2, 1) := dg dtX6_dutyEndingBefore_0_ok 22 rfl
theorem dX6_dutyEndingBefore_37 : decode cX6_dutyEndingBefore 37 = .ok (.iinc 3 1, 3) := dg dtX6_dutyEndingBefore_0_ok 23 rfl
theorem dX6_dutyEndingBefore_40 : decode cX6_dutyEndingBefore 40 = .ok (.goto (-36), 3) := dg dtX6_dutyEndingBefore_0_ok 24 rfl
theorem dX6_dutyEndingBefore_43 : decode cX6_dutyEndingBefore 43 = .ok (.iconst 0, 1) := dg dtX6_dutyEndingBefore_0_ok 25 rfl
theorem dX6_dutyEndingBefore_44 : decode cX6_dutyEndingBefore 44 = .ok (.istore_n 3, 1) := dg dtX6_dutyEndingBefore_0_ok 26 rfl
theorem dX6_dutyEndingBefore_45 : decode cX6_dutyEndingBefore 45 = .ok (.iload_n 3, 1) := dg dtX6_dutyEndingBefore_0_ok 27 rfl
theorem dX6_dutyEndingBefore_46 : decode cX6_dutyEndingBefore 46 = .ok (.aload_n 0, 1) := dg dtX6_dutyEndingBefore_0_ok 28 rfl
theorem dX6_dutyEndingBefore_47 : decode cX6_dutyEndingBefore 47 = .ok (.getfield 56, 3) := dg dtX6_dutyEndingBefore_0_ok 29 rfl
theorem dX6_dutyEndingBefore_50 : decode cX6_dutyEndingBefore 50 = .ok (.if_icmp .ge 44, 3) := dg dtX6_dutyEndingBefore_0_ok 30 rfl
theorem dX6_dutyEndingBefore_53 : decode cX6_dutyEndingBefore 53 = .ok (.aload_n 0, 1) := dg dtX6_dutyEndingBefore_0_ok 31 rfl
theorem dX6_dutyEndingBefore_54 : decode cX6_dutyEndingBefore 54 = .ok (.getfield 27, 3) := dg dtX6_dutyEndingBefore_0_ok 32 rfl
theorem dX6_dutyEndingBefore_57 : decode cX6_dutyEndingBefore 57 = .ok (.iload_n 3, 1) := dg dtX6_dutyEndingBefore_0_ok 33 rfl
theorem dX6_dutyEndingBefore_58 : decode cX6_dutyEndingBefore 58 = .ok (.aaload, 1) := dg dtX6_dutyEndingBefore_0_ok 34 rfl
theorem dX6_dutyEndingBefore_59 : decode cX6_dutyEndingBefore 59 = .ok (.iload_n 1, 1) := dg dtX6_dutyEndingBefore_0_ok 35 rfl
theorem dX6_dutyEndingBefore_60 : decode cX6_dutyEndingBefore 60 = .ok (.invokevirtual 109, 3) := dg dtX6_dutyEndingBefore_0_ok 36 rfl
theorem dX6_dutyEndingBefore_63 : decode cX6_dutyEndingBefore 63 = .ok (.ifCond .eq 25, 3) := dg dtX6_dutyEndingBefore_0_ok 37 rfl
theorem dX6_dutyEndingBefore_66 : decode cX6_dutyEndingBefore 66 = .ok (.iload_n 2, 1) := dg dtX6_dutyEndingBefore_0_ok 38 rfl
theorem dX6_dutyEndingBefore_67 : decode cX6_dutyEndingBefore 67 = .ok (.aload_n 0, 1) := dg dtX6_dutyEndingBefore_0_ok 39 rfl
theorem dX6_dutyEndingBefore_68 : decode cX6_dutyEndingBefore 68 = .ok (.getfield 27, 3) := dg dtX6_dutyEndingBefore_0_ok 40 rfl
theorem dX6_dutyEndingBefore_71 : decode cX6_dutyEndingBefore 71 = .ok (.iload_n 3, 1) := dg dtX6_dutyEndingBefore_0_ok 41 rfl
theorem dX6_dutyEndingBefore_72 : decode cX6_dutyEndingBefore 72 = .ok (.aaload, 1) := dg dtX6_dutyEndingBefore_0_ok 42 rfl
theorem dX6_dutyEndingBefore_73 : decode cX6_dutyEndingBefore 73 = .ok (.iconst 0, 1) := dg dtX6_dutyEndingBefore_0_ok 43 rfl
theorem dX6_dutyEndingBefore_74 : decode cX6_dutyEndingBefore 74 = .ok (.aload_n 0, 1) := dg dtX6_dutyEndingBefore_0_ok 44 rfl
theorem dX6_dutyEndingBefore_75 : decode cX6_dutyEndingBefore 75 = .ok (.getfield 27, 3) := dg dtX6_dutyEndingBefore_0_ok 45 rfl
theorem dX6_dutyEndingBefore_78 : decode cX6_dutyEndingBefore 78 = .ok (.iload_n 3, 1) := dg dtX6_dutyEndingBefore_0_ok 46 rfl
theorem dX6_dutyEndingBefore_79 : decode cX6_dutyEndingBefore 79 = .ok (.aaload, 1) := dg dtX6_dutyEndingBefore_0_ok 47 rfl
def dtX6_dutyEndingBefore_1 : List (Nat × Instr × Nat) := [(80, .getfield 82, 3), (83, .invokevirtual 110, 3), (86, .iadd, 1), (87, .istore_n 2, 1), (88, .iinc 3 1, 3), (91, .goto (-46), 3), (94, .iload_n 2, 1), (95, .ireturn, 1)]
theorem dtX6_dutyEndingBefore_1_ok : ∀ q ∈ dtX6_dutyEndingBefore_1, decode cX6_dutyEndingBefore q.1 = .ok q.2 := by decide +kernel
theorem dX6_dutyEndingBefore_80 : decode cX6_dutyEndingBefore 80 = .ok (.getfield 82, 3) := dg dtX6_dutyEndingBefore_1_ok 0 rfl
theorem dX6_dutyEndingBefore_83 : decode cX6_dutyEndingBefore 83 = .ok (.invokevirtual 110, 3) := dg dtX6_dutyEndingBefore_1_ok 1 rfl
theorem dX6_dutyEndingBefore_86 : decode cX6_dutyEndingBefore 86 = .ok (.iadd, 1) := dg dtX6_dutyEndingBefore_1_ok 2 rfl
theorem dX6_dutyEndingBefore_87 : decode cX6_dutyEndingBefore 87 = .ok (.istore_n 2, 1) := dg dtX6_dutyEndingBefore_1_ok 3 rfl
theorem dX6_dutyEndingBefore_88 : decode cX6_dutyEndingBefore 88 = .ok (.iinc 3 1, 3) := dg dtX6_dutyEndingBefore_1_ok 4 rfl
theorem dX6_dutyEndingBefore_91 : decode cX6_dutyEndingBefore 91 = .ok (.goto (-46), 3) := dg dtX6_dutyEndingBefore_1_ok 5 rfl
theorem dX6_dutyEndingBefore_94 : decode cX6_dutyEndingBefore 94 = .ok (.iload_n 2, 1) := dg dtX6_dutyEndingBefore_1_ok 6 rfl
theorem dX6_dutyEndingBefore_95 : decode cX6_dutyEndingBefore 95 = .ok (.ireturn, 1) := dg dtX6_dutyEndingBefore_1_ok 7 rfl
def dtX6_loseExports_0 : List (Nat × Instr × Nat) := [(0, .iconst 0, 1), (1, .istore_n 1, 1), (2, .iconst 0, 1), (3, .istore_n 2, 1), (4, .iload_n 2, 1), (5, .aload_n 0, 1), (6, .getfield 59, 3), (9, .if_icmp .ge 64, 3), (12, .aload_n 0, 1), (13, .getfield 34, 3), (16, .iload_n 2, 1), (17, .aaload, 1), (18, .astore_n 3, 1), (19, .aload_n 0, 1), (20, .aload_n 3, 1), (21, .getfield 92, 3), (24, .invokevirtual 114, 3), (27, .astore 4, 2), (29, .aload 4, 2), (31, .ifnull 36, 3), (34, .aload_n 3, 1), (35, .aload_n 0, 1), (36, .getfield 65, 3), (39, .invokevirtual 102, 3), (42, .ifCond .eq 25, 3), (45, .aload_n 3, 1), (46, .iconst 2, 1), (47, .putfield 118, 3), (50, .aload_n 0, 1), (51, .aload 4, 2), (53, .aload_n 3, 1), (54, .getfield 106, 3), (57, .invokevirtual 121, 3), (60, .iload_n 1, 1), (61, .aload_n 3, 1), (62, .getfield 106, 3), (65, .iadd, 1), (66, .istore_n 1, 1), (67, .iinc 2 1, 3), (70, .goto (-66), 3), (73, .iload_n 1, 1), (74, .ireturn, 1)]
theorem dtX6_loseExports_0_ok : ∀ q ∈ dtX6_loseExports_0, decode cX6_loseExports q.1 = .ok q.2 := by decide +kernel
theorem dX6_loseExports_0 : decode cX6_loseExports 0 = .ok (.iconst 0, 1) := dg dtX6_loseExports_0_ok 0 rfl
theorem dX6_loseExports_1 : decode cX6_loseExports 1 = .ok (.istore_n 1, 1) := dg dtX6_loseExports_0_ok 1 rfl
theorem dX6_loseExports_2 : decode cX6_loseExports 2 = .ok (.iconst 0, 1) := dg dtX6_loseExports_0_ok 2 rfl
theorem dX6_loseExports_3 : decode cX6_loseExports 3 = .ok (.istore_n 2, 1) := dg dtX6_loseExports_0_ok 3 rfl
theorem dX6_loseExports_4 : decode cX6_loseExports 4 = .ok (.iload_n 2, 1) := dg dtX6_loseExports_0_ok 4 rfl
theorem dX6_loseExports_5 : decode cX6_loseExports 5 = .ok (.aload_n 0, 1) := dg dtX6_loseExports_0_ok 5 rfl
theorem dX6_loseExports_6 : decode cX6_loseExports 6 = .ok (.getfield 59, 3) := dg dtX6_loseExports_0_ok 6 rfl
theorem dX6_loseExports_9 : decode cX6_loseExports 9 = .ok (.if_icmp .ge 64, 3) := dg dtX6_loseExports_0_ok 7 rfl
theorem dX6_loseExports_12 : decode cX6_loseExports 12 = .ok (.aload_n 0, 1) := dg dtX6_loseExports_0_ok 8 rfl
theorem dX6_loseExports_13 : decode cX6_loseExports 13 = .ok (.getfield 34, 3) := dg dtX6_loseExports_0_ok 9 rfl
theorem dX6_loseExports_16 : decode cX6_loseExports 16 = .ok (.iload_n 2, 1) := dg dtX6_loseExports_0_ok 10 rfl
theorem dX6_loseExports_17 : decode cX6_loseExports 17 = .ok (.aaload, 1) := dg dtX6_loseExports_0_ok 11 rfl
theorem dX6_loseExports_18 : decode cX6_loseExports 18 = .ok (.astore_n 3, 1) := dg dtX6_loseExports_0_ok 12 rfl
theorem dX6_loseExports_19 : decode cX6_loseExports 19 = .ok (.aload_n 0, 1) := dg dtX6_loseExports_0_ok 13 rfl
theorem dX6_loseExports_20 : decode cX6_loseExports 20 = .ok (.aload_n 3, 1) := dg dtX6_loseExports_0_ok 14 rfl
theorem dX6_loseExports_21 : decode cX6_loseExports 21 = .ok (.getfield 92, 3) := dg dtX6_loseExports_0_ok 15 rfl
theorem dX6_loseExports_24 : decode cX6_loseExports 24 = .ok (.invokevirtual 114, 3) := dg dtX6_loseExports_0_ok 16 rfl
theorem dX6_loseExports_27 : decode cX6_loseExports 27 = .ok (.astore 4, 2) := dg dtX6_loseExports_0_ok 17 rfl
theorem dX6_loseExports_29 : decode cX6_loseExports 29 = .ok (.aload 4, 2) := dg dtX6_loseExports_0_ok 18 rfl
theorem dX6_loseExports_31 : decode cX6_loseExports 31 = .ok (.ifnull 36, 3) := dg dtX6_loseExports_0_ok 19 rfl
theorem dX6_loseExports_34 : decode cX6_loseExports 34 = .ok (.aload_n 3, 1) := dg dtX6_loseExports_0_ok 20 rfl
theorem dX6_loseExports_35 : decode cX6_loseExports 35 = .ok (.aload_n 0, 1) := dg dtX6_loseExports_0_ok 21 rfl
theorem dX6_loseExports_36 : decode cX6_loseExports 36 = .ok (.getfield 65, 3) := dg dtX6_loseExports_0_ok 22 rfl
theorem dX6_loseExports_39 : decode cX6_loseExports 39 = .ok (.invokevirtual 102, 3) := dg dtX6_loseExports_0_ok 23 rfl
theorem dX6_loseExports_42 : decode cX6_loseExports 42 = .ok (.ifCond .eq 25, 3) := dg dtX6_loseExports_0_ok 24 rfl
theorem dX6_loseExports_45 : decode cX6_loseExports 45 = .ok (.aload_n 3, 1) := dg dtX6_loseExports_0_ok 25 rfl
theorem dX6_loseExports_46 : decode cX6_loseExports 46 = .ok (.iconst 2, 1) := dg dtX6_loseExports_0_ok 26 rfl
theorem dX6_loseExports_47 : decode cX6_loseExports 47 = .ok (.putfield 118, 3) := dg dtX6_loseExports_0_ok 27 rfl
theorem dX6_loseExports_50 : decode cX6_loseExports 50 = .ok (.aload_n 0, 1) := dg dtX6_loseExports_0_ok 28 rfl
theorem dX6_loseExports_51 : decode cX6_loseExports 51 = .ok (.aload 4, 2) := dg dtX6_loseExports_0_ok 29 rfl
theorem dX6_loseExports_53 : decode cX6_loseExports 53 = .ok (.aload_n 3, 1) := dg dtX6_loseExports_0_ok 30 rfl
theorem dX6_loseExports_54 : decode cX6_loseExports 54 = .ok (.getfield 106, 3) := dg dtX6_loseExports_0_ok 31 rfl
theorem dX6_loseExports_57 : decode cX6_loseExports 57 = .ok (.invokevirtual 121, 3) := dg dtX6_loseExports_0_ok 32 rfl
theorem dX6_loseExports_60 : decode cX6_loseExports 60 = .ok (.iload_n 1, 1) := dg dtX6_loseExports_0_ok 33 rfl
theorem dX6_loseExports_61 : decode cX6_loseExports 61 = .ok (.aload_n 3, 1) := dg dtX6_loseExports_0_ok 34 rfl
theorem dX6_loseExports_62 : decode cX6_loseExports 62 = .ok (.getfield 106, 3) := dg dtX6_loseExports_0_ok 35 rfl
theorem dX6_loseExports_65 : decode cX6_loseExports 65 = .ok (.iadd, 1) := dg dtX6_loseExports_0_ok 36 rfl
theorem dX6_loseExports_66 : decode cX6_loseExports 66 = .ok (.istore_n 1, 1) := dg dtX6_loseExports_0_ok 37 rfl
theorem dX6_loseExports_67 : decode cX6_loseExports 67 = .ok (.iinc 2 1, 3) := dg dtX6_loseExports_0_ok 38 rfl
theorem dX6_loseExports_70 : decode cX6_loseExports 70 = .ok (.goto (-66), 3) := dg dtX6_loseExports_0_ok 39 rfl
theorem dX6_loseExports_73 : decode cX6_loseExports 73 = .ok (.iload_n 1, 1) := dg dtX6_loseExports_0_ok 40 rfl
theorem dX6_loseExports_74 : decode cX6_loseExports 74 = .ok (.ireturn, 1) := dg dtX6_loseExports_0_ok 41 rfl
def dtX6_seizeLots_0 : List (Nat × Instr × Nat) := [(0, .iconst 0, 1), (1, .istore_n 1, 1), (2, .iconst 0, 1), (3, .istore_n 2, 1), (4, .iload_n 2, 1), (5, .aload_n 0, 1), (6, .getfield 56, 3), (9, .if_icmp .ge 65, 3), (12, .aload_n 0, 1), (13, .getfield 27, 3), (16, .iload_n 2, 1), (17, .aaload, 1), (18, .astore_n 3, 1), (19, .aload_n 3, 1), (20, .aload_n 0, 1), (21, .getfield 65, 3), (24, .invokevirtual 109, 3), (27, .ifCond .eq 41, 3), (30, .aload_n 3, 1), (31, .iconst 0, 1), (32, .aload_n 3, 1), (33, .getfield 82, 3), (36, .invokevirtual 110, 3), (39, .istore 4, 2), (41, .aload_n 3, 1), (42, .iconst 0, 1), (43, .putfield 82, 3), (46, .aload_n 0, 1), (47, .dup, 1), (48, .getfield 62, 3), (51, .iconst 1, 1), (52, .iadd, 1), (53, .putfield 62, 3), (56, .aload_n 0, 1), (57, .aload_n 3, 1), (58, .iload 4, 2), (60, .invokevirtual 121, 3), (63, .iload_n 1, 1), (64, .iload 4, 2), (66, .iadd, 1), (67, .istore_n 1, 1), (68, .iinc 2 1, 3), (71, .goto (-67), 3), (74, .iload_n 1, 1), (75, .ireturn, 1)]
theorem dtX6_seizeLots_0_ok : ∀ q ∈ dtX6_seizeLots_0, decode cX6_seizeLots q.1 = .ok q.2 := by decide +kernel
theorem dX6_seizeLots_0 : decode cX6_seizeLots 0 = .ok (.iconst 0, 1) := dg dtX6_seizeLots_0_ok 0 rfl
theorem dX6_seizeLots_1 : decode cX6_seizeLots 1 = .ok (.istore_n 1, 1) := dg dtX6_seizeLots_0_ok 1 rfl
theorem dX6_seizeLots_2 : decode cX6_seizeLots 2 = .ok (.iconst 0, 1) := dg dtX6_seizeLots_0_ok 2 rfl
theorem dX6_seizeLots_3 : decode cX6_seizeLots 3 = .ok (.istore_n 2, 1) := dg dtX6_seizeLots_0_ok 3 rfl
theorem dX6_seizeLots_4 : decode cX6_seizeLots 4 = .ok (.iload_n 2, 1) := dg dtX6_seizeLots_0_ok 4 rfl
theorem dX6_seizeLots_5 : decode cX6_seizeLots 5 = .ok (.aload_n 0, 1) := dg dtX6_seizeLots_0_ok 5 rfl
theorem dX6_seizeLots_6 : decode cX6_seizeLots 6 = .ok (.getfield 56, 3) := dg dtX6_seizeLots_0_ok 6 rfl
theorem dX6_seizeLots_9 : decode cX6_seizeLots 9 = .ok (.if_icmp .ge 65, 3) := dg dtX6_seizeLots_0_ok 7 rfl
theorem dX6_seizeLots_12 : decode cX6_seizeLots 12 = .ok (.aload_n 0, 1) := dg dtX6_seizeLots_0_ok 8 rfl
theorem dX6_seizeLots_13 : decode cX6_seizeLots 13 = .ok (.getfield 27, 3) := dg dtX6_seizeLots_0_ok 9 rfl
theorem dX6_seizeLots_16 : decode cX6_seizeLots 16 = .ok (.iload_n 2, 1) := dg dtX6_seizeLots_0_ok 10 rfl
theorem dX6_seizeLots_17 : decode cX6_seizeLots 17 = .ok (.aaload, 1) := dg dtX6_seizeLots_0_ok 11 rfl
theorem dX6_seizeLots_18 : decode cX6_seizeLots 18 = .ok (.astore_n 3, 1) := dg dtX6_seizeLots_0_ok 12 rfl
theorem dX6_seizeLots_19 : decode cX6_seizeLots 19 = .ok (.aload_n 3, 1) := dg dtX6_seizeLots_0_ok 13 rfl
theorem dX6_seizeLots_20 : decode cX6_seizeLots 20 = .ok (.aload_n 0, 1) := dg dtX6_seizeLots_0_ok 14 rfl
theorem dX6_seizeLots_21 : decode cX6_seizeLots 21 = .ok (.getfield 65, 3) := dg dtX6_seizeLots_0_ok 15 rfl
theorem dX6_seizeLots_24 : decode cX6_seizeLots 24 = .ok (.invokevirtual 109, 3) := dg dtX6_seizeLots_0_ok 16 rfl
theorem dX6_seizeLots_27 : decode cX6_seizeLots 27 = .ok (.ifCond .eq 41, 3) := dg dtX6_seizeLots_0_ok 17 rfl
theorem dX6_seizeLots_30 : decode cX6_seizeLots 30 = .ok (.aload_n 3, 1) := dg dtX6_seizeLots_0_ok 18 rfl
theorem dX6_seizeLots_31 : decode cX6_seizeLots 31 = .ok (.iconst 0, 1) := dg dtX6_seizeLots_0_ok 19 rfl
theorem dX6_seizeLots_32 : decode cX6_seizeLots 32 = .ok (.aload_n 3, 1) := dg dtX6_seizeLots_0_ok 20 rfl
theorem dX6_seizeLots_33 : decode cX6_seizeLots 33 = .ok (.getfield 82, 3) := dg dtX6_seizeLots_0_ok 21 rfl
theorem dX6_seizeLots_36 : decode cX6_seizeLots 36 = .ok (.invokevirtual 110, 3) := dg dtX6_seizeLots_0_ok 22 rfl
theorem dX6_seizeLots_39 : decode cX6_seizeLots 39 = .ok (.istore 4, 2) := dg dtX6_seizeLots_0_ok 23 rfl
theorem dX6_seizeLots_41 : decode cX6_seizeLots 41 = .ok (.aload_n 3, 1) := dg dtX6_seizeLots_0_ok 24 rfl
theorem dX6_seizeLots_42 : decode cX6_seizeLots 42 = .ok (.iconst 0, 1) := dg dtX6_seizeLots_0_ok 25 rfl
theorem dX6_seizeLots_43 : decode cX6_seizeLots 43 = .ok (.putfield 82, 3) := dg dtX6_seizeLots_0_ok 26 rfl
theorem dX6_seizeLots_46 : decode cX6_seizeLots 46 = .ok (.aload_n 0, 1) := dg dtX6_seizeLots_0_ok 27 rfl
theorem dX6_seizeLots_47 : decode cX6_seizeLots 47 = .ok (.dup, 1) := dg dtX6_seizeLots_0_ok 28 rfl
theorem dX6_seizeLots_48 : decode cX6_seizeLots 48 = .ok (.getfield 62, 3) := dg dtX6_seizeLots_0_ok 29 rfl
theorem dX6_seizeLots_51 : decode cX6_seizeLots 51 = .ok (.iconst 1, 1) := dg dtX6_seizeLots_0_ok 30 rfl
theorem dX6_seizeLots_52 : decode cX6_seizeLots 52 = .ok (.iadd, 1) := dg dtX6_seizeLots_0_ok 31 rfl
theorem dX6_seizeLots_53 : decode cX6_seizeLots 53 = .ok (.putfield 62, 3) := dg dtX6_seizeLots_0_ok 32 rfl
theorem dX6_seizeLots_56 : decode cX6_seizeLots 56 = .ok (.aload_n 0, 1) := dg dtX6_seizeLots_0_ok 33 rfl
theorem dX6_seizeLots_57 : decode cX6_seizeLots 57 = .ok (.aload_n 3, 1) := dg dtX6_seizeLots_0_ok 34 rfl
theorem dX6_seizeLots_58 : decode cX6_seizeLots 58 = .ok (.iload 4, 2) := dg dtX6_seizeLots_0_ok 35 rfl
theorem dX6_seizeLots_60 : decode cX6_seizeLots 60 = .ok (.invokevirtual 121, 3) := dg dtX6_seizeLots_0_ok 36 rfl
theorem dX6_seizeLots_63 : decode cX6_seizeLots 63 = .ok (.iload_n 1, 1) := dg dtX6_seizeLots_0_ok 37 rfl
theorem dX6_seizeLots_64 : decode cX6_seizeLots 64 = .ok (.iload 4, 2) := dg dtX6_seizeLots_0_ok 38 rfl
theorem dX6_seizeLots_66 : decode cX6_seizeLots 66 = .ok (.iadd, 1) := dg dtX6_seizeLots_0_ok 39 rfl
theorem dX6_seizeLots_67 : decode cX6_seizeLots 67 = .ok (.istore_n 1, 1) := dg dtX6_seizeLots_0_ok 40 rfl
theorem dX6_seizeLots_68 : decode cX6_seizeLots 68 = .ok (.iinc 2 1, 3) := dg dtX6_seizeLots_0_ok 41 rfl
theorem dX6_seizeLots_71 : decode cX6_seizeLots 71 = .ok (.goto (-67), 3) := dg dtX6_seizeLots_0_ok 42 rfl
theorem dX6_seizeLots_74 : decode cX6_seizeLots 74 = .ok (.iload_n 1, 1) := dg dtX6_seizeLots_0_ok 43 rfl
theorem dX6_seizeLots_75 : decode cX6_seizeLots 75 = .ok (.ireturn, 1) := dg dtX6_seizeLots_0_ok 44 rfl
def dtX6_callDuty_0 : List (Nat × Instr × Nat) := [(0, .aload_n 1, 1), (1, .dup, 1), (2, .getfield 125, 3), (5, .iload_n 2, 1), (6, .iadd, 1), (7, .putfield 125, 3), (10, .aload_n 0, 1), (11, .aload_n 1, 1), (12, .getfield 75, 3), (15, .invokevirtual 128, 3), (18, .astore_n 3, 1), (19, .aload_n 3, 1), (20, .ifnull 8, 3), (23, .aload_n 3, 1), (24, .iload_n 2, 1), (25, .invokevirtual 132, 3), (28, .return_, 1)]
theorem dtX6_callDuty_0_ok : ∀ q ∈ dtX6_callDuty_0, decode cX6_callDuty q.1 = .ok q.2 := by decide +kernel
theorem dX6_callDuty_0 : decode cX6_callDuty 0 = .ok (.aload_n 1, 1) := dg dtX6_callDuty_0_ok 0 rfl
theorem dX6_callDuty_1 : decode cX6_callDuty 1 = .ok (.dup, 1) := dg dtX6_callDuty_0_ok 1 rfl
theorem dX6_callDuty_2 : decode cX6_callDuty 2 = .ok (.getfield 125, 3) := dg dtX6_callDuty_0_ok 2 rfl
theorem dX6_callDuty_5 : decode cX6_callDuty 5 = .ok (.iload_n 2, 1) := dg dtX6_callDuty_0_ok 3 rfl
theorem dX6_callDuty_6 : decode cX6_callDuty 6 = .ok (.iadd, 1) := dg dtX6_callDuty_0_ok 4 rfl
theorem dX6_callDuty_7 : decode cX6_callDuty 7 = .ok (.putfield 125, 3) := dg dtX6_callDuty_0_ok 5 rfl
theorem dX6_callDuty_10 : decode cX6_callDuty 10 = .ok (.aload_n 0, 1) := dg dtX6_callDuty_0_ok 6 rfl
theorem dX6_callDuty_11 : decode cX6_callDuty 11 = .ok (.aload_n 1, 1) := dg dtX6_callDuty_0_ok 7 rfl
theorem dX6_callDuty_12 : decode cX6_callDuty 12 = .ok (.getfield 75, 3) := dg dtX6_callDuty_0_ok 8 rfl
theorem dX6_callDuty_15 : decode cX6_callDuty 15 = .ok (.invokevirtual 128, 3) := dg dtX6_callDuty_0_ok 9 rfl
theorem dX6_callDuty_18 : decode cX6_callDuty 18 = .ok (.astore_n 3, 1) := dg dtX6_callDuty_0_ok 10 rfl
theorem dX6_callDuty_19 : decode cX6_callDuty 19 = .ok (.aload_n 3, 1) := dg dtX6_callDuty_0_ok 11 rfl
theorem dX6_callDuty_20 : decode cX6_callDuty 20 = .ok (.ifnull 8, 3) := dg dtX6_callDuty_0_ok 12 rfl
theorem dX6_callDuty_23 : decode cX6_callDuty 23 = .ok (.aload_n 3, 1) := dg dtX6_callDuty_0_ok 13 rfl
theorem dX6_callDuty_24 : decode cX6_callDuty 24 = .ok (.iload_n 2, 1) := dg dtX6_callDuty_0_ok 14 rfl
theorem dX6_callDuty_25 : decode cX6_callDuty 25 = .ok (.invokevirtual 132, 3) := dg dtX6_callDuty_0_ok 15 rfl
theorem dX6_callDuty_28 : decode cX6_callDuty 28 = .ok (.return_, 1) := dg dtX6_callDuty_0_ok 16 rfl
def dtX7_init_0 : List (Nat × Instr × Nat) := [(0, .aload_n 0, 1), (1, .invokespecial 1, 3), (4, .aload_n 0, 1), (5, .new 7, 3), (8, .dup, 1), (9, .invokespecial 9, 3), (12, .putfield 10, 3), (15, .aload_n 0, 1), (16, .new 16, 3), (19, .dup, 1), (20, .invokespecial 18, 3), (23, .putfield 19, 3), (26, .aload_n 0, 1), (27, .iconst 2, 1), (28, .anewarray 7, 3), (31, .putfield 23, 3), (34, .iconst 0, 1), (35, .istore_n 1, 1), (36, .iload_n 1, 1), (37, .iconst 2, 1), (38, .if_icmp .ge 22, 3), (41, .aload_n 0, 1), (42, .getfield 23, 3), (45, .iload_n 1, 1), (46, .new 7, 3), (49, .dup, 1), (50, .invokespecial 9, 3), (53, .aastore, 1), (54, .iinc 1 1, 3), (57, .goto (-21), 3), (60, .aload_n 0, 1), (61, .iconst 2, 1), (62, .newarray .boolean, 2), (64, .putfield 27, 3), (67, .aload_n 0, 1), (68, .new 31, 3), (71, .dup, 1), (72, .invokespecial 33, 3), (75, .putfield 34, 3), (78, .aload_n 0, 1), (79, .new 38, 3), (82, .dup, 1), (83, .invokespecial 40, 3), (86, .putfield 41, 3), (89, .aload_n 0, 1), (90, .iconst 0, 1), (91, .putfield 45, 3), (94, .return_, 1)]
theorem dtX7_init_0_ok : ∀ q ∈ dtX7_init_0, decode cX7_init q.1 = .ok q.2 := by decide +kernel
theorem dX7_init_0 : decode cX7_init 0 = .ok (.aload_n 0, 1) := dg dtX7_init_0_ok 0 rfl
theorem dX7_init_1 : decode cX7_init 1 = .ok (.invokespecial 1, 3) := dg dtX7_init_0_ok 1 rfl
theorem dX7_init_4 : decode cX7_init 4 = .ok (.aload_n 0, 1) := dg dtX7_init_0_ok 2 rfl
theorem dX7_init_5 : decode cX7_init 5 = .ok (.new 7, 3) := dg dtX7_init_0_ok 3 rfl
theorem dX7_init_8 : decode cX7_init 8 = .ok (.dup, 1) := dg dtX7_init_0_ok 4 rfl
theorem dX7_init_9 : decode cX7_init 9 = .ok (.invokespecial 9, 3) := dg dtX7_init_0_ok 5 rfl
theorem dX7_init_12 : decode cX7_init 12 = .ok (.putfield 10, 3) := dg dtX7_init_0_ok 6 rfl
theorem dX7_init_15 : decode cX7_init 15 = .ok (.aload_n 0, 1) := dg dtX7_init_0_ok 7 rfl
theorem dX7_init_16 : decode cX7_init 16 = .ok (.new 16, 3) := dg dtX7_init_0_ok 8 rfl
theorem dX7_init_19 : decode cX7_init 19 = .ok (.dup, 1) := dg dtX7_init_0_ok 9 rfl
theorem dX7_init_20 : decode cX7_init 20 = .ok (.invokespecial 18, 3) := dg dtX7_init_0_ok 10 rfl
theorem dX7_init_23 : decode cX7_init 23 = .ok (.putfield 19, 3) := dg dtX7_init_0_ok 11 rfl
theorem dX7_init_26 : decode cX7_init 26 = .ok (.aload_n 0, 1) := dg dtX7_init_0_ok 12 rfl
theorem dX7_init_27 : decode cX7_init 27 = .ok (.iconst 2, 1) := dg dtX7_init_0_ok 13 rfl
theorem dX7_init_28 : decode cX7_init 28 = .ok (.anewarray 7, 3) := dg dtX7_init_0_ok 14 rfl
theorem dX7_init_31 : decode cX7_init 31 = .ok (.putfield 23, 3) := dg dtX7_init_0_ok 15 rfl
theorem dX7_init_34 : decode cX7_init 34 = .ok (.iconst 0, 1) := dg dtX7_init_0_ok 16 rfl
theorem dX7_init_35 : decode cX7_init 35 = .ok (.istore_n 1, 1) := dg dtX7_init_0_ok 17 rfl
theorem dX7_init_36 : decode cX7_init 36 = .ok (.iload_n 1, 1) := dg dtX7_init_0_ok 18 rfl
theorem dX7_init_37 : decode cX7_init 37 = .ok (.iconst 2, 1) := dg dtX7_init_0_ok 19 rfl
theorem dX7_init_38 : decode cX7_init 38 = .ok (.if_icmp .ge 22, 3) := dg dtX7_init_0_ok 20 rfl
theorem dX7_init_41 : decode cX7_init 41 = .ok (.aload_n 0, 1) := dg dtX7_init_0_ok 21 rfl
theorem dX7_init_42 : decode cX7_init 42 = .ok (.getfield 23, 3) := dg dtX7_init_0_ok 22 rfl
theorem dX7_init_45 : decode cX7_init 45 = .ok (.iload_n 1, 1) := dg dtX7_init_0_ok 23 rfl
theorem dX7_init_46 : decode cX7_init 46 = .ok (.new 7, 3) := dg dtX7_init_0_ok 24 rfl
theorem dX7_init_49 : decode cX7_init 49 = .ok (.dup, 1) := dg dtX7_init_0_ok 25 rfl
theorem dX7_init_50 : decode cX7_init 50 = .ok (.invokespecial 9, 3) := dg dtX7_init_0_ok 26 rfl
theorem dX7_init_53 : decode cX7_init 53 = .ok (.aastore, 1) := dg dtX7_init_0_ok 27 rfl
theorem dX7_init_54 : decode cX7_init 54 = .ok (.iinc 1 1, 3) := dg dtX7_init_0_ok 28 rfl
theorem dX7_init_57 : decode cX7_init 57 = .ok (.goto (-21), 3) := dg dtX7_init_0_ok 29 rfl
theorem dX7_init_60 : decode cX7_init 60 = .ok (.aload_n 0, 1) := dg dtX7_init_0_ok 30 rfl
theorem dX7_init_61 : decode cX7_init 61 = .ok (.iconst 2, 1) := dg dtX7_init_0_ok 31 rfl
theorem dX7_init_62 : decode cX7_init 62 = .ok (.newarray .boolean, 2) := dg dtX7_init_0_ok 32 rfl
theorem dX7_init_64 : decode cX7_init 64 = .ok (.putfield 27, 3) := dg dtX7_init_0_ok 33 rfl
theorem dX7_init_67 : decode cX7_init 67 = .ok (.aload_n 0, 1) := dg dtX7_init_0_ok 34 rfl
theorem dX7_init_68 : decode cX7_init 68 = .ok (.new 31, 3) := dg dtX7_init_0_ok 35 rfl
theorem dX7_init_71 : decode cX7_init 71 = .ok (.dup, 1) := dg dtX7_init_0_ok 36 rfl
theorem dX7_init_72 : decode cX7_init 72 = .ok (.invokespecial 33, 3) := dg dtX7_init_0_ok 37 rfl
theorem dX7_init_75 : decode cX7_init 75 = .ok (.putfield 34, 3) := dg dtX7_init_0_ok 38 rfl
theorem dX7_init_78 : decode cX7_init 78 = .ok (.aload_n 0, 1) := dg dtX7_init_0_ok 39 rfl
theorem dX7_init_79 : decode cX7_init 79 = .ok (.new 38, 3) := dg dtX7_init_0_ok 40 rfl
theorem dX7_init_82 : decode cX7_init 82 = .ok (.dup, 1) := dg dtX7_init_0_ok 41 rfl
theorem dX7_init_83 : decode cX7_init 83 = .ok (.invokespecial 40, 3) := dg dtX7_init_0_ok 42 rfl
theorem dX7_init_86 : decode cX7_init 86 = .ok (.putfield 41, 3) := dg dtX7_init_0_ok 43 rfl
theorem dX7_init_89 : decode cX7_init 89 = .ok (.aload_n 0, 1) := dg dtX7_init_0_ok 44 rfl
theorem dX7_init_90 : decode cX7_init 90 = .ok (.iconst 0, 1) := dg dtX7_init_0_ok 45 rfl
theorem dX7_init_91 : decode cX7_init 91 = .ok (.putfield 45, 3) := dg dtX7_init_0_ok 46 rfl
theorem dX7_init_94 : decode cX7_init 94 = .ok (.return_, 1) := dg dtX7_init_0_ok 47 rfl
def dtX7_addOwner_0 : List (Nat × Instr × Nat) := [(0, .aload_n 0, 1), (1, .getfield 10, 3), (4, .getfield 49, 3), (7, .iconst 5, 1), (8, .if_icmp .lt 6, 3), (11, .ldc 52, 2), (13, .ireturn, 1), (14, .aload_n 0, 1), (15, .getfield 19, 3), (18, .aload_n 0, 1), (19, .getfield 10, 3), (22, .invokevirtual 53, 3), (25, .aload_n 0, 1), (26, .getfield 10, 3), (29, .getfield 49, 3), (32, .istore_n 1, 1), (33, .aload_n 0, 1), (34, .getfield 10, 3), (37, .iload_n 1, 1), (38, .iconst 1, 1), (39, .iadd, 1), (40, .putfield 49, 3), (43, .aload_n 0, 1), (44, .iload_n 1, 1), (45, .invokevirtual 57, 3), (48, .ireturn, 1)]
theorem dtX7_addOwner_0_ok : ∀ q ∈ dtX7_addOwner_0, decode cX7_addOwner q.1 = .ok q.2 := by decide +kernel
theorem dX7_addOwner_0 : decode cX7_addOwner 0 = .ok (.aload_n 0, 1) := dg dtX7_addOwner_0_ok 0 rfl
theorem dX7_addOwner_1 : decode cX7_addOwner 1 = .ok (.getfield 10, 3) := dg dtX7_addOwner_0_ok 1 rfl
theorem dX7_addOwner_4 : decode cX7_addOwner 4 = .ok (.getfield 49, 3) := dg dtX7_addOwner_0_ok 2 rfl
theorem dX7_addOwner_7 : decode cX7_addOwner 7 = .ok (.iconst 5, 1) := dg dtX7_addOwner_0_ok 3 rfl
theorem dX7_addOwner_8 : decode cX7_addOwner 8 = .ok (.if_icmp .lt 6, 3) := dg dtX7_addOwner_0_ok 4 rfl
theorem dX7_addOwner_11 : decode cX7_addOwner 11 = .ok (.ldc 52, 2) := dg dtX7_addOwner_0_ok 5 rfl
theorem dX7_addOwner_13 : decode cX7_addOwner 13 = .ok (.ireturn, 1) := dg dtX7_addOwner_0_ok 6 rfl
theorem dX7_addOwner_14 : decode cX7_addOwner 14 = .ok (.aload_n 0, 1) := dg dtX7_addOwner_0_ok 7 rfl
theorem dX7_addOwner_15 : decode cX7_addOwner 15 = .ok (.getfield 19, 3) := dg dtX7_addOwner_0_ok 8 rfl
theorem dX7_addOwner_18 : decode cX7_addOwner 18 = .ok (.aload_n 0, 1) := dg dtX7_addOwner_0_ok 9 rfl
theorem dX7_addOwner_19 : decode cX7_addOwner 19 = .ok (.getfield 10, 3) := dg dtX7_addOwner_0_ok 10 rfl
theorem dX7_addOwner_22 : decode cX7_addOwner 22 = .ok (.invokevirtual 53, 3) := dg dtX7_addOwner_0_ok 11 rfl
theorem dX7_addOwner_25 : decode cX7_addOwner 25 = .ok (.aload_n 0, 1) := dg dtX7_addOwner_0_ok 12 rfl
theorem dX7_addOwner_26 : decode cX7_addOwner 26 = .ok (.getfield 10, 3) := dg dtX7_addOwner_0_ok 13 rfl
theorem dX7_addOwner_29 : decode cX7_addOwner 29 = .ok (.getfield 49, 3) := dg dtX7_addOwner_0_ok 14 rfl
theorem dX7_addOwner_32 : decode cX7_addOwner 32 = .ok (.istore_n 1, 1) := dg dtX7_addOwner_0_ok 15 rfl
theorem dX7_addOwner_33 : decode cX7_addOwner 33 = .ok (.aload_n 0, 1) := dg dtX7_addOwner_0_ok 16 rfl
theorem dX7_addOwner_34 : decode cX7_addOwner 34 = .ok (.getfield 10, 3) := dg dtX7_addOwner_0_ok 17 rfl
theorem dX7_addOwner_37 : decode cX7_addOwner 37 = .ok (.iload_n 1, 1) := dg dtX7_addOwner_0_ok 18 rfl
theorem dX7_addOwner_38 : decode cX7_addOwner 38 = .ok (.iconst 1, 1) := dg dtX7_addOwner_0_ok 19 rfl
theorem dX7_addOwner_39 : decode cX7_addOwner 39 = .ok (.iadd, 1) := dg dtX7_addOwner_0_ok 20 rfl
theorem dX7_addOwner_40 : decode cX7_addOwner 40 = .ok (.putfield 49, 3) := dg dtX7_addOwner_0_ok 21 rfl
theorem dX7_addOwner_43 : decode cX7_addOwner 43 = .ok (.aload_n 0, 1) := dg dtX7_addOwner_0_ok 22 rfl
theorem dX7_addOwner_44 : decode cX7_addOwner 44 = .ok (.iload_n 1, 1) := dg dtX7_addOwner_0_ok 23 rfl
theorem dX7_addOwner_45 : decode cX7_addOwner 45 = .ok (.invokevirtual 57, 3) := dg dtX7_addOwner_0_ok 24 rfl
theorem dX7_addOwner_48 : decode cX7_addOwner 48 = .ok (.ireturn, 1) := dg dtX7_addOwner_0_ok 25 rfl
def dtX7_deposit_0 : List (Nat × Instr × Nat) := [(0, .aload_n 0, 1), (1, .getfield 10, 3), (4, .iload_n 1, 1), (5, .invokevirtual 61, 3), (8, .astore_n 3, 1), (9, .aload_n 3, 1), (10, .ifnonnull 6, 3), (13, .ldc 65, 2), (15, .ireturn, 1), (16, .iload_n 2, 1), (17, .iconst 1, 1), (18, .ldc 66, 2), (20, .invokestatic 67, 3), (23, .ifCond .eq 6, 3), (26, .ldc 71, 2), (28, .ireturn, 1), (29, .aload_n 0, 1), (30, .getfield 19, 3), (33, .aload_n 0, 1), (34, .getfield 10, 3), (37, .invokevirtual 53, 3), (40, .aload_n 3, 1), (41, .iload_n 2, 1), (42, .invokevirtual 72, 3), (45, .aload_n 0, 1), (46, .getfield 10, 3), (49, .dup, 1), (50, .getfield 78, 3), (53, .iload_n 2, 1), (54, .i2l, 1), (55, .ladd, 1), (56, .putfield 78, 3), (59, .aload_n 0, 1), (60, .aload_n 3, 1), (61, .getfield 82, 3), (64, .invokevirtual 57, 3), (67, .ireturn, 1)]
theorem dtX7_deposit_0_ok : ∀ q ∈ dtX7_deposit_0, decode cX7_deposit q.1 = .ok q.2 := by decide +kernel
theorem dX7_deposit_0 : decode cX7_deposit 0 = .ok (.aload_n 0, 1) := dg dtX7_deposit_0_ok 0 rfl
theorem dX7_deposit_1 : decode cX7_deposit 1 = .ok (.getfield 10, 3) := dg dtX7_deposit_0_ok 1 rfl
theorem dX7_deposit_4 : decode cX7_deposit 4 = .ok (.iload_n 1, 1) := dg dtX7_deposit_0_ok 2 rfl
theorem dX7_deposit_5 : decode cX7_deposit 5 = .ok (.invokevirtual 61, 3) := dg dtX7_deposit_0_ok 3 rfl
theorem dX7_deposit_8 : decode cX7_deposit 8 = .ok (.astore_n 3, 1) := dg dtX7_deposit_0_ok 4 rfl
theorem dX7_deposit_9 : decode cX7_deposit 9 = .ok (.aload_n 3, 1) := dg dtX7_deposit_0_ok 5 rfl
theorem dX7_deposit_10 : decode cX7_deposit 10 = .ok (.ifnonnull 6, 3) := dg dtX7_deposit_0_ok 6 rfl
theorem dX7_deposit_13 : decode cX7_deposit 13 = .ok (.ldc 65, 2) := dg dtX7_deposit_0_ok 7 rfl
theorem dX7_deposit_15 : decode cX7_deposit 15 = .ok (.ireturn, 1) := dg dtX7_deposit_0_ok 8 rfl
theorem dX7_deposit_16 : decode cX7_deposit 16 = .ok (.iload_n 2, 1) := dg dtX7_deposit_0_ok 9 rfl
theorem dX7_deposit_17 : decode cX7_deposit 17 = .ok (.iconst 1, 1) := dg dtX7_deposit_0_ok 10 rfl
theorem dX7_deposit_18 : decode cX7_deposit 18 = .ok (.ldc 66, 2) := dg dtX7_deposit_0_ok 11 rfl
theorem dX7_deposit_20 : decode cX7_deposit 20 = .ok (.invokestatic 67, 3) := dg dtX7_deposit_0_ok 12 rfl
theorem dX7_deposit_23 : decode cX7_deposit 23 = .ok (.ifCond .eq 6, 3) := dg dtX7_deposit_0_ok 13 rfl
theorem dX7_deposit_26 : decode cX7_deposit 26 = .ok (.ldc 71, 2) := dg dtX7_deposit_0_ok 14 rfl
theorem dX7_deposit_28 : decode cX7_deposit 28 = .ok (.ireturn, 1) := dg dtX7_deposit_0_ok 15 rfl
theorem dX7_deposit_29 : decode cX7_deposit 29 = .ok (.aload_n 0, 1) := dg dtX7_deposit_0_ok 16 rfl
theorem dX7_deposit_30 : decode cX7_deposit 30 = .ok (.getfield 19, 3) := dg dtX7_deposit_0_ok 17 rfl
theorem dX7_deposit_33 : decode cX7_deposit 33 = .ok (.aload_n 0, 1) := dg dtX7_deposit_0_ok 18 rfl
theorem dX7_deposit_34 : decode cX7_deposit 34 = .ok (.getfield 10, 3) := dg dtX7_deposit_0_ok 19 rfl
theorem dX7_deposit_37 : decode cX7_deposit 37 = .ok (.invokevirtual 53, 3) := dg dtX7_deposit_0_ok 20 rfl
theorem dX7_deposit_40 : decode cX7_deposit 40 = .ok (.aload_n 3, 1) := dg dtX7_deposit_0_ok 21 rfl
theorem dX7_deposit_41 : decode cX7_deposit 41 = .ok (.iload_n 2, 1) := dg dtX7_deposit_0_ok 22 rfl
theorem dX7_deposit_42 : decode cX7_deposit 42 = .ok (.invokevirtual 72, 3) := dg dtX7_deposit_0_ok 23 rfl
theorem dX7_deposit_45 : decode cX7_deposit 45 = .ok (.aload_n 0, 1) := dg dtX7_deposit_0_ok 24 rfl
theorem dX7_deposit_46 : decode cX7_deposit 46 = .ok (.getfield 10, 3) := dg dtX7_deposit_0_ok 25 rfl
theorem dX7_deposit_49 : decode cX7_deposit 49 = .ok (.dup, 1) := dg dtX7_deposit_0_ok 26 rfl
theorem dX7_deposit_50 : decode cX7_deposit 50 = .ok (.getfield 78, 3) := dg dtX7_deposit_0_ok 27 rfl
theorem dX7_deposit_53 : decode cX7_deposit 53 = .ok (.iload_n 2, 1) := dg dtX7_deposit_0_ok 28 rfl
theorem dX7_deposit_54 : decode cX7_deposit 54 = .ok (.i2l, 1) := dg dtX7_deposit_0_ok 29 rfl
theorem dX7_deposit_55 : decode cX7_deposit 55 = .ok (.ladd, 1) := dg dtX7_deposit_0_ok 30 rfl
theorem dX7_deposit_56 : decode cX7_deposit 56 = .ok (.putfield 78, 3) := dg dtX7_deposit_0_ok 31 rfl
theorem dX7_deposit_59 : decode cX7_deposit 59 = .ok (.aload_n 0, 1) := dg dtX7_deposit_0_ok 32 rfl
theorem dX7_deposit_60 : decode cX7_deposit 60 = .ok (.aload_n 3, 1) := dg dtX7_deposit_0_ok 33 rfl
theorem dX7_deposit_61 : decode cX7_deposit 61 = .ok (.getfield 82, 3) := dg dtX7_deposit_0_ok 34 rfl
theorem dX7_deposit_64 : decode cX7_deposit 64 = .ok (.invokevirtual 57, 3) := dg dtX7_deposit_0_ok 35 rfl
theorem dX7_deposit_67 : decode cX7_deposit 67 = .ok (.ireturn, 1) := dg dtX7_deposit_0_ok 36 rfl
def dtX7_setGuarantee_0 : List (Nat × Instr × Nat) := [(0, .aload_n 0, 1), (1, .getfield 10, 3), (4, .iload_n 1, 1), (5, .invokevirtual 61, 3), (8, .astore_n 3, 1), (9, .aload_n 3, 1), (10, .ifnonnull 6, 3), (13, .ldc 65, 2), (15, .ireturn, 1), (16, .iload_n 2, 1), (17, .iconst 0, 1), (18, .ldc 85, 2), (20, .invokestatic 67, 3), (23, .ifCond .eq 6, 3), (26, .ldc 71, 2), (28, .ireturn, 1), (29, .aload_n 0, 1), (30, .getfield 10, 3), (33, .getfield 86, 3), (36, .iload_n 2, 1), (37, .aload_n 0, 1), (38, .getfield 10, 3), (41, .iload_n 1, 1), (42, .invokevirtual 90, 3), (45, .invokevirtual 93, 3), (48, .ifCond .ne 9, 3), (51, .aload_n 0, 1), (52, .iconst 2, 1), (53, .invokevirtual 99, 3), (56, .ireturn, 1), (57, .aload_n 0, 1), (58, .getfield 19, 3), (61, .aload_n 0, 1), (62, .getfield 10, 3), (65, .invokevirtual 53, 3), (68, .aload_n 3, 1), (69, .getfield 102, 3), (72, .istore 4, 2), (74, .aload_n 3, 1), (75, .iload_n 2, 1), (76, .putfield 102, 3), (79, .aload_n 0, 1), (80, .iload 4, 2), (82, .invokevirtual 57, 3), (85, .ireturn, 1)]
theorem dtX7_setGuarantee_0_ok : ∀ q ∈ dtX7_setGuarantee_0, decode cX7_setGuarantee q.1 = .ok q.2 := by decide +kernel
theorem dX7_setGuarantee_0 : decode cX7_setGuarantee 0 = .ok (.aload_n 0, 1) := dg dtX7_setGuarantee_0_ok 0 rfl
theorem dX7_setGuarantee_1 : decode cX7_setGuarantee 1 = .ok (.getfield 10, 3) := dg dtX7_setGuarantee_0_ok 1 rfl
theorem dX7_setGuarantee_4 : decode cX7_setGuarantee 4 = .ok (.iload_n 1, 1) := dg dtX7_setGuarantee_0_ok 2 rfl
theorem dX7_setGuarantee_5 : decode cX7_setGuarantee 5 = .ok (.invokevirtual 61, 3) := dg dtX7_setGuarantee_0_ok 3 rfl
theorem dX7_setGuarantee_8 : decode cX7_setGuarantee 8 = .ok (.astore_n 3, 1) := dg dtX7_setGuarantee_0_ok 4 rfl
theorem dX7_setGuarantee_9 : decode cX7_setGuarantee 9 = .ok (.aload_n 3, 1) := dg dtX7_setGuarantee_0_ok 5 rfl
theorem dX7_setGuarantee_10 : decode cX7_setGuarantee 10 = .ok (.ifnonnull 6, 3) := dg dtX7_setGuarantee_0_ok 6 rfl
theorem dX7_setGuarantee_13 : decode cX7_setGuarantee 13 = .ok (.ldc 65, 2) := dg dtX7_setGuarantee_0_ok 7 rfl
theorem dX7_setGuarantee_15 : decode cX7_setGuarantee 15 = .ok (.ireturn, 1) := dg dtX7_setGuarantee_0_ok 8 rfl
theorem dX7_setGuarantee_16 : decode cX7_setGuarantee 16 = .ok (.iload_n 2, 1) := dg dtX7_setGuarantee_0_ok 9 rfl
theorem dX7_setGuarantee_17 : decode cX7_setGuarantee 17 = .ok (.iconst 0, 1) := dg dtX7_setGuarantee_0_ok 10 rfl
theorem dX7_setGuarantee_18 : decode cX7_setGuarantee 18 = .ok (.ldc 85, 2) := dg dtX7_setGuarantee_0_ok 11 rfl
theorem dX7_setGuarantee_20 : decode cX7_setGuarantee 20 = .ok (.invokestatic 67, 3) := dg dtX7_setGuarantee_0_ok 12 rfl
theorem dX7_setGuarantee_23 : decode cX7_setGuarantee 23 = .ok (.ifCond .eq 6, 3) := dg dtX7_setGuarantee_0_ok 13 rfl
theorem dX7_setGuarantee_26 : decode cX7_setGuarantee 26 = .ok (.ldc 71, 2) := dg dtX7_setGuarantee_0_ok 14 rfl
theorem dX7_setGuarantee_28 : decode cX7_setGuarantee 28 = .ok (.ireturn, 1) := dg dtX7_setGuarantee_0_ok 15 rfl
theorem dX7_setGuarantee_29 : decode cX7_setGuarantee 29 = .ok (.aload_n 0, 1) := dg dtX7_setGuarantee_0_ok 16 rfl
theorem dX7_setGuarantee_30 : decode cX7_setGuarantee 30 = .ok (.getfield 10, 3) := dg dtX7_setGuarantee_0_ok 17 rfl
theorem dX7_setGuarantee_33 : decode cX7_setGuarantee 33 = .ok (.getfield 86, 3) := dg dtX7_setGuarantee_0_ok 18 rfl
theorem dX7_setGuarantee_36 : decode cX7_setGuarantee 36 = .ok (.iload_n 2, 1) := dg dtX7_setGuarantee_0_ok 19 rfl
theorem dX7_setGuarantee_37 : decode cX7_setGuarantee 37 = .ok (.aload_n 0, 1) := dg dtX7_setGuarantee_0_ok 20 rfl
theorem dX7_setGuarantee_38 : decode cX7_setGuarantee 38 = .ok (.getfield 10, 3) := dg dtX7_setGuarantee_0_ok 21 rfl
theorem dX7_setGuarantee_41 : decode cX7_setGuarantee 41 = .ok (.iload_n 1, 1) := dg dtX7_setGuarantee_0_ok 22 rfl
theorem dX7_setGuarantee_42 : decode cX7_setGuarantee 42 = .ok (.invokevirtual 90, 3) := dg dtX7_setGuarantee_0_ok 23 rfl
theorem dX7_setGuarantee_45 : decode cX7_setGuarantee 45 = .ok (.invokevirtual 93, 3) := dg dtX7_setGuarantee_0_ok 24 rfl
theorem dX7_setGuarantee_48 : decode cX7_setGuarantee 48 = .ok (.ifCond .ne 9, 3) := dg dtX7_setGuarantee_0_ok 25 rfl
theorem dX7_setGuarantee_51 : decode cX7_setGuarantee 51 = .ok (.aload_n 0, 1) := dg dtX7_setGuarantee_0_ok 26 rfl
theorem dX7_setGuarantee_52 : decode cX7_setGuarantee 52 = .ok (.iconst 2, 1) := dg dtX7_setGuarantee_0_ok 27 rfl
theorem dX7_setGuarantee_53 : decode cX7_setGuarantee 53 = .ok (.invokevirtual 99, 3) := dg dtX7_setGuarantee_0_ok 28 rfl
theorem dX7_setGuarantee_56 : decode cX7_setGuarantee 56 = .ok (.ireturn, 1) := dg dtX7_setGuarantee_0_ok 29 rfl
theorem dX7_setGuarantee_57 : decode cX7_setGuarantee 57 = .ok (.aload_n 0, 1) := dg dtX7_setGuarantee_0_ok 30 rfl
theorem dX7_setGuarantee_58 : decode cX7_setGuarantee 58 = .ok (.getfield 19, 3) := dg dtX7_setGuarantee_0_ok 31 rfl
theorem dX7_setGuarantee_61 : decode cX7_setGuarantee 61 = .ok (.aload_n 0, 1) := dg dtX7_setGuarantee_0_ok 32 rfl
theorem dX7_setGuarantee_62 : decode cX7_setGuarantee 62 = .ok (.getfield 10, 3) := dg dtX7_setGuarantee_0_ok 33 rfl
theorem dX7_setGuarantee_65 : decode cX7_setGuarantee 65 = .ok (.invokevirtual 53, 3) := dg dtX7_setGuarantee_0_ok 34 rfl
theorem dX7_setGuarantee_68 : decode cX7_setGuarantee 68 = .ok (.aload_n 3, 1) := dg dtX7_setGuarantee_0_ok 35 rfl
theorem dX7_setGuarantee_69 : decode cX7_setGuarantee 69 = .ok (.getfield 102, 3) := dg dtX7_setGuarantee_0_ok 36 rfl
theorem dX7_setGuarantee_72 : decode cX7_setGuarantee 72 = .ok (.istore 4, 2) := dg dtX7_setGuarantee_0_ok 37 rfl
theorem dX7_setGuarantee_74 : decode cX7_setGuarantee 74 = .ok (.aload_n 3, 1) := dg dtX7_setGuarantee_0_ok 38 rfl
theorem dX7_setGuarantee_75 : decode cX7_setGuarantee 75 = .ok (.iload_n 2, 1) := dg dtX7_setGuarantee_0_ok 39 rfl
theorem dX7_setGuarantee_76 : decode cX7_setGuarantee 76 = .ok (.putfield 102, 3) := dg dtX7_setGuarantee_0_ok 40 rfl
theorem dX7_setGuarantee_79 : decode cX7_setGuarantee 79 = .ok (.aload_n 0, 1) := dg dtX7_setGuarantee_0_ok 41 rfl
theorem dX7_setGuarantee_80 : decode cX7_setGuarantee 80 = .ok (.iload 4, 2) := dg dtX7_setGuarantee_0_ok 42 rfl
theorem dX7_setGuarantee_82 : decode cX7_setGuarantee 82 = .ok (.invokevirtual 57, 3) := dg dtX7_setGuarantee_0_ok 43 rfl
theorem dX7_setGuarantee_85 : decode cX7_setGuarantee 85 = .ok (.ireturn, 1) := dg dtX7_setGuarantee_0_ok 44 rfl
def dtX7_setRate_0 : List (Nat × Instr × Nat) := [(0, .iload_n 1, 1), (1, .iconst 0, 1), (2, .iconst 5, 1), (3, .invokestatic 67, 3), (6, .ifCond .eq 6, 3), (9, .ldc 65, 2), (11, .ireturn, 1), (12, .iload_n 2, 1), (13, .iconst 0, 1), (14, .sipush 1000, 3), (17, .invokestatic 67, 3), (20, .ifCond .eq 6, 3), (23, .ldc 71, 2), (25, .ireturn, 1), (26, .aload_n 0, 1), (27, .getfield 19, 3), (30, .aload_n 0, 1), (31, .getfield 10, 3), (34, .invokevirtual 53, 3), (37, .aload_n 0, 1), (38, .getfield 10, 3), (41, .getfield 86, 3), (44, .getfield 105, 3), (47, .iload_n 1, 1), (48, .iaload, 1), (49, .istore_n 3, 1), (50, .aload_n 0, 1), (51, .getfield 10, 3), (54, .getfield 86, 3), (57, .getfield 105, 3), (60, .iload_n 1, 1), (61, .iload_n 2, 1), (62, .iastore, 1), (63, .aload_n 0, 1), (64, .iload_n 3, 1), (65, .invokevirtual 57, 3), (68, .ireturn, 1)]
theorem dtX7_setRate_0_ok : ∀ q ∈ dtX7_setRate_0, decode cX7_setRate q.1 = .ok q.2 := by decide +kernel
theorem dX7_setRate_0 : decode cX7_setRate 0 = .ok (.iload_n 1, 1) := dg dtX7_setRate_0_ok 0 rfl
theorem dX7_setRate_1 : decode cX7_setRate 1 = .ok (.iconst 0, 1) := dg dtX7_setRate_0_ok 1 rfl
theorem dX7_setRate_2 : decode cX7_setRate 2 = .ok (.iconst 5, 1) := dg dtX7_setRate_0_ok 2 rfl
theorem dX7_setRate_3 : decode cX7_setRate 3 = .ok (.invokestatic 67, 3) := dg dtX7_setRate_0_ok 3 rfl
theorem dX7_setRate_6 : decode cX7_setRate 6 = .ok (.ifCond .eq 6, 3) := dg dtX7_setRate_0_ok 4 rfl
theorem dX7_setRate_9 : decode cX7_setRate 9 = .ok (.ldc 65, 2) := dg dtX7_setRate_0_ok 5 rfl
theorem dX7_setRate_11 : decode cX7_setRate 11 = .ok (.ireturn, 1) := dg dtX7_setRate_0_ok 6 rfl
theorem dX7_setRate_12 : decode cX7_setRate 12 = .ok (.iload_n 2, 1) := dg dtX7_setRate_0_ok 7 rfl
theorem dX7_setRate_13 : decode cX7_setRate 13 = .ok (.iconst 0, 1) := dg dtX7_setRate_0_ok 8 rfl
theorem dX7_setRate_14 : decode cX7_setRate 14 = .ok (.sipush 1000, 3) := dg dtX7_setRate_0_ok 9 rfl
theorem dX7_setRate_17 : decode cX7_setRate 17 = .ok (.invokestatic 67, 3) := dg dtX7_setRate_0_ok 10 rfl
theorem dX7_setRate_20 : decode cX7_setRate 20 = .ok (.ifCond .eq 6, 3) := dg dtX7_setRate_0_ok 11 rfl
theorem dX7_setRate_23 : decode cX7_setRate 23 = .ok (.ldc 71, 2) := dg dtX7_setRate_0_ok 12 rfl
theorem dX7_setRate_25 : decode cX7_setRate 25 = .ok (.ireturn, 1) := dg dtX7_setRate_0_ok 13 rfl
theorem dX7_setRate_26 : decode cX7_setRate 26 = .ok (.aload_n 0, 1) := dg dtX7_setRate_0_ok 14 rfl
theorem dX7_setRate_27 : decode cX7_setRate 27 = .ok (.getfield 19, 3) := dg dtX7_setRate_0_ok 15 rfl
theorem dX7_setRate_30 : decode cX7_setRate 30 = .ok (.aload_n 0, 1) := dg dtX7_setRate_0_ok 16 rfl
theorem dX7_setRate_31 : decode cX7_setRate 31 = .ok (.getfield 10, 3) := dg dtX7_setRate_0_ok 17 rfl
theorem dX7_setRate_34 : decode cX7_setRate 34 = .ok (.invokevirtual 53, 3) := dg dtX7_setRate_0_ok 18 rfl
theorem dX7_setRate_37 : decode cX7_setRate 37 = .ok (.aload_n 0, 1) := dg dtX7_setRate_0_ok 19 rfl
theorem dX7_setRate_38 : decode cX7_setRate 38 = .ok (.getfield 10, 3) := dg dtX7_setRate_0_ok 20 rfl
theorem dX7_setRate_41 : decode cX7_setRate 41 = .ok (.getfield 86, 3) := dg dtX7_setRate_0_ok 21 rfl
theorem dX7_setRate_44 : decode cX7_setRate 44 = .ok (.getfield 105, 3) := dg dtX7_setRate_0_ok 22 rfl
theorem dX7_setRate_47 : decode cX7_setRate 47 = .ok (.iload_n 1, 1) := dg dtX7_setRate_0_ok 23 rfl
theorem dX7_setRate_48 : decode cX7_setRate 48 = .ok (.iaload, 1) := dg dtX7_setRate_0_ok 24 rfl
theorem dX7_setRate_49 : decode cX7_setRate 49 = .ok (.istore_n 3, 1) := dg dtX7_setRate_0_ok 25 rfl
theorem dX7_setRate_50 : decode cX7_setRate 50 = .ok (.aload_n 0, 1) := dg dtX7_setRate_0_ok 26 rfl
theorem dX7_setRate_51 : decode cX7_setRate 51 = .ok (.getfield 10, 3) := dg dtX7_setRate_0_ok 27 rfl
theorem dX7_setRate_54 : decode cX7_setRate 54 = .ok (.getfield 86, 3) := dg dtX7_setRate_0_ok 28 rfl
theorem dX7_setRate_57 : decode cX7_setRate 57 = .ok (.getfield 105, 3) := dg dtX7_setRate_0_ok 29 rfl
theorem dX7_setRate_60 : decode cX7_setRate 60 = .ok (.iload_n 1, 1) := dg dtX7_setRate_0_ok 30 rfl
theorem dX7_setRate_61 : decode cX7_setRate 61 = .ok (.iload_n 2, 1) := dg dtX7_setRate_0_ok 31 rfl
theorem dX7_setRate_62 : decode cX7_setRate 62 = .ok (.iastore, 1) := dg dtX7_setRate_0_ok 32 rfl
theorem dX7_setRate_63 : decode cX7_setRate 63 = .ok (.aload_n 0, 1) := dg dtX7_setRate_0_ok 33 rfl
theorem dX7_setRate_64 : decode cX7_setRate 64 = .ok (.iload_n 3, 1) := dg dtX7_setRate_0_ok 34 rfl
theorem dX7_setRate_65 : decode cX7_setRate 65 = .ok (.invokevirtual 57, 3) := dg dtX7_setRate_0_ok 35 rfl
theorem dX7_setRate_68 : decode cX7_setRate 68 = .ok (.ireturn, 1) := dg dtX7_setRate_0_ok 36 rfl
def dtX7_setTerms_0 : List (Nat × Instr × Nat) := [(0, .iload_n 1, 1), (1, .iconst 1, 1), (2, .sipush 1000, 3), (5, .invokestatic 67, 3), (8, .ifCond .ne 14, 3), (11, .iload_n 2, 1), (12, .iconst 1, 1), (13, .sipush 200, 3), (16, .invokestatic 67, 3), (19, .ifCond .eq 6, 3), (22, .ldc 71, 2), (24, .ireturn, 1), (25, .aload_n 0, 1), (26, .getfield 19, 3), (29, .aload_n 0, 1), (30, .getfield 10, 3), (33, .invokevirtual 53, 3), (36, .aload_n 0, 1), (37, .getfield 10, 3), (40, .getfield 86, 3), (43, .getfield 109, 3), (46, .istore_n 3, 1), (47, .aload_n 0, 1), (48, .getfield 10, 3), (51, .getfield 86, 3), (54, .iload_n 1, 1), (55, .putfield 109, 3), (58, .aload_n 0, 1), (59, .getfield 10, 3), (62, .getfield 86, 3), (65, .iload_n 2, 1), (66, .putfield 112, 3), (69, .aload_n 0, 1), (70, .iload_n 3, 1), (71, .invokevirtual 57, 3), (74, .ireturn, 1)]
theorem dtX7_setTerms_0_ok : ∀ q ∈ dtX7_setTerms_0, decode cX7_setTerms q.1 = .ok q.2 := by decide +kernel
theorem dX7_setTerms_0 : decode cX7_setTerms 0 = .ok (.iload_n 1, 1) := dg dtX7_setTerms_0_ok 0 rfl
theorem dX7_setTerms_1 : decode cX7_setTerms 1 = .ok (.iconst 1, 1) := dg dtX7_setTerms_0_ok 1 rfl
theorem dX7_setTerms_2 : decode cX7_setTerms 2 = .ok (.sipush 1000, 3) := dg dtX7_setTerms_0_ok 2 rfl
theorem dX7_setTerms_5 : decode cX7_setTerms 5 = .ok (.invokestatic 67, 3) := dg dtX7_setTerms_0_ok 3 rfl
theorem dX7_setTerms_8 : decode cX7_setTerms 8 = .ok (.ifCond .ne 14, 3) := dg dtX7_setTerms_0_ok 4 rfl
theorem dX7_setTerms_11 : decode cX7_setTerms 11 = .ok (.iload_n 2, 1) := dg dtX7_setTerms_0_ok 5 rfl
theorem dX7_setTerms_12 : decode cX7_setTerms 12 = .ok (.iconst 1, 1) := dg dtX7_setTerms_0_ok 6 rfl
theorem dX7_setTerms_13 : decode cX7_setTerms 13 = .ok (.sipush 200, 3) := dg dtX7_setTerms_0_ok 7 rfl
theorem dX7_setTerms_16 : decode cX7_setTerms 16 = .ok (.invokestatic 67, 3) := dg dtX7_setTerms_0_ok 8 rfl
theorem dX7_setTerms_19 : decode cX7_setTerms 19 = .ok (.ifCond .eq 6, 3) := dg dtX7_setTerms_0_ok 9 rfl
theorem dX7_setTerms_22 : decode cX7_setTerms 22 = .ok (.ldc 71, 2) := dg dtX7_setTerms_0_ok 10 rfl
theorem dX7_setTerms_24 : decode cX7_setTerms 24 = .ok (.ireturn, 1) := dg dtX7_setTerms_0_ok 11 rfl
theorem dX7_setTerms_25 : decode cX7_setTerms 25 = .ok (.aload_n 0, 1) := dg dtX7_setTerms_0_ok 12 rfl
theorem dX7_setTerms_26 : decode cX7_setTerms 26 = .ok (.getfield 19, 3) := dg dtX7_setTerms_0_ok 13 rfl
theorem dX7_setTerms_29 : decode cX7_setTerms 29 = .ok (.aload_n 0, 1) := dg dtX7_setTerms_0_ok 14 rfl
theorem dX7_setTerms_30 : decode cX7_setTerms 30 = .ok (.getfield 10, 3) := dg dtX7_setTerms_0_ok 15 rfl
theorem dX7_setTerms_33 : decode cX7_setTerms 33 = .ok (.invokevirtual 53, 3) := dg dtX7_setTerms_0_ok 16 rfl
theorem dX7_setTerms_36 : decode cX7_setTerms 36 = .ok (.aload_n 0, 1) := dg dtX7_setTerms_0_ok 17 rfl
theorem dX7_setTerms_37 : decode cX7_setTerms 37 = .ok (.getfield 10, 3) := dg dtX7_setTerms_0_ok 18 rfl
theorem dX7_setTerms_40 : decode cX7_setTerms 40 = .ok (.getfield 86, 3) := dg dtX7_setTerms_0_ok 19 rfl
theorem dX7_setTerms_43 : decode cX7_setTerms 43 = .ok (.getfield 109, 3) := dg dtX7_setTerms_0_ok 20 rfl
theorem dX7_setTerms_46 : decode cX7_setTerms 46 = .ok (.istore_n 3, 1) := dg dtX7_setTerms_0_ok 21 rfl
theorem dX7_setTerms_47 : decode cX7_setTerms 47 = .ok (.aload_n 0, 1) := dg dtX7_setTerms_0_ok 22 rfl
theorem dX7_setTerms_48 : decode cX7_setTerms 48 = .ok (.getfield 10, 3) := dg dtX7_setTerms_0_ok 23 rfl
theorem dX7_setTerms_51 : decode cX7_setTerms 51 = .ok (.getfield 86, 3) := dg dtX7_setTerms_0_ok 24 rfl
theorem dX7_setTerms_54 : decode cX7_setTerms 54 = .ok (.iload_n 1, 1) := dg dtX7_setTerms_0_ok 25 rfl
theorem dX7_setTerms_55 : decode cX7_setTerms 55 = .ok (.putfield 109, 3) := dg dtX7_setTerms_0_ok 26 rfl
theorem dX7_setTerms_58 : decode cX7_setTerms 58 = .ok (.aload_n 0, 1) := dg dtX7_setTerms_0_ok 27 rfl
theorem dX7_setTerms_59 : decode cX7_setTerms 59 = .ok (.getfield 10, 3) := dg dtX7_setTerms_0_ok 28 rfl
theorem dX7_setTerms_62 : decode cX7_setTerms 62 = .ok (.getfield 86, 3) := dg dtX7_setTerms_0_ok 29 rfl
theorem dX7_setTerms_65 : decode cX7_setTerms 65 = .ok (.iload_n 2, 1) := dg dtX7_setTerms_0_ok 30 rfl
theorem dX7_setTerms_66 : decode cX7_setTerms 66 = .ok (.putfield 112, 3) := dg dtX7_setTerms_0_ok 31 rfl
theorem dX7_setTerms_69 : decode cX7_setTerms 69 = .ok (.aload_n 0, 1) := dg dtX7_setTerms_0_ok 32 rfl
theorem dX7_setTerms_70 : decode cX7_setTerms 70 = .ok (.iload_n 3, 1) := dg dtX7_setTerms_0_ok 33 rfl
theorem dX7_setTerms_71 : decode cX7_setTerms 71 = .ok (.invokevirtual 57, 3) := dg dtX7_setTerms_0_ok 34 rfl
theorem dX7_setTerms_74 : decode cX7_setTerms 74 = .ok (.ireturn, 1) := dg dtX7_setTerms_0_ok 35 rfl
def dtX7_setRules_0 : List (Nat × Instr × Nat) := [(0, .iload_n 1, 1), (1, .iconst 0, 1), (2, .bipush 100, 2), (4, .invokestatic 67, 3), (7, .ifCond .ne 25, 3), (10, .iload_n 2, 1), (11, .iconst 0, 1), (12, .sipush 1000, 3), (15, .invokestatic 67, 3), (18, .ifCond .ne 14, 3), (21, .iload_n 3, 1), (22, .iconst 0, 1), (23, .sipush 1000, 3), (26, .invokestatic 67, 3), (29, .ifCond .eq 6, 3), (32, .ldc 71, 2), (34, .ireturn, 1), (35, .aload_n 0, 1), (36, .getfield 19, 3), (39, .aload_n 0, 1), (40, .getfield 10, 3), (43, .invokevirtual 53, 3), (46, .aload_n 0, 1), (47, .getfield 10, 3), (50, .getfield 86, 3), (53, .getfield 115, 3), (56, .istore 4, 2), (58, .aload_n 0, 1), (59, .getfield 10, 3), (62, .getfield 86, 3), (65, .iload_n 1, 1), (66, .putfield 115, 3), (69, .aload_n 0, 1), (70, .getfield 10, 3), (73, .getfield 86, 3), (76, .iload_n 2, 1), (77, .putfield 118, 3), (80, .aload_n 0, 1), (81, .getfield 10, 3), (84, .getfield 86, 3), (87, .iload_n 3, 1), (88, .putfield 121, 3), (91, .aload_n 0, 1), (92, .iload 4, 2), (94, .invokevirtual 57, 3), (97, .ireturn, 1)]
theorem dtX7_setRules_0_ok : ∀ q ∈ dtX7_setRules_0, decode cX7_setRules q.1 = .ok q.2 := by decide +kernel
theorem dX7_setRules_0 : decode cX7_setRules 0 = .ok (.iload_n 1, 1) := dg dtX7_setRules_0_ok 0 rfl
theorem dX7_setRules_1 : decode cX7_setRules 1 = .ok (.iconst 0, 1) := dg dtX7_setRules_0_ok 1 rfl
theorem dX7_setRules_2 : decode cX7_setRules 2 = .ok (.bipush 100, 2) := dg dtX7_setRules_0_ok 2 rfl
theorem dX7_setRules_4 : decode cX7_setRules 4 = .ok (.invokestatic 67, 3) := dg dtX7_setRules_0_ok 3 rfl
theorem dX7_setRules_7 : decode cX7_setRules 7 = .ok (.ifCond .ne 25, 3) := dg dtX7_setRules_0_ok 4 rfl
theorem dX7_setRules_10 : decode cX7_setRules 10 = .ok (.iload_n 2, 1) := dg dtX7_setRules_0_ok 5 rfl
theorem dX7_setRules_11 : decode cX7_setRules 11 = .ok (.iconst 0, 1) := dg dtX7_setRules_0_ok 6 rfl
theorem dX7_setRules_12 : decode cX7_setRules 12 = .ok (.sipush 1000, 3) := dg dtX7_setRules_0_ok 7 rfl
theorem dX7_setRules_15 : decode cX7_setRules 15 = .ok (.invokestatic 67, 3) := dg dtX7_setRules_0_ok 8 rfl
theorem dX7_setRules_18 : decode cX7_setRules 18 = .ok (.ifCond .ne 14, 3) := dg dtX7_setRules_0_ok 9 rfl
theorem dX7_setRules_21 : decode cX7_setRules 21 = .ok (.iload_n 3, 1) := dg dtX7_setRules_0_ok 10 rfl
theorem dX7_setRules_22 : decode cX7_setRules 22 = .ok (.iconst 0, 1) := dg dtX7_setRules_0_ok 11 rfl
theorem dX7_setRules_23 : decode cX7_setRules 23 = .ok (.sipush 1000, 3) := dg dtX7_setRules_0_ok 12 rfl
theorem dX7_setRules_26 : decode cX7_setRules 26 = .ok (.invokestatic 67, 3) := dg dtX7_setRules_0_ok 13 rfl
theorem dX7_setRules_29 : decode cX7_setRules 29 = .ok (.ifCond .eq 6, 3) := dg dtX7_setRules_0_ok 14 rfl
theorem dX7_setRules_32 : decode cX7_setRules 32 = .ok (.ldc 71, 2) := dg dtX7_setRules_0_ok 15 rfl
theorem dX7_setRules_34 : decode cX7_setRules 34 = .ok (.ireturn, 1) := dg dtX7_setRules_0_ok 16 rfl
theorem dX7_setRules_35 : decode cX7_setRules 35 = .ok (.aload_n 0, 1) := dg dtX7_setRules_0_ok 17 rfl
theorem dX7_setRules_36 : decode cX7_setRules 36 = .ok (.getfield 19, 3) := dg dtX7_setRules_0_ok 18 rfl
theorem dX7_setRules_39 : decode cX7_setRules 39 = .ok (.aload_n 0, 1) := dg dtX7_setRules_0_ok 19 rfl
theorem dX7_setRules_40 : decode cX7_setRules 40 = .ok (.getfield 10, 3) := dg dtX7_setRules_0_ok 20 rfl
theorem dX7_setRules_43 : decode cX7_setRules 43 = .ok (.invokevirtual 53, 3) := dg dtX7_setRules_0_ok 21 rfl
theorem dX7_setRules_46 : decode cX7_setRules 46 = .ok (.aload_n 0, 1) := dg dtX7_setRules_0_ok 22 rfl
theorem dX7_setRules_47 : decode cX7_setRules 47 = .ok (.getfield 10, 3) := dg dtX7_setRules_0_ok 23 rfl
theorem dX7_setRules_50 : decode cX7_setRules 50 = .ok (.getfield 86, 3) := dg dtX7_setRules_0_ok 24 rfl
theorem dX7_setRules_53 : decode cX7_setRules 53 = .ok (.getfield 115, 3) := dg dtX7_setRules_0_ok 25 rfl
theorem dX7_setRules_56 : decode cX7_setRules 56 = .ok (.istore 4, 2) := dg dtX7_setRules_0_ok 26 rfl
theorem dX7_setRules_58 : decode cX7_setRules 58 = .ok (.aload_n 0, 1) := dg dtX7_setRules_0_ok 27 rfl
theorem dX7_setRules_59 : decode cX7_setRules 59 = .ok (.getfield 10, 3) := dg dtX7_setRules_0_ok 28 rfl
theorem dX7_setRules_62 : decode cX7_setRules 62 = .ok (.getfield 86, 3) := dg dtX7_setRules_0_ok 29 rfl
theorem dX7_setRules_65 : decode cX7_setRules 65 = .ok (.iload_n 1, 1) := dg dtX7_setRules_0_ok 30 rfl
theorem dX7_setRules_66 : decode cX7_setRules 66 = .ok (.putfield 115, 3) := dg dtX7_setRules_0_ok 31 rfl
theorem dX7_setRules_69 : decode cX7_setRules 69 = .ok (.aload_n 0, 1) := dg dtX7_setRules_0_ok 32 rfl
theorem dX7_setRules_70 : decode cX7_setRules 70 = .ok (.getfield 10, 3) := dg dtX7_setRules_0_ok 33 rfl
theorem dX7_setRules_73 : decode cX7_setRules 73 = .ok (.getfield 86, 3) := dg dtX7_setRules_0_ok 34 rfl
theorem dX7_setRules_76 : decode cX7_setRules 76 = .ok (.iload_n 2, 1) := dg dtX7_setRules_0_ok 35 rfl
theorem dX7_setRules_77 : decode cX7_setRules 77 = .ok (.putfield 118, 3) := dg dtX7_setRules_0_ok 36 rfl
theorem dX7_setRules_80 : decode cX7_setRules 80 = .ok (.aload_n 0, 1) := dg dtX7_setRules_0_ok 37 rfl
theorem dX7_setRules_81 : decode cX7_setRules 81 = .ok (.getfield 10, 3) := dg dtX7_setRules_0_ok 38 rfl
theorem dX7_setRules_84 : decode cX7_setRules 84 = .ok (.getfield 86, 3) := dg dtX7_setRules_0_ok 39 rfl
theorem dX7_setRules_87 : decode cX7_setRules 87 = .ok (.iload_n 3, 1) := dg dtX7_setRules_0_ok 40 rfl
theorem dX7_setRules_88 : decode cX7_setRules 88 = .ok (.putfield 121, 3) := dg dtX7_setRules_0_ok 41 rfl
theorem dX7_setRules_91 : decode cX7_setRules 91 = .ok (.aload_n 0, 1) := dg dtX7_setRules_0_ok 42 rfl
theorem dX7_setRules_92 : decode cX7_setRules 92 = .ok (.iload 4, 2) := dg dtX7_setRules_0_ok 43 rfl
theorem dX7_setRules_94 : decode cX7_setRules 94 = .ok (.invokevirtual 57, 3) := dg dtX7_setRules_0_ok 44 rfl
theorem dX7_setRules_97 : decode cX7_setRules 97 = .ok (.ireturn, 1) := dg dtX7_setRules_0_ok 45 rfl
def dtX7_enter_0 : List (Nat × Instr × Nat) := [(0, .aload_n 0, 1), (1, .getfield 19, 3), (4, .aload_n 0, 1), (5, .getfield 10, 3), (8, .invokevirtual 53, 3), (11, .aload_n 0, 1), (12, .aload_n 0, 1), (13, .iload_n 1, 1), (14, .iload_n 2, 1), (15, .iload_n 3, 1), (16, .iload 4, 2), (18, .invokevirtual 124, 3), (21, .invokevirtual 57, 3), (24, .ireturn, 1)]
theorem dtX7_enter_0_ok : ∀ q ∈ dtX7_enter_0, decode cX7_enter q.1 = .ok q.2 := by decide +kernel
theorem dX7_enter_0 : decode cX7_enter 0 = .ok (.aload_n 0, 1) := dg dtX7_enter_0_ok 0 rfl
theorem dX7_enter_1 : decode cX7_enter 1 = .ok (.getfield 19, 3) := dg dtX7_enter_0_ok 1 rfl
theorem dX7_enter_4 : decode cX7_enter 4 = .ok (.aload_n 0, 1) := dg dtX7_enter_0_ok 2 rfl
theorem dX7_enter_5 : decode cX7_enter 5 = .ok (.getfield 10, 3) := dg dtX7_enter_0_ok 3 rfl
theorem dX7_enter_8 : decode cX7_enter 8 = .ok (.invokevirtual 53, 3) := dg dtX7_enter_0_ok 4 rfl
theorem dX7_enter_11 : decode cX7_enter 11 = .ok (.aload_n 0, 1) := dg dtX7_enter_0_ok 5 rfl
theorem dX7_enter_12 : decode cX7_enter 12 = .ok (.aload_n 0, 1) := dg dtX7_enter_0_ok 6 rfl
theorem dX7_enter_13 : decode cX7_enter 13 = .ok (.iload_n 1, 1) := dg dtX7_enter_0_ok 7 rfl
theorem dX7_enter_14 : decode cX7_enter 14 = .ok (.iload_n 2, 1) := dg dtX7_enter_0_ok 8 rfl
theorem dX7_enter_15 : decode cX7_enter 15 = .ok (.iload_n 3, 1) := dg dtX7_enter_0_ok 9 rfl
theorem dX7_enter_16 : decode cX7_enter 16 = .ok (.iload 4, 2) := dg dtX7_enter_0_ok 10 rfl
theorem dX7_enter_18 : decode cX7_enter 18 = .ok (.invokevirtual 124, 3) := dg dtX7_enter_0_ok 11 rfl
theorem dX7_enter_21 : decode cX7_enter 21 = .ok (.invokevirtual 57, 3) := dg dtX7_enter_0_ok 12 rfl
theorem dX7_enter_24 : decode cX7_enter 24 = .ok (.ireturn, 1) := dg dtX7_enter_0_ok 13 rfl
def dtX7_release_0 : List (Nat × Instr × Nat) := [(0, .aload_n 0, 1), (1, .getfield 19, 3), (4, .aload_n 0, 1), (5, .getfield 10, 3), (8, .invokevirtual 53, 3), (11, .aload_n 0, 1), (12, .aload_n 0, 1), (13, .iload_n 1, 1), (14, .iload_n 2, 1), (15, .invokevirtual 128, 3), (18, .invokevirtual 57, 3), (21, .ireturn, 1)]
theorem dtX7_release_0_ok : ∀ q ∈ dtX7_release_0, decode cX7_release q.1 = .ok q.2 := by decide +kernel
theorem dX7_release_0 : decode cX7_release 0 = .ok (.aload_n 0, 1) := dg dtX7_release_0_ok 0 rfl
theorem dX7_release_1 : decode cX7_release 1 = .ok (.getfield 19, 3) := dg dtX7_release_0_ok 1 rfl
theorem dX7_release_4 : decode cX7_release 4 = .ok (.aload_n 0, 1) := dg dtX7_release_0_ok 2 rfl
theorem dX7_release_5 : decode cX7_release 5 = .ok (.getfield 10, 3) := dg dtX7_release_0_ok 3 rfl
theorem dX7_release_8 : decode cX7_release 8 = .ok (.invokevirtual 53, 3) := dg dtX7_release_0_ok 4 rfl
theorem dX7_release_11 : decode cX7_release 11 = .ok (.aload_n 0, 1) := dg dtX7_release_0_ok 5 rfl
theorem dX7_release_12 : decode cX7_release 12 = .ok (.aload_n 0, 1) := dg dtX7_release_0_ok 6 rfl
theorem dX7_release_13 : decode cX7_release 13 = .ok (.iload_n 1, 1) := dg dtX7_release_0_ok 7 rfl
theorem dX7_release_14 : decode cX7_release 14 = .ok (.iload_n 2, 1) := dg dtX7_release_0_ok 8 rfl
theorem dX7_release_15 : decode cX7_release 15 = .ok (.invokevirtual 128, 3) := dg dtX7_release_0_ok 9 rfl
theorem dX7_release_18 : decode cX7_release 18 = .ok (.invokevirtual 57, 3) := dg dtX7_release_0_ok 10 rfl
theorem dX7_release_21 : decode cX7_release 21 = .ok (.ireturn, 1) := dg dtX7_release_0_ok 11 rfl
def dtX7_sample_0 : List (Nat × Instr × Nat) := [(0, .aload_n 0, 1), (1, .getfield 19, 3), (4, .aload_n 0, 1), (5, .getfield 10, 3), (8, .invokevirtual 53, 3), (11, .aload_n 0, 1), (12, .aload_n 0, 1), (13, .iload_n 1, 1), (14, .iload_n 2, 1), (15, .invokevirtual 132, 3), (18, .invokevirtual 57, 3), (21, .ireturn, 1)]
theorem dtX7_sample_0_ok : ∀ q ∈ dtX7_sample_0, decode cX7_sample q.1 = .ok q.2 := by decide +kernel
theorem dX7_sample_0 : decode cX7_sample 0 = .ok (.aload_n 0, 1) := dg dtX7_sample_0_ok 0 rfl
theorem dX7_sample_1 : decode cX7_sample 1 = .ok (.getfield 19, 3) := dg dtX7_sample_0_ok 1 rfl
theorem dX7_sample_4 : decode cX7_sample 4 = .ok (.aload_n 0, 1) := dg dtX7_sample_0_ok 2 rfl
theorem dX7_sample_5 : decode cX7_sample 5 = .ok (.getfield 10, 3) := dg dtX7_sample_0_ok 3 rfl
theorem dX7_sample_8 : decode cX7_sample 8 = .ok (.invokevirtual 53, 3) := dg dtX7_sample_0_ok 4 rfl
theorem dX7_sample_11 : decode cX7_sample 11 = .ok (.aload_n 0, 1) := dg dtX7_sample_0_ok 5 rfl
theorem dX7_sample_12 : decode cX7_sample 12 = .ok (.aload_n 0, 1) := dg dtX7_sample_0_ok 6 rfl
theorem dX7_sample_13 : decode cX7_sample 13 = .ok (.iload_n 1, 1) := dg dtX7_sample_0_ok 7 rfl
theorem dX7_sample_14 : decode cX7_sample 14 = .ok (.iload_n 2, 1) := dg dtX7_sample_0_ok 8 rfl
theorem dX7_sample_15 : decode cX7_sample 15 = .ok (.invokevirtual 132, 3) := dg dtX7_sample_0_ok 9 rfl
theorem dX7_sample_18 : decode cX7_sample 18 = .ok (.invokevirtual 57, 3) := dg dtX7_sample_0_ok 10 rfl
theorem dX7_sample_21 : decode cX7_sample 21 = .ok (.ireturn, 1) := dg dtX7_sample_0_ok 11 rfl
def dtX7_export_0 : List (Nat × Instr × Nat) := [(0, .aload_n 0, 1), (1, .getfield 19, 3), (4, .aload_n 0, 1), (5, .getfield 10, 3), (8, .invokevirtual 53, 3), (11, .aload_n 0, 1), (12, .aload_n 0, 1), (13, .iload_n 1, 1), (14, .iload_n 2, 1), (15, .invokevirtual 135, 3), (18, .invokevirtual 57, 3), (21, .ireturn, 1)]
theorem dtX7_export_0_ok : ∀ q ∈ dtX7_export_0, decode cX7_export q.1 = .ok q.2 := by decide +kernel
theorem dX7_export_0 : decode cX7_export 0 = .ok (.aload_n 0, 1) := dg dtX7_export_0_ok 0 rfl
theorem dX7_export_1 : decode cX7_export 1 = .ok (.getfield 19, 3) := dg dtX7_export_0_ok 1 rfl
theorem dX7_export_4 : decode cX7_export 4 = .ok (.aload_n 0, 1) := dg dtX7_export_0_ok 2 rfl
theorem dX7_export_5 : decode cX7_export 5 = .ok (.getfield 10, 3) := dg dtX7_export_0_ok 3 rfl
theorem dX7_export_8 : decode cX7_export 8 = .ok (.invokevirtual 53, 3) := dg dtX7_export_0_ok 4 rfl
theorem dX7_export_11 : decode cX7_export 11 = .ok (.aload_n 0, 1) := dg dtX7_export_0_ok 5 rfl
theorem dX7_export_12 : decode cX7_export 12 = .ok (.aload_n 0, 1) := dg dtX7_export_0_ok 6 rfl
theorem dX7_export_13 : decode cX7_export 13 = .ok (.iload_n 1, 1) := dg dtX7_export_0_ok 7 rfl
theorem dX7_export_14 : decode cX7_export 14 = .ok (.iload_n 2, 1) := dg dtX7_export_0_ok 8 rfl
theorem dX7_export_15 : decode cX7_export 15 = .ok (.invokevirtual 135, 3) := dg dtX7_export_0_ok 9 rfl
theorem dX7_export_18 : decode cX7_export 18 = .ok (.invokevirtual 57, 3) := dg dtX7_export_0_ok 10 rfl
theorem dX7_export_21 : decode cX7_export 21 = .ok (.ireturn, 1) := dg dtX7_export_0_ok 11 rfl
def dtX7_prove_0 : List (Nat × Instr × Nat) := [(0, .aload_n 0, 1), (1, .getfield 19, 3), (4, .aload_n 0, 1), (5, .getfield 10, 3), (8, .invokevirtual 53, 3), (11, .aload_n 0, 1), (12, .aload_n 0, 1), (13, .iload_n 1, 1), (14, .invokevirtual 138, 3), (17, .invokevirtual 57, 3), (20, .ireturn, 1)]
theorem dtX7_prove_0_ok : ∀ q ∈ dtX7_prove_0, decode cX7_prove q.1 = .ok q.2 := by decide +kernel
theorem dX7_prove_0 : decode cX7_prove 0 = .ok (.aload_n 0, 1) := dg dtX7_prove_0_ok 0 rfl
theorem dX7_prove_1 : decode cX7_prove 1 = .ok (.getfield 19, 3) := dg dtX7_prove_0_ok 1 rfl
theorem dX7_prove_4 : decode cX7_prove 4 = .ok (.aload_n 0, 1) := dg dtX7_prove_0_ok 2 rfl
theorem dX7_prove_5 : decode cX7_prove 5 = .ok (.getfield 10, 3) := dg dtX7_prove_0_ok 3 rfl
theorem dX7_prove_8 : decode cX7_prove 8 = .ok (.invokevirtual 53, 3) := dg dtX7_prove_0_ok 4 rfl
theorem dX7_prove_11 : decode cX7_prove 11 = .ok (.aload_n 0, 1) := dg dtX7_prove_0_ok 5 rfl
theorem dX7_prove_12 : decode cX7_prove 12 = .ok (.aload_n 0, 1) := dg dtX7_prove_0_ok 6 rfl
theorem dX7_prove_13 : decode cX7_prove 13 = .ok (.iload_n 1, 1) := dg dtX7_prove_0_ok 7 rfl
theorem dX7_prove_14 : decode cX7_prove 14 = .ok (.invokevirtual 138, 3) := dg dtX7_prove_0_ok 8 rfl
theorem dX7_prove_17 : decode cX7_prove 17 = .ok (.invokevirtual 57, 3) := dg dtX7_prove_0_ok 9 rfl
theorem dX7_prove_20 : decode cX7_prove 20 = .ok (.ireturn, 1) := dg dtX7_prove_0_ok 10 rfl
def dtX7_destroy_0 : List (Nat × Instr × Nat) := [(0, .aload_n 0, 1), (1, .getfield 19, 3), (4, .aload_n 0, 1), (5, .getfield 10, 3), (8, .invokevirtual 53, 3), (11, .aload_n 0, 1), (12, .aload_n 0, 1), (13, .iload_n 1, 1), (14, .iload_n 2, 1), (15, .invokevirtual 141, 3), (18, .invokevirtual 57, 3), (21, .ireturn, 1)]
theorem dtX7_destroy_0_ok : ∀ q ∈ dtX7_destroy_0, decode cX7_destroy q.1 = .ok q.2 := by decide +kernel
theorem dX7_destroy_0 : decode cX7_destroy 0 = .ok (.aload_n 0, 1) := dg dtX7_destroy_0_ok 0 rfl
theorem dX7_destroy_1 : decode cX7_destroy 1 = .ok (.getfield 19, 3) := dg dtX7_destroy_0_ok 1 rfl
theorem dX7_destroy_4 : decode cX7_destroy 4 = .ok (.aload_n 0, 1) := dg dtX7_destroy_0_ok 2 rfl
theorem dX7_destroy_5 : decode cX7_destroy 5 = .ok (.getfield 10, 3) := dg dtX7_destroy_0_ok 3 rfl
theorem dX7_destroy_8 : decode cX7_destroy 8 = .ok (.invokevirtual 53, 3) := dg dtX7_destroy_0_ok 4 rfl
theorem dX7_destroy_11 : decode cX7_destroy 11 = .ok (.aload_n 0, 1) := dg dtX7_destroy_0_ok 5 rfl
theorem dX7_destroy_12 : decode cX7_destroy 12 = .ok (.aload_n 0, 1) := dg dtX7_destroy_0_ok 6 rfl
theorem dX7_destroy_13 : decode cX7_destroy 13 = .ok (.iload_n 1, 1) := dg dtX7_destroy_0_ok 7 rfl
theorem dX7_destroy_14 : decode cX7_destroy 14 = .ok (.iload_n 2, 1) := dg dtX7_destroy_0_ok 8 rfl
theorem dX7_destroy_15 : decode cX7_destroy 15 = .ok (.invokevirtual 141, 3) := dg dtX7_destroy_0_ok 9 rfl
theorem dX7_destroy_18 : decode cX7_destroy 18 = .ok (.invokevirtual 57, 3) := dg dtX7_destroy_0_ok 10 rfl
theorem dX7_destroy_21 : decode cX7_destroy 21 = .ok (.ireturn, 1) := dg dtX7_destroy_0_ok 11 rfl
def dtX7_give_0 : List (Nat × Instr × Nat) := [(0, .aload_n 0, 1), (1, .getfield 19, 3), (4, .aload_n 0, 1), (5, .getfield 10, 3), (8, .invokevirtual 53, 3), (11, .aload_n 0, 1), (12, .aload_n 0, 1), (13, .iload_n 1, 1), (14, .iload_n 2, 1), (15, .invokevirtual 144, 3), (18, .invokevirtual 57, 3), (21, .ireturn, 1)]
theorem dtX7_give_0_ok : ∀ q ∈ dtX7_give_0, decode cX7_give q.1 = .ok q.2 := by decide +kernel
theorem dX7_give_0 : decode cX7_give 0 = .ok (.aload_n 0, 1) := dg dtX7_give_0_ok 0 rfl
theorem dX7_give_1 : decode cX7_give 1 = .ok (.getfield 19, 3) := dg dtX7_give_0_ok 1 rfl
theorem dX7_give_4 : decode cX7_give 4 = .ok (.aload_n 0, 1) := dg dtX7_give_0_ok 2 rfl
theorem dX7_give_5 : decode cX7_give 5 = .ok (.getfield 10, 3) := dg dtX7_give_0_ok 3 rfl
theorem dX7_give_8 : decode cX7_give 8 = .ok (.invokevirtual 53, 3) := dg dtX7_give_0_ok 4 rfl
theorem dX7_give_11 : decode cX7_give 11 = .ok (.aload_n 0, 1) := dg dtX7_give_0_ok 5 rfl
theorem dX7_give_12 : decode cX7_give 12 = .ok (.aload_n 0, 1) := dg dtX7_give_0_ok 6 rfl
theorem dX7_give_13 : decode cX7_give 13 = .ok (.iload_n 1, 1) := dg dtX7_give_0_ok 7 rfl
theorem dX7_give_14 : decode cX7_give 14 = .ok (.iload_n 2, 1) := dg dtX7_give_0_ok 8 rfl
theorem dX7_give_15 : decode cX7_give 15 = .ok (.invokevirtual 144, 3) := dg dtX7_give_0_ok 9 rfl
theorem dX7_give_18 : decode cX7_give 18 = .ok (.invokevirtual 57, 3) := dg dtX7_give_0_ok 10 rfl
theorem dX7_give_21 : decode cX7_give 21 = .ok (.ireturn, 1) := dg dtX7_give_0_ok 11 rfl
def dtX7_pass_0 : List (Nat × Instr × Nat) := [(0, .aload_n 0, 1), (1, .getfield 19, 3), (4, .aload_n 0, 1), (5, .getfield 10, 3), (8, .invokevirtual 53, 3), (11, .aload_n 0, 1), (12, .aload_n 0, 1), (13, .iload_n 1, 1), (14, .invokevirtual 147, 3), (17, .invokevirtual 57, 3), (20, .ireturn, 1)]
theorem dtX7_pass_0_ok : ∀ q ∈ dtX7_pass_0, decode cX7_pass q.1 = .ok q.2 := by decide +kernel
theorem dX7_pass_0 : decode cX7_pass 0 = .ok (.aload_n 0, 1) := dg dtX7_pass_0_ok 0 rfl
theorem dX7_pass_1 : decode cX7_pass 1 = .ok (.getfield 19, 3) := dg dtX7_pass_0_ok 1 rfl
theorem dX7_pass_4 : decode cX7_pass 4 = .ok (.aload_n 0, 1) := dg dtX7_pass_0_ok 2 rfl
theorem dX7_pass_5 : decode cX7_pass 5 = .ok (.getfield 10, 3) := dg dtX7_pass_0_ok 3 rfl
theorem dX7_pass_8 : decode cX7_pass 8 = .ok (.invokevirtual 53, 3) := dg dtX7_pass_0_ok 4 rfl
theorem dX7_pass_11 : decode cX7_pass 11 = .ok (.aload_n 0, 1) := dg dtX7_pass_0_ok 5 rfl
theorem dX7_pass_12 : decode cX7_pass 12 = .ok (.aload_n 0, 1) := dg dtX7_pass_0_ok 6 rfl
theorem dX7_pass_13 : decode cX7_pass 13 = .ok (.iload_n 1, 1) := dg dtX7_pass_0_ok 7 rfl
theorem dX7_pass_14 : decode cX7_pass 14 = .ok (.invokevirtual 147, 3) := dg dtX7_pass_0_ok 8 rfl
theorem dX7_pass_17 : decode cX7_pass 17 = .ok (.invokevirtual 57, 3) := dg dtX7_pass_0_ok 9 rfl
theorem dX7_pass_20 : decode cX7_pass 20 = .ok (.ireturn, 1) := dg dtX7_pass_0_ok 10 rfl
def dtX7_type_0 : List (Nat × Instr × Nat) := [(0, .aload_n 0, 1), (1, .getfield 34, 3), (4, .iload_n 1, 1), (5, .invokevirtual 150, 3), (8, .ifCond .eq 13, 3), (11, .aload_n 0, 1), (12, .getfield 34, 3), (15, .getfield 154, 3), (18, .goto 5, 3), (21, .ldc 52, 2), (23, .ireturn, 1)]
theorem dtX7_type_0_ok : ∀ q ∈ dtX7_type_0, decode cX7_type q.1 = .ok q.2 := by decide +kernel
theorem dX7_type_0 : decode cX7_type 0 = .ok (.aload_n 0, 1) := dg dtX7_type_0_ok 0 rfl
theorem dX7_type_1 : decode cX7_type 1 = .ok (.getfield 34, 3) := dg dtX7_type_0_ok 1 rfl
theorem dX7_type_4 : decode cX7_type 4 = .ok (.iload_n 1, 1) := dg dtX7_type_0_ok 2 rfl
theorem dX7_type_5 : decode cX7_type 5 = .ok (.invokevirtual 150, 3) := dg dtX7_type_0_ok 3 rfl
theorem dX7_type_8 : decode cX7_type 8 = .ok (.ifCond .eq 13, 3) := dg dtX7_type_0_ok 4 rfl
theorem dX7_type_11 : decode cX7_type 11 = .ok (.aload_n 0, 1) := dg dtX7_type_0_ok 5 rfl
theorem dX7_type_12 : decode cX7_type 12 = .ok (.getfield 34, 3) := dg dtX7_type_0_ok 6 rfl
theorem dX7_type_15 : decode cX7_type 15 = .ok (.getfield 154, 3) := dg dtX7_type_0_ok 7 rfl
theorem dX7_type_18 : decode cX7_type 18 = .ok (.goto 5, 3) := dg dtX7_type_0_ok 8 rfl
theorem dX7_type_21 : decode cX7_type 21 = .ok (.ldc 52, 2) := dg dtX7_type_0_ok 9 rfl
theorem dX7_type_23 : decode cX7_type 23 = .ok (.ireturn, 1) := dg dtX7_type_0_ok 10 rfl
def dtX7_clearText_0 : List (Nat × Instr × Nat) := [(0, .aload_n 0, 1), (1, .getfield 34, 3), (4, .getfield 154, 3), (7, .istore_n 1, 1), (8, .aload_n 0, 1), (9, .getfield 34, 3), (12, .iconst 0, 1), (13, .putfield 154, 3), (16, .iload_n 1, 1), (17, .ireturn, 1)]
theorem dtX7_clearText_0_ok : ∀ q ∈ dtX7_clearText_0, decode cX7_clearText q.1 = .ok q.2 := by decide +kernel
theorem dX7_clearText_0 : decode cX7_clearText 0 = .ok (.aload_n 0, 1) := dg dtX7_clearText_0_ok 0 rfl
theorem dX7_clearText_1 : decode cX7_clearText 1 = .ok (.getfield 34, 3) := dg dtX7_clearText_0_ok 1 rfl
theorem dX7_clearText_4 : decode cX7_clearText 4 = .ok (.getfield 154, 3) := dg dtX7_clearText_0_ok 2 rfl
theorem dX7_clearText_7 : decode cX7_clearText 7 = .ok (.istore_n 1, 1) := dg dtX7_clearText_0_ok 3 rfl
theorem dX7_clearText_8 : decode cX7_clearText 8 = .ok (.aload_n 0, 1) := dg dtX7_clearText_0_ok 4 rfl
theorem dX7_clearText_9 : decode cX7_clearText 9 = .ok (.getfield 34, 3) := dg dtX7_clearText_0_ok 5 rfl
theorem dX7_clearText_12 : decode cX7_clearText 12 = .ok (.iconst 0, 1) := dg dtX7_clearText_0_ok 6 rfl
theorem dX7_clearText_13 : decode cX7_clearText 13 = .ok (.putfield 154, 3) := dg dtX7_clearText_0_ok 7 rfl
theorem dX7_clearText_16 : decode cX7_clearText 16 = .ok (.iload_n 1, 1) := dg dtX7_clearText_0_ok 8 rfl
theorem dX7_clearText_17 : decode cX7_clearText 17 = .ok (.ireturn, 1) := dg dtX7_clearText_0_ok 9 rfl
def dtX7_runOrders_0 : List (Nat × Instr × Nat) := [(0, .aload_n 0, 1), (1, .getfield 34, 3), (4, .invokevirtual 157, 3), (7, .istore_n 1, 1), (8, .iload_n 1, 1), (9, .iconst (-1), 1), (10, .if_icmp .eq 8, 3), (13, .bipush (-100), 2), (15, .iload_n 1, 1), (16, .isub, 1), (17, .ireturn, 1), (18, .aload_n 0, 1), (19, .getfield 19, 3), (22, .aload_n 0, 1), (23, .getfield 10, 3), (26, .invokevirtual 53, 3), (29, .aload_n 0, 1), (30, .aload_n 0, 1), (31, .invokevirtual 161, 3), (34, .invokevirtual 57, 3), (37, .ireturn, 1)]
theorem dtX7_runOrders_0_ok : ∀ q ∈ dtX7_runOrders_0, decode cX7_runOrders q.1 = .ok q.2 := by decide +kernel
theorem dX7_runOrders_0 : decode cX7_runOrders 0 = .ok (.aload_n 0, 1) := dg dtX7_runOrders_0_ok 0 rfl
theorem dX7_runOrders_1 : decode cX7_runOrders 1 = .ok (.getfield 34, 3) := dg dtX7_runOrders_0_ok 1 rfl
theorem dX7_runOrders_4 : decode cX7_runOrders 4 = .ok (.invokevirtual 157, 3) := dg dtX7_runOrders_0_ok 2 rfl
theorem dX7_runOrders_7 : decode cX7_runOrders 7 = .ok (.istore_n 1, 1) := dg dtX7_runOrders_0_ok 3 rfl
theorem dX7_runOrders_8 : decode cX7_runOrders 8 = .ok (.iload_n 1, 1) := dg dtX7_runOrders_0_ok 4 rfl
theorem dX7_runOrders_9 : decode cX7_runOrders 9 = .ok (.iconst (-1), 1) := dg dtX7_runOrders_0_ok 5 rfl
theorem dX7_runOrders_10 : decode cX7_runOrders 10 = .ok (.if_icmp .eq 8, 3) := dg dtX7_runOrders_0_ok 6 rfl
theorem dX7_runOrders_13 : decode cX7_runOrders 13 = .ok (.bipush (-100), 2) := dg dtX7_runOrders_0_ok 7 rfl
theorem dX7_runOrders_15 : decode cX7_runOrders 15 = .ok (.iload_n 1, 1) := dg dtX7_runOrders_0_ok 8 rfl
theorem dX7_runOrders_16 : decode cX7_runOrders 16 = .ok (.isub, 1) := dg dtX7_runOrders_0_ok 9 rfl
theorem dX7_runOrders_17 : decode cX7_runOrders 17 = .ok (.ireturn, 1) := dg dtX7_runOrders_0_ok 10 rfl
theorem dX7_runOrders_18 : decode cX7_runOrders 18 = .ok (.aload_n 0, 1) := dg dtX7_runOrders_0_ok 11 rfl
theorem dX7_runOrders_19 : decode cX7_runOrders 19 = .ok (.getfield 19, 3) := dg dtX7_runOrders_0_ok 12 rfl
theorem dX7_runOrders_22 : decode cX7_runOrders 22 = .ok (.aload_n 0, 1) := dg dtX7_runOrders_0_ok 13 rfl
theorem dX7_runOrders_23 : decode cX7_runOrders 23 = .ok (.getfield 10, 3) := dg dtX7_runOrders_0_ok 14 rfl
theorem dX7_runOrders_26 : decode cX7_runOrders 26 = .ok (.invokevirtual 53, 3) := dg dtX7_runOrders_0_ok 15 rfl
theorem dX7_runOrders_29 : decode cX7_runOrders 29 = .ok (.aload_n 0, 1) := dg dtX7_runOrders_0_ok 16 rfl
theorem dX7_runOrders_30 : decode cX7_runOrders 30 = .ok (.aload_n 0, 1) := dg dtX7_runOrders_0_ok 17 rfl
theorem dX7_runOrders_31 : decode cX7_runOrders 31 = .ok (.invokevirtual 161, 3) := dg dtX7_runOrders_0_ok 18 rfl
theorem dX7_runOrders_34 : decode cX7_runOrders 34 = .ok (.invokevirtual 57, 3) := dg dtX7_runOrders_0_ok 19 rfl
theorem dX7_runOrders_37 : decode cX7_runOrders 37 = .ok (.ireturn, 1) := dg dtX7_runOrders_0_ok 20 rfl
def dtX7_undo_0 : List (Nat × Instr × Nat) := [(0, .aload_n 0, 1), (1, .getfield 19, 3), (4, .aload_n 0, 1), (5, .getfield 10, 3), (8, .invokevirtual 164, 3), (11, .ifCond .eq 13, 3), (14, .aload_n 0, 1), (15, .getfield 19, 3), (18, .getfield 168, 3), (21, .goto 5, 3), (24, .ldc 171, 2), (26, .ireturn, 1)]
theorem dtX7_undo_0_ok : ∀ q ∈ dtX7_undo_0, decode cX7_undo q.1 = .ok q.2 := by decide +kernel
theorem dX7_undo_0 : decode cX7_undo 0 = .ok (.aload_n 0, 1) := dg dtX7_undo_0_ok 0 rfl
theorem dX7_undo_1 : decode cX7_undo 1 = .ok (.getfield 19, 3) := dg dtX7_undo_0_ok 1 rfl
theorem dX7_undo_4 : decode cX7_undo 4 = .ok (.aload_n 0, 1) := dg dtX7_undo_0_ok 2 rfl
theorem dX7_undo_5 : decode cX7_undo 5 = .ok (.getfield 10, 3) := dg dtX7_undo_0_ok 3 rfl
theorem dX7_undo_8 : decode cX7_undo 8 = .ok (.invokevirtual 164, 3) := dg dtX7_undo_0_ok 4 rfl
theorem dX7_undo_11 : decode cX7_undo 11 = .ok (.ifCond .eq 13, 3) := dg dtX7_undo_0_ok 5 rfl
theorem dX7_undo_14 : decode cX7_undo 14 = .ok (.aload_n 0, 1) := dg dtX7_undo_0_ok 6 rfl
theorem dX7_undo_15 : decode cX7_undo 15 = .ok (.getfield 19, 3) := dg dtX7_undo_0_ok 7 rfl
theorem dX7_undo_18 : decode cX7_undo 18 = .ok (.getfield 168, 3) := dg dtX7_undo_0_ok 8 rfl
theorem dX7_undo_21 : decode cX7_undo 21 = .ok (.goto 5, 3) := dg dtX7_undo_0_ok 9 rfl
theorem dX7_undo_24 : decode cX7_undo 24 = .ok (.ldc 171, 2) := dg dtX7_undo_0_ok 10 rfl
theorem dX7_undo_26 : decode cX7_undo 26 = .ok (.ireturn, 1) := dg dtX7_undo_0_ok 11 rfl
def dtX7_keep_0 : List (Nat × Instr × Nat) := [(0, .iload_n 1, 1), (1, .iconst 0, 1), (2, .iconst 1, 1), (3, .invokestatic 67, 3), (6, .ifCond .eq 6, 3), (9, .ldc 65, 2), (11, .ireturn, 1), (12, .aload_n 0, 1), (13, .getfield 23, 3), (16, .iload_n 1, 1), (17, .aaload, 1), (18, .aload_n 0, 1), (19, .getfield 10, 3), (22, .invokevirtual 172, 3), (25, .aload_n 0, 1), (26, .getfield 27, 3), (29, .iload_n 1, 1), (30, .iconst 1, 1), (31, .bastore, 1), (32, .aload_n 0, 1), (33, .getfield 10, 3), (36, .getfield 175, 3), (39, .ireturn, 1)]
theorem dtX7_keep_0_ok : ∀ q ∈ dtX7_keep_0, decode cX7_keep q.1 = .ok q.2 := by decide +kernel
theorem dX7_keep_0 : decode cX7_keep 0 = .ok (.iload_n 1, 1) := dg dtX7_keep_0_ok 0 rfl
theorem dX7_keep_1 : decode cX7_keep 1 = .ok (.iconst 0, 1) := dg dtX7_keep_0_ok 1 rfl
theorem dX7_keep_2 : decode cX7_keep 2 = .ok (.iconst 1, 1) := dg dtX7_keep_0_ok 2 rfl
theorem dX7_keep_3 : decode cX7_keep 3 = .ok (.invokestatic 67, 3) := dg dtX7_keep_0_ok 3 rfl
theorem dX7_keep_6 : decode cX7_keep 6 = .ok (.ifCond .eq 6, 3) := dg dtX7_keep_0_ok 4 rfl
theorem dX7_keep_9 : decode cX7_keep 9 = .ok (.ldc 65, 2) := dg dtX7_keep_0_ok 5 rfl
theorem dX7_keep_11 : decode cX7_keep 11 = .ok (.ireturn, 1) := dg dtX7_keep_0_ok 6 rfl
theorem dX7_keep_12 : decode cX7_keep 12 = .ok (.aload_n 0, 1) := dg dtX7_keep_0_ok 7 rfl
theorem dX7_keep_13 : decode cX7_keep 13 = .ok (.getfield 23, 3) := dg dtX7_keep_0_ok 8 rfl
theorem dX7_keep_16 : decode cX7_keep 16 = .ok (.iload_n 1, 1) := dg dtX7_keep_0_ok 9 rfl
theorem dX7_keep_17 : decode cX7_keep 17 = .ok (.aaload, 1) := dg dtX7_keep_0_ok 10 rfl
theorem dX7_keep_18 : decode cX7_keep 18 = .ok (.aload_n 0, 1) := dg dtX7_keep_0_ok 11 rfl
theorem dX7_keep_19 : decode cX7_keep 19 = .ok (.getfield 10, 3) := dg dtX7_keep_0_ok 12 rfl
theorem dX7_keep_22 : decode cX7_keep 22 = .ok (.invokevirtual 172, 3) := dg dtX7_keep_0_ok 13 rfl
theorem dX7_keep_25 : decode cX7_keep 25 = .ok (.aload_n 0, 1) := dg dtX7_keep_0_ok 14 rfl
theorem dX7_keep_26 : decode cX7_keep 26 = .ok (.getfield 27, 3) := dg dtX7_keep_0_ok 15 rfl
theorem dX7_keep_29 : decode cX7_keep 29 = .ok (.iload_n 1, 1) := dg dtX7_keep_0_ok 16 rfl
theorem dX7_keep_30 : decode cX7_keep 30 = .ok (.iconst 1, 1) := dg dtX7_keep_0_ok 17 rfl
theorem dX7_keep_31 : decode cX7_keep 31 = .ok (.bastore, 1) := dg dtX7_keep_0_ok 18 rfl
theorem dX7_keep_32 : decode cX7_keep 32 = .ok (.aload_n 0, 1) := dg dtX7_keep_0_ok 19 rfl
theorem dX7_keep_33 : decode cX7_keep 33 = .ok (.getfield 10, 3) := dg dtX7_keep_0_ok 20 rfl
theorem dX7_keep_36 : decode cX7_keep 36 = .ok (.getfield 175, 3) := dg dtX7_keep_0_ok 21 rfl
theorem dX7_keep_39 : decode cX7_keep 39 = .ok (.ireturn, 1) := dg dtX7_keep_0_ok 22 rfl
def dtX7_restore_0 : List (Nat × Instr × Nat) := [(0, .iload_n 1, 1), (1, .iconst 0, 1), (2, .iconst 1, 1), (3, .invokestatic 67, 3), (6, .ifCond .eq 6, 3), (9, .ldc 65, 2), (11, .ireturn, 1), (12, .aload_n 0, 1), (13, .getfield 27, 3), (16, .iload_n 1, 1), (17, .baload, 1), (18, .ifCond .ne 6, 3), (21, .ldc 171, 2), (23, .ireturn, 1), (24, .aload_n 0, 1), (25, .getfield 19, 3), (28, .aload_n 0, 1), (29, .getfield 10, 3), (32, .invokevirtual 53, 3), (35, .aload_n 0, 1), (36, .getfield 10, 3), (39, .aload_n 0, 1), (40, .getfield 23, 3), (43, .iload_n 1, 1), (44, .aaload, 1), (45, .invokevirtual 172, 3), (48, .aload_n 0, 1), (49, .aload_n 0, 1), (50, .getfield 10, 3), (53, .getfield 175, 3), (56, .invokevirtual 57, 3), (59, .ireturn, 1)]
theorem dtX7_restore_0_ok : ∀ q ∈ dtX7_restore_0, decode cX7_restore q.1 = .ok q.2 := by decide +kernel
theorem dX7_restore_0 : decode cX7_restore 0 = .ok (.iload_n 1, 1) := dg dtX7_restore_0_ok 0 rfl
theorem dX7_restore_1 : decode cX7_restore 1 = .ok (.iconst 0, 1) := dg dtX7_restore_0_ok 1 rfl
theorem dX7_restore_2 : decode cX7_restore 2 = .ok (.iconst 1, 1) := dg dtX7_restore_0_ok 2 rfl
theorem dX7_restore_3 : decode cX7_restore 3 = .ok (.invokestatic 67, 3) := dg dtX7_restore_0_ok 3 rfl
theorem dX7_restore_6 : decode cX7_restore 6 = .ok (.ifCond .eq 6, 3) := dg dtX7_restore_0_ok 4 rfl
theorem dX7_restore_9 : decode cX7_restore 9 = .ok (.ldc 65, 2) := dg dtX7_restore_0_ok 5 rfl
theorem dX7_restore_11 : decode cX7_restore 11 = .ok (.ireturn, 1) := dg dtX7_restore_0_ok 6 rfl
theorem dX7_restore_12 : decode cX7_restore 12 = .ok (.aload_n 0, 1) := dg dtX7_restore_0_ok 7 rfl
theorem dX7_restore_13 : decode cX7_restore 13 = .ok (.getfield 27, 3) := dg dtX7_restore_0_ok 8 rfl
theorem dX7_restore_16 : decode cX7_restore 16 = .ok (.iload_n 1, 1) := dg dtX7_restore_0_ok 9 rfl
theorem dX7_restore_17 : decode cX7_restore 17 = .ok (.baload, 1) := dg dtX7_restore_0_ok 10 rfl
theorem dX7_restore_18 : decode cX7_restore 18 = .ok (.ifCond .ne 6, 3) := dg dtX7_restore_0_ok 11 rfl
theorem dX7_restore_21 : decode cX7_restore 21 = .ok (.ldc 171, 2) := dg dtX7_restore_0_ok 12 rfl
theorem dX7_restore_23 : decode cX7_restore 23 = .ok (.ireturn, 1) := dg dtX7_restore_0_ok 13 rfl
theorem dX7_restore_24 : decode cX7_restore 24 = .ok (.aload_n 0, 1) := dg dtX7_restore_0_ok 14 rfl
theorem dX7_restore_25 : decode cX7_restore 25 = .ok (.getfield 19, 3) := dg dtX7_restore_0_ok 15 rfl
theorem dX7_restore_28 : decode cX7_restore 28 = .ok (.aload_n 0, 1) := dg dtX7_restore_0_ok 16 rfl
theorem dX7_restore_29 : decode cX7_restore 29 = .ok (.getfield 10, 3) := dg dtX7_restore_0_ok 17 rfl
theorem dX7_restore_32 : decode cX7_restore 32 = .ok (.invokevirtual 53, 3) := dg dtX7_restore_0_ok 18 rfl
theorem dX7_restore_35 : decode cX7_restore 35 = .ok (.aload_n 0, 1) := dg dtX7_restore_0_ok 19 rfl
theorem dX7_restore_36 : decode cX7_restore 36 = .ok (.getfield 10, 3) := dg dtX7_restore_0_ok 20 rfl
theorem dX7_restore_39 : decode cX7_restore 39 = .ok (.aload_n 0, 1) := dg dtX7_restore_0_ok 21 rfl
theorem dX7_restore_40 : decode cX7_restore 40 = .ok (.getfield 23, 3) := dg dtX7_restore_0_ok 22 rfl
theorem dX7_restore_43 : decode cX7_restore 43 = .ok (.iload_n 1, 1) := dg dtX7_restore_0_ok 23 rfl
theorem dX7_restore_44 : decode cX7_restore 44 = .ok (.aaload, 1) := dg dtX7_restore_0_ok 24 rfl
theorem dX7_restore_45 : decode cX7_restore 45 = .ok (.invokevirtual 172, 3) := dg dtX7_restore_0_ok 25 rfl
theorem dX7_restore_48 : decode cX7_restore 48 = .ok (.aload_n 0, 1) := dg dtX7_restore_0_ok 26 rfl
theorem dX7_restore_49 : decode cX7_restore 49 = .ok (.aload_n 0, 1) := dg dtX7_restore_0_ok 27 rfl
theorem dX7_restore_50 : decode cX7_restore 50 = .ok (.getfield 10, 3) := dg dtX7_restore_0_ok 28 rfl
theorem dX7_restore_53 : decode cX7_restore 53 = .ok (.getfield 175, 3) := dg dtX7_restore_0_ok 29 rfl
theorem dX7_restore_56 : decode cX7_restore 56 = .ok (.invokevirtual 57, 3) := dg dtX7_restore_0_ok 30 rfl
theorem dX7_restore_59 : decode cX7_restore 59 = .ok (.ireturn, 1) := dg dtX7_restore_0_ok 31 rfl
def dtX7_owner_0 : List (Nat × Instr × Nat) := [(0, .aload_n 0, 1), (1, .getfield 10, 3), (4, .iload_n 1, 1), (5, .invokevirtual 61, 3), (8, .astore_n 3, 1), (9, .aload_n 3, 1), (10, .ifnonnull 7, 3), (13, .ldc2_w 178, 3), (16, .lreturn, 1), (17, .iload_n 2, 1), (18, .tableswitch 116 0 6 #[42, 47, 53, 59, 69, 100, 110], 42), (60, .aload_n 3, 1), (61, .getfield 180, 3), (64, .lreturn, 1), (65, .aload_n 3, 1), (66, .getfield 102, 3), (69, .i2l, 1), (70, .lreturn, 1), (71, .aload_n 3, 1), (72, .getfield 82, 3), (75, .i2l, 1), (76, .lreturn, 1), (77, .aload_n 0, 1), (78, .getfield 10, 3), (81, .iload_n 1, 1), (82, .invokevirtual 90, 3), (85, .i2l, 1), (86, .lreturn, 1), (87, .aload_n 0, 1), (88, .getfield 10, 3), (91, .getfield 86, 3), (94, .aload_n 3, 1), (95, .getfield 102, 3), (98, .aload_n 0, 1), (99, .getfield 10, 3), (102, .iload_n 1, 1), (103, .invokevirtual 90, 3), (106, .invokevirtual 93, 3), (109, .ifCond .eq 7, 3), (112, .lconst 1, 1), (113, .goto 4, 3), (116, .lconst 0, 1), (117, .lreturn, 1), (118, .aload_n 0, 1), (119, .getfield 10, 3), (122, .iload_n 1, 1), (123, .invokevirtual 183, 3), (126, .i2l, 1)]
theorem dtX7_owner_0_ok : ∀ q ∈ dtX7_owner_0, decode cX7_owner q.1 = .ok q.2 := by decide +kernel
theorem dX7_owner_0 : decode cX7_owner 0 = .ok (.aload_n 0, 1) := dg dtX7_owner_0_ok 0 rfl
theorem dX7_owner_1 : decode cX7_owner 1 = .ok (.getfield 10, 3) := dg dtX7_owner_0_ok 1 rfl
theorem dX7_owner_4 : decode cX7_owner 4 = .ok (.iload_n 1, 1) := dg dtX7_owner_0_ok 2 rfl
theorem dX7_owner_5 : decode cX7_owner 5 = .ok (.invokevirtual 61, 3) := dg dtX7_owner_0_ok 3 rfl
theorem dX7_owner_8 : decode cX7_owner 8 = .ok (.astore_n 3, 1) := dg dtX7_owner_0_ok 4 rfl
theorem dX7_owner_9 : decode cX7_owner 9 = .ok (.aload_n 3, 1) := dg dtX7_owner_0_ok 5 rfl
theorem dX7_owner_10 : decode cX7_owner 10 = .ok (.ifnonnull 7, 3) := dg dtX7_owner_0_ok 6 rfl
theorem dX7_owner_13 : decode cX7_owner 13 = .ok (.ldc2_w 178, 3) := dg dtX7_owner_0_ok 7 rfl
theorem dX7_owner_16 : decode cX7_owner 16 = .ok (.lreturn, 1) := dg dtX7_owner_0_ok 8 rfl
theorem dX7_owner_17 : decode cX7_owner 17 = .ok (.iload_n 2, 1) := dg dtX7_owner_0_ok 9 rfl
theorem dX7_owner_18 : decode cX7_owner 18 = .ok (.tableswitch 116 0 6 #[42, 47, 53, 59, 69, 100, 110], 42) := dg dtX7_owner_0_ok 10 rfl
theorem dX7_owner_60 : decode cX7_owner 60 = .ok (.aload_n 3, 1) := dg dtX7_owner_0_ok 11 rfl
theorem dX7_owner_61 : decode cX7_owner 61 = .ok (.getfield 180, 3) := dg dtX7_owner_0_ok 12 rfl
theorem dX7_owner_64 : decode cX7_owner 64 = .ok (.lreturn, 1) := dg dtX7_owner_0_ok 13 rfl
theorem dX7_owner_65 : decode cX7_owner 65 = .ok (.aload_n 3, 1) := dg dtX7_owner_0_ok 14 rfl
theorem dX7_owner_66 : decode cX7_owner 66 = .ok (.getfield 102, 3) := dg dtX7_owner_0_ok 15 rfl
theorem dX7_owner_69 : decode cX7_owner 69 = .ok (.i2l, 1) := dg dtX7_owner_0_ok 16 rfl
theorem dX7_owner_70 : decode cX7_owner 70 = .ok (.lreturn, 1) := dg dtX7_owner_0_ok 17 rfl
theorem dX7_owner_71 : decode cX7_owner 71 = .ok (.aload_n 3, 1) := dg dtX7_owner_0_ok 18 rfl
theorem dX7_owner_72 : decode cX7_owner 72 = .ok (.getfield 82, 3) := dg dtX7_owner_0_ok 19 rfl
theorem dX7_owner_75 : decode cX7_owner 75 = .ok (.i2l, 1) := dg dtX7_owner_0_ok 20 rfl
theorem dX7_owner_76 : decode cX7_owner 76 = .ok (.lreturn, 1) := dg dtX7_owner_0_ok 21 rfl
theorem dX7_owner_77 : decode cX7_owner 77 = .ok (.aload_n 0, 1) := dg dtX7_owner_0_ok 22 rfl
theorem dX7_owner_78 : decode cX7_owner 78 = .ok (.getfield 10, 3) := dg dtX7_owner_0_ok 23 rfl
theorem dX7_owner_81 : decode cX7_owner 81 = .ok (.iload_n 1, 1) := dg dtX7_owner_0_ok 24 rfl
theorem dX7_owner_82 : decode cX7_owner 82 = .ok (.invokevirtual 90, 3) := dg dtX7_owner_0_ok 25 rfl
theorem dX7_owner_85 : decode cX7_owner 85 = .ok (.i2l, 1) := dg dtX7_owner_0_ok 26 rfl
theorem dX7_owner_86 : decode cX7_owner 86 = .ok (.lreturn, 1) := dg dtX7_owner_0_ok 27 rfl
theorem dX7_owner_87 : decode cX7_owner 87 = .ok (.aload_n 0, 1) := dg dtX7_owner_0_ok 28 rfl
theorem dX7_owner_88 : decode cX7_owner 88 = .ok (.getfield 10, 3) := dg dtX7_owner_0_ok 29 rfl
theorem dX7_owner_91 : decode cX7_owner 91 = .ok (.getfield 86, 3) := dg dtX7_owner_0_ok 30 rfl
theorem dX7_owner_94 : decode cX7_owner 94 = .ok (.aload_n 3, 1) := dg dtX7_owner_0_ok 31 rfl
theorem dX7_owner_95 : decode cX7_owner 95 = .ok (.getfield 102, 3) := dg dtX7_owner_0_ok 32 rfl
theorem dX7_owner_98 : decode cX7_owner 98 = .ok (.aload_n 0, 1) := dg dtX7_owner_0_ok 33 rfl
theorem dX7_owner_99 : decode cX7_owner 99 = .ok (.getfield 10, 3) := dg dtX7_owner_0_ok 34 rfl
theorem dX7_owner_102 : decode cX7_owner 102 = .ok (.iload_n 1, 1) := dg dtX7_owner_0_ok 35 rfl
theorem dX7_owner_103 : decode cX7_owner 103 = .ok (.invokevirtual 90, 3) := dg dtX7_owner_0_ok 36 rfl
theorem dX7_owner_106 : decode cX7_owner 106 = .ok (.invokevirtual 93, 3) := dg dtX7_owner_0_ok 37 rfl
theorem dX7_owner_109 : decode cX7_owner 109 = .ok (.ifCond .eq 7, 3) := dg dtX7_owner_0_ok 38 rfl
theorem dX7_owner_112 : decode cX7_owner 112 = .ok (.lconst 1, 1) := dg dtX7_owner_0_ok 39 rfl
theorem dX7_owner_113 : decode cX7_owner 113 = .ok (.goto 4, 3) := dg dtX7_owner_0_ok 40 rfl
theorem dX7_owner_116 : decode cX7_owner 116 = .ok (.lconst 0, 1) := dg dtX7_owner_0_ok 41 rfl
theorem dX7_owner_117 : decode cX7_owner 117 = .ok (.lreturn, 1) := dg dtX7_owner_0_ok 42 rfl
theorem dX7_owner_118 : decode cX7_owner 118 = .ok (.aload_n 0, 1) := dg dtX7_owner_0_ok 43 rfl
theorem dX7_owner_119 : decode cX7_owner 119 = .ok (.getfield 10, 3) := dg dtX7_owner_0_ok 44 rfl
theorem dX7_owner_122 : decode cX7_owner 122 = .ok (.iload_n 1, 1) := dg dtX7_owner_0_ok 45 rfl
theorem dX7_owner_123 : decode cX7_owner 123 = .ok (.invokevirtual 183, 3) := dg dtX7_owner_0_ok 46 rfl
theorem dX7_owner_126 : decode cX7_owner 126 = .ok (.i2l, 1) := dg dtX7_owner_0_ok 47 rfl
def dtX7_owner_1 : List (Nat × Instr × Nat) := [(127, .lreturn, 1), (128, .aload_n 3, 1), (129, .getfield 186, 3), (132, .i2l, 1), (133, .lreturn, 1), (134, .ldc2_w 189, 3), (137, .lreturn, 1)]
theorem dtX7_owner_1_ok : ∀ q ∈ dtX7_owner_1, decode cX7_owner q.1 = .ok q.2 := by decide +kernel
theorem dX7_owner_127 : decode cX7_owner 127 = .ok (.lreturn, 1) := dg dtX7_owner_1_ok 0 rfl
theorem dX7_owner_128 : decode cX7_owner 128 = .ok (.aload_n 3, 1) := dg dtX7_owner_1_ok 1 rfl
theorem dX7_owner_129 : decode cX7_owner 129 = .ok (.getfield 186, 3) := dg dtX7_owner_1_ok 2 rfl
theorem dX7_owner_132 : decode cX7_owner 132 = .ok (.i2l, 1) := dg dtX7_owner_1_ok 3 rfl
theorem dX7_owner_133 : decode cX7_owner 133 = .ok (.lreturn, 1) := dg dtX7_owner_1_ok 4 rfl
theorem dX7_owner_134 : decode cX7_owner 134 = .ok (.ldc2_w 189, 3) := dg dtX7_owner_1_ok 5 rfl
theorem dX7_owner_137 : decode cX7_owner 137 = .ok (.lreturn, 1) := dg dtX7_owner_1_ok 6 rfl
def dtX7_lot_0 : List (Nat × Instr × Nat) := [(0, .aload_n 0, 1), (1, .getfield 10, 3), (4, .iload_n 1, 1), (5, .invokevirtual 191, 3), (8, .astore_n 3, 1), (9, .aload_n 3, 1), (10, .ifnonnull 6, 3), (13, .ldc 65, 2), (15, .ireturn, 1), (16, .iload_n 2, 1), (17, .tableswitch 136 0 12 #[67, 72, 77, 82, 87, 92, 97, 102, 107, 112, 117, 122, 127], 67), (84, .aload_n 3, 1), (85, .getfield 195, 3), (88, .ireturn, 1), (89, .aload_n 3, 1), (90, .getfield 200, 3), (93, .ireturn, 1), (94, .aload_n 3, 1), (95, .getfield 203, 3), (98, .ireturn, 1), (99, .aload_n 3, 1), (100, .getfield 206, 3), (103, .ireturn, 1), (104, .aload_n 3, 1), (105, .getfield 209, 3), (108, .ireturn, 1), (109, .aload_n 3, 1), (110, .getfield 212, 3), (113, .ireturn, 1), (114, .aload_n 3, 1), (115, .getfield 215, 3), (118, .ireturn, 1), (119, .aload_n 3, 1), (120, .getfield 218, 3), (123, .ireturn, 1), (124, .aload_n 3, 1), (125, .invokevirtual 221, 3), (128, .ireturn, 1), (129, .aload_n 3, 1), (130, .getfield 224, 3), (133, .ireturn, 1), (134, .aload_n 3, 1), (135, .getfield 227, 3), (138, .ireturn, 1), (139, .aload_n 3, 1), (140, .getfield 230, 3), (143, .ireturn, 1), (144, .aload_n 0, 1)]
theorem dtX7_lot_0_ok : ∀ q ∈ dtX7_lot_0, decode cX7_lot q.1 = .ok q.2 := by decide +kernel
theorem dX7_lot_0 : decode cX7_lot 0 = .ok (.aload_n 0, 1) := dg dtX7_lot_0_ok 0 rfl
theorem dX7_lot_1 : decode cX7_lot 1 = .ok (.getfield 10, 3) := dg dtX7_lot_0_ok 1 rfl
theorem dX7_lot_4 : decode cX7_lot 4 = .ok (.iload_n 1, 1) := dg dtX7_lot_0_ok 2 rfl
theorem dX7_lot_5 : decode cX7_lot 5 = .ok (.invokevirtual 191, 3) := dg dtX7_lot_0_ok 3 rfl
theorem dX7_lot_8 : decode cX7_lot 8 = .ok (.astore_n 3, 1) := dg dtX7_lot_0_ok 4 rfl
theorem dX7_lot_9 : decode cX7_lot 9 = .ok (.aload_n 3, 1) := dg dtX7_lot_0_ok 5 rfl
theorem dX7_lot_10 : decode cX7_lot 10 = .ok (.ifnonnull 6, 3) := dg dtX7_lot_0_ok 6 rfl
theorem dX7_lot_13 : decode cX7_lot 13 = .ok (.ldc 65, 2) := dg dtX7_lot_0_ok 7 rfl
theorem dX7_lot_15 : decode cX7_lot 15 = .ok (.ireturn, 1) := dg dtX7_lot_0_ok 8 rfl
theorem dX7_lot_16 : decode cX7_lot 16 = .ok (.iload_n 2, 1) := dg dtX7_lot_0_ok 9 rfl
theorem dX7_lot_17 : decode cX7_lot 17 = .ok (.tableswitch 136 0 12 #[67, 72, 77, 82, 87, 92, 97, 102, 107, 112, 117, 122, 127], 67) := dg dtX7_lot_0_ok 10 rfl
theorem dX7_lot_84 : decode cX7_lot 84 = .ok (.aload_n 3, 1) := dg dtX7_lot_0_ok 11 rfl
theorem dX7_lot_85 : decode cX7_lot 85 = .ok (.getfield 195, 3) := dg dtX7_lot_0_ok 12 rfl
theorem dX7_lot_88 : decode cX7_lot 88 = .ok (.ireturn, 1) := dg dtX7_lot_0_ok 13 rfl
theorem dX7_lot_89 : decode cX7_lot 89 = .ok (.aload_n 3, 1) := dg dtX7_lot_0_ok 14 rfl
theorem dX7_lot_90 : decode cX7_lot 90 = .ok (.getfield 200, 3) := dg dtX7_lot_0_ok 15 rfl
theorem dX7_lot_93 : decode cX7_lot 93 = .ok (.ireturn, 1) := dg dtX7_lot_0_ok 16 rfl
theorem dX7_lot_94 : decode cX7_lot 94 = .ok (.aload_n 3, 1) := dg dtX7_lot_0_ok 17 rfl
theorem dX7_lot_95 : decode cX7_lot 95 = .ok (.getfield 203, 3) := dg dtX7_lot_0_ok 18 rfl
theorem dX7_lot_98 : decode cX7_lot 98 = .ok (.ireturn, 1) := dg dtX7_lot_0_ok 19 rfl
theorem dX7_lot_99 : decode cX7_lot 99 = .ok (.aload_n 3, 1) := dg dtX7_lot_0_ok 20 rfl
theorem dX7_lot_100 : decode cX7_lot 100 = .ok (.getfield 206, 3) := dg dtX7_lot_0_ok 21 rfl
theorem dX7_lot_103 : decode cX7_lot 103 = .ok (.ireturn, 1) := dg dtX7_lot_0_ok 22 rfl
theorem dX7_lot_104 : decode cX7_lot 104 = .ok (.aload_n 3, 1) := dg dtX7_lot_0_ok 23 rfl
theorem dX7_lot_105 : decode cX7_lot 105 = .ok (.getfield 209, 3) := dg dtX7_lot_0_ok 24 rfl
theorem dX7_lot_108 : decode cX7_lot 108 = .ok (.ireturn, 1) := dg dtX7_lot_0_ok 25 rfl
theorem dX7_lot_109 : decode cX7_lot 109 = .ok (.aload_n 3, 1) := dg dtX7_lot_0_ok 26 rfl
theorem dX7_lot_110 : decode cX7_lot 110 = .ok (.getfield 212, 3) := dg dtX7_lot_0_ok 27 rfl
theorem dX7_lot_113 : decode cX7_lot 113 = .ok (.ireturn, 1) := dg dtX7_lot_0_ok 28 rfl
theorem dX7_lot_114 : decode cX7_lot 114 = .ok (.aload_n 3, 1) := dg dtX7_lot_0_ok 29 rfl
theorem dX7_lot_115 : decode cX7_lot 115 = .ok (.getfield 215, 3) := dg dtX7_lot_0_ok 30 rfl
theorem dX7_lot_118 : decode cX7_lot 118 = .ok (.ireturn, 1) := dg dtX7_lot_0_ok 31 rfl
theorem dX7_lot_119 : decode cX7_lot 119 = .ok (.aload_n 3, 1) := dg dtX7_lot_0_ok 32 rfl
theorem dX7_lot_120 : decode cX7_lot 120 = .ok (.getfield 218, 3) := dg dtX7_lot_0_ok 33 rfl
theorem dX7_lot_123 : decode cX7_lot 123 = .ok (.ireturn, 1) := dg dtX7_lot_0_ok 34 rfl
theorem dX7_lot_124 : decode cX7_lot 124 = .ok (.aload_n 3, 1) := dg dtX7_lot_0_ok 35 rfl
theorem dX7_lot_125 : decode cX7_lot 125 = .ok (.invokevirtual 221, 3) := dg dtX7_lot_0_ok 36 rfl
theorem dX7_lot_128 : decode cX7_lot 128 = .ok (.ireturn, 1) := dg dtX7_lot_0_ok 37 rfl
theorem dX7_lot_129 : decode cX7_lot 129 = .ok (.aload_n 3, 1) := dg dtX7_lot_0_ok 38 rfl
theorem dX7_lot_130 : decode cX7_lot 130 = .ok (.getfield 224, 3) := dg dtX7_lot_0_ok 39 rfl
theorem dX7_lot_133 : decode cX7_lot 133 = .ok (.ireturn, 1) := dg dtX7_lot_0_ok 40 rfl
theorem dX7_lot_134 : decode cX7_lot 134 = .ok (.aload_n 3, 1) := dg dtX7_lot_0_ok 41 rfl
theorem dX7_lot_135 : decode cX7_lot 135 = .ok (.getfield 227, 3) := dg dtX7_lot_0_ok 42 rfl
theorem dX7_lot_138 : decode cX7_lot 138 = .ok (.ireturn, 1) := dg dtX7_lot_0_ok 43 rfl
theorem dX7_lot_139 : decode cX7_lot 139 = .ok (.aload_n 3, 1) := dg dtX7_lot_0_ok 44 rfl
theorem dX7_lot_140 : decode cX7_lot 140 = .ok (.getfield 230, 3) := dg dtX7_lot_0_ok 45 rfl
theorem dX7_lot_143 : decode cX7_lot 143 = .ok (.ireturn, 1) := dg dtX7_lot_0_ok 46 rfl
theorem dX7_lot_144 : decode cX7_lot 144 = .ok (.aload_n 0, 1) := dg dtX7_lot_0_ok 47 rfl
def dtX7_lot_1 : List (Nat × Instr × Nat) := [(145, .getfield 10, 3), (148, .iload_n 1, 1), (149, .invokevirtual 233, 3), (152, .ireturn, 1), (153, .ldc 71, 2), (155, .ireturn, 1)]
theorem dtX7_lot_1_ok : ∀ q ∈ dtX7_lot_1, decode cX7_lot q.1 = .ok q.2 := by decide +kernel
theorem dX7_lot_145 : decode cX7_lot 145 = .ok (.getfield 10, 3) := dg dtX7_lot_1_ok 0 rfl
theorem dX7_lot_148 : decode cX7_lot 148 = .ok (.iload_n 1, 1) := dg dtX7_lot_1_ok 1 rfl
theorem dX7_lot_149 : decode cX7_lot 149 = .ok (.invokevirtual 233, 3) := dg dtX7_lot_1_ok 2 rfl
theorem dX7_lot_152 : decode cX7_lot 152 = .ok (.ireturn, 1) := dg dtX7_lot_1_ok 3 rfl
theorem dX7_lot_153 : decode cX7_lot 153 = .ok (.ldc 71, 2) := dg dtX7_lot_1_ok 4 rfl
theorem dX7_lot_155 : decode cX7_lot 155 = .ok (.ireturn, 1) := dg dtX7_lot_1_ok 5 rfl
def dtX7_exported_0 : List (Nat × Instr × Nat) := [(0, .aload_n 0, 1), (1, .getfield 10, 3), (4, .iload_n 1, 1), (5, .invokevirtual 236, 3), (8, .astore_n 3, 1), (9, .aload_n 3, 1), (10, .ifnonnull 6, 3), (13, .ldc 65, 2), (15, .ireturn, 1), (16, .iload_n 2, 1), (17, .tableswitch 60 0 4 #[35, 40, 45, 50, 55], 35), (52, .aload_n 3, 1), (53, .getfield 240, 3), (56, .ireturn, 1), (57, .aload_n 3, 1), (58, .getfield 245, 3), (61, .ireturn, 1), (62, .aload_n 3, 1), (63, .getfield 248, 3), (66, .ireturn, 1), (67, .aload_n 3, 1), (68, .getfield 251, 3), (71, .ireturn, 1), (72, .aload_n 3, 1), (73, .getfield 252, 3), (76, .ireturn, 1), (77, .ldc 71, 2), (79, .ireturn, 1)]
theorem dtX7_exported_0_ok : ∀ q ∈ dtX7_exported_0, decode cX7_exported q.1 = .ok q.2 := by decide +kernel
theorem dX7_exported_0 : decode cX7_exported 0 = .ok (.aload_n 0, 1) := dg dtX7_exported_0_ok 0 rfl
theorem dX7_exported_1 : decode cX7_exported 1 = .ok (.getfield 10, 3) := dg dtX7_exported_0_ok 1 rfl
theorem dX7_exported_4 : decode cX7_exported 4 = .ok (.iload_n 1, 1) := dg dtX7_exported_0_ok 2 rfl
theorem dX7_exported_5 : decode cX7_exported 5 = .ok (.invokevirtual 236, 3) := dg dtX7_exported_0_ok 3 rfl
theorem dX7_exported_8 : decode cX7_exported 8 = .ok (.astore_n 3, 1) := dg dtX7_exported_0_ok 4 rfl
theorem dX7_exported_9 : decode cX7_exported 9 = .ok (.aload_n 3, 1) := dg dtX7_exported_0_ok 5 rfl
theorem dX7_exported_10 : decode cX7_exported 10 = .ok (.ifnonnull 6, 3) := dg dtX7_exported_0_ok 6 rfl
theorem dX7_exported_13 : decode cX7_exported 13 = .ok (.ldc 65, 2) := dg dtX7_exported_0_ok 7 rfl
theorem dX7_exported_15 : decode cX7_exported 15 = .ok (.ireturn, 1) := dg dtX7_exported_0_ok 8 rfl
theorem dX7_exported_16 : decode cX7_exported 16 = .ok (.iload_n 2, 1) := dg dtX7_exported_0_ok 9 rfl
theorem dX7_exported_17 : decode cX7_exported 17 = .ok (.tableswitch 60 0 4 #[35, 40, 45, 50, 55], 35) := dg dtX7_exported_0_ok 10 rfl
theorem dX7_exported_52 : decode cX7_exported 52 = .ok (.aload_n 3, 1) := dg dtX7_exported_0_ok 11 rfl
theorem dX7_exported_53 : decode cX7_exported 53 = .ok (.getfield 240, 3) := dg dtX7_exported_0_ok 12 rfl
theorem dX7_exported_56 : decode cX7_exported 56 = .ok (.ireturn, 1) := dg dtX7_exported_0_ok 13 rfl
theorem dX7_exported_57 : decode cX7_exported 57 = .ok (.aload_n 3, 1) := dg dtX7_exported_0_ok 14 rfl
theorem dX7_exported_58 : decode cX7_exported 58 = .ok (.getfield 245, 3) := dg dtX7_exported_0_ok 15 rfl
theorem dX7_exported_61 : decode cX7_exported 61 = .ok (.ireturn, 1) := dg dtX7_exported_0_ok 16 rfl
theorem dX7_exported_62 : decode cX7_exported 62 = .ok (.aload_n 3, 1) := dg dtX7_exported_0_ok 17 rfl
theorem dX7_exported_63 : decode cX7_exported 63 = .ok (.getfield 248, 3) := dg dtX7_exported_0_ok 18 rfl
theorem dX7_exported_66 : decode cX7_exported 66 = .ok (.ireturn, 1) := dg dtX7_exported_0_ok 19 rfl
theorem dX7_exported_67 : decode cX7_exported 67 = .ok (.aload_n 3, 1) := dg dtX7_exported_0_ok 20 rfl
theorem dX7_exported_68 : decode cX7_exported 68 = .ok (.getfield 251, 3) := dg dtX7_exported_0_ok 21 rfl
theorem dX7_exported_71 : decode cX7_exported 71 = .ok (.ireturn, 1) := dg dtX7_exported_0_ok 22 rfl
theorem dX7_exported_72 : decode cX7_exported 72 = .ok (.aload_n 3, 1) := dg dtX7_exported_0_ok 23 rfl
theorem dX7_exported_73 : decode cX7_exported 73 = .ok (.getfield 252, 3) := dg dtX7_exported_0_ok 24 rfl
theorem dX7_exported_76 : decode cX7_exported 76 = .ok (.ireturn, 1) := dg dtX7_exported_0_ok 25 rfl
theorem dX7_exported_77 : decode cX7_exported 77 = .ok (.ldc 71, 2) := dg dtX7_exported_0_ok 26 rfl
theorem dX7_exported_79 : decode cX7_exported 79 = .ok (.ireturn, 1) := dg dtX7_exported_0_ok 27 rfl
def dtX7_documentLength_0 : List (Nat × Instr × Nat) := [(0, .aload_n 0, 1), (1, .getfield 10, 3), (4, .iload_n 1, 1), (5, .invokevirtual 191, 3), (8, .astore_n 2, 1), (9, .aload_n 2, 1), (10, .ifnonnull 6, 3), (13, .ldc 65, 2), (15, .ireturn, 1), (16, .aload_n 0, 1), (17, .iload_n 1, 1), (18, .aload_n 2, 1), (19, .invokevirtual 255, 3), (22, .aload_n 0, 1), (23, .getfield 41, 3), (26, .invokevirtual 259, 3), (29, .ireturn, 1)]
theorem dtX7_documentLength_0_ok : ∀ q ∈ dtX7_documentLength_0, decode cX7_documentLength q.1 = .ok q.2 := by decide +kernel
theorem dX7_documentLength_0 : decode cX7_documentLength 0 = .ok (.aload_n 0, 1) := dg dtX7_documentLength_0_ok 0 rfl
theorem dX7_documentLength_1 : decode cX7_documentLength 1 = .ok (.getfield 10, 3) := dg dtX7_documentLength_0_ok 1 rfl
theorem dX7_documentLength_4 : decode cX7_documentLength 4 = .ok (.iload_n 1, 1) := dg dtX7_documentLength_0_ok 2 rfl
theorem dX7_documentLength_5 : decode cX7_documentLength 5 = .ok (.invokevirtual 191, 3) := dg dtX7_documentLength_0_ok 3 rfl
theorem dX7_documentLength_8 : decode cX7_documentLength 8 = .ok (.astore_n 2, 1) := dg dtX7_documentLength_0_ok 4 rfl
theorem dX7_documentLength_9 : decode cX7_documentLength 9 = .ok (.aload_n 2, 1) := dg dtX7_documentLength_0_ok 5 rfl
theorem dX7_documentLength_10 : decode cX7_documentLength 10 = .ok (.ifnonnull 6, 3) := dg dtX7_documentLength_0_ok 6 rfl
theorem dX7_documentLength_13 : decode cX7_documentLength 13 = .ok (.ldc 65, 2) := dg dtX7_documentLength_0_ok 7 rfl
theorem dX7_documentLength_15 : decode cX7_documentLength 15 = .ok (.ireturn, 1) := dg dtX7_documentLength_0_ok 8 rfl
theorem dX7_documentLength_16 : decode cX7_documentLength 16 = .ok (.aload_n 0, 1) := dg dtX7_documentLength_0_ok 9 rfl
theorem dX7_documentLength_17 : decode cX7_documentLength 17 = .ok (.iload_n 1, 1) := dg dtX7_documentLength_0_ok 10 rfl
theorem dX7_documentLength_18 : decode cX7_documentLength 18 = .ok (.aload_n 2, 1) := dg dtX7_documentLength_0_ok 11 rfl
theorem dX7_documentLength_19 : decode cX7_documentLength 19 = .ok (.invokevirtual 255, 3) := dg dtX7_documentLength_0_ok 12 rfl
theorem dX7_documentLength_22 : decode cX7_documentLength 22 = .ok (.aload_n 0, 1) := dg dtX7_documentLength_0_ok 13 rfl
theorem dX7_documentLength_23 : decode cX7_documentLength 23 = .ok (.getfield 41, 3) := dg dtX7_documentLength_0_ok 14 rfl
theorem dX7_documentLength_26 : decode cX7_documentLength 26 = .ok (.invokevirtual 259, 3) := dg dtX7_documentLength_0_ok 15 rfl
theorem dX7_documentLength_29 : decode cX7_documentLength 29 = .ok (.ireturn, 1) := dg dtX7_documentLength_0_ok 16 rfl
def dtX7_documentAt_0 : List (Nat × Instr × Nat) := [(0, .aload_n 0, 1), (1, .getfield 10, 3), (4, .iload_n 1, 1), (5, .invokevirtual 191, 3), (8, .astore_n 3, 1), (9, .aload_n 3, 1), (10, .ifnonnull 6, 3), (13, .ldc 65, 2), (15, .ireturn, 1), (16, .iload_n 2, 1), (17, .ifCond .ge 6, 3), (20, .ldc 71, 2), (22, .ireturn, 1), (23, .aload_n 0, 1), (24, .iload_n 1, 1), (25, .aload_n 3, 1), (26, .invokevirtual 255, 3), (29, .iload_n 2, 1), (30, .aload_n 0, 1), (31, .getfield 41, 3), (34, .invokevirtual 259, 3), (37, .if_icmp .ge 14, 3), (40, .aload_n 0, 1), (41, .getfield 41, 3), (44, .iload_n 2, 1), (45, .invokevirtual 261, 3), (48, .goto 5, 3), (51, .ldc 171, 2), (53, .ireturn, 1)]
theorem dtX7_documentAt_0_ok : ∀ q ∈ dtX7_documentAt_0, decode cX7_documentAt q.1 = .ok q.2 := by decide +kernel
theorem dX7_documentAt_0 : decode cX7_documentAt 0 = .ok (.aload_n 0, 1) := dg dtX7_documentAt_0_ok 0 rfl
theorem dX7_documentAt_1 : decode cX7_documentAt 1 = .ok (.getfield 10, 3) := dg dtX7_documentAt_0_ok 1 rfl
theorem dX7_documentAt_4 : decode cX7_documentAt 4 = .ok (.iload_n 1, 1) := dg dtX7_documentAt_0_ok 2 rfl
theorem dX7_documentAt_5 : decode cX7_documentAt 5 = .ok (.invokevirtual 191, 3) := dg dtX7_documentAt_0_ok 3 rfl
theorem dX7_documentAt_8 : decode cX7_documentAt 8 = .ok (.astore_n 3, 1) := dg dtX7_documentAt_0_ok 4 rfl
theorem dX7_documentAt_9 : decode cX7_documentAt 9 = .ok (.aload_n 3, 1) := dg dtX7_documentAt_0_ok 5 rfl
theorem dX7_documentAt_10 : decode cX7_documentAt 10 = .ok (.ifnonnull 6, 3) := dg dtX7_documentAt_0_ok 6 rfl
theorem dX7_documentAt_13 : decode cX7_documentAt 13 = .ok (.ldc 65, 2) := dg dtX7_documentAt_0_ok 7 rfl
theorem dX7_documentAt_15 : decode cX7_documentAt 15 = .ok (.ireturn, 1) := dg dtX7_documentAt_0_ok 8 rfl
theorem dX7_documentAt_16 : decode cX7_documentAt 16 = .ok (.iload_n 2, 1) := dg dtX7_documentAt_0_ok 9 rfl
theorem dX7_documentAt_17 : decode cX7_documentAt 17 = .ok (.ifCond .ge 6, 3) := dg dtX7_documentAt_0_ok 10 rfl
theorem dX7_documentAt_20 : decode cX7_documentAt 20 = .ok (.ldc 71, 2) := dg dtX7_documentAt_0_ok 11 rfl
theorem dX7_documentAt_22 : decode cX7_documentAt 22 = .ok (.ireturn, 1) := dg dtX7_documentAt_0_ok 12 rfl
theorem dX7_documentAt_23 : decode cX7_documentAt 23 = .ok (.aload_n 0, 1) := dg dtX7_documentAt_0_ok 13 rfl
theorem dX7_documentAt_24 : decode cX7_documentAt 24 = .ok (.iload_n 1, 1) := dg dtX7_documentAt_0_ok 14 rfl
theorem dX7_documentAt_25 : decode cX7_documentAt 25 = .ok (.aload_n 3, 1) := dg dtX7_documentAt_0_ok 15 rfl
theorem dX7_documentAt_26 : decode cX7_documentAt 26 = .ok (.invokevirtual 255, 3) := dg dtX7_documentAt_0_ok 16 rfl
theorem dX7_documentAt_29 : decode cX7_documentAt 29 = .ok (.iload_n 2, 1) := dg dtX7_documentAt_0_ok 17 rfl
theorem dX7_documentAt_30 : decode cX7_documentAt 30 = .ok (.aload_n 0, 1) := dg dtX7_documentAt_0_ok 18 rfl
theorem dX7_documentAt_31 : decode cX7_documentAt 31 = .ok (.getfield 41, 3) := dg dtX7_documentAt_0_ok 19 rfl
theorem dX7_documentAt_34 : decode cX7_documentAt 34 = .ok (.invokevirtual 259, 3) := dg dtX7_documentAt_0_ok 20 rfl
theorem dX7_documentAt_37 : decode cX7_documentAt 37 = .ok (.if_icmp .ge 14, 3) := dg dtX7_documentAt_0_ok 21 rfl
theorem dX7_documentAt_40 : decode cX7_documentAt 40 = .ok (.aload_n 0, 1) := dg dtX7_documentAt_0_ok 22 rfl
theorem dX7_documentAt_41 : decode cX7_documentAt 41 = .ok (.getfield 41, 3) := dg dtX7_documentAt_0_ok 23 rfl
theorem dX7_documentAt_44 : decode cX7_documentAt 44 = .ok (.iload_n 2, 1) := dg dtX7_documentAt_0_ok 24 rfl
theorem dX7_documentAt_45 : decode cX7_documentAt 45 = .ok (.invokevirtual 261, 3) := dg dtX7_documentAt_0_ok 25 rfl
theorem dX7_documentAt_48 : decode cX7_documentAt 48 = .ok (.goto 5, 3) := dg dtX7_documentAt_0_ok 26 rfl
theorem dX7_documentAt_51 : decode cX7_documentAt 51 = .ok (.ldc 171, 2) := dg dtX7_documentAt_0_ok 27 rfl
theorem dX7_documentAt_53 : decode cX7_documentAt 53 = .ok (.ireturn, 1) := dg dtX7_documentAt_0_ok 28 rfl
def dtX7_nextDeadline_0 : List (Nat × Instr × Nat) := [(0, .ldc 171, 2), (2, .istore_n 1, 1), (3, .aload_n 0, 1), (4, .getfield 10, 3), (7, .getfield 265, 3), (10, .sipush 1000, 3), (13, .iadd, 1), (14, .iconst 1, 1), (15, .iadd, 1), (16, .istore_n 2, 1), (17, .iconst 0, 1), (18, .istore_n 3, 1), (19, .iload_n 3, 1), (20, .aload_n 0, 1), (21, .getfield 10, 3), (24, .getfield 175, 3), (27, .if_icmp .ge 40, 3), (30, .aload_n 0, 1), (31, .getfield 10, 3), (34, .getfield 268, 3), (37, .iload_n 3, 1), (38, .aaload, 1), (39, .iload_n 2, 1), (40, .invokevirtual 272, 3), (43, .ifCond .eq 18, 3), (46, .aload_n 0, 1), (47, .getfield 10, 3), (50, .getfield 268, 3), (53, .iload_n 3, 1), (54, .aaload, 1), (55, .getfield 212, 3), (58, .istore_n 2, 1), (59, .iload_n 3, 1), (60, .istore_n 1, 1), (61, .iinc 3 1, 3), (64, .goto (-45), 3), (67, .iconst 0, 1), (68, .istore_n 3, 1), (69, .iload_n 3, 1), (70, .aload_n 0, 1), (71, .getfield 10, 3), (74, .getfield 276, 3), (77, .if_icmp .ge 43, 3), (80, .aload_n 0, 1), (81, .getfield 10, 3), (84, .getfield 279, 3), (87, .iload_n 3, 1), (88, .aaload, 1)]
theorem dtX7_nextDeadline_0_ok : ∀ q ∈ dtX7_nextDeadline_0, decode cX7_nextDeadline q.1 = .ok q.2 := by decide +kernel
theorem dX7_nextDeadline_0 : decode cX7_nextDeadline 0 = .ok (.ldc 171, 2) := dg dtX7_nextDeadline_0_ok 0 rfl
theorem dX7_nextDeadline_2 : decode cX7_nextDeadline 2 = .ok (.istore_n 1, 1) := dg dtX7_nextDeadline_0_ok 1 rfl
theorem dX7_nextDeadline_3 : decode cX7_nextDeadline 3 = .ok (.aload_n 0, 1) := dg dtX7_nextDeadline_0_ok 2 rfl
theorem dX7_nextDeadline_4 : decode cX7_nextDeadline 4 = .ok (.getfield 10, 3) := dg dtX7_nextDeadline_0_ok 3 rfl
theorem dX7_nextDeadline_7 : decode cX7_nextDeadline 7 = .ok (.getfield 265, 3) := dg dtX7_nextDeadline_0_ok 4 rfl
theorem dX7_nextDeadline_10 : decode cX7_nextDeadline 10 = .ok (.sipush 1000, 3) := dg dtX7_nextDeadline_0_ok 5 rfl
theorem dX7_nextDeadline_13 : decode cX7_nextDeadline 13 = .ok (.iadd, 1) := dg dtX7_nextDeadline_0_ok 6 rfl
theorem dX7_nextDeadline_14 : decode cX7_nextDeadline 14 = .ok (.iconst 1, 1) := dg dtX7_nextDeadline_0_ok 7 rfl
theorem dX7_nextDeadline_15 : decode cX7_nextDeadline 15 = .ok (.iadd, 1) := dg dtX7_nextDeadline_0_ok 8 rfl
theorem dX7_nextDeadline_16 : decode cX7_nextDeadline 16 = .ok (.istore_n 2, 1) := dg dtX7_nextDeadline_0_ok 9 rfl
theorem dX7_nextDeadline_17 : decode cX7_nextDeadline 17 = .ok (.iconst 0, 1) := dg dtX7_nextDeadline_0_ok 10 rfl
theorem dX7_nextDeadline_18 : decode cX7_nextDeadline 18 = .ok (.istore_n 3, 1) := dg dtX7_nextDeadline_0_ok 11 rfl
theorem dX7_nextDeadline_19 : decode cX7_nextDeadline 19 = .ok (.iload_n 3, 1) := dg dtX7_nextDeadline_0_ok 12 rfl
theorem dX7_nextDeadline_20 : decode cX7_nextDeadline 20 = .ok (.aload_n 0, 1) := dg dtX7_nextDeadline_0_ok 13 rfl
theorem dX7_nextDeadline_21 : decode cX7_nextDeadline 21 = .ok (.getfield 10, 3) := dg dtX7_nextDeadline_0_ok 14 rfl
theorem dX7_nextDeadline_24 : decode cX7_nextDeadline 24 = .ok (.getfield 175, 3) := dg dtX7_nextDeadline_0_ok 15 rfl
theorem dX7_nextDeadline_27 : decode cX7_nextDeadline 27 = .ok (.if_icmp .ge 40, 3) := dg dtX7_nextDeadline_0_ok 16 rfl
theorem dX7_nextDeadline_30 : decode cX7_nextDeadline 30 = .ok (.aload_n 0, 1) := dg dtX7_nextDeadline_0_ok 17 rfl
theorem dX7_nextDeadline_31 : decode cX7_nextDeadline 31 = .ok (.getfield 10, 3) := dg dtX7_nextDeadline_0_ok 18 rfl
theorem dX7_nextDeadline_34 : decode cX7_nextDeadline 34 = .ok (.getfield 268, 3) := dg dtX7_nextDeadline_0_ok 19 rfl
theorem dX7_nextDeadline_37 : decode cX7_nextDeadline 37 = .ok (.iload_n 3, 1) := dg dtX7_nextDeadline_0_ok 20 rfl
theorem dX7_nextDeadline_38 : decode cX7_nextDeadline 38 = .ok (.aaload, 1) := dg dtX7_nextDeadline_0_ok 21 rfl
theorem dX7_nextDeadline_39 : decode cX7_nextDeadline 39 = .ok (.iload_n 2, 1) := dg dtX7_nextDeadline_0_ok 22 rfl
theorem dX7_nextDeadline_40 : decode cX7_nextDeadline 40 = .ok (.invokevirtual 272, 3) := dg dtX7_nextDeadline_0_ok 23 rfl
theorem dX7_nextDeadline_43 : decode cX7_nextDeadline 43 = .ok (.ifCond .eq 18, 3) := dg dtX7_nextDeadline_0_ok 24 rfl
theorem dX7_nextDeadline_46 : decode cX7_nextDeadline 46 = .ok (.aload_n 0, 1) := dg dtX7_nextDeadline_0_ok 25 rfl
theorem dX7_nextDeadline_47 : decode cX7_nextDeadline 47 = .ok (.getfield 10, 3) := dg dtX7_nextDeadline_0_ok 26 rfl
theorem dX7_nextDeadline_50 : decode cX7_nextDeadline 50 = .ok (.getfield 268, 3) := dg dtX7_nextDeadline_0_ok 27 rfl
theorem dX7_nextDeadline_53 : decode cX7_nextDeadline 53 = .ok (.iload_n 3, 1) := dg dtX7_nextDeadline_0_ok 28 rfl
theorem dX7_nextDeadline_54 : decode cX7_nextDeadline 54 = .ok (.aaload, 1) := dg dtX7_nextDeadline_0_ok 29 rfl
theorem dX7_nextDeadline_55 : decode cX7_nextDeadline 55 = .ok (.getfield 212, 3) := dg dtX7_nextDeadline_0_ok 30 rfl
theorem dX7_nextDeadline_58 : decode cX7_nextDeadline 58 = .ok (.istore_n 2, 1) := dg dtX7_nextDeadline_0_ok 31 rfl
theorem dX7_nextDeadline_59 : decode cX7_nextDeadline 59 = .ok (.iload_n 3, 1) := dg dtX7_nextDeadline_0_ok 32 rfl
theorem dX7_nextDeadline_60 : decode cX7_nextDeadline 60 = .ok (.istore_n 1, 1) := dg dtX7_nextDeadline_0_ok 33 rfl
theorem dX7_nextDeadline_61 : decode cX7_nextDeadline 61 = .ok (.iinc 3 1, 3) := dg dtX7_nextDeadline_0_ok 34 rfl
theorem dX7_nextDeadline_64 : decode cX7_nextDeadline 64 = .ok (.goto (-45), 3) := dg dtX7_nextDeadline_0_ok 35 rfl
theorem dX7_nextDeadline_67 : decode cX7_nextDeadline 67 = .ok (.iconst 0, 1) := dg dtX7_nextDeadline_0_ok 36 rfl
theorem dX7_nextDeadline_68 : decode cX7_nextDeadline 68 = .ok (.istore_n 3, 1) := dg dtX7_nextDeadline_0_ok 37 rfl
theorem dX7_nextDeadline_69 : decode cX7_nextDeadline 69 = .ok (.iload_n 3, 1) := dg dtX7_nextDeadline_0_ok 38 rfl
theorem dX7_nextDeadline_70 : decode cX7_nextDeadline 70 = .ok (.aload_n 0, 1) := dg dtX7_nextDeadline_0_ok 39 rfl
theorem dX7_nextDeadline_71 : decode cX7_nextDeadline 71 = .ok (.getfield 10, 3) := dg dtX7_nextDeadline_0_ok 40 rfl
theorem dX7_nextDeadline_74 : decode cX7_nextDeadline 74 = .ok (.getfield 276, 3) := dg dtX7_nextDeadline_0_ok 41 rfl
theorem dX7_nextDeadline_77 : decode cX7_nextDeadline 77 = .ok (.if_icmp .ge 43, 3) := dg dtX7_nextDeadline_0_ok 42 rfl
theorem dX7_nextDeadline_80 : decode cX7_nextDeadline 80 = .ok (.aload_n 0, 1) := dg dtX7_nextDeadline_0_ok 43 rfl
theorem dX7_nextDeadline_81 : decode cX7_nextDeadline 81 = .ok (.getfield 10, 3) := dg dtX7_nextDeadline_0_ok 44 rfl
theorem dX7_nextDeadline_84 : decode cX7_nextDeadline 84 = .ok (.getfield 279, 3) := dg dtX7_nextDeadline_0_ok 45 rfl
theorem dX7_nextDeadline_87 : decode cX7_nextDeadline 87 = .ok (.iload_n 3, 1) := dg dtX7_nextDeadline_0_ok 46 rfl
theorem dX7_nextDeadline_88 : decode cX7_nextDeadline 88 = .ok (.aaload, 1) := dg dtX7_nextDeadline_0_ok 47 rfl
def dtX7_nextDeadline_1 : List (Nat × Instr × Nat) := [(89, .iload_n 2, 1), (90, .invokevirtual 283, 3), (93, .ifCond .eq 21, 3), (96, .aload_n 0, 1), (97, .getfield 10, 3), (100, .getfield 279, 3), (103, .iload_n 3, 1), (104, .aaload, 1), (105, .getfield 251, 3), (108, .istore_n 2, 1), (109, .bipush 100, 2), (111, .iload_n 3, 1), (112, .iadd, 1), (113, .istore_n 1, 1), (114, .iinc 3 1, 3), (117, .goto (-48), 3), (120, .iload_n 1, 1), (121, .ireturn, 1)]
theorem dtX7_nextDeadline_1_ok : ∀ q ∈ dtX7_nextDeadline_1, decode cX7_nextDeadline q.1 = .ok q.2 := by decide +kernel
theorem dX7_nextDeadline_89 : decode cX7_nextDeadline 89 = .ok (.iload_n 2, 1) := dg dtX7_nextDeadline_1_ok 0 rfl
theorem dX7_nextDeadline_90 : decode cX7_nextDeadline 90 = .ok (.invokevirtual 283, 3) := dg dtX7_nextDeadline_1_ok 1 rfl
theorem dX7_nextDeadline_93 : decode cX7_nextDeadline 93 = .ok (.ifCond .eq 21, 3) := dg dtX7_nextDeadline_1_ok 2 rfl
theorem dX7_nextDeadline_96 : decode cX7_nextDeadline 96 = .ok (.aload_n 0, 1) := dg dtX7_nextDeadline_1_ok 3 rfl
theorem dX7_nextDeadline_97 : decode cX7_nextDeadline 97 = .ok (.getfield 10, 3) := dg dtX7_nextDeadline_1_ok 4 rfl
theorem dX7_nextDeadline_100 : decode cX7_nextDeadline 100 = .ok (.getfield 279, 3) := dg dtX7_nextDeadline_1_ok 5 rfl
theorem dX7_nextDeadline_103 : decode cX7_nextDeadline 103 = .ok (.iload_n 3, 1) := dg dtX7_nextDeadline_1_ok 6 rfl
theorem dX7_nextDeadline_104 : decode cX7_nextDeadline 104 = .ok (.aaload, 1) := dg dtX7_nextDeadline_1_ok 7 rfl
theorem dX7_nextDeadline_105 : decode cX7_nextDeadline 105 = .ok (.getfield 251, 3) := dg dtX7_nextDeadline_1_ok 8 rfl
theorem dX7_nextDeadline_108 : decode cX7_nextDeadline 108 = .ok (.istore_n 2, 1) := dg dtX7_nextDeadline_1_ok 9 rfl
theorem dX7_nextDeadline_109 : decode cX7_nextDeadline 109 = .ok (.bipush 100, 2) := dg dtX7_nextDeadline_1_ok 10 rfl
theorem dX7_nextDeadline_111 : decode cX7_nextDeadline 111 = .ok (.iload_n 3, 1) := dg dtX7_nextDeadline_1_ok 11 rfl
theorem dX7_nextDeadline_112 : decode cX7_nextDeadline 112 = .ok (.iadd, 1) := dg dtX7_nextDeadline_1_ok 12 rfl
theorem dX7_nextDeadline_113 : decode cX7_nextDeadline 113 = .ok (.istore_n 1, 1) := dg dtX7_nextDeadline_1_ok 13 rfl
theorem dX7_nextDeadline_114 : decode cX7_nextDeadline 114 = .ok (.iinc 3 1, 3) := dg dtX7_nextDeadline_1_ok 14 rfl
theorem dX7_nextDeadline_117 : decode cX7_nextDeadline 117 = .ok (.goto (-48), 3) := dg dtX7_nextDeadline_1_ok 15 rfl
theorem dX7_nextDeadline_120 : decode cX7_nextDeadline 120 = .ok (.iload_n 1, 1) := dg dtX7_nextDeadline_1_ok 16 rfl
theorem dX7_nextDeadline_121 : decode cX7_nextDeadline 121 = .ok (.ireturn, 1) := dg dtX7_nextDeadline_1_ok 17 rfl
def dtX7_calledIn_0 : List (Nat × Instr × Nat) := [(0, .iload_n 1, 1), (1, .iconst 1, 1), (2, .bipush 100, 2), (4, .invokestatic 67, 3), (7, .ifCond .eq 6, 3), (10, .ldc 71, 2), (12, .ireturn, 1), (13, .aload_n 0, 1), (14, .getfield 10, 3), (17, .aload_n 0, 1), (18, .getfield 10, 3), (21, .getfield 265, 3), (24, .iload_n 1, 1), (25, .iadd, 1), (26, .invokevirtual 284, 3), (29, .ireturn, 1)]
theorem dtX7_calledIn_0_ok : ∀ q ∈ dtX7_calledIn_0, decode cX7_calledIn q.1 = .ok q.2 := by decide +kernel
theorem dX7_calledIn_0 : decode cX7_calledIn 0 = .ok (.iload_n 1, 1) := dg dtX7_calledIn_0_ok 0 rfl
theorem dX7_calledIn_1 : decode cX7_calledIn 1 = .ok (.iconst 1, 1) := dg dtX7_calledIn_0_ok 1 rfl
theorem dX7_calledIn_2 : decode cX7_calledIn 2 = .ok (.bipush 100, 2) := dg dtX7_calledIn_0_ok 2 rfl
theorem dX7_calledIn_4 : decode cX7_calledIn 4 = .ok (.invokestatic 67, 3) := dg dtX7_calledIn_0_ok 3 rfl
theorem dX7_calledIn_7 : decode cX7_calledIn 7 = .ok (.ifCond .eq 6, 3) := dg dtX7_calledIn_0_ok 4 rfl
theorem dX7_calledIn_10 : decode cX7_calledIn 10 = .ok (.ldc 71, 2) := dg dtX7_calledIn_0_ok 5 rfl
theorem dX7_calledIn_12 : decode cX7_calledIn 12 = .ok (.ireturn, 1) := dg dtX7_calledIn_0_ok 6 rfl
theorem dX7_calledIn_13 : decode cX7_calledIn 13 = .ok (.aload_n 0, 1) := dg dtX7_calledIn_0_ok 7 rfl
theorem dX7_calledIn_14 : decode cX7_calledIn 14 = .ok (.getfield 10, 3) := dg dtX7_calledIn_0_ok 8 rfl
theorem dX7_calledIn_17 : decode cX7_calledIn 17 = .ok (.aload_n 0, 1) := dg dtX7_calledIn_0_ok 9 rfl
theorem dX7_calledIn_18 : decode cX7_calledIn 18 = .ok (.getfield 10, 3) := dg dtX7_calledIn_0_ok 10 rfl
theorem dX7_calledIn_21 : decode cX7_calledIn 21 = .ok (.getfield 265, 3) := dg dtX7_calledIn_0_ok 11 rfl
theorem dX7_calledIn_24 : decode cX7_calledIn 24 = .ok (.iload_n 1, 1) := dg dtX7_calledIn_0_ok 12 rfl
theorem dX7_calledIn_25 : decode cX7_calledIn 25 = .ok (.iadd, 1) := dg dtX7_calledIn_0_ok 13 rfl
theorem dX7_calledIn_26 : decode cX7_calledIn 26 = .ok (.invokevirtual 284, 3) := dg dtX7_calledIn_0_ok 14 rfl
theorem dX7_calledIn_29 : decode cX7_calledIn 29 = .ok (.ireturn, 1) := dg dtX7_calledIn_0_ok 15 rfl
def dtX7_greatestValue_0 : List (Nat × Instr × Nat) := [(0, .aload_n 0, 1), (1, .getfield 10, 3), (4, .iload_n 1, 1), (5, .invokevirtual 61, 3), (8, .astore_n 3, 1), (9, .aload_n 3, 1), (10, .ifnull 12, 3), (13, .iload_n 2, 1), (14, .iconst 0, 1), (15, .iconst 5, 1), (16, .invokestatic 67, 3), (19, .ifCond .eq 6, 3), (22, .ldc 65, 2), (24, .ireturn, 1), (25, .aload_n 0, 1), (26, .getfield 10, 3), (29, .iload_n 1, 1), (30, .invokevirtual 90, 3), (33, .istore 4, 2), (35, .aload_n 0, 1), (36, .getfield 10, 3), (39, .getfield 86, 3), (42, .aload_n 3, 1), (43, .getfield 102, 3), (46, .iload 4, 2), (48, .invokevirtual 93, 3), (51, .ifCond .ne 6, 3), (54, .ldc 171, 2), (56, .ireturn, 1), (57, .iconst 0, 1), (58, .istore 5, 2), (60, .ldc_w 287, 3), (63, .istore 6, 2), (65, .iload 6, 2), (67, .ifCond .le 63, 3), (70, .iload 5, 2), (72, .iload 6, 2), (74, .iadd, 1), (75, .istore 7, 2), (77, .iload 7, 2), (79, .ldc 66, 2), (81, .if_icmp .gt 40, 3), (84, .aload_n 0, 1), (85, .getfield 10, 3), (88, .getfield 86, 3), (91, .aload_n 3, 1), (92, .getfield 102, 3), (95, .iload 4, 2)]
theorem dtX7_greatestValue_0_ok : ∀ q ∈ dtX7_greatestValue_0, decode cX7_greatestValue q.1 = .ok q.2 := by decide +kernel
theorem dX7_greatestValue_0 : decode cX7_greatestValue 0 = .ok (.aload_n 0, 1) := dg dtX7_greatestValue_0_ok 0 rfl
theorem dX7_greatestValue_1 : decode cX7_greatestValue 1 = .ok (.getfield 10, 3) := dg dtX7_greatestValue_0_ok 1 rfl
theorem dX7_greatestValue_4 : decode cX7_greatestValue 4 = .ok (.iload_n 1, 1) := dg dtX7_greatestValue_0_ok 2 rfl
theorem dX7_greatestValue_5 : decode cX7_greatestValue 5 = .ok (.invokevirtual 61, 3) := dg dtX7_greatestValue_0_ok 3 rfl
theorem dX7_greatestValue_8 : decode cX7_greatestValue 8 = .ok (.astore_n 3, 1) := dg dtX7_greatestValue_0_ok 4 rfl
theorem dX7_greatestValue_9 : decode cX7_greatestValue 9 = .ok (.aload_n 3, 1) := dg dtX7_greatestValue_0_ok 5 rfl
theorem dX7_greatestValue_10 : decode cX7_greatestValue 10 = .ok (.ifnull 12, 3) := dg dtX7_greatestValue_0_ok 6 rfl
theorem dX7_greatestValue_13 : decode cX7_greatestValue 13 = .ok (.iload_n 2, 1) := dg dtX7_greatestValue_0_ok 7 rfl
theorem dX7_greatestValue_14 : decode cX7_greatestValue 14 = .ok (.iconst 0, 1) := dg dtX7_greatestValue_0_ok 8 rfl
theorem dX7_greatestValue_15 : decode cX7_greatestValue 15 = .ok (.iconst 5, 1) := dg dtX7_greatestValue_0_ok 9 rfl
theorem dX7_greatestValue_16 : decode cX7_greatestValue 16 = .ok (.invokestatic 67, 3) := dg dtX7_greatestValue_0_ok 10 rfl
theorem dX7_greatestValue_19 : decode cX7_greatestValue 19 = .ok (.ifCond .eq 6, 3) := dg dtX7_greatestValue_0_ok 11 rfl
theorem dX7_greatestValue_22 : decode cX7_greatestValue 22 = .ok (.ldc 65, 2) := dg dtX7_greatestValue_0_ok 12 rfl
theorem dX7_greatestValue_24 : decode cX7_greatestValue 24 = .ok (.ireturn, 1) := dg dtX7_greatestValue_0_ok 13 rfl
theorem dX7_greatestValue_25 : decode cX7_greatestValue 25 = .ok (.aload_n 0, 1) := dg dtX7_greatestValue_0_ok 14 rfl
theorem dX7_greatestValue_26 : decode cX7_greatestValue 26 = .ok (.getfield 10, 3) := dg dtX7_greatestValue_0_ok 15 rfl
theorem dX7_greatestValue_29 : decode cX7_greatestValue 29 = .ok (.iload_n 1, 1) := dg dtX7_greatestValue_0_ok 16 rfl
theorem dX7_greatestValue_30 : decode cX7_greatestValue 30 = .ok (.invokevirtual 90, 3) := dg dtX7_greatestValue_0_ok 17 rfl
theorem dX7_greatestValue_33 : decode cX7_greatestValue 33 = .ok (.istore 4, 2) := dg dtX7_greatestValue_0_ok 18 rfl
theorem dX7_greatestValue_35 : decode cX7_greatestValue 35 = .ok (.aload_n 0, 1) := dg dtX7_greatestValue_0_ok 19 rfl
theorem dX7_greatestValue_36 : decode cX7_greatestValue 36 = .ok (.getfield 10, 3) := dg dtX7_greatestValue_0_ok 20 rfl
theorem dX7_greatestValue_39 : decode cX7_greatestValue 39 = .ok (.getfield 86, 3) := dg dtX7_greatestValue_0_ok 21 rfl
theorem dX7_greatestValue_42 : decode cX7_greatestValue 42 = .ok (.aload_n 3, 1) := dg dtX7_greatestValue_0_ok 22 rfl
theorem dX7_greatestValue_43 : decode cX7_greatestValue 43 = .ok (.getfield 102, 3) := dg dtX7_greatestValue_0_ok 23 rfl
theorem dX7_greatestValue_46 : decode cX7_greatestValue 46 = .ok (.iload 4, 2) := dg dtX7_greatestValue_0_ok 24 rfl
theorem dX7_greatestValue_48 : decode cX7_greatestValue 48 = .ok (.invokevirtual 93, 3) := dg dtX7_greatestValue_0_ok 25 rfl
theorem dX7_greatestValue_51 : decode cX7_greatestValue 51 = .ok (.ifCond .ne 6, 3) := dg dtX7_greatestValue_0_ok 26 rfl
theorem dX7_greatestValue_54 : decode cX7_greatestValue 54 = .ok (.ldc 171, 2) := dg dtX7_greatestValue_0_ok 27 rfl
theorem dX7_greatestValue_56 : decode cX7_greatestValue 56 = .ok (.ireturn, 1) := dg dtX7_greatestValue_0_ok 28 rfl
theorem dX7_greatestValue_57 : decode cX7_greatestValue 57 = .ok (.iconst 0, 1) := dg dtX7_greatestValue_0_ok 29 rfl
theorem dX7_greatestValue_58 : decode cX7_greatestValue 58 = .ok (.istore 5, 2) := dg dtX7_greatestValue_0_ok 30 rfl
theorem dX7_greatestValue_60 : decode cX7_greatestValue 60 = .ok (.ldc_w 287, 3) := dg dtX7_greatestValue_0_ok 31 rfl
theorem dX7_greatestValue_63 : decode cX7_greatestValue 63 = .ok (.istore 6, 2) := dg dtX7_greatestValue_0_ok 32 rfl
theorem dX7_greatestValue_65 : decode cX7_greatestValue 65 = .ok (.iload 6, 2) := dg dtX7_greatestValue_0_ok 33 rfl
theorem dX7_greatestValue_67 : decode cX7_greatestValue 67 = .ok (.ifCond .le 63, 3) := dg dtX7_greatestValue_0_ok 34 rfl
theorem dX7_greatestValue_70 : decode cX7_greatestValue 70 = .ok (.iload 5, 2) := dg dtX7_greatestValue_0_ok 35 rfl
theorem dX7_greatestValue_72 : decode cX7_greatestValue 72 = .ok (.iload 6, 2) := dg dtX7_greatestValue_0_ok 36 rfl
theorem dX7_greatestValue_74 : decode cX7_greatestValue 74 = .ok (.iadd, 1) := dg dtX7_greatestValue_0_ok 37 rfl
theorem dX7_greatestValue_75 : decode cX7_greatestValue 75 = .ok (.istore 7, 2) := dg dtX7_greatestValue_0_ok 38 rfl
theorem dX7_greatestValue_77 : decode cX7_greatestValue 77 = .ok (.iload 7, 2) := dg dtX7_greatestValue_0_ok 39 rfl
theorem dX7_greatestValue_79 : decode cX7_greatestValue 79 = .ok (.ldc 66, 2) := dg dtX7_greatestValue_0_ok 40 rfl
theorem dX7_greatestValue_81 : decode cX7_greatestValue 81 = .ok (.if_icmp .gt 40, 3) := dg dtX7_greatestValue_0_ok 41 rfl
theorem dX7_greatestValue_84 : decode cX7_greatestValue 84 = .ok (.aload_n 0, 1) := dg dtX7_greatestValue_0_ok 42 rfl
theorem dX7_greatestValue_85 : decode cX7_greatestValue 85 = .ok (.getfield 10, 3) := dg dtX7_greatestValue_0_ok 43 rfl
theorem dX7_greatestValue_88 : decode cX7_greatestValue 88 = .ok (.getfield 86, 3) := dg dtX7_greatestValue_0_ok 44 rfl
theorem dX7_greatestValue_91 : decode cX7_greatestValue 91 = .ok (.aload_n 3, 1) := dg dtX7_greatestValue_0_ok 45 rfl
theorem dX7_greatestValue_92 : decode cX7_greatestValue 92 = .ok (.getfield 102, 3) := dg dtX7_greatestValue_0_ok 46 rfl
theorem dX7_greatestValue_95 : decode cX7_greatestValue 95 = .ok (.iload 4, 2) := dg dtX7_greatestValue_0_ok 47 rfl
def dtX7_greatestValue_1 : List (Nat × Instr × Nat) := [(97, .aload_n 0, 1), (98, .getfield 10, 3), (101, .getfield 86, 3), (104, .iload_n 2, 1), (105, .iload 7, 2), (107, .invokevirtual 288, 3), (110, .iadd, 1), (111, .invokevirtual 93, 3), (114, .ifCond .eq 7, 3), (117, .iload 7, 2), (119, .istore 5, 2), (121, .iload 6, 2), (123, .iconst 1, 1), (124, .ishr, 1), (125, .istore 6, 2), (127, .goto (-62), 3), (130, .iload 5, 2), (132, .ireturn, 1)]
theorem dtX7_greatestValue_1_ok : ∀ q ∈ dtX7_greatestValue_1, decode cX7_greatestValue q.1 = .ok q.2 := by decide +kernel
theorem dX7_greatestValue_97 : decode cX7_greatestValue 97 = .ok (.aload_n 0, 1) := dg dtX7_greatestValue_1_ok 0 rfl
theorem dX7_greatestValue_98 : decode cX7_greatestValue 98 = .ok (.getfield 10, 3) := dg dtX7_greatestValue_1_ok 1 rfl
theorem dX7_greatestValue_101 : decode cX7_greatestValue 101 = .ok (.getfield 86, 3) := dg dtX7_greatestValue_1_ok 2 rfl
theorem dX7_greatestValue_104 : decode cX7_greatestValue 104 = .ok (.iload_n 2, 1) := dg dtX7_greatestValue_1_ok 3 rfl
theorem dX7_greatestValue_105 : decode cX7_greatestValue 105 = .ok (.iload 7, 2) := dg dtX7_greatestValue_1_ok 4 rfl
theorem dX7_greatestValue_107 : decode cX7_greatestValue 107 = .ok (.invokevirtual 288, 3) := dg dtX7_greatestValue_1_ok 5 rfl
theorem dX7_greatestValue_110 : decode cX7_greatestValue 110 = .ok (.iadd, 1) := dg dtX7_greatestValue_1_ok 6 rfl
theorem dX7_greatestValue_111 : decode cX7_greatestValue 111 = .ok (.invokevirtual 93, 3) := dg dtX7_greatestValue_1_ok 7 rfl
theorem dX7_greatestValue_114 : decode cX7_greatestValue 114 = .ok (.ifCond .eq 7, 3) := dg dtX7_greatestValue_1_ok 8 rfl
theorem dX7_greatestValue_117 : decode cX7_greatestValue 117 = .ok (.iload 7, 2) := dg dtX7_greatestValue_1_ok 9 rfl
theorem dX7_greatestValue_119 : decode cX7_greatestValue 119 = .ok (.istore 5, 2) := dg dtX7_greatestValue_1_ok 10 rfl
theorem dX7_greatestValue_121 : decode cX7_greatestValue 121 = .ok (.iload 6, 2) := dg dtX7_greatestValue_1_ok 11 rfl
theorem dX7_greatestValue_123 : decode cX7_greatestValue 123 = .ok (.iconst 1, 1) := dg dtX7_greatestValue_1_ok 12 rfl
theorem dX7_greatestValue_124 : decode cX7_greatestValue 124 = .ok (.ishr, 1) := dg dtX7_greatestValue_1_ok 13 rfl
theorem dX7_greatestValue_125 : decode cX7_greatestValue 125 = .ok (.istore 6, 2) := dg dtX7_greatestValue_1_ok 14 rfl
theorem dX7_greatestValue_127 : decode cX7_greatestValue 127 = .ok (.goto (-62), 3) := dg dtX7_greatestValue_1_ok 15 rfl
theorem dX7_greatestValue_130 : decode cX7_greatestValue 130 = .ok (.iload 5, 2) := dg dtX7_greatestValue_1_ok 16 rfl
theorem dX7_greatestValue_132 : decode cX7_greatestValue 132 = .ok (.ireturn, 1) := dg dtX7_greatestValue_1_ok 17 rfl
def dtX7_account_0 : List (Nat × Instr × Nat) := [(0, .iload_n 1, 1), (1, .tableswitch 108 0 6 #[43, 53, 63, 73, 83, 92, 100], 43), (44, .aload_n 0, 1), (45, .getfield 10, 3), (48, .iconst 0, 1), (49, .invokevirtual 291, 3), (52, .i2l, 1), (53, .lreturn, 1), (54, .aload_n 0, 1), (55, .getfield 10, 3), (58, .iconst 1, 1), (59, .invokevirtual 291, 3), (62, .i2l, 1), (63, .lreturn, 1), (64, .aload_n 0, 1), (65, .getfield 10, 3), (68, .iconst 2, 1), (69, .invokevirtual 291, 3), (72, .i2l, 1), (73, .lreturn, 1), (74, .aload_n 0, 1), (75, .getfield 10, 3), (78, .iconst 3, 1), (79, .invokevirtual 291, 3), (82, .i2l, 1), (83, .lreturn, 1), (84, .aload_n 0, 1), (85, .getfield 10, 3), (88, .invokevirtual 294, 3), (91, .i2l, 1), (92, .lreturn, 1), (93, .aload_n 0, 1), (94, .getfield 10, 3), (97, .getfield 297, 3), (100, .lreturn, 1), (101, .aload_n 0, 1), (102, .getfield 10, 3), (105, .getfield 78, 3), (108, .lreturn, 1), (109, .ldc2_w 189, 3), (112, .lreturn, 1)]
theorem dtX7_account_0_ok : ∀ q ∈ dtX7_account_0, decode cX7_account q.1 = .ok q.2 := by decide +kernel
theorem dX7_account_0 : decode cX7_account 0 = .ok (.iload_n 1, 1) := dg dtX7_account_0_ok 0 rfl
theorem dX7_account_1 : decode cX7_account 1 = .ok (.tableswitch 108 0 6 #[43, 53, 63, 73, 83, 92, 100], 43) := dg dtX7_account_0_ok 1 rfl
theorem dX7_account_44 : decode cX7_account 44 = .ok (.aload_n 0, 1) := dg dtX7_account_0_ok 2 rfl
theorem dX7_account_45 : decode cX7_account 45 = .ok (.getfield 10, 3) := dg dtX7_account_0_ok 3 rfl
theorem dX7_account_48 : decode cX7_account 48 = .ok (.iconst 0, 1) := dg dtX7_account_0_ok 4 rfl
theorem dX7_account_49 : decode cX7_account 49 = .ok (.invokevirtual 291, 3) := dg dtX7_account_0_ok 5 rfl
theorem dX7_account_52 : decode cX7_account 52 = .ok (.i2l, 1) := dg dtX7_account_0_ok 6 rfl
theorem dX7_account_53 : decode cX7_account 53 = .ok (.lreturn, 1) := dg dtX7_account_0_ok 7 rfl
theorem dX7_account_54 : decode cX7_account 54 = .ok (.aload_n 0, 1) := dg dtX7_account_0_ok 8 rfl
theorem dX7_account_55 : decode cX7_account 55 = .ok (.getfield 10, 3) := dg dtX7_account_0_ok 9 rfl
theorem dX7_account_58 : decode cX7_account 58 = .ok (.iconst 1, 1) := dg dtX7_account_0_ok 10 rfl
theorem dX7_account_59 : decode cX7_account 59 = .ok (.invokevirtual 291, 3) := dg dtX7_account_0_ok 11 rfl
theorem dX7_account_62 : decode cX7_account 62 = .ok (.i2l, 1) := dg dtX7_account_0_ok 12 rfl
theorem dX7_account_63 : decode cX7_account 63 = .ok (.lreturn, 1) := dg dtX7_account_0_ok 13 rfl
theorem dX7_account_64 : decode cX7_account 64 = .ok (.aload_n 0, 1) := dg dtX7_account_0_ok 14 rfl
theorem dX7_account_65 : decode cX7_account 65 = .ok (.getfield 10, 3) := dg dtX7_account_0_ok 15 rfl
theorem dX7_account_68 : decode cX7_account 68 = .ok (.iconst 2, 1) := dg dtX7_account_0_ok 16 rfl
theorem dX7_account_69 : decode cX7_account 69 = .ok (.invokevirtual 291, 3) := dg dtX7_account_0_ok 17 rfl
theorem dX7_account_72 : decode cX7_account 72 = .ok (.i2l, 1) := dg dtX7_account_0_ok 18 rfl
theorem dX7_account_73 : decode cX7_account 73 = .ok (.lreturn, 1) := dg dtX7_account_0_ok 19 rfl
theorem dX7_account_74 : decode cX7_account 74 = .ok (.aload_n 0, 1) := dg dtX7_account_0_ok 20 rfl
theorem dX7_account_75 : decode cX7_account 75 = .ok (.getfield 10, 3) := dg dtX7_account_0_ok 21 rfl
theorem dX7_account_78 : decode cX7_account 78 = .ok (.iconst 3, 1) := dg dtX7_account_0_ok 22 rfl
theorem dX7_account_79 : decode cX7_account 79 = .ok (.invokevirtual 291, 3) := dg dtX7_account_0_ok 23 rfl
theorem dX7_account_82 : decode cX7_account 82 = .ok (.i2l, 1) := dg dtX7_account_0_ok 24 rfl
theorem dX7_account_83 : decode cX7_account 83 = .ok (.lreturn, 1) := dg dtX7_account_0_ok 25 rfl
theorem dX7_account_84 : decode cX7_account 84 = .ok (.aload_n 0, 1) := dg dtX7_account_0_ok 26 rfl
theorem dX7_account_85 : decode cX7_account 85 = .ok (.getfield 10, 3) := dg dtX7_account_0_ok 27 rfl
theorem dX7_account_88 : decode cX7_account 88 = .ok (.invokevirtual 294, 3) := dg dtX7_account_0_ok 28 rfl
theorem dX7_account_91 : decode cX7_account 91 = .ok (.i2l, 1) := dg dtX7_account_0_ok 29 rfl
theorem dX7_account_92 : decode cX7_account 92 = .ok (.lreturn, 1) := dg dtX7_account_0_ok 30 rfl
theorem dX7_account_93 : decode cX7_account 93 = .ok (.aload_n 0, 1) := dg dtX7_account_0_ok 31 rfl
theorem dX7_account_94 : decode cX7_account 94 = .ok (.getfield 10, 3) := dg dtX7_account_0_ok 32 rfl
theorem dX7_account_97 : decode cX7_account 97 = .ok (.getfield 297, 3) := dg dtX7_account_0_ok 33 rfl
theorem dX7_account_100 : decode cX7_account 100 = .ok (.lreturn, 1) := dg dtX7_account_0_ok 34 rfl
theorem dX7_account_101 : decode cX7_account 101 = .ok (.aload_n 0, 1) := dg dtX7_account_0_ok 35 rfl
theorem dX7_account_102 : decode cX7_account 102 = .ok (.getfield 10, 3) := dg dtX7_account_0_ok 36 rfl
theorem dX7_account_105 : decode cX7_account 105 = .ok (.getfield 78, 3) := dg dtX7_account_0_ok 37 rfl
theorem dX7_account_108 : decode cX7_account 108 = .ok (.lreturn, 1) := dg dtX7_account_0_ok 38 rfl
theorem dX7_account_109 : decode cX7_account 109 = .ok (.ldc2_w 189, 3) := dg dtX7_account_0_ok 39 rfl
theorem dX7_account_112 : decode cX7_account 112 = .ok (.lreturn, 1) := dg dtX7_account_0_ok 40 rfl
def dtX7_count_0 : List (Nat × Instr × Nat) := [(0, .iload_n 1, 1), (1, .tableswitch 183 0 12 #[67, 75, 83, 91, 99, 107, 115, 126, 137, 148, 159, 170, 175], 67), (68, .aload_n 0, 1), (69, .getfield 10, 3), (72, .getfield 265, 3), (75, .ireturn, 1), (76, .aload_n 0, 1), (77, .getfield 10, 3), (80, .getfield 49, 3), (83, .ireturn, 1), (84, .aload_n 0, 1), (85, .getfield 10, 3), (88, .getfield 175, 3), (91, .ireturn, 1), (92, .aload_n 0, 1), (93, .getfield 10, 3), (96, .getfield 276, 3), (99, .ireturn, 1), (100, .aload_n 0, 1), (101, .getfield 10, 3), (104, .invokevirtual 300, 3), (107, .ireturn, 1), (108, .aload_n 0, 1), (109, .getfield 10, 3), (112, .getfield 303, 3), (115, .ireturn, 1), (116, .aload_n 0, 1), (117, .getfield 10, 3), (120, .getfield 86, 3), (123, .getfield 109, 3), (126, .ireturn, 1), (127, .aload_n 0, 1), (128, .getfield 10, 3), (131, .getfield 86, 3), (134, .getfield 112, 3), (137, .ireturn, 1), (138, .aload_n 0, 1), (139, .getfield 10, 3), (142, .getfield 86, 3), (145, .getfield 115, 3), (148, .ireturn, 1), (149, .aload_n 0, 1), (150, .getfield 10, 3), (153, .getfield 86, 3), (156, .getfield 118, 3), (159, .ireturn, 1), (160, .aload_n 0, 1), (161, .getfield 10, 3)]
theorem dtX7_count_0_ok : ∀ q ∈ dtX7_count_0, decode cX7_count q.1 = .ok q.2 := by decide +kernel
theorem dX7_count_0 : decode cX7_count 0 = .ok (.iload_n 1, 1) := dg dtX7_count_0_ok 0 rfl
theorem dX7_count_1 : decode cX7_count 1 = .ok (.tableswitch 183 0 12 #[67, 75, 83, 91, 99, 107, 115, 126, 137, 148, 159, 170, 175], 67) := dg dtX7_count_0_ok 1 rfl
theorem dX7_count_68 : decode cX7_count 68 = .ok (.aload_n 0, 1) := dg dtX7_count_0_ok 2 rfl
theorem dX7_count_69 : decode cX7_count 69 = .ok (.getfield 10, 3) := dg dtX7_count_0_ok 3 rfl
theorem dX7_count_72 : decode cX7_count 72 = .ok (.getfield 265, 3) := dg dtX7_count_0_ok 4 rfl
theorem dX7_count_75 : decode cX7_count 75 = .ok (.ireturn, 1) := dg dtX7_count_0_ok 5 rfl
theorem dX7_count_76 : decode cX7_count 76 = .ok (.aload_n 0, 1) := dg dtX7_count_0_ok 6 rfl
theorem dX7_count_77 : decode cX7_count 77 = .ok (.getfield 10, 3) := dg dtX7_count_0_ok 7 rfl
theorem dX7_count_80 : decode cX7_count 80 = .ok (.getfield 49, 3) := dg dtX7_count_0_ok 8 rfl
theorem dX7_count_83 : decode cX7_count 83 = .ok (.ireturn, 1) := dg dtX7_count_0_ok 9 rfl
theorem dX7_count_84 : decode cX7_count 84 = .ok (.aload_n 0, 1) := dg dtX7_count_0_ok 10 rfl
theorem dX7_count_85 : decode cX7_count 85 = .ok (.getfield 10, 3) := dg dtX7_count_0_ok 11 rfl
theorem dX7_count_88 : decode cX7_count 88 = .ok (.getfield 175, 3) := dg dtX7_count_0_ok 12 rfl
theorem dX7_count_91 : decode cX7_count 91 = .ok (.ireturn, 1) := dg dtX7_count_0_ok 13 rfl
theorem dX7_count_92 : decode cX7_count 92 = .ok (.aload_n 0, 1) := dg dtX7_count_0_ok 14 rfl
theorem dX7_count_93 : decode cX7_count 93 = .ok (.getfield 10, 3) := dg dtX7_count_0_ok 15 rfl
theorem dX7_count_96 : decode cX7_count 96 = .ok (.getfield 276, 3) := dg dtX7_count_0_ok 16 rfl
theorem dX7_count_99 : decode cX7_count 99 = .ok (.ireturn, 1) := dg dtX7_count_0_ok 17 rfl
theorem dX7_count_100 : decode cX7_count 100 = .ok (.aload_n 0, 1) := dg dtX7_count_0_ok 18 rfl
theorem dX7_count_101 : decode cX7_count 101 = .ok (.getfield 10, 3) := dg dtX7_count_0_ok 19 rfl
theorem dX7_count_104 : decode cX7_count 104 = .ok (.invokevirtual 300, 3) := dg dtX7_count_0_ok 20 rfl
theorem dX7_count_107 : decode cX7_count 107 = .ok (.ireturn, 1) := dg dtX7_count_0_ok 21 rfl
theorem dX7_count_108 : decode cX7_count 108 = .ok (.aload_n 0, 1) := dg dtX7_count_0_ok 22 rfl
theorem dX7_count_109 : decode cX7_count 109 = .ok (.getfield 10, 3) := dg dtX7_count_0_ok 23 rfl
theorem dX7_count_112 : decode cX7_count 112 = .ok (.getfield 303, 3) := dg dtX7_count_0_ok 24 rfl
theorem dX7_count_115 : decode cX7_count 115 = .ok (.ireturn, 1) := dg dtX7_count_0_ok 25 rfl
theorem dX7_count_116 : decode cX7_count 116 = .ok (.aload_n 0, 1) := dg dtX7_count_0_ok 26 rfl
theorem dX7_count_117 : decode cX7_count 117 = .ok (.getfield 10, 3) := dg dtX7_count_0_ok 27 rfl
theorem dX7_count_120 : decode cX7_count 120 = .ok (.getfield 86, 3) := dg dtX7_count_0_ok 28 rfl
theorem dX7_count_123 : decode cX7_count 123 = .ok (.getfield 109, 3) := dg dtX7_count_0_ok 29 rfl
theorem dX7_count_126 : decode cX7_count 126 = .ok (.ireturn, 1) := dg dtX7_count_0_ok 30 rfl
theorem dX7_count_127 : decode cX7_count 127 = .ok (.aload_n 0, 1) := dg dtX7_count_0_ok 31 rfl
theorem dX7_count_128 : decode cX7_count 128 = .ok (.getfield 10, 3) := dg dtX7_count_0_ok 32 rfl
theorem dX7_count_131 : decode cX7_count 131 = .ok (.getfield 86, 3) := dg dtX7_count_0_ok 33 rfl
theorem dX7_count_134 : decode cX7_count 134 = .ok (.getfield 112, 3) := dg dtX7_count_0_ok 34 rfl
theorem dX7_count_137 : decode cX7_count 137 = .ok (.ireturn, 1) := dg dtX7_count_0_ok 35 rfl
theorem dX7_count_138 : decode cX7_count 138 = .ok (.aload_n 0, 1) := dg dtX7_count_0_ok 36 rfl
theorem dX7_count_139 : decode cX7_count 139 = .ok (.getfield 10, 3) := dg dtX7_count_0_ok 37 rfl
theorem dX7_count_142 : decode cX7_count 142 = .ok (.getfield 86, 3) := dg dtX7_count_0_ok 38 rfl
theorem dX7_count_145 : decode cX7_count 145 = .ok (.getfield 115, 3) := dg dtX7_count_0_ok 39 rfl
theorem dX7_count_148 : decode cX7_count 148 = .ok (.ireturn, 1) := dg dtX7_count_0_ok 40 rfl
theorem dX7_count_149 : decode cX7_count 149 = .ok (.aload_n 0, 1) := dg dtX7_count_0_ok 41 rfl
theorem dX7_count_150 : decode cX7_count 150 = .ok (.getfield 10, 3) := dg dtX7_count_0_ok 42 rfl
theorem dX7_count_153 : decode cX7_count 153 = .ok (.getfield 86, 3) := dg dtX7_count_0_ok 43 rfl
theorem dX7_count_156 : decode cX7_count 156 = .ok (.getfield 118, 3) := dg dtX7_count_0_ok 44 rfl
theorem dX7_count_159 : decode cX7_count 159 = .ok (.ireturn, 1) := dg dtX7_count_0_ok 45 rfl
theorem dX7_count_160 : decode cX7_count 160 = .ok (.aload_n 0, 1) := dg dtX7_count_0_ok 46 rfl
theorem dX7_count_161 : decode cX7_count 161 = .ok (.getfield 10, 3) := dg dtX7_count_0_ok 47 rfl
def dtX7_count_1 : List (Nat × Instr × Nat) := [(164, .getfield 86, 3), (167, .getfield 121, 3), (170, .ireturn, 1), (171, .aload_n 0, 1), (172, .getfield 45, 3), (175, .ireturn, 1), (176, .aload_n 0, 1), (177, .getfield 19, 3), (180, .getfield 168, 3), (183, .ireturn, 1), (184, .ldc 71, 2), (186, .ireturn, 1)]
theorem dtX7_count_1_ok : ∀ q ∈ dtX7_count_1, decode cX7_count q.1 = .ok q.2 := by decide +kernel
theorem dX7_count_164 : decode cX7_count 164 = .ok (.getfield 86, 3) := dg dtX7_count_1_ok 0 rfl
theorem dX7_count_167 : decode cX7_count 167 = .ok (.getfield 121, 3) := dg dtX7_count_1_ok 1 rfl
theorem dX7_count_170 : decode cX7_count 170 = .ok (.ireturn, 1) := dg dtX7_count_1_ok 2 rfl
theorem dX7_count_171 : decode cX7_count 171 = .ok (.aload_n 0, 1) := dg dtX7_count_1_ok 3 rfl
theorem dX7_count_172 : decode cX7_count 172 = .ok (.getfield 45, 3) := dg dtX7_count_1_ok 4 rfl
theorem dX7_count_175 : decode cX7_count 175 = .ok (.ireturn, 1) := dg dtX7_count_1_ok 5 rfl
theorem dX7_count_176 : decode cX7_count 176 = .ok (.aload_n 0, 1) := dg dtX7_count_1_ok 6 rfl
theorem dX7_count_177 : decode cX7_count 177 = .ok (.getfield 19, 3) := dg dtX7_count_1_ok 7 rfl
theorem dX7_count_180 : decode cX7_count 180 = .ok (.getfield 168, 3) := dg dtX7_count_1_ok 8 rfl
theorem dX7_count_183 : decode cX7_count 183 = .ok (.ireturn, 1) := dg dtX7_count_1_ok 9 rfl
theorem dX7_count_184 : decode cX7_count 184 = .ok (.ldc 71, 2) := dg dtX7_count_1_ok 10 rfl
theorem dX7_count_186 : decode cX7_count 186 = .ok (.ireturn, 1) := dg dtX7_count_1_ok 11 rfl
def dtX7_rate_0 : List (Nat × Instr × Nat) := [(0, .iload_n 1, 1), (1, .iconst 0, 1), (2, .iconst 5, 1), (3, .invokestatic 67, 3), (6, .ifCond .eq 6, 3), (9, .ldc 65, 2), (11, .ireturn, 1), (12, .aload_n 0, 1), (13, .getfield 10, 3), (16, .getfield 86, 3), (19, .getfield 105, 3), (22, .iload_n 1, 1), (23, .iaload, 1), (24, .ireturn, 1)]
theorem dtX7_rate_0_ok : ∀ q ∈ dtX7_rate_0, decode cX7_rate q.1 = .ok q.2 := by decide +kernel
theorem dX7_rate_0 : decode cX7_rate 0 = .ok (.iload_n 1, 1) := dg dtX7_rate_0_ok 0 rfl
theorem dX7_rate_1 : decode cX7_rate 1 = .ok (.iconst 0, 1) := dg dtX7_rate_0_ok 1 rfl
theorem dX7_rate_2 : decode cX7_rate 2 = .ok (.iconst 5, 1) := dg dtX7_rate_0_ok 2 rfl
theorem dX7_rate_3 : decode cX7_rate 3 = .ok (.invokestatic 67, 3) := dg dtX7_rate_0_ok 3 rfl
theorem dX7_rate_6 : decode cX7_rate 6 = .ok (.ifCond .eq 6, 3) := dg dtX7_rate_0_ok 4 rfl
theorem dX7_rate_9 : decode cX7_rate 9 = .ok (.ldc 65, 2) := dg dtX7_rate_0_ok 5 rfl
theorem dX7_rate_11 : decode cX7_rate 11 = .ok (.ireturn, 1) := dg dtX7_rate_0_ok 6 rfl
theorem dX7_rate_12 : decode cX7_rate 12 = .ok (.aload_n 0, 1) := dg dtX7_rate_0_ok 7 rfl
theorem dX7_rate_13 : decode cX7_rate 13 = .ok (.getfield 10, 3) := dg dtX7_rate_0_ok 8 rfl
theorem dX7_rate_16 : decode cX7_rate 16 = .ok (.getfield 86, 3) := dg dtX7_rate_0_ok 9 rfl
theorem dX7_rate_19 : decode cX7_rate 19 = .ok (.getfield 105, 3) := dg dtX7_rate_0_ok 10 rfl
theorem dX7_rate_22 : decode cX7_rate 22 = .ok (.iload_n 1, 1) := dg dtX7_rate_0_ok 11 rfl
theorem dX7_rate_23 : decode cX7_rate 23 = .ok (.iaload, 1) := dg dtX7_rate_0_ok 12 rfl
theorem dX7_rate_24 : decode cX7_rate 24 = .ok (.ireturn, 1) := dg dtX7_rate_0_ok 13 rfl
def dtX7_enterLot_0 : List (Nat × Instr × Nat) := [(0, .aload_n 0, 1), (1, .getfield 10, 3), (4, .iload_n 1, 1), (5, .invokevirtual 61, 3), (8, .astore 5, 2), (10, .aload 5, 2), (12, .ifnull 12, 3), (15, .iload_n 2, 1), (16, .iconst 0, 1), (17, .iconst 5, 1), (18, .invokestatic 67, 3), (21, .ifCond .eq 6, 3), (24, .ldc 65, 2), (26, .ireturn, 1), (27, .iload_n 3, 1), (28, .iconst 1, 1), (29, .ldc_w 306, 3), (32, .invokestatic 67, 3), (35, .ifCond .ne 14, 3), (38, .iload 4, 2), (40, .iconst 0, 1), (41, .ldc 66, 2), (43, .invokestatic 67, 3), (46, .ifCond .eq 6, 3), (49, .ldc 71, 2), (51, .ireturn, 1), (52, .aload 5, 2), (54, .getfield 82, 3), (57, .ifCond .le 9, 3), (60, .aload_n 0, 1), (61, .iconst 1, 1), (62, .invokevirtual 99, 3), (65, .ireturn, 1), (66, .aload_n 0, 1), (67, .getfield 10, 3), (70, .getfield 175, 3), (73, .istore 6, 2), (75, .iload 6, 2), (77, .bipush 30, 2), (79, .if_icmp .lt 9, 3), (82, .aload_n 0, 1), (83, .iconst 5, 1), (84, .invokevirtual 99, 3), (87, .ireturn, 1), (88, .aload_n 0, 1), (89, .getfield 10, 3), (92, .getfield 86, 3), (95, .iload_n 2, 1)]
theorem dtX7_enterLot_0_ok : ∀ q ∈ dtX7_enterLot_0, decode cX7_enterLot q.1 = .ok q.2 := by decide +kernel
theorem dX7_enterLot_0 : decode cX7_enterLot 0 = .ok (.aload_n 0, 1) := dg dtX7_enterLot_0_ok 0 rfl
theorem dX7_enterLot_1 : decode cX7_enterLot 1 = .ok (.getfield 10, 3) := dg dtX7_enterLot_0_ok 1 rfl
theorem dX7_enterLot_4 : decode cX7_enterLot 4 = .ok (.iload_n 1, 1) := dg dtX7_enterLot_0_ok 2 rfl
theorem dX7_enterLot_5 : decode cX7_enterLot 5 = .ok (.invokevirtual 61, 3) := dg dtX7_enterLot_0_ok 3 rfl
theorem dX7_enterLot_8 : decode cX7_enterLot 8 = .ok (.astore 5, 2) := dg dtX7_enterLot_0_ok 4 rfl
theorem dX7_enterLot_10 : decode cX7_enterLot 10 = .ok (.aload 5, 2) := dg dtX7_enterLot_0_ok 5 rfl
theorem dX7_enterLot_12 : decode cX7_enterLot 12 = .ok (.ifnull 12, 3) := dg dtX7_enterLot_0_ok 6 rfl
theorem dX7_enterLot_15 : decode cX7_enterLot 15 = .ok (.iload_n 2, 1) := dg dtX7_enterLot_0_ok 7 rfl
theorem dX7_enterLot_16 : decode cX7_enterLot 16 = .ok (.iconst 0, 1) := dg dtX7_enterLot_0_ok 8 rfl
theorem dX7_enterLot_17 : decode cX7_enterLot 17 = .ok (.iconst 5, 1) := dg dtX7_enterLot_0_ok 9 rfl
theorem dX7_enterLot_18 : decode cX7_enterLot 18 = .ok (.invokestatic 67, 3) := dg dtX7_enterLot_0_ok 10 rfl
theorem dX7_enterLot_21 : decode cX7_enterLot 21 = .ok (.ifCond .eq 6, 3) := dg dtX7_enterLot_0_ok 11 rfl
theorem dX7_enterLot_24 : decode cX7_enterLot 24 = .ok (.ldc 65, 2) := dg dtX7_enterLot_0_ok 12 rfl
theorem dX7_enterLot_26 : decode cX7_enterLot 26 = .ok (.ireturn, 1) := dg dtX7_enterLot_0_ok 13 rfl
theorem dX7_enterLot_27 : decode cX7_enterLot 27 = .ok (.iload_n 3, 1) := dg dtX7_enterLot_0_ok 14 rfl
theorem dX7_enterLot_28 : decode cX7_enterLot 28 = .ok (.iconst 1, 1) := dg dtX7_enterLot_0_ok 15 rfl
theorem dX7_enterLot_29 : decode cX7_enterLot 29 = .ok (.ldc_w 306, 3) := dg dtX7_enterLot_0_ok 16 rfl
theorem dX7_enterLot_32 : decode cX7_enterLot 32 = .ok (.invokestatic 67, 3) := dg dtX7_enterLot_0_ok 17 rfl
theorem dX7_enterLot_35 : decode cX7_enterLot 35 = .ok (.ifCond .ne 14, 3) := dg dtX7_enterLot_0_ok 18 rfl
theorem dX7_enterLot_38 : decode cX7_enterLot 38 = .ok (.iload 4, 2) := dg dtX7_enterLot_0_ok 19 rfl
theorem dX7_enterLot_40 : decode cX7_enterLot 40 = .ok (.iconst 0, 1) := dg dtX7_enterLot_0_ok 20 rfl
theorem dX7_enterLot_41 : decode cX7_enterLot 41 = .ok (.ldc 66, 2) := dg dtX7_enterLot_0_ok 21 rfl
theorem dX7_enterLot_43 : decode cX7_enterLot 43 = .ok (.invokestatic 67, 3) := dg dtX7_enterLot_0_ok 22 rfl
theorem dX7_enterLot_46 : decode cX7_enterLot 46 = .ok (.ifCond .eq 6, 3) := dg dtX7_enterLot_0_ok 23 rfl
theorem dX7_enterLot_49 : decode cX7_enterLot 49 = .ok (.ldc 71, 2) := dg dtX7_enterLot_0_ok 24 rfl
theorem dX7_enterLot_51 : decode cX7_enterLot 51 = .ok (.ireturn, 1) := dg dtX7_enterLot_0_ok 25 rfl
theorem dX7_enterLot_52 : decode cX7_enterLot 52 = .ok (.aload 5, 2) := dg dtX7_enterLot_0_ok 26 rfl
theorem dX7_enterLot_54 : decode cX7_enterLot 54 = .ok (.getfield 82, 3) := dg dtX7_enterLot_0_ok 27 rfl
theorem dX7_enterLot_57 : decode cX7_enterLot 57 = .ok (.ifCond .le 9, 3) := dg dtX7_enterLot_0_ok 28 rfl
theorem dX7_enterLot_60 : decode cX7_enterLot 60 = .ok (.aload_n 0, 1) := dg dtX7_enterLot_0_ok 29 rfl
theorem dX7_enterLot_61 : decode cX7_enterLot 61 = .ok (.iconst 1, 1) := dg dtX7_enterLot_0_ok 30 rfl
theorem dX7_enterLot_62 : decode cX7_enterLot 62 = .ok (.invokevirtual 99, 3) := dg dtX7_enterLot_0_ok 31 rfl
theorem dX7_enterLot_65 : decode cX7_enterLot 65 = .ok (.ireturn, 1) := dg dtX7_enterLot_0_ok 32 rfl
theorem dX7_enterLot_66 : decode cX7_enterLot 66 = .ok (.aload_n 0, 1) := dg dtX7_enterLot_0_ok 33 rfl
theorem dX7_enterLot_67 : decode cX7_enterLot 67 = .ok (.getfield 10, 3) := dg dtX7_enterLot_0_ok 34 rfl
theorem dX7_enterLot_70 : decode cX7_enterLot 70 = .ok (.getfield 175, 3) := dg dtX7_enterLot_0_ok 35 rfl
theorem dX7_enterLot_73 : decode cX7_enterLot 73 = .ok (.istore 6, 2) := dg dtX7_enterLot_0_ok 36 rfl
theorem dX7_enterLot_75 : decode cX7_enterLot 75 = .ok (.iload 6, 2) := dg dtX7_enterLot_0_ok 37 rfl
theorem dX7_enterLot_77 : decode cX7_enterLot 77 = .ok (.bipush 30, 2) := dg dtX7_enterLot_0_ok 38 rfl
theorem dX7_enterLot_79 : decode cX7_enterLot 79 = .ok (.if_icmp .lt 9, 3) := dg dtX7_enterLot_0_ok 39 rfl
theorem dX7_enterLot_82 : decode cX7_enterLot 82 = .ok (.aload_n 0, 1) := dg dtX7_enterLot_0_ok 40 rfl
theorem dX7_enterLot_83 : decode cX7_enterLot 83 = .ok (.iconst 5, 1) := dg dtX7_enterLot_0_ok 41 rfl
theorem dX7_enterLot_84 : decode cX7_enterLot 84 = .ok (.invokevirtual 99, 3) := dg dtX7_enterLot_0_ok 42 rfl
theorem dX7_enterLot_87 : decode cX7_enterLot 87 = .ok (.ireturn, 1) := dg dtX7_enterLot_0_ok 43 rfl
theorem dX7_enterLot_88 : decode cX7_enterLot 88 = .ok (.aload_n 0, 1) := dg dtX7_enterLot_0_ok 44 rfl
theorem dX7_enterLot_89 : decode cX7_enterLot 89 = .ok (.getfield 10, 3) := dg dtX7_enterLot_0_ok 45 rfl
theorem dX7_enterLot_92 : decode cX7_enterLot 92 = .ok (.getfield 86, 3) := dg dtX7_enterLot_0_ok 46 rfl
theorem dX7_enterLot_95 : decode cX7_enterLot 95 = .ok (.iload_n 2, 1) := dg dtX7_enterLot_0_ok 47 rfl
def dtX7_enterLot_1 : List (Nat × Instr × Nat) := [(96, .iload 4, 2), (98, .invokevirtual 288, 3), (101, .istore 7, 2), (103, .aload_n 0, 1), (104, .getfield 10, 3), (107, .getfield 86, 3), (110, .aload 5, 2), (112, .getfield 102, 3), (115, .aload_n 0, 1), (116, .getfield 10, 3), (119, .iload_n 1, 1), (120, .invokevirtual 90, 3), (123, .iload 7, 2), (125, .iadd, 1), (126, .invokevirtual 93, 3), (129, .ifCond .ne 9, 3), (132, .aload_n 0, 1), (133, .iconst 2, 1), (134, .invokevirtual 99, 3), (137, .ireturn, 1), (138, .aload_n 0, 1), (139, .getfield 10, 3), (142, .getfield 268, 3), (145, .iload 6, 2), (147, .aaload, 1), (148, .astore 8, 2), (150, .aload 8, 2), (152, .iload_n 1, 1), (153, .putfield 195, 3), (156, .aload 8, 2), (158, .iload_n 2, 1), (159, .putfield 200, 3), (162, .aload 8, 2), (164, .iload_n 3, 1), (165, .putfield 203, 3), (168, .aload 8, 2), (170, .iload 4, 2), (172, .putfield 206, 3), (175, .aload 8, 2), (177, .aload_n 0, 1), (178, .getfield 10, 3), (181, .getfield 265, 3), (184, .putfield 209, 3), (187, .aload 8, 2), (189, .aload_n 0, 1), (190, .getfield 10, 3), (193, .getfield 265, 3), (196, .aload_n 0, 1)]
theorem dtX7_enterLot_1_ok : ∀ q ∈ dtX7_enterLot_1, decode cX7_enterLot q.1 = .ok q.2 := by decide +kernel
theorem dX7_enterLot_96 : decode cX7_enterLot 96 = .ok (.iload 4, 2) := dg dtX7_enterLot_1_ok 0 rfl
theorem dX7_enterLot_98 : decode cX7_enterLot 98 = .ok (.invokevirtual 288, 3) := dg dtX7_enterLot_1_ok 1 rfl
theorem dX7_enterLot_101 : decode cX7_enterLot 101 = .ok (.istore 7, 2) := dg dtX7_enterLot_1_ok 2 rfl
theorem dX7_enterLot_103 : decode cX7_enterLot 103 = .ok (.aload_n 0, 1) := dg dtX7_enterLot_1_ok 3 rfl
theorem dX7_enterLot_104 : decode cX7_enterLot 104 = .ok (.getfield 10, 3) := dg dtX7_enterLot_1_ok 4 rfl
theorem dX7_enterLot_107 : decode cX7_enterLot 107 = .ok (.getfield 86, 3) := dg dtX7_enterLot_1_ok 5 rfl
theorem dX7_enterLot_110 : decode cX7_enterLot 110 = .ok (.aload 5, 2) := dg dtX7_enterLot_1_ok 6 rfl
theorem dX7_enterLot_112 : decode cX7_enterLot 112 = .ok (.getfield 102, 3) := dg dtX7_enterLot_1_ok 7 rfl
theorem dX7_enterLot_115 : decode cX7_enterLot 115 = .ok (.aload_n 0, 1) := dg dtX7_enterLot_1_ok 8 rfl
theorem dX7_enterLot_116 : decode cX7_enterLot 116 = .ok (.getfield 10, 3) := dg dtX7_enterLot_1_ok 9 rfl
theorem dX7_enterLot_119 : decode cX7_enterLot 119 = .ok (.iload_n 1, 1) := dg dtX7_enterLot_1_ok 10 rfl
theorem dX7_enterLot_120 : decode cX7_enterLot 120 = .ok (.invokevirtual 90, 3) := dg dtX7_enterLot_1_ok 11 rfl
theorem dX7_enterLot_123 : decode cX7_enterLot 123 = .ok (.iload 7, 2) := dg dtX7_enterLot_1_ok 12 rfl
theorem dX7_enterLot_125 : decode cX7_enterLot 125 = .ok (.iadd, 1) := dg dtX7_enterLot_1_ok 13 rfl
theorem dX7_enterLot_126 : decode cX7_enterLot 126 = .ok (.invokevirtual 93, 3) := dg dtX7_enterLot_1_ok 14 rfl
theorem dX7_enterLot_129 : decode cX7_enterLot 129 = .ok (.ifCond .ne 9, 3) := dg dtX7_enterLot_1_ok 15 rfl
theorem dX7_enterLot_132 : decode cX7_enterLot 132 = .ok (.aload_n 0, 1) := dg dtX7_enterLot_1_ok 16 rfl
theorem dX7_enterLot_133 : decode cX7_enterLot 133 = .ok (.iconst 2, 1) := dg dtX7_enterLot_1_ok 17 rfl
theorem dX7_enterLot_134 : decode cX7_enterLot 134 = .ok (.invokevirtual 99, 3) := dg dtX7_enterLot_1_ok 18 rfl
theorem dX7_enterLot_137 : decode cX7_enterLot 137 = .ok (.ireturn, 1) := dg dtX7_enterLot_1_ok 19 rfl
theorem dX7_enterLot_138 : decode cX7_enterLot 138 = .ok (.aload_n 0, 1) := dg dtX7_enterLot_1_ok 20 rfl
theorem dX7_enterLot_139 : decode cX7_enterLot 139 = .ok (.getfield 10, 3) := dg dtX7_enterLot_1_ok 21 rfl
theorem dX7_enterLot_142 : decode cX7_enterLot 142 = .ok (.getfield 268, 3) := dg dtX7_enterLot_1_ok 22 rfl
theorem dX7_enterLot_145 : decode cX7_enterLot 145 = .ok (.iload 6, 2) := dg dtX7_enterLot_1_ok 23 rfl
theorem dX7_enterLot_147 : decode cX7_enterLot 147 = .ok (.aaload, 1) := dg dtX7_enterLot_1_ok 24 rfl
theorem dX7_enterLot_148 : decode cX7_enterLot 148 = .ok (.astore 8, 2) := dg dtX7_enterLot_1_ok 25 rfl
theorem dX7_enterLot_150 : decode cX7_enterLot 150 = .ok (.aload 8, 2) := dg dtX7_enterLot_1_ok 26 rfl
theorem dX7_enterLot_152 : decode cX7_enterLot 152 = .ok (.iload_n 1, 1) := dg dtX7_enterLot_1_ok 27 rfl
theorem dX7_enterLot_153 : decode cX7_enterLot 153 = .ok (.putfield 195, 3) := dg dtX7_enterLot_1_ok 28 rfl
theorem dX7_enterLot_156 : decode cX7_enterLot 156 = .ok (.aload 8, 2) := dg dtX7_enterLot_1_ok 29 rfl
theorem dX7_enterLot_158 : decode cX7_enterLot 158 = .ok (.iload_n 2, 1) := dg dtX7_enterLot_1_ok 30 rfl
theorem dX7_enterLot_159 : decode cX7_enterLot 159 = .ok (.putfield 200, 3) := dg dtX7_enterLot_1_ok 31 rfl
theorem dX7_enterLot_162 : decode cX7_enterLot 162 = .ok (.aload 8, 2) := dg dtX7_enterLot_1_ok 32 rfl
theorem dX7_enterLot_164 : decode cX7_enterLot 164 = .ok (.iload_n 3, 1) := dg dtX7_enterLot_1_ok 33 rfl
theorem dX7_enterLot_165 : decode cX7_enterLot 165 = .ok (.putfield 203, 3) := dg dtX7_enterLot_1_ok 34 rfl
theorem dX7_enterLot_168 : decode cX7_enterLot 168 = .ok (.aload 8, 2) := dg dtX7_enterLot_1_ok 35 rfl
theorem dX7_enterLot_170 : decode cX7_enterLot 170 = .ok (.iload 4, 2) := dg dtX7_enterLot_1_ok 36 rfl
theorem dX7_enterLot_172 : decode cX7_enterLot 172 = .ok (.putfield 206, 3) := dg dtX7_enterLot_1_ok 37 rfl
theorem dX7_enterLot_175 : decode cX7_enterLot 175 = .ok (.aload 8, 2) := dg dtX7_enterLot_1_ok 38 rfl
theorem dX7_enterLot_177 : decode cX7_enterLot 177 = .ok (.aload_n 0, 1) := dg dtX7_enterLot_1_ok 39 rfl
theorem dX7_enterLot_178 : decode cX7_enterLot 178 = .ok (.getfield 10, 3) := dg dtX7_enterLot_1_ok 40 rfl
theorem dX7_enterLot_181 : decode cX7_enterLot 181 = .ok (.getfield 265, 3) := dg dtX7_enterLot_1_ok 41 rfl
theorem dX7_enterLot_184 : decode cX7_enterLot 184 = .ok (.putfield 209, 3) := dg dtX7_enterLot_1_ok 42 rfl
theorem dX7_enterLot_187 : decode cX7_enterLot 187 = .ok (.aload 8, 2) := dg dtX7_enterLot_1_ok 43 rfl
theorem dX7_enterLot_189 : decode cX7_enterLot 189 = .ok (.aload_n 0, 1) := dg dtX7_enterLot_1_ok 44 rfl
theorem dX7_enterLot_190 : decode cX7_enterLot 190 = .ok (.getfield 10, 3) := dg dtX7_enterLot_1_ok 45 rfl
theorem dX7_enterLot_193 : decode cX7_enterLot 193 = .ok (.getfield 265, 3) := dg dtX7_enterLot_1_ok 46 rfl
theorem dX7_enterLot_196 : decode cX7_enterLot 196 = .ok (.aload_n 0, 1) := dg dtX7_enterLot_1_ok 47 rfl
def dtX7_enterLot_2 : List (Nat × Instr × Nat) := [(197, .getfield 10, 3), (200, .getfield 86, 3), (203, .getfield 109, 3), (206, .iadd, 1), (207, .putfield 212, 3), (210, .aload 8, 2), (212, .iload 7, 2), (214, .putfield 215, 3), (217, .aload 8, 2), (219, .iload_n 3, 1), (220, .putfield 218, 3), (223, .aload_n 0, 1), (224, .getfield 10, 3), (227, .iload 6, 2), (229, .iconst 1, 1), (230, .iadd, 1), (231, .putfield 175, 3), (234, .iload 6, 2), (236, .ireturn, 1)]
theorem dtX7_enterLot_2_ok : ∀ q ∈ dtX7_enterLot_2, decode cX7_enterLot q.1 = .ok q.2 := by decide +kernel
theorem dX7_enterLot_197 : decode cX7_enterLot 197 = .ok (.getfield 10, 3) := dg dtX7_enterLot_2_ok 0 rfl
theorem dX7_enterLot_200 : decode cX7_enterLot 200 = .ok (.getfield 86, 3) := dg dtX7_enterLot_2_ok 1 rfl
theorem dX7_enterLot_203 : decode cX7_enterLot 203 = .ok (.getfield 109, 3) := dg dtX7_enterLot_2_ok 2 rfl
theorem dX7_enterLot_206 : decode cX7_enterLot 206 = .ok (.iadd, 1) := dg dtX7_enterLot_2_ok 3 rfl
theorem dX7_enterLot_207 : decode cX7_enterLot 207 = .ok (.putfield 212, 3) := dg dtX7_enterLot_2_ok 4 rfl
theorem dX7_enterLot_210 : decode cX7_enterLot 210 = .ok (.aload 8, 2) := dg dtX7_enterLot_2_ok 5 rfl
theorem dX7_enterLot_212 : decode cX7_enterLot 212 = .ok (.iload 7, 2) := dg dtX7_enterLot_2_ok 6 rfl
theorem dX7_enterLot_214 : decode cX7_enterLot 214 = .ok (.putfield 215, 3) := dg dtX7_enterLot_2_ok 7 rfl
theorem dX7_enterLot_217 : decode cX7_enterLot 217 = .ok (.aload 8, 2) := dg dtX7_enterLot_2_ok 8 rfl
theorem dX7_enterLot_219 : decode cX7_enterLot 219 = .ok (.iload_n 3, 1) := dg dtX7_enterLot_2_ok 9 rfl
theorem dX7_enterLot_220 : decode cX7_enterLot 220 = .ok (.putfield 218, 3) := dg dtX7_enterLot_2_ok 10 rfl
theorem dX7_enterLot_223 : decode cX7_enterLot 223 = .ok (.aload_n 0, 1) := dg dtX7_enterLot_2_ok 11 rfl
theorem dX7_enterLot_224 : decode cX7_enterLot 224 = .ok (.getfield 10, 3) := dg dtX7_enterLot_2_ok 12 rfl
theorem dX7_enterLot_227 : decode cX7_enterLot 227 = .ok (.iload 6, 2) := dg dtX7_enterLot_2_ok 13 rfl
theorem dX7_enterLot_229 : decode cX7_enterLot 229 = .ok (.iconst 1, 1) := dg dtX7_enterLot_2_ok 14 rfl
theorem dX7_enterLot_230 : decode cX7_enterLot 230 = .ok (.iadd, 1) := dg dtX7_enterLot_2_ok 15 rfl
theorem dX7_enterLot_231 : decode cX7_enterLot 231 = .ok (.putfield 175, 3) := dg dtX7_enterLot_2_ok 16 rfl
theorem dX7_enterLot_234 : decode cX7_enterLot 234 = .ok (.iload 6, 2) := dg dtX7_enterLot_2_ok 17 rfl
theorem dX7_enterLot_236 : decode cX7_enterLot 236 = .ok (.ireturn, 1) := dg dtX7_enterLot_2_ok 18 rfl
def dtX7_releaseUnits_0 : List (Nat × Instr × Nat) := [(0, .aload_n 0, 1), (1, .getfield 10, 3), (4, .iload_n 1, 1), (5, .invokevirtual 191, 3), (8, .astore_n 3, 1), (9, .aload_n 3, 1), (10, .ifnonnull 6, 3), (13, .ldc 65, 2), (15, .ireturn, 1), (16, .aload_n 0, 1), (17, .aload_n 3, 1), (18, .iload_n 2, 1), (19, .invokevirtual 307, 3), (22, .istore 4, 2), (24, .iload 4, 2), (26, .ifCond .eq 6, 3), (29, .iload 4, 2), (31, .ireturn, 1), (32, .aload_n 3, 1), (33, .iconst 0, 1), (34, .iload_n 2, 1), (35, .invokevirtual 311, 3), (38, .istore 5, 2), (40, .aload_n 0, 1), (41, .getfield 10, 3), (44, .aload_n 3, 1), (45, .getfield 195, 3), (48, .invokevirtual 61, 3), (51, .astore 6, 2), (53, .aload 6, 2), (55, .ifnull 15, 3), (58, .aload 6, 2), (60, .getfield 180, 3), (63, .iload 5, 2), (65, .i2l, 1), (66, .lcmp, 1), (67, .ifCond .ge 9, 3), (70, .aload_n 0, 1), (71, .iconst 3, 1), (72, .invokevirtual 99, 3), (75, .ireturn, 1), (76, .aload 6, 2), (78, .dup, 1), (79, .getfield 180, 3), (82, .iload 5, 2), (84, .i2l, 1), (85, .lsub, 1), (86, .putfield 180, 3)]
theorem dtX7_releaseUnits_0_ok : ∀ q ∈ dtX7_releaseUnits_0, decode cX7_releaseUnits q.1 = .ok q.2 := by decide +kernel
theorem dX7_releaseUnits_0 : decode cX7_releaseUnits 0 = .ok (.aload_n 0, 1) := dg dtX7_releaseUnits_0_ok 0 rfl
theorem dX7_releaseUnits_1 : decode cX7_releaseUnits 1 = .ok (.getfield 10, 3) := dg dtX7_releaseUnits_0_ok 1 rfl
theorem dX7_releaseUnits_4 : decode cX7_releaseUnits 4 = .ok (.iload_n 1, 1) := dg dtX7_releaseUnits_0_ok 2 rfl
theorem dX7_releaseUnits_5 : decode cX7_releaseUnits 5 = .ok (.invokevirtual 191, 3) := dg dtX7_releaseUnits_0_ok 3 rfl
theorem dX7_releaseUnits_8 : decode cX7_releaseUnits 8 = .ok (.astore_n 3, 1) := dg dtX7_releaseUnits_0_ok 4 rfl
theorem dX7_releaseUnits_9 : decode cX7_releaseUnits 9 = .ok (.aload_n 3, 1) := dg dtX7_releaseUnits_0_ok 5 rfl
theorem dX7_releaseUnits_10 : decode cX7_releaseUnits 10 = .ok (.ifnonnull 6, 3) := dg dtX7_releaseUnits_0_ok 6 rfl
theorem dX7_releaseUnits_13 : decode cX7_releaseUnits 13 = .ok (.ldc 65, 2) := dg dtX7_releaseUnits_0_ok 7 rfl
theorem dX7_releaseUnits_15 : decode cX7_releaseUnits 15 = .ok (.ireturn, 1) := dg dtX7_releaseUnits_0_ok 8 rfl
theorem dX7_releaseUnits_16 : decode cX7_releaseUnits 16 = .ok (.aload_n 0, 1) := dg dtX7_releaseUnits_0_ok 9 rfl
theorem dX7_releaseUnits_17 : decode cX7_releaseUnits 17 = .ok (.aload_n 3, 1) := dg dtX7_releaseUnits_0_ok 10 rfl
theorem dX7_releaseUnits_18 : decode cX7_releaseUnits 18 = .ok (.iload_n 2, 1) := dg dtX7_releaseUnits_0_ok 11 rfl
theorem dX7_releaseUnits_19 : decode cX7_releaseUnits 19 = .ok (.invokevirtual 307, 3) := dg dtX7_releaseUnits_0_ok 12 rfl
theorem dX7_releaseUnits_22 : decode cX7_releaseUnits 22 = .ok (.istore 4, 2) := dg dtX7_releaseUnits_0_ok 13 rfl
theorem dX7_releaseUnits_24 : decode cX7_releaseUnits 24 = .ok (.iload 4, 2) := dg dtX7_releaseUnits_0_ok 14 rfl
theorem dX7_releaseUnits_26 : decode cX7_releaseUnits 26 = .ok (.ifCond .eq 6, 3) := dg dtX7_releaseUnits_0_ok 15 rfl
theorem dX7_releaseUnits_29 : decode cX7_releaseUnits 29 = .ok (.iload 4, 2) := dg dtX7_releaseUnits_0_ok 16 rfl
theorem dX7_releaseUnits_31 : decode cX7_releaseUnits 31 = .ok (.ireturn, 1) := dg dtX7_releaseUnits_0_ok 17 rfl
theorem dX7_releaseUnits_32 : decode cX7_releaseUnits 32 = .ok (.aload_n 3, 1) := dg dtX7_releaseUnits_0_ok 18 rfl
theorem dX7_releaseUnits_33 : decode cX7_releaseUnits 33 = .ok (.iconst 0, 1) := dg dtX7_releaseUnits_0_ok 19 rfl
theorem dX7_releaseUnits_34 : decode cX7_releaseUnits 34 = .ok (.iload_n 2, 1) := dg dtX7_releaseUnits_0_ok 20 rfl
theorem dX7_releaseUnits_35 : decode cX7_releaseUnits 35 = .ok (.invokevirtual 311, 3) := dg dtX7_releaseUnits_0_ok 21 rfl
theorem dX7_releaseUnits_38 : decode cX7_releaseUnits 38 = .ok (.istore 5, 2) := dg dtX7_releaseUnits_0_ok 22 rfl
theorem dX7_releaseUnits_40 : decode cX7_releaseUnits 40 = .ok (.aload_n 0, 1) := dg dtX7_releaseUnits_0_ok 23 rfl
theorem dX7_releaseUnits_41 : decode cX7_releaseUnits 41 = .ok (.getfield 10, 3) := dg dtX7_releaseUnits_0_ok 24 rfl
theorem dX7_releaseUnits_44 : decode cX7_releaseUnits 44 = .ok (.aload_n 3, 1) := dg dtX7_releaseUnits_0_ok 25 rfl
theorem dX7_releaseUnits_45 : decode cX7_releaseUnits 45 = .ok (.getfield 195, 3) := dg dtX7_releaseUnits_0_ok 26 rfl
theorem dX7_releaseUnits_48 : decode cX7_releaseUnits 48 = .ok (.invokevirtual 61, 3) := dg dtX7_releaseUnits_0_ok 27 rfl
theorem dX7_releaseUnits_51 : decode cX7_releaseUnits 51 = .ok (.astore 6, 2) := dg dtX7_releaseUnits_0_ok 28 rfl
theorem dX7_releaseUnits_53 : decode cX7_releaseUnits 53 = .ok (.aload 6, 2) := dg dtX7_releaseUnits_0_ok 29 rfl
theorem dX7_releaseUnits_55 : decode cX7_releaseUnits 55 = .ok (.ifnull 15, 3) := dg dtX7_releaseUnits_0_ok 30 rfl
theorem dX7_releaseUnits_58 : decode cX7_releaseUnits 58 = .ok (.aload 6, 2) := dg dtX7_releaseUnits_0_ok 31 rfl
theorem dX7_releaseUnits_60 : decode cX7_releaseUnits 60 = .ok (.getfield 180, 3) := dg dtX7_releaseUnits_0_ok 32 rfl
theorem dX7_releaseUnits_63 : decode cX7_releaseUnits 63 = .ok (.iload 5, 2) := dg dtX7_releaseUnits_0_ok 33 rfl
theorem dX7_releaseUnits_65 : decode cX7_releaseUnits 65 = .ok (.i2l, 1) := dg dtX7_releaseUnits_0_ok 34 rfl
theorem dX7_releaseUnits_66 : decode cX7_releaseUnits 66 = .ok (.lcmp, 1) := dg dtX7_releaseUnits_0_ok 35 rfl
theorem dX7_releaseUnits_67 : decode cX7_releaseUnits 67 = .ok (.ifCond .ge 9, 3) := dg dtX7_releaseUnits_0_ok 36 rfl
theorem dX7_releaseUnits_70 : decode cX7_releaseUnits 70 = .ok (.aload_n 0, 1) := dg dtX7_releaseUnits_0_ok 37 rfl
theorem dX7_releaseUnits_71 : decode cX7_releaseUnits 71 = .ok (.iconst 3, 1) := dg dtX7_releaseUnits_0_ok 38 rfl
theorem dX7_releaseUnits_72 : decode cX7_releaseUnits 72 = .ok (.invokevirtual 99, 3) := dg dtX7_releaseUnits_0_ok 39 rfl
theorem dX7_releaseUnits_75 : decode cX7_releaseUnits 75 = .ok (.ireturn, 1) := dg dtX7_releaseUnits_0_ok 40 rfl
theorem dX7_releaseUnits_76 : decode cX7_releaseUnits 76 = .ok (.aload 6, 2) := dg dtX7_releaseUnits_0_ok 41 rfl
theorem dX7_releaseUnits_78 : decode cX7_releaseUnits 78 = .ok (.dup, 1) := dg dtX7_releaseUnits_0_ok 42 rfl
theorem dX7_releaseUnits_79 : decode cX7_releaseUnits 79 = .ok (.getfield 180, 3) := dg dtX7_releaseUnits_0_ok 43 rfl
theorem dX7_releaseUnits_82 : decode cX7_releaseUnits 82 = .ok (.iload 5, 2) := dg dtX7_releaseUnits_0_ok 44 rfl
theorem dX7_releaseUnits_84 : decode cX7_releaseUnits 84 = .ok (.i2l, 1) := dg dtX7_releaseUnits_0_ok 45 rfl
theorem dX7_releaseUnits_85 : decode cX7_releaseUnits 85 = .ok (.lsub, 1) := dg dtX7_releaseUnits_0_ok 46 rfl
theorem dX7_releaseUnits_86 : decode cX7_releaseUnits 86 = .ok (.putfield 180, 3) := dg dtX7_releaseUnits_0_ok 47 rfl
def dtX7_releaseUnits_1 : List (Nat × Instr × Nat) := [(89, .aload_n 3, 1), (90, .dup, 1), (91, .getfield 224, 3), (94, .iload 5, 2), (96, .iadd, 1), (97, .putfield 224, 3), (100, .aload_n 3, 1), (101, .dup, 1), (102, .getfield 218, 3), (105, .iload_n 2, 1), (106, .isub, 1), (107, .putfield 218, 3), (110, .iload 5, 2), (112, .ireturn, 1)]
theorem dtX7_releaseUnits_1_ok : ∀ q ∈ dtX7_releaseUnits_1, decode cX7_releaseUnits q.1 = .ok q.2 := by decide +kernel
theorem dX7_releaseUnits_89 : decode cX7_releaseUnits 89 = .ok (.aload_n 3, 1) := dg dtX7_releaseUnits_1_ok 0 rfl
theorem dX7_releaseUnits_90 : decode cX7_releaseUnits 90 = .ok (.dup, 1) := dg dtX7_releaseUnits_1_ok 1 rfl
theorem dX7_releaseUnits_91 : decode cX7_releaseUnits 91 = .ok (.getfield 224, 3) := dg dtX7_releaseUnits_1_ok 2 rfl
theorem dX7_releaseUnits_94 : decode cX7_releaseUnits 94 = .ok (.iload 5, 2) := dg dtX7_releaseUnits_1_ok 3 rfl
theorem dX7_releaseUnits_96 : decode cX7_releaseUnits 96 = .ok (.iadd, 1) := dg dtX7_releaseUnits_1_ok 4 rfl
theorem dX7_releaseUnits_97 : decode cX7_releaseUnits 97 = .ok (.putfield 224, 3) := dg dtX7_releaseUnits_1_ok 5 rfl
theorem dX7_releaseUnits_100 : decode cX7_releaseUnits 100 = .ok (.aload_n 3, 1) := dg dtX7_releaseUnits_1_ok 6 rfl
theorem dX7_releaseUnits_101 : decode cX7_releaseUnits 101 = .ok (.dup, 1) := dg dtX7_releaseUnits_1_ok 7 rfl
theorem dX7_releaseUnits_102 : decode cX7_releaseUnits 102 = .ok (.getfield 218, 3) := dg dtX7_releaseUnits_1_ok 8 rfl
theorem dX7_releaseUnits_105 : decode cX7_releaseUnits 105 = .ok (.iload_n 2, 1) := dg dtX7_releaseUnits_1_ok 9 rfl
theorem dX7_releaseUnits_106 : decode cX7_releaseUnits 106 = .ok (.isub, 1) := dg dtX7_releaseUnits_1_ok 10 rfl
theorem dX7_releaseUnits_107 : decode cX7_releaseUnits 107 = .ok (.putfield 218, 3) := dg dtX7_releaseUnits_1_ok 11 rfl
theorem dX7_releaseUnits_110 : decode cX7_releaseUnits 110 = .ok (.iload 5, 2) := dg dtX7_releaseUnits_1_ok 12 rfl
theorem dX7_releaseUnits_112 : decode cX7_releaseUnits 112 = .ok (.ireturn, 1) := dg dtX7_releaseUnits_1_ok 13 rfl
def dtX7_sampleUnits_0 : List (Nat × Instr × Nat) := [(0, .aload_n 0, 1), (1, .getfield 10, 3), (4, .iload_n 1, 1), (5, .invokevirtual 191, 3), (8, .astore_n 3, 1), (9, .aload_n 3, 1), (10, .ifnonnull 6, 3), (13, .ldc 65, 2), (15, .ireturn, 1), (16, .aload_n 0, 1), (17, .aload_n 3, 1), (18, .iload_n 2, 1), (19, .invokevirtual 307, 3), (22, .istore 4, 2), (24, .iload 4, 2), (26, .ifCond .eq 6, 3), (29, .iload 4, 2), (31, .ireturn, 1), (32, .iload_n 2, 1), (33, .aload_n 0, 1), (34, .getfield 10, 3), (37, .getfield 86, 3), (40, .aload_n 3, 1), (41, .invokevirtual 314, 3), (44, .invokestatic 318, 3), (47, .istore 5, 2), (49, .aload_n 3, 1), (50, .iconst 0, 1), (51, .iload 5, 2), (53, .invokevirtual 311, 3), (56, .istore 6, 2), (58, .aload_n 3, 1), (59, .iload 5, 2), (61, .iload_n 2, 1), (62, .iload 5, 2), (64, .isub, 1), (65, .invokevirtual 311, 3), (68, .istore 7, 2), (70, .aload_n 0, 1), (71, .getfield 10, 3), (74, .aload_n 3, 1), (75, .getfield 195, 3), (78, .invokevirtual 61, 3), (81, .astore 8, 2), (83, .aload 8, 2), (85, .ifnull 15, 3), (88, .aload 8, 2), (90, .getfield 180, 3)]
theorem dtX7_sampleUnits_0_ok : ∀ q ∈ dtX7_sampleUnits_0, decode cX7_sampleUnits q.1 = .ok q.2 := by decide +kernel
theorem dX7_sampleUnits_0 : decode cX7_sampleUnits 0 = .ok (.aload_n 0, 1) := dg dtX7_sampleUnits_0_ok 0 rfl
theorem dX7_sampleUnits_1 : decode cX7_sampleUnits 1 = .ok (.getfield 10, 3) := dg dtX7_sampleUnits_0_ok 1 rfl
theorem dX7_sampleUnits_4 : decode cX7_sampleUnits 4 = .ok (.iload_n 1, 1) := dg dtX7_sampleUnits_0_ok 2 rfl
theorem dX7_sampleUnits_5 : decode cX7_sampleUnits 5 = .ok (.invokevirtual 191, 3) := dg dtX7_sampleUnits_0_ok 3 rfl
theorem dX7_sampleUnits_8 : decode cX7_sampleUnits 8 = .ok (.astore_n 3, 1) := dg dtX7_sampleUnits_0_ok 4 rfl
theorem dX7_sampleUnits_9 : decode cX7_sampleUnits 9 = .ok (.aload_n 3, 1) := dg dtX7_sampleUnits_0_ok 5 rfl
theorem dX7_sampleUnits_10 : decode cX7_sampleUnits 10 = .ok (.ifnonnull 6, 3) := dg dtX7_sampleUnits_0_ok 6 rfl
theorem dX7_sampleUnits_13 : decode cX7_sampleUnits 13 = .ok (.ldc 65, 2) := dg dtX7_sampleUnits_0_ok 7 rfl
theorem dX7_sampleUnits_15 : decode cX7_sampleUnits 15 = .ok (.ireturn, 1) := dg dtX7_sampleUnits_0_ok 8 rfl
theorem dX7_sampleUnits_16 : decode cX7_sampleUnits 16 = .ok (.aload_n 0, 1) := dg dtX7_sampleUnits_0_ok 9 rfl
theorem dX7_sampleUnits_17 : decode cX7_sampleUnits 17 = .ok (.aload_n 3, 1) := dg dtX7_sampleUnits_0_ok 10 rfl
theorem dX7_sampleUnits_18 : decode cX7_sampleUnits 18 = .ok (.iload_n 2, 1) := dg dtX7_sampleUnits_0_ok 11 rfl
theorem dX7_sampleUnits_19 : decode cX7_sampleUnits 19 = .ok (.invokevirtual 307, 3) := dg dtX7_sampleUnits_0_ok 12 rfl
theorem dX7_sampleUnits_22 : decode cX7_sampleUnits 22 = .ok (.istore 4, 2) := dg dtX7_sampleUnits_0_ok 13 rfl
theorem dX7_sampleUnits_24 : decode cX7_sampleUnits 24 = .ok (.iload 4, 2) := dg dtX7_sampleUnits_0_ok 14 rfl
theorem dX7_sampleUnits_26 : decode cX7_sampleUnits 26 = .ok (.ifCond .eq 6, 3) := dg dtX7_sampleUnits_0_ok 15 rfl
theorem dX7_sampleUnits_29 : decode cX7_sampleUnits 29 = .ok (.iload 4, 2) := dg dtX7_sampleUnits_0_ok 16 rfl
theorem dX7_sampleUnits_31 : decode cX7_sampleUnits 31 = .ok (.ireturn, 1) := dg dtX7_sampleUnits_0_ok 17 rfl
theorem dX7_sampleUnits_32 : decode cX7_sampleUnits 32 = .ok (.iload_n 2, 1) := dg dtX7_sampleUnits_0_ok 18 rfl
theorem dX7_sampleUnits_33 : decode cX7_sampleUnits 33 = .ok (.aload_n 0, 1) := dg dtX7_sampleUnits_0_ok 19 rfl
theorem dX7_sampleUnits_34 : decode cX7_sampleUnits 34 = .ok (.getfield 10, 3) := dg dtX7_sampleUnits_0_ok 20 rfl
theorem dX7_sampleUnits_37 : decode cX7_sampleUnits 37 = .ok (.getfield 86, 3) := dg dtX7_sampleUnits_0_ok 21 rfl
theorem dX7_sampleUnits_40 : decode cX7_sampleUnits 40 = .ok (.aload_n 3, 1) := dg dtX7_sampleUnits_0_ok 22 rfl
theorem dX7_sampleUnits_41 : decode cX7_sampleUnits 41 = .ok (.invokevirtual 314, 3) := dg dtX7_sampleUnits_0_ok 23 rfl
theorem dX7_sampleUnits_44 : decode cX7_sampleUnits 44 = .ok (.invokestatic 318, 3) := dg dtX7_sampleUnits_0_ok 24 rfl
theorem dX7_sampleUnits_47 : decode cX7_sampleUnits 47 = .ok (.istore 5, 2) := dg dtX7_sampleUnits_0_ok 25 rfl
theorem dX7_sampleUnits_49 : decode cX7_sampleUnits 49 = .ok (.aload_n 3, 1) := dg dtX7_sampleUnits_0_ok 26 rfl
theorem dX7_sampleUnits_50 : decode cX7_sampleUnits 50 = .ok (.iconst 0, 1) := dg dtX7_sampleUnits_0_ok 27 rfl
theorem dX7_sampleUnits_51 : decode cX7_sampleUnits 51 = .ok (.iload 5, 2) := dg dtX7_sampleUnits_0_ok 28 rfl
theorem dX7_sampleUnits_53 : decode cX7_sampleUnits 53 = .ok (.invokevirtual 311, 3) := dg dtX7_sampleUnits_0_ok 29 rfl
theorem dX7_sampleUnits_56 : decode cX7_sampleUnits 56 = .ok (.istore 6, 2) := dg dtX7_sampleUnits_0_ok 30 rfl
theorem dX7_sampleUnits_58 : decode cX7_sampleUnits 58 = .ok (.aload_n 3, 1) := dg dtX7_sampleUnits_0_ok 31 rfl
theorem dX7_sampleUnits_59 : decode cX7_sampleUnits 59 = .ok (.iload 5, 2) := dg dtX7_sampleUnits_0_ok 32 rfl
theorem dX7_sampleUnits_61 : decode cX7_sampleUnits 61 = .ok (.iload_n 2, 1) := dg dtX7_sampleUnits_0_ok 33 rfl
theorem dX7_sampleUnits_62 : decode cX7_sampleUnits 62 = .ok (.iload 5, 2) := dg dtX7_sampleUnits_0_ok 34 rfl
theorem dX7_sampleUnits_64 : decode cX7_sampleUnits 64 = .ok (.isub, 1) := dg dtX7_sampleUnits_0_ok 35 rfl
theorem dX7_sampleUnits_65 : decode cX7_sampleUnits 65 = .ok (.invokevirtual 311, 3) := dg dtX7_sampleUnits_0_ok 36 rfl
theorem dX7_sampleUnits_68 : decode cX7_sampleUnits 68 = .ok (.istore 7, 2) := dg dtX7_sampleUnits_0_ok 37 rfl
theorem dX7_sampleUnits_70 : decode cX7_sampleUnits 70 = .ok (.aload_n 0, 1) := dg dtX7_sampleUnits_0_ok 38 rfl
theorem dX7_sampleUnits_71 : decode cX7_sampleUnits 71 = .ok (.getfield 10, 3) := dg dtX7_sampleUnits_0_ok 39 rfl
theorem dX7_sampleUnits_74 : decode cX7_sampleUnits 74 = .ok (.aload_n 3, 1) := dg dtX7_sampleUnits_0_ok 40 rfl
theorem dX7_sampleUnits_75 : decode cX7_sampleUnits 75 = .ok (.getfield 195, 3) := dg dtX7_sampleUnits_0_ok 41 rfl
theorem dX7_sampleUnits_78 : decode cX7_sampleUnits 78 = .ok (.invokevirtual 61, 3) := dg dtX7_sampleUnits_0_ok 42 rfl
theorem dX7_sampleUnits_81 : decode cX7_sampleUnits 81 = .ok (.astore 8, 2) := dg dtX7_sampleUnits_0_ok 43 rfl
theorem dX7_sampleUnits_83 : decode cX7_sampleUnits 83 = .ok (.aload 8, 2) := dg dtX7_sampleUnits_0_ok 44 rfl
theorem dX7_sampleUnits_85 : decode cX7_sampleUnits 85 = .ok (.ifnull 15, 3) := dg dtX7_sampleUnits_0_ok 45 rfl
theorem dX7_sampleUnits_88 : decode cX7_sampleUnits 88 = .ok (.aload 8, 2) := dg dtX7_sampleUnits_0_ok 46 rfl
theorem dX7_sampleUnits_90 : decode cX7_sampleUnits 90 = .ok (.getfield 180, 3) := dg dtX7_sampleUnits_0_ok 47 rfl
def dtX7_sampleUnits_1 : List (Nat × Instr × Nat) := [(93, .iload 7, 2), (95, .i2l, 1), (96, .lcmp, 1), (97, .ifCond .ge 9, 3), (100, .aload_n 0, 1), (101, .iconst 3, 1), (102, .invokevirtual 99, 3), (105, .ireturn, 1), (106, .aload 8, 2), (108, .dup, 1), (109, .getfield 180, 3), (112, .iload 7, 2), (114, .i2l, 1), (115, .lsub, 1), (116, .putfield 180, 3), (119, .aload_n 3, 1), (120, .dup, 1), (121, .getfield 227, 3), (124, .iload 6, 2), (126, .iadd, 1), (127, .putfield 227, 3), (130, .aload_n 3, 1), (131, .dup, 1), (132, .getfield 224, 3), (135, .iload 7, 2), (137, .iadd, 1), (138, .putfield 224, 3), (141, .aload_n 3, 1), (142, .dup, 1), (143, .getfield 230, 3), (146, .iload_n 2, 1), (147, .iadd, 1), (148, .putfield 230, 3), (151, .aload_n 3, 1), (152, .dup, 1), (153, .getfield 218, 3), (156, .iload_n 2, 1), (157, .isub, 1), (158, .putfield 218, 3), (161, .iload 7, 2), (163, .ireturn, 1)]
theorem dtX7_sampleUnits_1_ok : ∀ q ∈ dtX7_sampleUnits_1, decode cX7_sampleUnits q.1 = .ok q.2 := by decide +kernel
theorem dX7_sampleUnits_93 : decode cX7_sampleUnits 93 = .ok (.iload 7, 2) := dg dtX7_sampleUnits_1_ok 0 rfl
theorem dX7_sampleUnits_95 : decode cX7_sampleUnits 95 = .ok (.i2l, 1) := dg dtX7_sampleUnits_1_ok 1 rfl
theorem dX7_sampleUnits_96 : decode cX7_sampleUnits 96 = .ok (.lcmp, 1) := dg dtX7_sampleUnits_1_ok 2 rfl
theorem dX7_sampleUnits_97 : decode cX7_sampleUnits 97 = .ok (.ifCond .ge 9, 3) := dg dtX7_sampleUnits_1_ok 3 rfl
theorem dX7_sampleUnits_100 : decode cX7_sampleUnits 100 = .ok (.aload_n 0, 1) := dg dtX7_sampleUnits_1_ok 4 rfl
theorem dX7_sampleUnits_101 : decode cX7_sampleUnits 101 = .ok (.iconst 3, 1) := dg dtX7_sampleUnits_1_ok 5 rfl
theorem dX7_sampleUnits_102 : decode cX7_sampleUnits 102 = .ok (.invokevirtual 99, 3) := dg dtX7_sampleUnits_1_ok 6 rfl
theorem dX7_sampleUnits_105 : decode cX7_sampleUnits 105 = .ok (.ireturn, 1) := dg dtX7_sampleUnits_1_ok 7 rfl
theorem dX7_sampleUnits_106 : decode cX7_sampleUnits 106 = .ok (.aload 8, 2) := dg dtX7_sampleUnits_1_ok 8 rfl
theorem dX7_sampleUnits_108 : decode cX7_sampleUnits 108 = .ok (.dup, 1) := dg dtX7_sampleUnits_1_ok 9 rfl
theorem dX7_sampleUnits_109 : decode cX7_sampleUnits 109 = .ok (.getfield 180, 3) := dg dtX7_sampleUnits_1_ok 10 rfl
theorem dX7_sampleUnits_112 : decode cX7_sampleUnits 112 = .ok (.iload 7, 2) := dg dtX7_sampleUnits_1_ok 11 rfl
theorem dX7_sampleUnits_114 : decode cX7_sampleUnits 114 = .ok (.i2l, 1) := dg dtX7_sampleUnits_1_ok 12 rfl
theorem dX7_sampleUnits_115 : decode cX7_sampleUnits 115 = .ok (.lsub, 1) := dg dtX7_sampleUnits_1_ok 13 rfl
theorem dX7_sampleUnits_116 : decode cX7_sampleUnits 116 = .ok (.putfield 180, 3) := dg dtX7_sampleUnits_1_ok 14 rfl
theorem dX7_sampleUnits_119 : decode cX7_sampleUnits 119 = .ok (.aload_n 3, 1) := dg dtX7_sampleUnits_1_ok 15 rfl
theorem dX7_sampleUnits_120 : decode cX7_sampleUnits 120 = .ok (.dup, 1) := dg dtX7_sampleUnits_1_ok 16 rfl
theorem dX7_sampleUnits_121 : decode cX7_sampleUnits 121 = .ok (.getfield 227, 3) := dg dtX7_sampleUnits_1_ok 17 rfl
theorem dX7_sampleUnits_124 : decode cX7_sampleUnits 124 = .ok (.iload 6, 2) := dg dtX7_sampleUnits_1_ok 18 rfl
theorem dX7_sampleUnits_126 : decode cX7_sampleUnits 126 = .ok (.iadd, 1) := dg dtX7_sampleUnits_1_ok 19 rfl
theorem dX7_sampleUnits_127 : decode cX7_sampleUnits 127 = .ok (.putfield 227, 3) := dg dtX7_sampleUnits_1_ok 20 rfl
theorem dX7_sampleUnits_130 : decode cX7_sampleUnits 130 = .ok (.aload_n 3, 1) := dg dtX7_sampleUnits_1_ok 21 rfl
theorem dX7_sampleUnits_131 : decode cX7_sampleUnits 131 = .ok (.dup, 1) := dg dtX7_sampleUnits_1_ok 22 rfl
theorem dX7_sampleUnits_132 : decode cX7_sampleUnits 132 = .ok (.getfield 224, 3) := dg dtX7_sampleUnits_1_ok 23 rfl
theorem dX7_sampleUnits_135 : decode cX7_sampleUnits 135 = .ok (.iload 7, 2) := dg dtX7_sampleUnits_1_ok 24 rfl
theorem dX7_sampleUnits_137 : decode cX7_sampleUnits 137 = .ok (.iadd, 1) := dg dtX7_sampleUnits_1_ok 25 rfl
theorem dX7_sampleUnits_138 : decode cX7_sampleUnits 138 = .ok (.putfield 224, 3) := dg dtX7_sampleUnits_1_ok 26 rfl
theorem dX7_sampleUnits_141 : decode cX7_sampleUnits 141 = .ok (.aload_n 3, 1) := dg dtX7_sampleUnits_1_ok 27 rfl
theorem dX7_sampleUnits_142 : decode cX7_sampleUnits 142 = .ok (.dup, 1) := dg dtX7_sampleUnits_1_ok 28 rfl
theorem dX7_sampleUnits_143 : decode cX7_sampleUnits 143 = .ok (.getfield 230, 3) := dg dtX7_sampleUnits_1_ok 29 rfl
theorem dX7_sampleUnits_146 : decode cX7_sampleUnits 146 = .ok (.iload_n 2, 1) := dg dtX7_sampleUnits_1_ok 30 rfl
theorem dX7_sampleUnits_147 : decode cX7_sampleUnits 147 = .ok (.iadd, 1) := dg dtX7_sampleUnits_1_ok 31 rfl
theorem dX7_sampleUnits_148 : decode cX7_sampleUnits 148 = .ok (.putfield 230, 3) := dg dtX7_sampleUnits_1_ok 32 rfl
theorem dX7_sampleUnits_151 : decode cX7_sampleUnits 151 = .ok (.aload_n 3, 1) := dg dtX7_sampleUnits_1_ok 33 rfl
theorem dX7_sampleUnits_152 : decode cX7_sampleUnits 152 = .ok (.dup, 1) := dg dtX7_sampleUnits_1_ok 34 rfl
theorem dX7_sampleUnits_153 : decode cX7_sampleUnits 153 = .ok (.getfield 218, 3) := dg dtX7_sampleUnits_1_ok 35 rfl
theorem dX7_sampleUnits_156 : decode cX7_sampleUnits 156 = .ok (.iload_n 2, 1) := dg dtX7_sampleUnits_1_ok 36 rfl
theorem dX7_sampleUnits_157 : decode cX7_sampleUnits 157 = .ok (.isub, 1) := dg dtX7_sampleUnits_1_ok 37 rfl
theorem dX7_sampleUnits_158 : decode cX7_sampleUnits 158 = .ok (.putfield 218, 3) := dg dtX7_sampleUnits_1_ok 38 rfl
theorem dX7_sampleUnits_161 : decode cX7_sampleUnits 161 = .ok (.iload 7, 2) := dg dtX7_sampleUnits_1_ok 39 rfl
theorem dX7_sampleUnits_163 : decode cX7_sampleUnits 163 = .ok (.ireturn, 1) := dg dtX7_sampleUnits_1_ok 40 rfl
def dtX7_exportUnits_0 : List (Nat × Instr × Nat) := [(0, .aload_n 0, 1), (1, .getfield 10, 3), (4, .iload_n 1, 1), (5, .invokevirtual 191, 3), (8, .astore_n 3, 1), (9, .aload_n 3, 1), (10, .ifnonnull 6, 3), (13, .ldc 65, 2), (15, .ireturn, 1), (16, .aload_n 0, 1), (17, .aload_n 3, 1), (18, .iload_n 2, 1), (19, .invokevirtual 307, 3), (22, .istore 4, 2), (24, .iload 4, 2), (26, .ifCond .eq 6, 3), (29, .iload 4, 2), (31, .ireturn, 1), (32, .aload_n 0, 1), (33, .getfield 10, 3), (36, .getfield 276, 3), (39, .istore 5, 2), (41, .iload 5, 2), (43, .bipush 30, 2), (45, .if_icmp .lt 9, 3), (48, .aload_n 0, 1), (49, .iconst 5, 1), (50, .invokevirtual 99, 3), (53, .ireturn, 1), (54, .aload_n 0, 1), (55, .getfield 10, 3), (58, .getfield 279, 3), (61, .iload 5, 2), (63, .aaload, 1), (64, .astore 6, 2), (66, .aload 6, 2), (68, .iload_n 1, 1), (69, .putfield 240, 3), (72, .aload 6, 2), (74, .iload_n 2, 1), (75, .putfield 245, 3), (78, .aload 6, 2), (80, .aload_n 3, 1), (81, .iconst 0, 1), (82, .iload_n 2, 1), (83, .invokevirtual 311, 3), (86, .putfield 248, 3), (89, .aload 6, 2)]
theorem dtX7_exportUnits_0_ok : ∀ q ∈ dtX7_exportUnits_0, decode cX7_exportUnits q.1 = .ok q.2 := by decide +kernel
theorem dX7_exportUnits_0 : decode cX7_exportUnits 0 = .ok (.aload_n 0, 1) := dg dtX7_exportUnits_0_ok 0 rfl
theorem dX7_exportUnits_1 : decode cX7_exportUnits 1 = .ok (.getfield 10, 3) := dg dtX7_exportUnits_0_ok 1 rfl
theorem dX7_exportUnits_4 : decode cX7_exportUnits 4 = .ok (.iload_n 1, 1) := dg dtX7_exportUnits_0_ok 2 rfl
theorem dX7_exportUnits_5 : decode cX7_exportUnits 5 = .ok (.invokevirtual 191, 3) := dg dtX7_exportUnits_0_ok 3 rfl
theorem dX7_exportUnits_8 : decode cX7_exportUnits 8 = .ok (.astore_n 3, 1) := dg dtX7_exportUnits_0_ok 4 rfl
theorem dX7_exportUnits_9 : decode cX7_exportUnits 9 = .ok (.aload_n 3, 1) := dg dtX7_exportUnits_0_ok 5 rfl
theorem dX7_exportUnits_10 : decode cX7_exportUnits 10 = .ok (.ifnonnull 6, 3) := dg dtX7_exportUnits_0_ok 6 rfl
theorem dX7_exportUnits_13 : decode cX7_exportUnits 13 = .ok (.ldc 65, 2) := dg dtX7_exportUnits_0_ok 7 rfl
theorem dX7_exportUnits_15 : decode cX7_exportUnits 15 = .ok (.ireturn, 1) := dg dtX7_exportUnits_0_ok 8 rfl
theorem dX7_exportUnits_16 : decode cX7_exportUnits 16 = .ok (.aload_n 0, 1) := dg dtX7_exportUnits_0_ok 9 rfl
theorem dX7_exportUnits_17 : decode cX7_exportUnits 17 = .ok (.aload_n 3, 1) := dg dtX7_exportUnits_0_ok 10 rfl
theorem dX7_exportUnits_18 : decode cX7_exportUnits 18 = .ok (.iload_n 2, 1) := dg dtX7_exportUnits_0_ok 11 rfl
theorem dX7_exportUnits_19 : decode cX7_exportUnits 19 = .ok (.invokevirtual 307, 3) := dg dtX7_exportUnits_0_ok 12 rfl
theorem dX7_exportUnits_22 : decode cX7_exportUnits 22 = .ok (.istore 4, 2) := dg dtX7_exportUnits_0_ok 13 rfl
theorem dX7_exportUnits_24 : decode cX7_exportUnits 24 = .ok (.iload 4, 2) := dg dtX7_exportUnits_0_ok 14 rfl
theorem dX7_exportUnits_26 : decode cX7_exportUnits 26 = .ok (.ifCond .eq 6, 3) := dg dtX7_exportUnits_0_ok 15 rfl
theorem dX7_exportUnits_29 : decode cX7_exportUnits 29 = .ok (.iload 4, 2) := dg dtX7_exportUnits_0_ok 16 rfl
theorem dX7_exportUnits_31 : decode cX7_exportUnits 31 = .ok (.ireturn, 1) := dg dtX7_exportUnits_0_ok 17 rfl
theorem dX7_exportUnits_32 : decode cX7_exportUnits 32 = .ok (.aload_n 0, 1) := dg dtX7_exportUnits_0_ok 18 rfl
theorem dX7_exportUnits_33 : decode cX7_exportUnits 33 = .ok (.getfield 10, 3) := dg dtX7_exportUnits_0_ok 19 rfl
theorem dX7_exportUnits_36 : decode cX7_exportUnits 36 = .ok (.getfield 276, 3) := dg dtX7_exportUnits_0_ok 20 rfl
theorem dX7_exportUnits_39 : decode cX7_exportUnits 39 = .ok (.istore 5, 2) := dg dtX7_exportUnits_0_ok 21 rfl
theorem dX7_exportUnits_41 : decode cX7_exportUnits 41 = .ok (.iload 5, 2) := dg dtX7_exportUnits_0_ok 22 rfl
theorem dX7_exportUnits_43 : decode cX7_exportUnits 43 = .ok (.bipush 30, 2) := dg dtX7_exportUnits_0_ok 23 rfl
theorem dX7_exportUnits_45 : decode cX7_exportUnits 45 = .ok (.if_icmp .lt 9, 3) := dg dtX7_exportUnits_0_ok 24 rfl
theorem dX7_exportUnits_48 : decode cX7_exportUnits 48 = .ok (.aload_n 0, 1) := dg dtX7_exportUnits_0_ok 25 rfl
theorem dX7_exportUnits_49 : decode cX7_exportUnits 49 = .ok (.iconst 5, 1) := dg dtX7_exportUnits_0_ok 26 rfl
theorem dX7_exportUnits_50 : decode cX7_exportUnits 50 = .ok (.invokevirtual 99, 3) := dg dtX7_exportUnits_0_ok 27 rfl
theorem dX7_exportUnits_53 : decode cX7_exportUnits 53 = .ok (.ireturn, 1) := dg dtX7_exportUnits_0_ok 28 rfl
theorem dX7_exportUnits_54 : decode cX7_exportUnits 54 = .ok (.aload_n 0, 1) := dg dtX7_exportUnits_0_ok 29 rfl
theorem dX7_exportUnits_55 : decode cX7_exportUnits 55 = .ok (.getfield 10, 3) := dg dtX7_exportUnits_0_ok 30 rfl
theorem dX7_exportUnits_58 : decode cX7_exportUnits 58 = .ok (.getfield 279, 3) := dg dtX7_exportUnits_0_ok 31 rfl
theorem dX7_exportUnits_61 : decode cX7_exportUnits 61 = .ok (.iload 5, 2) := dg dtX7_exportUnits_0_ok 32 rfl
theorem dX7_exportUnits_63 : decode cX7_exportUnits 63 = .ok (.aaload, 1) := dg dtX7_exportUnits_0_ok 33 rfl
theorem dX7_exportUnits_64 : decode cX7_exportUnits 64 = .ok (.astore 6, 2) := dg dtX7_exportUnits_0_ok 34 rfl
theorem dX7_exportUnits_66 : decode cX7_exportUnits 66 = .ok (.aload 6, 2) := dg dtX7_exportUnits_0_ok 35 rfl
theorem dX7_exportUnits_68 : decode cX7_exportUnits 68 = .ok (.iload_n 1, 1) := dg dtX7_exportUnits_0_ok 36 rfl
theorem dX7_exportUnits_69 : decode cX7_exportUnits 69 = .ok (.putfield 240, 3) := dg dtX7_exportUnits_0_ok 37 rfl
theorem dX7_exportUnits_72 : decode cX7_exportUnits 72 = .ok (.aload 6, 2) := dg dtX7_exportUnits_0_ok 38 rfl
theorem dX7_exportUnits_74 : decode cX7_exportUnits 74 = .ok (.iload_n 2, 1) := dg dtX7_exportUnits_0_ok 39 rfl
theorem dX7_exportUnits_75 : decode cX7_exportUnits 75 = .ok (.putfield 245, 3) := dg dtX7_exportUnits_0_ok 40 rfl
theorem dX7_exportUnits_78 : decode cX7_exportUnits 78 = .ok (.aload 6, 2) := dg dtX7_exportUnits_0_ok 41 rfl
theorem dX7_exportUnits_80 : decode cX7_exportUnits 80 = .ok (.aload_n 3, 1) := dg dtX7_exportUnits_0_ok 42 rfl
theorem dX7_exportUnits_81 : decode cX7_exportUnits 81 = .ok (.iconst 0, 1) := dg dtX7_exportUnits_0_ok 43 rfl
theorem dX7_exportUnits_82 : decode cX7_exportUnits 82 = .ok (.iload_n 2, 1) := dg dtX7_exportUnits_0_ok 44 rfl
theorem dX7_exportUnits_83 : decode cX7_exportUnits 83 = .ok (.invokevirtual 311, 3) := dg dtX7_exportUnits_0_ok 45 rfl
theorem dX7_exportUnits_86 : decode cX7_exportUnits 86 = .ok (.putfield 248, 3) := dg dtX7_exportUnits_0_ok 46 rfl
theorem dX7_exportUnits_89 : decode cX7_exportUnits 89 = .ok (.aload 6, 2) := dg dtX7_exportUnits_0_ok 47 rfl
def dtX7_exportUnits_1 : List (Nat × Instr × Nat) := [(91, .aload_n 0, 1), (92, .getfield 10, 3), (95, .getfield 265, 3), (98, .aload_n 0, 1), (99, .getfield 10, 3), (102, .getfield 86, 3), (105, .getfield 112, 3), (108, .iadd, 1), (109, .putfield 251, 3), (112, .aload 6, 2), (114, .iconst 0, 1), (115, .putfield 252, 3), (118, .aload_n 3, 1), (119, .dup, 1), (120, .getfield 218, 3), (123, .iload_n 2, 1), (124, .isub, 1), (125, .putfield 218, 3), (128, .aload_n 0, 1), (129, .getfield 10, 3), (132, .iload 5, 2), (134, .iconst 1, 1), (135, .iadd, 1), (136, .putfield 276, 3), (139, .iload 5, 2), (141, .ireturn, 1)]
theorem dtX7_exportUnits_1_ok : ∀ q ∈ dtX7_exportUnits_1, decode cX7_exportUnits q.1 = .ok q.2 := by decide +kernel
theorem dX7_exportUnits_91 : decode cX7_exportUnits 91 = .ok (.aload_n 0, 1) := dg dtX7_exportUnits_1_ok 0 rfl
theorem dX7_exportUnits_92 : decode cX7_exportUnits 92 = .ok (.getfield 10, 3) := dg dtX7_exportUnits_1_ok 1 rfl
theorem dX7_exportUnits_95 : decode cX7_exportUnits 95 = .ok (.getfield 265, 3) := dg dtX7_exportUnits_1_ok 2 rfl
theorem dX7_exportUnits_98 : decode cX7_exportUnits 98 = .ok (.aload_n 0, 1) := dg dtX7_exportUnits_1_ok 3 rfl
theorem dX7_exportUnits_99 : decode cX7_exportUnits 99 = .ok (.getfield 10, 3) := dg dtX7_exportUnits_1_ok 4 rfl
theorem dX7_exportUnits_102 : decode cX7_exportUnits 102 = .ok (.getfield 86, 3) := dg dtX7_exportUnits_1_ok 5 rfl
theorem dX7_exportUnits_105 : decode cX7_exportUnits 105 = .ok (.getfield 112, 3) := dg dtX7_exportUnits_1_ok 6 rfl
theorem dX7_exportUnits_108 : decode cX7_exportUnits 108 = .ok (.iadd, 1) := dg dtX7_exportUnits_1_ok 7 rfl
theorem dX7_exportUnits_109 : decode cX7_exportUnits 109 = .ok (.putfield 251, 3) := dg dtX7_exportUnits_1_ok 8 rfl
theorem dX7_exportUnits_112 : decode cX7_exportUnits 112 = .ok (.aload 6, 2) := dg dtX7_exportUnits_1_ok 9 rfl
theorem dX7_exportUnits_114 : decode cX7_exportUnits 114 = .ok (.iconst 0, 1) := dg dtX7_exportUnits_1_ok 10 rfl
theorem dX7_exportUnits_115 : decode cX7_exportUnits 115 = .ok (.putfield 252, 3) := dg dtX7_exportUnits_1_ok 11 rfl
theorem dX7_exportUnits_118 : decode cX7_exportUnits 118 = .ok (.aload_n 3, 1) := dg dtX7_exportUnits_1_ok 12 rfl
theorem dX7_exportUnits_119 : decode cX7_exportUnits 119 = .ok (.dup, 1) := dg dtX7_exportUnits_1_ok 13 rfl
theorem dX7_exportUnits_120 : decode cX7_exportUnits 120 = .ok (.getfield 218, 3) := dg dtX7_exportUnits_1_ok 14 rfl
theorem dX7_exportUnits_123 : decode cX7_exportUnits 123 = .ok (.iload_n 2, 1) := dg dtX7_exportUnits_1_ok 15 rfl
theorem dX7_exportUnits_124 : decode cX7_exportUnits 124 = .ok (.isub, 1) := dg dtX7_exportUnits_1_ok 16 rfl
theorem dX7_exportUnits_125 : decode cX7_exportUnits 125 = .ok (.putfield 218, 3) := dg dtX7_exportUnits_1_ok 17 rfl
theorem dX7_exportUnits_128 : decode cX7_exportUnits 128 = .ok (.aload_n 0, 1) := dg dtX7_exportUnits_1_ok 18 rfl
theorem dX7_exportUnits_129 : decode cX7_exportUnits 129 = .ok (.getfield 10, 3) := dg dtX7_exportUnits_1_ok 19 rfl
theorem dX7_exportUnits_132 : decode cX7_exportUnits 132 = .ok (.iload 5, 2) := dg dtX7_exportUnits_1_ok 20 rfl
theorem dX7_exportUnits_134 : decode cX7_exportUnits 134 = .ok (.iconst 1, 1) := dg dtX7_exportUnits_1_ok 21 rfl
theorem dX7_exportUnits_135 : decode cX7_exportUnits 135 = .ok (.iadd, 1) := dg dtX7_exportUnits_1_ok 22 rfl
theorem dX7_exportUnits_136 : decode cX7_exportUnits 136 = .ok (.putfield 276, 3) := dg dtX7_exportUnits_1_ok 23 rfl
theorem dX7_exportUnits_139 : decode cX7_exportUnits 139 = .ok (.iload 5, 2) := dg dtX7_exportUnits_1_ok 24 rfl
theorem dX7_exportUnits_141 : decode cX7_exportUnits 141 = .ok (.ireturn, 1) := dg dtX7_exportUnits_1_ok 25 rfl
def dtX7_proveExport_0 : List (Nat × Instr × Nat) := [(0, .aload_n 0, 1), (1, .getfield 10, 3), (4, .iload_n 1, 1), (5, .invokevirtual 236, 3), (8, .astore_n 2, 1), (9, .aload_n 2, 1), (10, .ifnonnull 6, 3), (13, .ldc 65, 2), (15, .ireturn, 1), (16, .aload_n 0, 1), (17, .getfield 10, 3), (20, .aload_n 2, 1), (21, .getfield 240, 3), (24, .invokevirtual 191, 3), (27, .astore_n 3, 1), (28, .aload_n 3, 1), (29, .ifnull 10, 3), (32, .aload_n 2, 1), (33, .invokevirtual 323, 3), (36, .ifCond .ne 10, 3), (39, .aload_n 0, 1), (40, .bipush 6, 2), (42, .invokevirtual 99, 3), (45, .ireturn, 1), (46, .aload_n 2, 1), (47, .iconst 1, 1), (48, .putfield 252, 3), (51, .aload_n 3, 1), (52, .dup, 1), (53, .getfield 227, 3), (56, .aload_n 2, 1), (57, .getfield 248, 3), (60, .iadd, 1), (61, .putfield 227, 3), (64, .aload_n 2, 1), (65, .getfield 248, 3), (68, .ireturn, 1)]
theorem dtX7_proveExport_0_ok : ∀ q ∈ dtX7_proveExport_0, decode cX7_proveExport q.1 = .ok q.2 := by decide +kernel
theorem dX7_proveExport_0 : decode cX7_proveExport 0 = .ok (.aload_n 0, 1) := dg dtX7_proveExport_0_ok 0 rfl
theorem dX7_proveExport_1 : decode cX7_proveExport 1 = .ok (.getfield 10, 3) := dg dtX7_proveExport_0_ok 1 rfl
theorem dX7_proveExport_4 : decode cX7_proveExport 4 = .ok (.iload_n 1, 1) := dg dtX7_proveExport_0_ok 2 rfl
theorem dX7_proveExport_5 : decode cX7_proveExport 5 = .ok (.invokevirtual 236, 3) := dg dtX7_proveExport_0_ok 3 rfl
theorem dX7_proveExport_8 : decode cX7_proveExport 8 = .ok (.astore_n 2, 1) := dg dtX7_proveExport_0_ok 4 rfl
theorem dX7_proveExport_9 : decode cX7_proveExport 9 = .ok (.aload_n 2, 1) := dg dtX7_proveExport_0_ok 5 rfl
theorem dX7_proveExport_10 : decode cX7_proveExport 10 = .ok (.ifnonnull 6, 3) := dg dtX7_proveExport_0_ok 6 rfl
theorem dX7_proveExport_13 : decode cX7_proveExport 13 = .ok (.ldc 65, 2) := dg dtX7_proveExport_0_ok 7 rfl
theorem dX7_proveExport_15 : decode cX7_proveExport 15 = .ok (.ireturn, 1) := dg dtX7_proveExport_0_ok 8 rfl
theorem dX7_proveExport_16 : decode cX7_proveExport 16 = .ok (.aload_n 0, 1) := dg dtX7_proveExport_0_ok 9 rfl
theorem dX7_proveExport_17 : decode cX7_proveExport 17 = .ok (.getfield 10, 3) := dg dtX7_proveExport_0_ok 10 rfl
theorem dX7_proveExport_20 : decode cX7_proveExport 20 = .ok (.aload_n 2, 1) := dg dtX7_proveExport_0_ok 11 rfl
theorem dX7_proveExport_21 : decode cX7_proveExport 21 = .ok (.getfield 240, 3) := dg dtX7_proveExport_0_ok 12 rfl
theorem dX7_proveExport_24 : decode cX7_proveExport 24 = .ok (.invokevirtual 191, 3) := dg dtX7_proveExport_0_ok 13 rfl
theorem dX7_proveExport_27 : decode cX7_proveExport 27 = .ok (.astore_n 3, 1) := dg dtX7_proveExport_0_ok 14 rfl
theorem dX7_proveExport_28 : decode cX7_proveExport 28 = .ok (.aload_n 3, 1) := dg dtX7_proveExport_0_ok 15 rfl
theorem dX7_proveExport_29 : decode cX7_proveExport 29 = .ok (.ifnull 10, 3) := dg dtX7_proveExport_0_ok 16 rfl
theorem dX7_proveExport_32 : decode cX7_proveExport 32 = .ok (.aload_n 2, 1) := dg dtX7_proveExport_0_ok 17 rfl
theorem dX7_proveExport_33 : decode cX7_proveExport 33 = .ok (.invokevirtual 323, 3) := dg dtX7_proveExport_0_ok 18 rfl
theorem dX7_proveExport_36 : decode cX7_proveExport 36 = .ok (.ifCond .ne 10, 3) := dg dtX7_proveExport_0_ok 19 rfl
theorem dX7_proveExport_39 : decode cX7_proveExport 39 = .ok (.aload_n 0, 1) := dg dtX7_proveExport_0_ok 20 rfl
theorem dX7_proveExport_40 : decode cX7_proveExport 40 = .ok (.bipush 6, 2) := dg dtX7_proveExport_0_ok 21 rfl
theorem dX7_proveExport_42 : decode cX7_proveExport 42 = .ok (.invokevirtual 99, 3) := dg dtX7_proveExport_0_ok 22 rfl
theorem dX7_proveExport_45 : decode cX7_proveExport 45 = .ok (.ireturn, 1) := dg dtX7_proveExport_0_ok 23 rfl
theorem dX7_proveExport_46 : decode cX7_proveExport 46 = .ok (.aload_n 2, 1) := dg dtX7_proveExport_0_ok 24 rfl
theorem dX7_proveExport_47 : decode cX7_proveExport 47 = .ok (.iconst 1, 1) := dg dtX7_proveExport_0_ok 25 rfl
theorem dX7_proveExport_48 : decode cX7_proveExport 48 = .ok (.putfield 252, 3) := dg dtX7_proveExport_0_ok 26 rfl
theorem dX7_proveExport_51 : decode cX7_proveExport 51 = .ok (.aload_n 3, 1) := dg dtX7_proveExport_0_ok 27 rfl
theorem dX7_proveExport_52 : decode cX7_proveExport 52 = .ok (.dup, 1) := dg dtX7_proveExport_0_ok 28 rfl
theorem dX7_proveExport_53 : decode cX7_proveExport 53 = .ok (.getfield 227, 3) := dg dtX7_proveExport_0_ok 29 rfl
theorem dX7_proveExport_56 : decode cX7_proveExport 56 = .ok (.aload_n 2, 1) := dg dtX7_proveExport_0_ok 30 rfl
theorem dX7_proveExport_57 : decode cX7_proveExport 57 = .ok (.getfield 248, 3) := dg dtX7_proveExport_0_ok 31 rfl
theorem dX7_proveExport_60 : decode cX7_proveExport 60 = .ok (.iadd, 1) := dg dtX7_proveExport_0_ok 32 rfl
theorem dX7_proveExport_61 : decode cX7_proveExport 61 = .ok (.putfield 227, 3) := dg dtX7_proveExport_0_ok 33 rfl
theorem dX7_proveExport_64 : decode cX7_proveExport 64 = .ok (.aload_n 2, 1) := dg dtX7_proveExport_0_ok 34 rfl
theorem dX7_proveExport_65 : decode cX7_proveExport 65 = .ok (.getfield 248, 3) := dg dtX7_proveExport_0_ok 35 rfl
theorem dX7_proveExport_68 : decode cX7_proveExport 68 = .ok (.ireturn, 1) := dg dtX7_proveExport_0_ok 36 rfl
def dtX7_destroyUnits_0 : List (Nat × Instr × Nat) := [(0, .aload_n 0, 1), (1, .getfield 10, 3), (4, .iload_n 1, 1), (5, .invokevirtual 191, 3), (8, .astore_n 3, 1), (9, .aload_n 3, 1), (10, .ifnonnull 6, 3), (13, .ldc 65, 2), (15, .ireturn, 1), (16, .aload_n 0, 1), (17, .aload_n 3, 1), (18, .iload_n 2, 1), (19, .invokevirtual 307, 3), (22, .istore 4, 2), (24, .iload 4, 2), (26, .ifCond .eq 6, 3), (29, .iload 4, 2), (31, .ireturn, 1), (32, .iload_n 2, 1), (33, .i2l, 1), (34, .aload_n 0, 1), (35, .getfield 10, 3), (38, .getfield 86, 3), (41, .getfield 121, 3), (44, .i2l, 1), (45, .lmul, 1), (46, .lstore 5, 2), (48, .aload_n 0, 1), (49, .getfield 10, 3), (52, .aload_n 3, 1), (53, .getfield 195, 3), (56, .invokevirtual 61, 3), (59, .astore 7, 2), (61, .aload 7, 2), (63, .ifnull 14, 3), (66, .aload 7, 2), (68, .getfield 180, 3), (71, .lload 5, 2), (73, .lcmp, 1), (74, .ifCond .ge 9, 3), (77, .aload_n 0, 1), (78, .iconst 3, 1), (79, .invokevirtual 99, 3), (82, .ireturn, 1), (83, .aload_n 3, 1), (84, .iconst 0, 1), (85, .iload_n 2, 1), (86, .invokevirtual 311, 3)]
theorem dtX7_destroyUnits_0_ok : ∀ q ∈ dtX7_destroyUnits_0, decode cX7_destroyUnits q.1 = .ok q.2 := by decide +kernel
theorem dX7_destroyUnits_0 : decode cX7_destroyUnits 0 = .ok (.aload_n 0, 1) := dg dtX7_destroyUnits_0_ok 0 rfl
theorem dX7_destroyUnits_1 : decode cX7_destroyUnits 1 = .ok (.getfield 10, 3) := dg dtX7_destroyUnits_0_ok 1 rfl
theorem dX7_destroyUnits_4 : decode cX7_destroyUnits 4 = .ok (.iload_n 1, 1) := dg dtX7_destroyUnits_0_ok 2 rfl
theorem dX7_destroyUnits_5 : decode cX7_destroyUnits 5 = .ok (.invokevirtual 191, 3) := dg dtX7_destroyUnits_0_ok 3 rfl
theorem dX7_destroyUnits_8 : decode cX7_destroyUnits 8 = .ok (.astore_n 3, 1) := dg dtX7_destroyUnits_0_ok 4 rfl
theorem dX7_destroyUnits_9 : decode cX7_destroyUnits 9 = .ok (.aload_n 3, 1) := dg dtX7_destroyUnits_0_ok 5 rfl
theorem dX7_destroyUnits_10 : decode cX7_destroyUnits 10 = .ok (.ifnonnull 6, 3) := dg dtX7_destroyUnits_0_ok 6 rfl
theorem dX7_destroyUnits_13 : decode cX7_destroyUnits 13 = .ok (.ldc 65, 2) := dg dtX7_destroyUnits_0_ok 7 rfl
theorem dX7_destroyUnits_15 : decode cX7_destroyUnits 15 = .ok (.ireturn, 1) := dg dtX7_destroyUnits_0_ok 8 rfl
theorem dX7_destroyUnits_16 : decode cX7_destroyUnits 16 = .ok (.aload_n 0, 1) := dg dtX7_destroyUnits_0_ok 9 rfl
theorem dX7_destroyUnits_17 : decode cX7_destroyUnits 17 = .ok (.aload_n 3, 1) := dg dtX7_destroyUnits_0_ok 10 rfl
theorem dX7_destroyUnits_18 : decode cX7_destroyUnits 18 = .ok (.iload_n 2, 1) := dg dtX7_destroyUnits_0_ok 11 rfl
theorem dX7_destroyUnits_19 : decode cX7_destroyUnits 19 = .ok (.invokevirtual 307, 3) := dg dtX7_destroyUnits_0_ok 12 rfl
theorem dX7_destroyUnits_22 : decode cX7_destroyUnits 22 = .ok (.istore 4, 2) := dg dtX7_destroyUnits_0_ok 13 rfl
theorem dX7_destroyUnits_24 : decode cX7_destroyUnits 24 = .ok (.iload 4, 2) := dg dtX7_destroyUnits_0_ok 14 rfl
theorem dX7_destroyUnits_26 : decode cX7_destroyUnits 26 = .ok (.ifCond .eq 6, 3) := dg dtX7_destroyUnits_0_ok 15 rfl
theorem dX7_destroyUnits_29 : decode cX7_destroyUnits 29 = .ok (.iload 4, 2) := dg dtX7_destroyUnits_0_ok 16 rfl
theorem dX7_destroyUnits_31 : decode cX7_destroyUnits 31 = .ok (.ireturn, 1) := dg dtX7_destroyUnits_0_ok 17 rfl
theorem dX7_destroyUnits_32 : decode cX7_destroyUnits 32 = .ok (.iload_n 2, 1) := dg dtX7_destroyUnits_0_ok 18 rfl
theorem dX7_destroyUnits_33 : decode cX7_destroyUnits 33 = .ok (.i2l, 1) := dg dtX7_destroyUnits_0_ok 19 rfl
theorem dX7_destroyUnits_34 : decode cX7_destroyUnits 34 = .ok (.aload_n 0, 1) := dg dtX7_destroyUnits_0_ok 20 rfl
theorem dX7_destroyUnits_35 : decode cX7_destroyUnits 35 = .ok (.getfield 10, 3) := dg dtX7_destroyUnits_0_ok 21 rfl
theorem dX7_destroyUnits_38 : decode cX7_destroyUnits 38 = .ok (.getfield 86, 3) := dg dtX7_destroyUnits_0_ok 22 rfl
theorem dX7_destroyUnits_41 : decode cX7_destroyUnits 41 = .ok (.getfield 121, 3) := dg dtX7_destroyUnits_0_ok 23 rfl
theorem dX7_destroyUnits_44 : decode cX7_destroyUnits 44 = .ok (.i2l, 1) := dg dtX7_destroyUnits_0_ok 24 rfl
theorem dX7_destroyUnits_45 : decode cX7_destroyUnits 45 = .ok (.lmul, 1) := dg dtX7_destroyUnits_0_ok 25 rfl
theorem dX7_destroyUnits_46 : decode cX7_destroyUnits 46 = .ok (.lstore 5, 2) := dg dtX7_destroyUnits_0_ok 26 rfl
theorem dX7_destroyUnits_48 : decode cX7_destroyUnits 48 = .ok (.aload_n 0, 1) := dg dtX7_destroyUnits_0_ok 27 rfl
theorem dX7_destroyUnits_49 : decode cX7_destroyUnits 49 = .ok (.getfield 10, 3) := dg dtX7_destroyUnits_0_ok 28 rfl
theorem dX7_destroyUnits_52 : decode cX7_destroyUnits 52 = .ok (.aload_n 3, 1) := dg dtX7_destroyUnits_0_ok 29 rfl
theorem dX7_destroyUnits_53 : decode cX7_destroyUnits 53 = .ok (.getfield 195, 3) := dg dtX7_destroyUnits_0_ok 30 rfl
theorem dX7_destroyUnits_56 : decode cX7_destroyUnits 56 = .ok (.invokevirtual 61, 3) := dg dtX7_destroyUnits_0_ok 31 rfl
theorem dX7_destroyUnits_59 : decode cX7_destroyUnits 59 = .ok (.astore 7, 2) := dg dtX7_destroyUnits_0_ok 32 rfl
theorem dX7_destroyUnits_61 : decode cX7_destroyUnits 61 = .ok (.aload 7, 2) := dg dtX7_destroyUnits_0_ok 33 rfl
theorem dX7_destroyUnits_63 : decode cX7_destroyUnits 63 = .ok (.ifnull 14, 3) := dg dtX7_destroyUnits_0_ok 34 rfl
theorem dX7_destroyUnits_66 : decode cX7_destroyUnits 66 = .ok (.aload 7, 2) := dg dtX7_destroyUnits_0_ok 35 rfl
theorem dX7_destroyUnits_68 : decode cX7_destroyUnits 68 = .ok (.getfield 180, 3) := dg dtX7_destroyUnits_0_ok 36 rfl
theorem dX7_destroyUnits_71 : decode cX7_destroyUnits 71 = .ok (.lload 5, 2) := dg dtX7_destroyUnits_0_ok 37 rfl
theorem dX7_destroyUnits_73 : decode cX7_destroyUnits 73 = .ok (.lcmp, 1) := dg dtX7_destroyUnits_0_ok 38 rfl
theorem dX7_destroyUnits_74 : decode cX7_destroyUnits 74 = .ok (.ifCond .ge 9, 3) := dg dtX7_destroyUnits_0_ok 39 rfl
theorem dX7_destroyUnits_77 : decode cX7_destroyUnits 77 = .ok (.aload_n 0, 1) := dg dtX7_destroyUnits_0_ok 40 rfl
theorem dX7_destroyUnits_78 : decode cX7_destroyUnits 78 = .ok (.iconst 3, 1) := dg dtX7_destroyUnits_0_ok 41 rfl
theorem dX7_destroyUnits_79 : decode cX7_destroyUnits 79 = .ok (.invokevirtual 99, 3) := dg dtX7_destroyUnits_0_ok 42 rfl
theorem dX7_destroyUnits_82 : decode cX7_destroyUnits 82 = .ok (.ireturn, 1) := dg dtX7_destroyUnits_0_ok 43 rfl
theorem dX7_destroyUnits_83 : decode cX7_destroyUnits 83 = .ok (.aload_n 3, 1) := dg dtX7_destroyUnits_0_ok 44 rfl
theorem dX7_destroyUnits_84 : decode cX7_destroyUnits 84 = .ok (.iconst 0, 1) := dg dtX7_destroyUnits_0_ok 45 rfl
theorem dX7_destroyUnits_85 : decode cX7_destroyUnits 85 = .ok (.iload_n 2, 1) := dg dtX7_destroyUnits_0_ok 46 rfl
theorem dX7_destroyUnits_86 : decode cX7_destroyUnits 86 = .ok (.invokevirtual 311, 3) := dg dtX7_destroyUnits_0_ok 47 rfl
