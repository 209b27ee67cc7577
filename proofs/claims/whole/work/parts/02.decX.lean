def ax_decs (cc : ByteArray) (l : List (Nat × (Instr × Nat))) : Bool := l.all (fun e => match decode cc e.1 with | .ok r => decide (r = e.2) | _ => false)
theorem ax_dec {cc : ByteArray} {l : List (Nat × (Instr × Nat))} (h : ax_decs cc l = true) (i : Nat) (e : Nat × (Instr × Nat)) (hi : l[i]? = some e) : decode cc e.1 = .ok e.2 := by
  have h1 := List.all_eq_true.mp h e (List.mem_of_getElem? hi)
  cases hd : decode cc e.1 with
  | ok r =>
    rw [hd] at h1
    rw [of_decide_eq_true h1]
  | error x =>
    rw [hd] at h1
    cases h1
def dX0_init_q0 : List (Nat × (Instr × Nat)) := [(0, .aload_n 0, 1), (1, .invokespecial 3, 3), (4, .aload_n 0, 1), (5, .iload_n 1, 1), (6, .putfield 9, 3), (9, .aload_n 0, 1), (10, .aload_n 2, 1), (11, .putfield 15, 3), (14, .aload_n 0, 1), (15, .iload_n 3, 1), (16, .putfield 19, 3), (19, .aload_n 0, 1), (20, .iload 4, 2), (22, .bipush 10, 2), (24, .idiv, 1), (25, .putfield 22, 3), (28, .aload_n 0, 1), (29, .iload 4, 2), (31, .bipush 10, 2), (33, .irem, 1), (34, .putfield 25, 3), (37, .aload_n 0, 1), (38, .iload 5, 2), (40, .bipush 10, 2), (42, .idiv, 1), (43, .putfield 28, 3), (46, .aload_n 0, 1), (47, .iload 5, 2), (49, .bipush 10, 2), (51, .irem, 1), (52, .putfield 31, 3), (55, .return_, 1)]
set_option maxRecDepth 100000 in
theorem dX0_init_q0_ok : ax_decs cX0_init dX0_init_q0 = true := by decide +kernel
theorem dX0_init_0 : decode cX0_init 0 = .ok (.aload_n 0, 1) := ax_dec dX0_init_q0_ok 0 (0, .aload_n 0, 1) rfl
theorem dX0_init_1 : decode cX0_init 1 = .ok (.invokespecial 3, 3) := ax_dec dX0_init_q0_ok 1 (1, .invokespecial 3, 3) rfl
theorem dX0_init_4 : decode cX0_init 4 = .ok (.aload_n 0, 1) := ax_dec dX0_init_q0_ok 2 (4, .aload_n 0, 1) rfl
theorem dX0_init_5 : decode cX0_init 5 = .ok (.iload_n 1, 1) := ax_dec dX0_init_q0_ok 3 (5, .iload_n 1, 1) rfl
theorem dX0_init_6 : decode cX0_init 6 = .ok (.putfield 9, 3) := ax_dec dX0_init_q0_ok 4 (6, .putfield 9, 3) rfl
theorem dX0_init_9 : decode cX0_init 9 = .ok (.aload_n 0, 1) := ax_dec dX0_init_q0_ok 5 (9, .aload_n 0, 1) rfl
theorem dX0_init_10 : decode cX0_init 10 = .ok (.aload_n 2, 1) := ax_dec dX0_init_q0_ok 6 (10, .aload_n 2, 1) rfl
theorem dX0_init_11 : decode cX0_init 11 = .ok (.putfield 15, 3) := ax_dec dX0_init_q0_ok 7 (11, .putfield 15, 3) rfl
theorem dX0_init_14 : decode cX0_init 14 = .ok (.aload_n 0, 1) := ax_dec dX0_init_q0_ok 8 (14, .aload_n 0, 1) rfl
theorem dX0_init_15 : decode cX0_init 15 = .ok (.iload_n 3, 1) := ax_dec dX0_init_q0_ok 9 (15, .iload_n 3, 1) rfl
theorem dX0_init_16 : decode cX0_init 16 = .ok (.putfield 19, 3) := ax_dec dX0_init_q0_ok 10 (16, .putfield 19, 3) rfl
theorem dX0_init_19 : decode cX0_init 19 = .ok (.aload_n 0, 1) := ax_dec dX0_init_q0_ok 11 (19, .aload_n 0, 1) rfl
theorem dX0_init_20 : decode cX0_init 20 = .ok (.iload 4, 2) := ax_dec dX0_init_q0_ok 12 (20, .iload 4, 2) rfl
theorem dX0_init_22 : decode cX0_init 22 = .ok (.bipush 10, 2) := ax_dec dX0_init_q0_ok 13 (22, .bipush 10, 2) rfl
theorem dX0_init_24 : decode cX0_init 24 = .ok (.idiv, 1) := ax_dec dX0_init_q0_ok 14 (24, .idiv, 1) rfl
theorem dX0_init_25 : decode cX0_init 25 = .ok (.putfield 22, 3) := ax_dec dX0_init_q0_ok 15 (25, .putfield 22, 3) rfl
theorem dX0_init_28 : decode cX0_init 28 = .ok (.aload_n 0, 1) := ax_dec dX0_init_q0_ok 16 (28, .aload_n 0, 1) rfl
theorem dX0_init_29 : decode cX0_init 29 = .ok (.iload 4, 2) := ax_dec dX0_init_q0_ok 17 (29, .iload 4, 2) rfl
theorem dX0_init_31 : decode cX0_init 31 = .ok (.bipush 10, 2) := ax_dec dX0_init_q0_ok 18 (31, .bipush 10, 2) rfl
theorem dX0_init_33 : decode cX0_init 33 = .ok (.irem, 1) := ax_dec dX0_init_q0_ok 19 (33, .irem, 1) rfl
theorem dX0_init_34 : decode cX0_init 34 = .ok (.putfield 25, 3) := ax_dec dX0_init_q0_ok 20 (34, .putfield 25, 3) rfl
theorem dX0_init_37 : decode cX0_init 37 = .ok (.aload_n 0, 1) := ax_dec dX0_init_q0_ok 21 (37, .aload_n 0, 1) rfl
theorem dX0_init_38 : decode cX0_init 38 = .ok (.iload 5, 2) := ax_dec dX0_init_q0_ok 22 (38, .iload 5, 2) rfl
theorem dX0_init_40 : decode cX0_init 40 = .ok (.bipush 10, 2) := ax_dec dX0_init_q0_ok 23 (40, .bipush 10, 2) rfl
theorem dX0_init_42 : decode cX0_init 42 = .ok (.idiv, 1) := ax_dec dX0_init_q0_ok 24 (42, .idiv, 1) rfl
theorem dX0_init_43 : decode cX0_init 43 = .ok (.putfield 28, 3) := ax_dec dX0_init_q0_ok 25 (43, .putfield 28, 3) rfl
theorem dX0_init_46 : decode cX0_init 46 = .ok (.aload_n 0, 1) := ax_dec dX0_init_q0_ok 26 (46, .aload_n 0, 1) rfl
theorem dX0_init_47 : decode cX0_init 47 = .ok (.iload 5, 2) := ax_dec dX0_init_q0_ok 27 (47, .iload 5, 2) rfl
theorem dX0_init_49 : decode cX0_init 49 = .ok (.bipush 10, 2) := ax_dec dX0_init_q0_ok 28 (49, .bipush 10, 2) rfl
theorem dX0_init_51 : decode cX0_init 51 = .ok (.irem, 1) := ax_dec dX0_init_q0_ok 29 (51, .irem, 1) rfl
theorem dX0_init_52 : decode cX0_init 52 = .ok (.putfield 31, 3) := ax_dec dX0_init_q0_ok 30 (52, .putfield 31, 3) rfl
theorem dX0_init_55 : decode cX0_init 55 = .ok (.return_, 1) := ax_dec dX0_init_q0_ok 31 (55, .return_, 1) rfl
def dX0_isOne_q0 : List (Nat × (Instr × Nat)) := [(0, .iload_n 1, 1), (1, .ifCond .eq 11, 3), (4, .iload_n 1, 1), (5, .aload_n 0, 1), (6, .getfield 19, 3), (9, .if_icmp .ne 5, 3), (12, .iconst 1, 1), (13, .ireturn, 1), (14, .iload_n 1, 1), (15, .iconst 1, 1), (16, .if_icmp .ne 11, 3), (19, .aload_n 0, 1), (20, .getfield 19, 3), (23, .iconst 3, 1), (24, .if_icmp .eq 16, 3), (27, .iload_n 1, 1), (28, .iconst 2, 1), (29, .if_icmp .ne 15, 3), (32, .aload_n 0, 1), (33, .getfield 19, 3), (36, .iconst 4, 1), (37, .if_icmp .ne 7, 3), (40, .iconst 1, 1), (41, .goto 4, 3), (44, .iconst 0, 1), (45, .ireturn, 1)]
set_option maxRecDepth 100000 in
theorem dX0_isOne_q0_ok : ax_decs cX0_isOne dX0_isOne_q0 = true := by decide +kernel
theorem dX0_isOne_0 : decode cX0_isOne 0 = .ok (.iload_n 1, 1) := ax_dec dX0_isOne_q0_ok 0 (0, .iload_n 1, 1) rfl
theorem dX0_isOne_1 : decode cX0_isOne 1 = .ok (.ifCond .eq 11, 3) := ax_dec dX0_isOne_q0_ok 1 (1, .ifCond .eq 11, 3) rfl
theorem dX0_isOne_4 : decode cX0_isOne 4 = .ok (.iload_n 1, 1) := ax_dec dX0_isOne_q0_ok 2 (4, .iload_n 1, 1) rfl
theorem dX0_isOne_5 : decode cX0_isOne 5 = .ok (.aload_n 0, 1) := ax_dec dX0_isOne_q0_ok 3 (5, .aload_n 0, 1) rfl
theorem dX0_isOne_6 : decode cX0_isOne 6 = .ok (.getfield 19, 3) := ax_dec dX0_isOne_q0_ok 4 (6, .getfield 19, 3) rfl
theorem dX0_isOne_9 : decode cX0_isOne 9 = .ok (.if_icmp .ne 5, 3) := ax_dec dX0_isOne_q0_ok 5 (9, .if_icmp .ne 5, 3) rfl
theorem dX0_isOne_12 : decode cX0_isOne 12 = .ok (.iconst 1, 1) := ax_dec dX0_isOne_q0_ok 6 (12, .iconst 1, 1) rfl
theorem dX0_isOne_13 : decode cX0_isOne 13 = .ok (.ireturn, 1) := ax_dec dX0_isOne_q0_ok 7 (13, .ireturn, 1) rfl
theorem dX0_isOne_14 : decode cX0_isOne 14 = .ok (.iload_n 1, 1) := ax_dec dX0_isOne_q0_ok 8 (14, .iload_n 1, 1) rfl
theorem dX0_isOne_15 : decode cX0_isOne 15 = .ok (.iconst 1, 1) := ax_dec dX0_isOne_q0_ok 9 (15, .iconst 1, 1) rfl
theorem dX0_isOne_16 : decode cX0_isOne 16 = .ok (.if_icmp .ne 11, 3) := ax_dec dX0_isOne_q0_ok 10 (16, .if_icmp .ne 11, 3) rfl
theorem dX0_isOne_19 : decode cX0_isOne 19 = .ok (.aload_n 0, 1) := ax_dec dX0_isOne_q0_ok 11 (19, .aload_n 0, 1) rfl
theorem dX0_isOne_20 : decode cX0_isOne 20 = .ok (.getfield 19, 3) := ax_dec dX0_isOne_q0_ok 12 (20, .getfield 19, 3) rfl
theorem dX0_isOne_23 : decode cX0_isOne 23 = .ok (.iconst 3, 1) := ax_dec dX0_isOne_q0_ok 13 (23, .iconst 3, 1) rfl
theorem dX0_isOne_24 : decode cX0_isOne 24 = .ok (.if_icmp .eq 16, 3) := ax_dec dX0_isOne_q0_ok 14 (24, .if_icmp .eq 16, 3) rfl
theorem dX0_isOne_27 : decode cX0_isOne 27 = .ok (.iload_n 1, 1) := ax_dec dX0_isOne_q0_ok 15 (27, .iload_n 1, 1) rfl
theorem dX0_isOne_28 : decode cX0_isOne 28 = .ok (.iconst 2, 1) := ax_dec dX0_isOne_q0_ok 16 (28, .iconst 2, 1) rfl
theorem dX0_isOne_29 : decode cX0_isOne 29 = .ok (.if_icmp .ne 15, 3) := ax_dec dX0_isOne_q0_ok 17 (29, .if_icmp .ne 15, 3) rfl
theorem dX0_isOne_32 : decode cX0_isOne 32 = .ok (.aload_n 0, 1) := ax_dec dX0_isOne_q0_ok 18 (32, .aload_n 0, 1) rfl
theorem dX0_isOne_33 : decode cX0_isOne 33 = .ok (.getfield 19, 3) := ax_dec dX0_isOne_q0_ok 19 (33, .getfield 19, 3) rfl
theorem dX0_isOne_36 : decode cX0_isOne 36 = .ok (.iconst 4, 1) := ax_dec dX0_isOne_q0_ok 20 (36, .iconst 4, 1) rfl
theorem dX0_isOne_37 : decode cX0_isOne 37 = .ok (.if_icmp .ne 7, 3) := ax_dec dX0_isOne_q0_ok 21 (37, .if_icmp .ne 7, 3) rfl
theorem dX0_isOne_40 : decode cX0_isOne 40 = .ok (.iconst 1, 1) := ax_dec dX0_isOne_q0_ok 22 (40, .iconst 1, 1) rfl
theorem dX0_isOne_41 : decode cX0_isOne 41 = .ok (.goto 4, 3) := ax_dec dX0_isOne_q0_ok 23 (41, .goto 4, 3) rfl
theorem dX0_isOne_44 : decode cX0_isOne 44 = .ok (.iconst 0, 1) := ax_dec dX0_isOne_q0_ok 24 (44, .iconst 0, 1) rfl
theorem dX0_isOne_45 : decode cX0_isOne 45 = .ok (.ireturn, 1) := ax_dec dX0_isOne_q0_ok 25 (45, .ireturn, 1) rfl
def dX0_grows_q0 : List (Nat × (Instr × Nat)) := [(0, .aload_n 0, 1), (1, .iconst 1, 1), (2, .invokevirtual 34, 3), (5, .ifCond .eq 10, 3), (8, .iload_n 1, 1), (9, .aload_n 0, 1), (10, .getfield 31, 3), (13, .iadd, 1), (14, .ireturn, 1), (15, .aload_n 0, 1), (16, .getfield 19, 3), (19, .iconst 5, 1), (20, .if_icmp .ne 9, 3), (23, .iload_n 1, 1), (24, .iconst 2, 1), (25, .idiv, 1), (26, .goto 4, 3), (29, .iload_n 1, 1), (30, .ireturn, 1)]
set_option maxRecDepth 100000 in
theorem dX0_grows_q0_ok : ax_decs cX0_grows dX0_grows_q0 = true := by decide +kernel
theorem dX0_grows_0 : decode cX0_grows 0 = .ok (.aload_n 0, 1) := ax_dec dX0_grows_q0_ok 0 (0, .aload_n 0, 1) rfl
theorem dX0_grows_1 : decode cX0_grows 1 = .ok (.iconst 1, 1) := ax_dec dX0_grows_q0_ok 1 (1, .iconst 1, 1) rfl
theorem dX0_grows_2 : decode cX0_grows 2 = .ok (.invokevirtual 34, 3) := ax_dec dX0_grows_q0_ok 2 (2, .invokevirtual 34, 3) rfl
theorem dX0_grows_5 : decode cX0_grows 5 = .ok (.ifCond .eq 10, 3) := ax_dec dX0_grows_q0_ok 3 (5, .ifCond .eq 10, 3) rfl
theorem dX0_grows_8 : decode cX0_grows 8 = .ok (.iload_n 1, 1) := ax_dec dX0_grows_q0_ok 4 (8, .iload_n 1, 1) rfl
theorem dX0_grows_9 : decode cX0_grows 9 = .ok (.aload_n 0, 1) := ax_dec dX0_grows_q0_ok 5 (9, .aload_n 0, 1) rfl
theorem dX0_grows_10 : decode cX0_grows 10 = .ok (.getfield 31, 3) := ax_dec dX0_grows_q0_ok 6 (10, .getfield 31, 3) rfl
theorem dX0_grows_13 : decode cX0_grows 13 = .ok (.iadd, 1) := ax_dec dX0_grows_q0_ok 7 (13, .iadd, 1) rfl
theorem dX0_grows_14 : decode cX0_grows 14 = .ok (.ireturn, 1) := ax_dec dX0_grows_q0_ok 8 (14, .ireturn, 1) rfl
theorem dX0_grows_15 : decode cX0_grows 15 = .ok (.aload_n 0, 1) := ax_dec dX0_grows_q0_ok 9 (15, .aload_n 0, 1) rfl
theorem dX0_grows_16 : decode cX0_grows 16 = .ok (.getfield 19, 3) := ax_dec dX0_grows_q0_ok 10 (16, .getfield 19, 3) rfl
theorem dX0_grows_19 : decode cX0_grows 19 = .ok (.iconst 5, 1) := ax_dec dX0_grows_q0_ok 11 (19, .iconst 5, 1) rfl
theorem dX0_grows_20 : decode cX0_grows 20 = .ok (.if_icmp .ne 9, 3) := ax_dec dX0_grows_q0_ok 12 (20, .if_icmp .ne 9, 3) rfl
theorem dX0_grows_23 : decode cX0_grows 23 = .ok (.iload_n 1, 1) := ax_dec dX0_grows_q0_ok 13 (23, .iload_n 1, 1) rfl
theorem dX0_grows_24 : decode cX0_grows 24 = .ok (.iconst 2, 1) := ax_dec dX0_grows_q0_ok 14 (24, .iconst 2, 1) rfl
theorem dX0_grows_25 : decode cX0_grows 25 = .ok (.idiv, 1) := ax_dec dX0_grows_q0_ok 15 (25, .idiv, 1) rfl
theorem dX0_grows_26 : decode cX0_grows 26 = .ok (.goto 4, 3) := ax_dec dX0_grows_q0_ok 16 (26, .goto 4, 3) rfl
theorem dX0_grows_29 : decode cX0_grows 29 = .ok (.iload_n 1, 1) := ax_dec dX0_grows_q0_ok 17 (29, .iload_n 1, 1) rfl
theorem dX0_grows_30 : decode cX0_grows 30 = .ok (.ireturn, 1) := ax_dec dX0_grows_q0_ok 18 (30, .ireturn, 1) rfl
def dX0_left_q0 : List (Nat × (Instr × Nat)) := [(0, .aload_n 0, 1), (1, .getfield 19, 3), (4, .iconst 4, 1), (5, .if_icmp .ne 8, 3), (8, .aload_n 0, 1), (9, .getfield 38, 3), (12, .ireturn, 1), (13, .aload_n 0, 1), (14, .getfield 19, 3), (17, .iconst 3, 1), (18, .if_icmp .ne 12, 3), (21, .aload_n 0, 1), (22, .getfield 38, 3), (25, .iconst 2, 1), (26, .idiv, 1), (27, .goto 4, 3), (30, .iconst 0, 1), (31, .ireturn, 1)]
set_option maxRecDepth 100000 in
theorem dX0_left_q0_ok : ax_decs cX0_left dX0_left_q0 = true := by decide +kernel
theorem dX0_left_0 : decode cX0_left 0 = .ok (.aload_n 0, 1) := ax_dec dX0_left_q0_ok 0 (0, .aload_n 0, 1) rfl
theorem dX0_left_1 : decode cX0_left 1 = .ok (.getfield 19, 3) := ax_dec dX0_left_q0_ok 1 (1, .getfield 19, 3) rfl
theorem dX0_left_4 : decode cX0_left 4 = .ok (.iconst 4, 1) := ax_dec dX0_left_q0_ok 2 (4, .iconst 4, 1) rfl
theorem dX0_left_5 : decode cX0_left 5 = .ok (.if_icmp .ne 8, 3) := ax_dec dX0_left_q0_ok 3 (5, .if_icmp .ne 8, 3) rfl
theorem dX0_left_8 : decode cX0_left 8 = .ok (.aload_n 0, 1) := ax_dec dX0_left_q0_ok 4 (8, .aload_n 0, 1) rfl
theorem dX0_left_9 : decode cX0_left 9 = .ok (.getfield 38, 3) := ax_dec dX0_left_q0_ok 5 (9, .getfield 38, 3) rfl
theorem dX0_left_12 : decode cX0_left 12 = .ok (.ireturn, 1) := ax_dec dX0_left_q0_ok 6 (12, .ireturn, 1) rfl
theorem dX0_left_13 : decode cX0_left 13 = .ok (.aload_n 0, 1) := ax_dec dX0_left_q0_ok 7 (13, .aload_n 0, 1) rfl
theorem dX0_left_14 : decode cX0_left 14 = .ok (.getfield 19, 3) := ax_dec dX0_left_q0_ok 8 (14, .getfield 19, 3) rfl
theorem dX0_left_17 : decode cX0_left 17 = .ok (.iconst 3, 1) := ax_dec dX0_left_q0_ok 9 (17, .iconst 3, 1) rfl
theorem dX0_left_18 : decode cX0_left 18 = .ok (.if_icmp .ne 12, 3) := ax_dec dX0_left_q0_ok 10 (18, .if_icmp .ne 12, 3) rfl
theorem dX0_left_21 : decode cX0_left 21 = .ok (.aload_n 0, 1) := ax_dec dX0_left_q0_ok 11 (21, .aload_n 0, 1) rfl
theorem dX0_left_22 : decode cX0_left 22 = .ok (.getfield 38, 3) := ax_dec dX0_left_q0_ok 12 (22, .getfield 38, 3) rfl
theorem dX0_left_25 : decode cX0_left 25 = .ok (.iconst 2, 1) := ax_dec dX0_left_q0_ok 13 (25, .iconst 2, 1) rfl
theorem dX0_left_26 : decode cX0_left 26 = .ok (.idiv, 1) := ax_dec dX0_left_q0_ok 14 (26, .idiv, 1) rfl
theorem dX0_left_27 : decode cX0_left 27 = .ok (.goto 4, 3) := ax_dec dX0_left_q0_ok 15 (27, .goto 4, 3) rfl
theorem dX0_left_30 : decode cX0_left 30 = .ok (.iconst 0, 1) := ax_dec dX0_left_q0_ok 16 (30, .iconst 0, 1) rfl
theorem dX0_left_31 : decode cX0_left 31 = .ok (.ireturn, 1) := ax_dec dX0_left_q0_ok 17 (31, .ireturn, 1) rfl
def dX0_isWide_q0 : List (Nat × (Instr × Nat)) := [(0, .aload_n 0, 1), (1, .getfield 19, 3), (4, .iconst 2, 1), (5, .if_icmp .eq 16, 3), (8, .aload_n 0, 1), (9, .getfield 19, 3), (12, .iconst 4, 1), (13, .if_icmp .eq 8, 3), (16, .aload_n 0, 1), (17, .getfield 25, 3), (20, .ireturn, 1), (21, .iconst 0, 1), (22, .aload_n 0, 1), (23, .getfield 25, 3), (26, .aload_n 0, 1), (27, .getfield 31, 3), (30, .isub, 1), (31, .invokestatic 41, 3), (34, .istore_n 1, 1), (35, .aload_n 0, 1), (36, .getfield 19, 3), (39, .iconst 4, 1), (40, .if_icmp .ne 19, 3), (43, .iconst 0, 1), (44, .iload_n 1, 1), (45, .aload_n 0, 1), (46, .getfield 38, 3), (49, .bipush 10, 2), (51, .idiv, 1), (52, .isub, 1), (53, .invokestatic 41, 3), (56, .goto 4, 3)]
set_option maxRecDepth 100000 in
theorem dX0_isWide_q0_ok : ax_decs cX0_isWide dX0_isWide_q0 = true := by decide +kernel
theorem dX0_isWide_0 : decode cX0_isWide 0 = .ok (.aload_n 0, 1) := ax_dec dX0_isWide_q0_ok 0 (0, .aload_n 0, 1) rfl
theorem dX0_isWide_1 : decode cX0_isWide 1 = .ok (.getfield 19, 3) := ax_dec dX0_isWide_q0_ok 1 (1, .getfield 19, 3) rfl
theorem dX0_isWide_4 : decode cX0_isWide 4 = .ok (.iconst 2, 1) := ax_dec dX0_isWide_q0_ok 2 (4, .iconst 2, 1) rfl
theorem dX0_isWide_5 : decode cX0_isWide 5 = .ok (.if_icmp .eq 16, 3) := ax_dec dX0_isWide_q0_ok 3 (5, .if_icmp .eq 16, 3) rfl
theorem dX0_isWide_8 : decode cX0_isWide 8 = .ok (.aload_n 0, 1) := ax_dec dX0_isWide_q0_ok 4 (8, .aload_n 0, 1) rfl
theorem dX0_isWide_9 : decode cX0_isWide 9 = .ok (.getfield 19, 3) := ax_dec dX0_isWide_q0_ok 5 (9, .getfield 19, 3) rfl
theorem dX0_isWide_12 : decode cX0_isWide 12 = .ok (.iconst 4, 1) := ax_dec dX0_isWide_q0_ok 6 (12, .iconst 4, 1) rfl
theorem dX0_isWide_13 : decode cX0_isWide 13 = .ok (.if_icmp .eq 8, 3) := ax_dec dX0_isWide_q0_ok 7 (13, .if_icmp .eq 8, 3) rfl
theorem dX0_isWide_16 : decode cX0_isWide 16 = .ok (.aload_n 0, 1) := ax_dec dX0_isWide_q0_ok 8 (16, .aload_n 0, 1) rfl
theorem dX0_isWide_17 : decode cX0_isWide 17 = .ok (.getfield 25, 3) := ax_dec dX0_isWide_q0_ok 9 (17, .getfield 25, 3) rfl
theorem dX0_isWide_20 : decode cX0_isWide 20 = .ok (.ireturn, 1) := ax_dec dX0_isWide_q0_ok 10 (20, .ireturn, 1) rfl
theorem dX0_isWide_21 : decode cX0_isWide 21 = .ok (.iconst 0, 1) := ax_dec dX0_isWide_q0_ok 11 (21, .iconst 0, 1) rfl
theorem dX0_isWide_22 : decode cX0_isWide 22 = .ok (.aload_n 0, 1) := ax_dec dX0_isWide_q0_ok 12 (22, .aload_n 0, 1) rfl
theorem dX0_isWide_23 : decode cX0_isWide 23 = .ok (.getfield 25, 3) := ax_dec dX0_isWide_q0_ok 13 (23, .getfield 25, 3) rfl
theorem dX0_isWide_26 : decode cX0_isWide 26 = .ok (.aload_n 0, 1) := ax_dec dX0_isWide_q0_ok 14 (26, .aload_n 0, 1) rfl
theorem dX0_isWide_27 : decode cX0_isWide 27 = .ok (.getfield 31, 3) := ax_dec dX0_isWide_q0_ok 15 (27, .getfield 31, 3) rfl
theorem dX0_isWide_30 : decode cX0_isWide 30 = .ok (.isub, 1) := ax_dec dX0_isWide_q0_ok 16 (30, .isub, 1) rfl
theorem dX0_isWide_31 : decode cX0_isWide 31 = .ok (.invokestatic 41, 3) := ax_dec dX0_isWide_q0_ok 17 (31, .invokestatic 41, 3) rfl
theorem dX0_isWide_34 : decode cX0_isWide 34 = .ok (.istore_n 1, 1) := ax_dec dX0_isWide_q0_ok 18 (34, .istore_n 1, 1) rfl
theorem dX0_isWide_35 : decode cX0_isWide 35 = .ok (.aload_n 0, 1) := ax_dec dX0_isWide_q0_ok 19 (35, .aload_n 0, 1) rfl
theorem dX0_isWide_36 : decode cX0_isWide 36 = .ok (.getfield 19, 3) := ax_dec dX0_isWide_q0_ok 20 (36, .getfield 19, 3) rfl
theorem dX0_isWide_39 : decode cX0_isWide 39 = .ok (.iconst 4, 1) := ax_dec dX0_isWide_q0_ok 21 (39, .iconst 4, 1) rfl
theorem dX0_isWide_40 : decode cX0_isWide 40 = .ok (.if_icmp .ne 19, 3) := ax_dec dX0_isWide_q0_ok 22 (40, .if_icmp .ne 19, 3) rfl
theorem dX0_isWide_43 : decode cX0_isWide 43 = .ok (.iconst 0, 1) := ax_dec dX0_isWide_q0_ok 23 (43, .iconst 0, 1) rfl
theorem dX0_isWide_44 : decode cX0_isWide 44 = .ok (.iload_n 1, 1) := ax_dec dX0_isWide_q0_ok 24 (44, .iload_n 1, 1) rfl
theorem dX0_isWide_45 : decode cX0_isWide 45 = .ok (.aload_n 0, 1) := ax_dec dX0_isWide_q0_ok 25 (45, .aload_n 0, 1) rfl
theorem dX0_isWide_46 : decode cX0_isWide 46 = .ok (.getfield 38, 3) := ax_dec dX0_isWide_q0_ok 26 (46, .getfield 38, 3) rfl
theorem dX0_isWide_49 : decode cX0_isWide 49 = .ok (.bipush 10, 2) := ax_dec dX0_isWide_q0_ok 27 (49, .bipush 10, 2) rfl
theorem dX0_isWide_51 : decode cX0_isWide 51 = .ok (.idiv, 1) := ax_dec dX0_isWide_q0_ok 28 (51, .idiv, 1) rfl
theorem dX0_isWide_52 : decode cX0_isWide 52 = .ok (.isub, 1) := ax_dec dX0_isWide_q0_ok 29 (52, .isub, 1) rfl
theorem dX0_isWide_53 : decode cX0_isWide 53 = .ok (.invokestatic 41, 3) := ax_dec dX0_isWide_q0_ok 30 (53, .invokestatic 41, 3) rfl
theorem dX0_isWide_56 : decode cX0_isWide 56 = .ok (.goto 4, 3) := ax_dec dX0_isWide_q0_ok 31 (56, .goto 4, 3) rfl
def dX0_isWide_q1 : List (Nat × (Instr × Nat)) := [(59, .iload_n 1, 1), (60, .ireturn, 1)]
set_option maxRecDepth 100000 in
theorem dX0_isWide_q1_ok : ax_decs cX0_isWide dX0_isWide_q1 = true := by decide +kernel
theorem dX0_isWide_59 : decode cX0_isWide 59 = .ok (.iload_n 1, 1) := ax_dec dX0_isWide_q1_ok 0 (59, .iload_n 1, 1) rfl
theorem dX0_isWide_60 : decode cX0_isWide 60 = .ok (.ireturn, 1) := ax_dec dX0_isWide_q1_ok 1 (60, .ireturn, 1) rfl
def dX0_leaks_q0 : List (Nat × (Instr × Nat)) := [(0, .aload_n 0, 1), (1, .getfield 19, 3), (4, .iconst 5, 1), (5, .if_icmp .ne 13, 3), (8, .bipush 10, 2), (10, .aload_n 0, 1), (11, .getfield 31, 3), (14, .imul, 1), (15, .goto 4, 3), (18, .iconst 0, 1), (19, .ireturn, 1)]
set_option maxRecDepth 100000 in
theorem dX0_leaks_q0_ok : ax_decs cX0_leaks dX0_leaks_q0 = true := by decide +kernel
theorem dX0_leaks_0 : decode cX0_leaks 0 = .ok (.aload_n 0, 1) := ax_dec dX0_leaks_q0_ok 0 (0, .aload_n 0, 1) rfl
theorem dX0_leaks_1 : decode cX0_leaks 1 = .ok (.getfield 19, 3) := ax_dec dX0_leaks_q0_ok 1 (1, .getfield 19, 3) rfl
theorem dX0_leaks_4 : decode cX0_leaks 4 = .ok (.iconst 5, 1) := ax_dec dX0_leaks_q0_ok 2 (4, .iconst 5, 1) rfl
theorem dX0_leaks_5 : decode cX0_leaks 5 = .ok (.if_icmp .ne 13, 3) := ax_dec dX0_leaks_q0_ok 3 (5, .if_icmp .ne 13, 3) rfl
theorem dX0_leaks_8 : decode cX0_leaks 8 = .ok (.bipush 10, 2) := ax_dec dX0_leaks_q0_ok 4 (8, .bipush 10, 2) rfl
theorem dX0_leaks_10 : decode cX0_leaks 10 = .ok (.aload_n 0, 1) := ax_dec dX0_leaks_q0_ok 5 (10, .aload_n 0, 1) rfl
theorem dX0_leaks_11 : decode cX0_leaks 11 = .ok (.getfield 31, 3) := ax_dec dX0_leaks_q0_ok 6 (11, .getfield 31, 3) rfl
theorem dX0_leaks_14 : decode cX0_leaks 14 = .ok (.imul, 1) := ax_dec dX0_leaks_q0_ok 7 (14, .imul, 1) rfl
theorem dX0_leaks_15 : decode cX0_leaks 15 = .ok (.goto 4, 3) := ax_dec dX0_leaks_q0_ok 8 (15, .goto 4, 3) rfl
theorem dX0_leaks_18 : decode cX0_leaks 18 = .ok (.iconst 0, 1) := ax_dec dX0_leaks_q0_ok 9 (18, .iconst 0, 1) rfl
theorem dX0_leaks_19 : decode cX0_leaks 19 = .ok (.ireturn, 1) := ax_dec dX0_leaks_q0_ok 10 (19, .ireturn, 1) rfl
def dX0_last_q0 : List (Nat × (Instr × Nat)) := [(0, .aload_n 0, 1), (1, .astore_n 1, 1), (2, .aload_n 0, 1), (3, .getfield 15, 3), (6, .astore_n 2, 1), (7, .aload_n 2, 1), (8, .ifnull 13, 3), (11, .aload_n 2, 1), (12, .astore_n 1, 1), (13, .aload_n 2, 1), (14, .getfield 15, 3), (17, .astore_n 2, 1), (18, .goto (-11), 3), (21, .aload_n 1, 1), (22, .areturn, 1)]
set_option maxRecDepth 100000 in
theorem dX0_last_q0_ok : ax_decs cX0_last dX0_last_q0 = true := by decide +kernel
theorem dX0_last_0 : decode cX0_last 0 = .ok (.aload_n 0, 1) := ax_dec dX0_last_q0_ok 0 (0, .aload_n 0, 1) rfl
theorem dX0_last_1 : decode cX0_last 1 = .ok (.astore_n 1, 1) := ax_dec dX0_last_q0_ok 1 (1, .astore_n 1, 1) rfl
theorem dX0_last_2 : decode cX0_last 2 = .ok (.aload_n 0, 1) := ax_dec dX0_last_q0_ok 2 (2, .aload_n 0, 1) rfl
theorem dX0_last_3 : decode cX0_last 3 = .ok (.getfield 15, 3) := ax_dec dX0_last_q0_ok 3 (3, .getfield 15, 3) rfl
theorem dX0_last_6 : decode cX0_last 6 = .ok (.astore_n 2, 1) := ax_dec dX0_last_q0_ok 4 (6, .astore_n 2, 1) rfl
theorem dX0_last_7 : decode cX0_last 7 = .ok (.aload_n 2, 1) := ax_dec dX0_last_q0_ok 5 (7, .aload_n 2, 1) rfl
theorem dX0_last_8 : decode cX0_last 8 = .ok (.ifnull 13, 3) := ax_dec dX0_last_q0_ok 6 (8, .ifnull 13, 3) rfl
theorem dX0_last_11 : decode cX0_last 11 = .ok (.aload_n 2, 1) := ax_dec dX0_last_q0_ok 7 (11, .aload_n 2, 1) rfl
theorem dX0_last_12 : decode cX0_last 12 = .ok (.astore_n 1, 1) := ax_dec dX0_last_q0_ok 8 (12, .astore_n 1, 1) rfl
theorem dX0_last_13 : decode cX0_last 13 = .ok (.aload_n 2, 1) := ax_dec dX0_last_q0_ok 9 (13, .aload_n 2, 1) rfl
theorem dX0_last_14 : decode cX0_last 14 = .ok (.getfield 15, 3) := ax_dec dX0_last_q0_ok 10 (14, .getfield 15, 3) rfl
theorem dX0_last_17 : decode cX0_last 17 = .ok (.astore_n 2, 1) := ax_dec dX0_last_q0_ok 11 (17, .astore_n 2, 1) rfl
theorem dX0_last_18 : decode cX0_last 18 = .ok (.goto (-11), 3) := ax_dec dX0_last_q0_ok 12 (18, .goto (-11), 3) rfl
theorem dX0_last_21 : decode cX0_last 21 = .ok (.aload_n 1, 1) := ax_dec dX0_last_q0_ok 13 (21, .aload_n 1, 1) rfl
theorem dX0_last_22 : decode cX0_last 22 = .ok (.areturn, 1) := ax_dec dX0_last_q0_ok 14 (22, .areturn, 1) rfl
def dX0_bitsUp_q0 : List (Nat × (Instr × Nat)) := [(0, .iconst 0, 1), (1, .istore_n 1, 1), (2, .aload_n 0, 1), (3, .astore_n 2, 1), (4, .aload_n 2, 1), (5, .ifnull 20, 3), (8, .iload_n 1, 1), (9, .iconst 1, 1), (10, .aload_n 2, 1), (11, .getfield 9, 3), (14, .ishl, 1), (15, .ior, 1), (16, .istore_n 1, 1), (17, .aload_n 2, 1), (18, .getfield 15, 3), (21, .astore_n 2, 1), (22, .goto (-18), 3), (25, .iload_n 1, 1), (26, .ireturn, 1)]
set_option maxRecDepth 100000 in
theorem dX0_bitsUp_q0_ok : ax_decs cX0_bitsUp dX0_bitsUp_q0 = true := by decide +kernel
theorem dX0_bitsUp_0 : decode cX0_bitsUp 0 = .ok (.iconst 0, 1) := ax_dec dX0_bitsUp_q0_ok 0 (0, .iconst 0, 1) rfl
theorem dX0_bitsUp_1 : decode cX0_bitsUp 1 = .ok (.istore_n 1, 1) := ax_dec dX0_bitsUp_q0_ok 1 (1, .istore_n 1, 1) rfl
theorem dX0_bitsUp_2 : decode cX0_bitsUp 2 = .ok (.aload_n 0, 1) := ax_dec dX0_bitsUp_q0_ok 2 (2, .aload_n 0, 1) rfl
theorem dX0_bitsUp_3 : decode cX0_bitsUp 3 = .ok (.astore_n 2, 1) := ax_dec dX0_bitsUp_q0_ok 3 (3, .astore_n 2, 1) rfl
theorem dX0_bitsUp_4 : decode cX0_bitsUp 4 = .ok (.aload_n 2, 1) := ax_dec dX0_bitsUp_q0_ok 4 (4, .aload_n 2, 1) rfl
theorem dX0_bitsUp_5 : decode cX0_bitsUp 5 = .ok (.ifnull 20, 3) := ax_dec dX0_bitsUp_q0_ok 5 (5, .ifnull 20, 3) rfl
theorem dX0_bitsUp_8 : decode cX0_bitsUp 8 = .ok (.iload_n 1, 1) := ax_dec dX0_bitsUp_q0_ok 6 (8, .iload_n 1, 1) rfl
theorem dX0_bitsUp_9 : decode cX0_bitsUp 9 = .ok (.iconst 1, 1) := ax_dec dX0_bitsUp_q0_ok 7 (9, .iconst 1, 1) rfl
theorem dX0_bitsUp_10 : decode cX0_bitsUp 10 = .ok (.aload_n 2, 1) := ax_dec dX0_bitsUp_q0_ok 8 (10, .aload_n 2, 1) rfl
theorem dX0_bitsUp_11 : decode cX0_bitsUp 11 = .ok (.getfield 9, 3) := ax_dec dX0_bitsUp_q0_ok 9 (11, .getfield 9, 3) rfl
theorem dX0_bitsUp_14 : decode cX0_bitsUp 14 = .ok (.ishl, 1) := ax_dec dX0_bitsUp_q0_ok 10 (14, .ishl, 1) rfl
theorem dX0_bitsUp_15 : decode cX0_bitsUp 15 = .ok (.ior, 1) := ax_dec dX0_bitsUp_q0_ok 11 (15, .ior, 1) rfl
theorem dX0_bitsUp_16 : decode cX0_bitsUp 16 = .ok (.istore_n 1, 1) := ax_dec dX0_bitsUp_q0_ok 12 (16, .istore_n 1, 1) rfl
theorem dX0_bitsUp_17 : decode cX0_bitsUp 17 = .ok (.aload_n 2, 1) := ax_dec dX0_bitsUp_q0_ok 13 (17, .aload_n 2, 1) rfl
theorem dX0_bitsUp_18 : decode cX0_bitsUp 18 = .ok (.getfield 15, 3) := ax_dec dX0_bitsUp_q0_ok 14 (18, .getfield 15, 3) rfl
theorem dX0_bitsUp_21 : decode cX0_bitsUp 21 = .ok (.astore_n 2, 1) := ax_dec dX0_bitsUp_q0_ok 15 (21, .astore_n 2, 1) rfl
theorem dX0_bitsUp_22 : decode cX0_bitsUp 22 = .ok (.goto (-18), 3) := ax_dec dX0_bitsUp_q0_ok 16 (22, .goto (-18), 3) rfl
theorem dX0_bitsUp_25 : decode cX0_bitsUp 25 = .ok (.iload_n 1, 1) := ax_dec dX0_bitsUp_q0_ok 17 (25, .iload_n 1, 1) rfl
theorem dX0_bitsUp_26 : decode cX0_bitsUp 26 = .ok (.ireturn, 1) := ax_dec dX0_bitsUp_q0_ok 18 (26, .ireturn, 1) rfl
def dX0_firstUpIn_q0 : List (Nat × (Instr × Nat)) := [(0, .aload_n 0, 1), (1, .astore_n 2, 1), (2, .aload_n 2, 1), (3, .ifnull 24, 3), (6, .iload_n 1, 1), (7, .iconst 1, 1), (8, .aload_n 2, 1), (9, .getfield 9, 3), (12, .ishl, 1), (13, .iand, 1), (14, .ifCond .eq 5, 3), (17, .aload_n 2, 1), (18, .areturn, 1), (19, .aload_n 2, 1), (20, .getfield 15, 3), (23, .astore_n 2, 1), (24, .goto (-22), 3), (27, .aconst_null, 1), (28, .areturn, 1)]
set_option maxRecDepth 100000 in
theorem dX0_firstUpIn_q0_ok : ax_decs cX0_firstUpIn dX0_firstUpIn_q0 = true := by decide +kernel
theorem dX0_firstUpIn_0 : decode cX0_firstUpIn 0 = .ok (.aload_n 0, 1) := ax_dec dX0_firstUpIn_q0_ok 0 (0, .aload_n 0, 1) rfl
theorem dX0_firstUpIn_1 : decode cX0_firstUpIn 1 = .ok (.astore_n 2, 1) := ax_dec dX0_firstUpIn_q0_ok 1 (1, .astore_n 2, 1) rfl
theorem dX0_firstUpIn_2 : decode cX0_firstUpIn 2 = .ok (.aload_n 2, 1) := ax_dec dX0_firstUpIn_q0_ok 2 (2, .aload_n 2, 1) rfl
theorem dX0_firstUpIn_3 : decode cX0_firstUpIn 3 = .ok (.ifnull 24, 3) := ax_dec dX0_firstUpIn_q0_ok 3 (3, .ifnull 24, 3) rfl
theorem dX0_firstUpIn_6 : decode cX0_firstUpIn 6 = .ok (.iload_n 1, 1) := ax_dec dX0_firstUpIn_q0_ok 4 (6, .iload_n 1, 1) rfl
theorem dX0_firstUpIn_7 : decode cX0_firstUpIn 7 = .ok (.iconst 1, 1) := ax_dec dX0_firstUpIn_q0_ok 5 (7, .iconst 1, 1) rfl
theorem dX0_firstUpIn_8 : decode cX0_firstUpIn 8 = .ok (.aload_n 2, 1) := ax_dec dX0_firstUpIn_q0_ok 6 (8, .aload_n 2, 1) rfl
theorem dX0_firstUpIn_9 : decode cX0_firstUpIn 9 = .ok (.getfield 9, 3) := ax_dec dX0_firstUpIn_q0_ok 7 (9, .getfield 9, 3) rfl
theorem dX0_firstUpIn_12 : decode cX0_firstUpIn 12 = .ok (.ishl, 1) := ax_dec dX0_firstUpIn_q0_ok 8 (12, .ishl, 1) rfl
theorem dX0_firstUpIn_13 : decode cX0_firstUpIn 13 = .ok (.iand, 1) := ax_dec dX0_firstUpIn_q0_ok 9 (13, .iand, 1) rfl
theorem dX0_firstUpIn_14 : decode cX0_firstUpIn 14 = .ok (.ifCond .eq 5, 3) := ax_dec dX0_firstUpIn_q0_ok 10 (14, .ifCond .eq 5, 3) rfl
theorem dX0_firstUpIn_17 : decode cX0_firstUpIn 17 = .ok (.aload_n 2, 1) := ax_dec dX0_firstUpIn_q0_ok 11 (17, .aload_n 2, 1) rfl
theorem dX0_firstUpIn_18 : decode cX0_firstUpIn 18 = .ok (.areturn, 1) := ax_dec dX0_firstUpIn_q0_ok 12 (18, .areturn, 1) rfl
theorem dX0_firstUpIn_19 : decode cX0_firstUpIn 19 = .ok (.aload_n 2, 1) := ax_dec dX0_firstUpIn_q0_ok 13 (19, .aload_n 2, 1) rfl
theorem dX0_firstUpIn_20 : decode cX0_firstUpIn 20 = .ok (.getfield 15, 3) := ax_dec dX0_firstUpIn_q0_ok 14 (20, .getfield 15, 3) rfl
theorem dX0_firstUpIn_23 : decode cX0_firstUpIn 23 = .ok (.astore_n 2, 1) := ax_dec dX0_firstUpIn_q0_ok 15 (23, .astore_n 2, 1) rfl
theorem dX0_firstUpIn_24 : decode cX0_firstUpIn 24 = .ok (.goto (-22), 3) := ax_dec dX0_firstUpIn_q0_ok 16 (24, .goto (-22), 3) rfl
theorem dX0_firstUpIn_27 : decode cX0_firstUpIn 27 = .ok (.aconst_null, 1) := ax_dec dX0_firstUpIn_q0_ok 17 (27, .aconst_null, 1) rfl
theorem dX0_firstUpIn_28 : decode cX0_firstUpIn 28 = .ok (.areturn, 1) := ax_dec dX0_firstUpIn_q0_ok 18 (28, .areturn, 1) rfl
def dX0_rodsUpTo_q0 : List (Nat × (Instr × Nat)) := [(0, .iconst 0, 1), (1, .istore_n 2, 1), (2, .aload_n 0, 1), (3, .astore_n 3, 1), (4, .aload_n 3, 1), (5, .ifnull 23, 3), (8, .aload_n 3, 1), (9, .aload_n 1, 1), (10, .if_acmp .eq 18, 3), (13, .iload_n 2, 1), (14, .aload_n 3, 1), (15, .getfield 22, 3), (18, .iadd, 1), (19, .istore_n 2, 1), (20, .aload_n 3, 1), (21, .getfield 15, 3), (24, .astore_n 3, 1), (25, .goto (-21), 3), (28, .iload_n 2, 1), (29, .ireturn, 1)]
set_option maxRecDepth 100000 in
theorem dX0_rodsUpTo_q0_ok : ax_decs cX0_rodsUpTo dX0_rodsUpTo_q0 = true := by decide +kernel
theorem dX0_rodsUpTo_0 : decode cX0_rodsUpTo 0 = .ok (.iconst 0, 1) := ax_dec dX0_rodsUpTo_q0_ok 0 (0, .iconst 0, 1) rfl
theorem dX0_rodsUpTo_1 : decode cX0_rodsUpTo 1 = .ok (.istore_n 2, 1) := ax_dec dX0_rodsUpTo_q0_ok 1 (1, .istore_n 2, 1) rfl
theorem dX0_rodsUpTo_2 : decode cX0_rodsUpTo 2 = .ok (.aload_n 0, 1) := ax_dec dX0_rodsUpTo_q0_ok 2 (2, .aload_n 0, 1) rfl
theorem dX0_rodsUpTo_3 : decode cX0_rodsUpTo 3 = .ok (.astore_n 3, 1) := ax_dec dX0_rodsUpTo_q0_ok 3 (3, .astore_n 3, 1) rfl
theorem dX0_rodsUpTo_4 : decode cX0_rodsUpTo 4 = .ok (.aload_n 3, 1) := ax_dec dX0_rodsUpTo_q0_ok 4 (4, .aload_n 3, 1) rfl
theorem dX0_rodsUpTo_5 : decode cX0_rodsUpTo 5 = .ok (.ifnull 23, 3) := ax_dec dX0_rodsUpTo_q0_ok 5 (5, .ifnull 23, 3) rfl
theorem dX0_rodsUpTo_8 : decode cX0_rodsUpTo 8 = .ok (.aload_n 3, 1) := ax_dec dX0_rodsUpTo_q0_ok 6 (8, .aload_n 3, 1) rfl
theorem dX0_rodsUpTo_9 : decode cX0_rodsUpTo 9 = .ok (.aload_n 1, 1) := ax_dec dX0_rodsUpTo_q0_ok 7 (9, .aload_n 1, 1) rfl
theorem dX0_rodsUpTo_10 : decode cX0_rodsUpTo 10 = .ok (.if_acmp .eq 18, 3) := ax_dec dX0_rodsUpTo_q0_ok 8 (10, .if_acmp .eq 18, 3) rfl
theorem dX0_rodsUpTo_13 : decode cX0_rodsUpTo 13 = .ok (.iload_n 2, 1) := ax_dec dX0_rodsUpTo_q0_ok 9 (13, .iload_n 2, 1) rfl
theorem dX0_rodsUpTo_14 : decode cX0_rodsUpTo 14 = .ok (.aload_n 3, 1) := ax_dec dX0_rodsUpTo_q0_ok 10 (14, .aload_n 3, 1) rfl
theorem dX0_rodsUpTo_15 : decode cX0_rodsUpTo 15 = .ok (.getfield 22, 3) := ax_dec dX0_rodsUpTo_q0_ok 11 (15, .getfield 22, 3) rfl
theorem dX0_rodsUpTo_18 : decode cX0_rodsUpTo 18 = .ok (.iadd, 1) := ax_dec dX0_rodsUpTo_q0_ok 12 (18, .iadd, 1) rfl
theorem dX0_rodsUpTo_19 : decode cX0_rodsUpTo 19 = .ok (.istore_n 2, 1) := ax_dec dX0_rodsUpTo_q0_ok 13 (19, .istore_n 2, 1) rfl
theorem dX0_rodsUpTo_20 : decode cX0_rodsUpTo 20 = .ok (.aload_n 3, 1) := ax_dec dX0_rodsUpTo_q0_ok 14 (20, .aload_n 3, 1) rfl
theorem dX0_rodsUpTo_21 : decode cX0_rodsUpTo 21 = .ok (.getfield 15, 3) := ax_dec dX0_rodsUpTo_q0_ok 15 (21, .getfield 15, 3) rfl
theorem dX0_rodsUpTo_24 : decode cX0_rodsUpTo 24 = .ok (.astore_n 3, 1) := ax_dec dX0_rodsUpTo_q0_ok 16 (24, .astore_n 3, 1) rfl
theorem dX0_rodsUpTo_25 : decode cX0_rodsUpTo 25 = .ok (.goto (-21), 3) := ax_dec dX0_rodsUpTo_q0_ok 17 (25, .goto (-21), 3) rfl
theorem dX0_rodsUpTo_28 : decode cX0_rodsUpTo 28 = .ok (.iload_n 2, 1) := ax_dec dX0_rodsUpTo_q0_ok 18 (28, .iload_n 2, 1) rfl
theorem dX0_rodsUpTo_29 : decode cX0_rodsUpTo 29 = .ok (.ireturn, 1) := ax_dec dX0_rodsUpTo_q0_ok 19 (29, .ireturn, 1) rfl
def dX0_reachedBy_q0 : List (Nat × (Instr × Nat)) := [(0, .iconst 0, 1), (1, .istore_n 2, 1), (2, .aload_n 0, 1), (3, .astore_n 3, 1), (4, .aload_n 3, 1), (5, .ifnull 25, 3), (8, .iload_n 2, 1), (9, .aload_n 3, 1), (10, .getfield 22, 3), (13, .iadd, 1), (14, .istore_n 2, 1), (15, .iload_n 1, 1), (16, .iload_n 2, 1), (17, .if_icmp .gt 5, 3), (20, .aload_n 3, 1), (21, .areturn, 1), (22, .aload_n 3, 1), (23, .getfield 15, 3), (26, .astore_n 3, 1), (27, .goto (-23), 3), (30, .aconst_null, 1), (31, .areturn, 1)]
set_option maxRecDepth 100000 in
theorem dX0_reachedBy_q0_ok : ax_decs cX0_reachedBy dX0_reachedBy_q0 = true := by decide +kernel
theorem dX0_reachedBy_0 : decode cX0_reachedBy 0 = .ok (.iconst 0, 1) := ax_dec dX0_reachedBy_q0_ok 0 (0, .iconst 0, 1) rfl
theorem dX0_reachedBy_1 : decode cX0_reachedBy 1 = .ok (.istore_n 2, 1) := ax_dec dX0_reachedBy_q0_ok 1 (1, .istore_n 2, 1) rfl
theorem dX0_reachedBy_2 : decode cX0_reachedBy 2 = .ok (.aload_n 0, 1) := ax_dec dX0_reachedBy_q0_ok 2 (2, .aload_n 0, 1) rfl
theorem dX0_reachedBy_3 : decode cX0_reachedBy 3 = .ok (.astore_n 3, 1) := ax_dec dX0_reachedBy_q0_ok 3 (3, .astore_n 3, 1) rfl
theorem dX0_reachedBy_4 : decode cX0_reachedBy 4 = .ok (.aload_n 3, 1) := ax_dec dX0_reachedBy_q0_ok 4 (4, .aload_n 3, 1) rfl
theorem dX0_reachedBy_5 : decode cX0_reachedBy 5 = .ok (.ifnull 25, 3) := ax_dec dX0_reachedBy_q0_ok 5 (5, .ifnull 25, 3) rfl
theorem dX0_reachedBy_8 : decode cX0_reachedBy 8 = .ok (.iload_n 2, 1) := ax_dec dX0_reachedBy_q0_ok 6 (8, .iload_n 2, 1) rfl
theorem dX0_reachedBy_9 : decode cX0_reachedBy 9 = .ok (.aload_n 3, 1) := ax_dec dX0_reachedBy_q0_ok 7 (9, .aload_n 3, 1) rfl
theorem dX0_reachedBy_10 : decode cX0_reachedBy 10 = .ok (.getfield 22, 3) := ax_dec dX0_reachedBy_q0_ok 8 (10, .getfield 22, 3) rfl
theorem dX0_reachedBy_13 : decode cX0_reachedBy 13 = .ok (.iadd, 1) := ax_dec dX0_reachedBy_q0_ok 9 (13, .iadd, 1) rfl
theorem dX0_reachedBy_14 : decode cX0_reachedBy 14 = .ok (.istore_n 2, 1) := ax_dec dX0_reachedBy_q0_ok 10 (14, .istore_n 2, 1) rfl
theorem dX0_reachedBy_15 : decode cX0_reachedBy 15 = .ok (.iload_n 1, 1) := ax_dec dX0_reachedBy_q0_ok 11 (15, .iload_n 1, 1) rfl
theorem dX0_reachedBy_16 : decode cX0_reachedBy 16 = .ok (.iload_n 2, 1) := ax_dec dX0_reachedBy_q0_ok 12 (16, .iload_n 2, 1) rfl
theorem dX0_reachedBy_17 : decode cX0_reachedBy 17 = .ok (.if_icmp .gt 5, 3) := ax_dec dX0_reachedBy_q0_ok 13 (17, .if_icmp .gt 5, 3) rfl
theorem dX0_reachedBy_20 : decode cX0_reachedBy 20 = .ok (.aload_n 3, 1) := ax_dec dX0_reachedBy_q0_ok 14 (20, .aload_n 3, 1) rfl
theorem dX0_reachedBy_21 : decode cX0_reachedBy 21 = .ok (.areturn, 1) := ax_dec dX0_reachedBy_q0_ok 15 (21, .areturn, 1) rfl
theorem dX0_reachedBy_22 : decode cX0_reachedBy 22 = .ok (.aload_n 3, 1) := ax_dec dX0_reachedBy_q0_ok 16 (22, .aload_n 3, 1) rfl
theorem dX0_reachedBy_23 : decode cX0_reachedBy 23 = .ok (.getfield 15, 3) := ax_dec dX0_reachedBy_q0_ok 17 (23, .getfield 15, 3) rfl
theorem dX0_reachedBy_26 : decode cX0_reachedBy 26 = .ok (.astore_n 3, 1) := ax_dec dX0_reachedBy_q0_ok 18 (26, .astore_n 3, 1) rfl
theorem dX0_reachedBy_27 : decode cX0_reachedBy 27 = .ok (.goto (-23), 3) := ax_dec dX0_reachedBy_q0_ok 19 (27, .goto (-23), 3) rfl
theorem dX0_reachedBy_30 : decode cX0_reachedBy 30 = .ok (.aconst_null, 1) := ax_dec dX0_reachedBy_q0_ok 20 (30, .aconst_null, 1) rfl
theorem dX0_reachedBy_31 : decode cX0_reachedBy 31 = .ok (.areturn, 1) := ax_dec dX0_reachedBy_q0_ok 21 (31, .areturn, 1) rfl
def dX0_sootUp_q0 : List (Nat × (Instr × Nat)) := [(0, .iconst 0, 1), (1, .istore_n 1, 1), (2, .aload_n 0, 1), (3, .astore_n 2, 1), (4, .aload_n 2, 1), (5, .ifnull 18, 3), (8, .iload_n 1, 1), (9, .aload_n 2, 1), (10, .getfield 38, 3), (13, .iadd, 1), (14, .istore_n 1, 1), (15, .aload_n 2, 1), (16, .getfield 15, 3), (19, .astore_n 2, 1), (20, .goto (-16), 3), (23, .iload_n 1, 1), (24, .ireturn, 1)]
set_option maxRecDepth 100000 in
theorem dX0_sootUp_q0_ok : ax_decs cX0_sootUp dX0_sootUp_q0 = true := by decide +kernel
theorem dX0_sootUp_0 : decode cX0_sootUp 0 = .ok (.iconst 0, 1) := ax_dec dX0_sootUp_q0_ok 0 (0, .iconst 0, 1) rfl
theorem dX0_sootUp_1 : decode cX0_sootUp 1 = .ok (.istore_n 1, 1) := ax_dec dX0_sootUp_q0_ok 1 (1, .istore_n 1, 1) rfl
theorem dX0_sootUp_2 : decode cX0_sootUp 2 = .ok (.aload_n 0, 1) := ax_dec dX0_sootUp_q0_ok 2 (2, .aload_n 0, 1) rfl
theorem dX0_sootUp_3 : decode cX0_sootUp 3 = .ok (.astore_n 2, 1) := ax_dec dX0_sootUp_q0_ok 3 (3, .astore_n 2, 1) rfl
theorem dX0_sootUp_4 : decode cX0_sootUp 4 = .ok (.aload_n 2, 1) := ax_dec dX0_sootUp_q0_ok 4 (4, .aload_n 2, 1) rfl
theorem dX0_sootUp_5 : decode cX0_sootUp 5 = .ok (.ifnull 18, 3) := ax_dec dX0_sootUp_q0_ok 5 (5, .ifnull 18, 3) rfl
theorem dX0_sootUp_8 : decode cX0_sootUp 8 = .ok (.iload_n 1, 1) := ax_dec dX0_sootUp_q0_ok 6 (8, .iload_n 1, 1) rfl
theorem dX0_sootUp_9 : decode cX0_sootUp 9 = .ok (.aload_n 2, 1) := ax_dec dX0_sootUp_q0_ok 7 (9, .aload_n 2, 1) rfl
theorem dX0_sootUp_10 : decode cX0_sootUp 10 = .ok (.getfield 38, 3) := ax_dec dX0_sootUp_q0_ok 8 (10, .getfield 38, 3) rfl
theorem dX0_sootUp_13 : decode cX0_sootUp 13 = .ok (.iadd, 1) := ax_dec dX0_sootUp_q0_ok 9 (13, .iadd, 1) rfl
theorem dX0_sootUp_14 : decode cX0_sootUp 14 = .ok (.istore_n 1, 1) := ax_dec dX0_sootUp_q0_ok 10 (14, .istore_n 1, 1) rfl
theorem dX0_sootUp_15 : decode cX0_sootUp 15 = .ok (.aload_n 2, 1) := ax_dec dX0_sootUp_q0_ok 11 (15, .aload_n 2, 1) rfl
theorem dX0_sootUp_16 : decode cX0_sootUp 16 = .ok (.getfield 15, 3) := ax_dec dX0_sootUp_q0_ok 12 (16, .getfield 15, 3) rfl
theorem dX0_sootUp_19 : decode cX0_sootUp 19 = .ok (.astore_n 2, 1) := ax_dec dX0_sootUp_q0_ok 13 (19, .astore_n 2, 1) rfl
theorem dX0_sootUp_20 : decode cX0_sootUp 20 = .ok (.goto (-16), 3) := ax_dec dX0_sootUp_q0_ok 14 (20, .goto (-16), 3) rfl
theorem dX0_sootUp_23 : decode cX0_sootUp 23 = .ok (.iload_n 1, 1) := ax_dec dX0_sootUp_q0_ok 15 (23, .iload_n 1, 1) rfl
theorem dX0_sootUp_24 : decode cX0_sootUp 24 = .ok (.ireturn, 1) := ax_dec dX0_sootUp_q0_ok 16 (24, .ireturn, 1) rfl
def dX0_mostSootUp_q0 : List (Nat × (Instr × Nat)) := [(0, .iconst 0, 1), (1, .istore_n 1, 1), (2, .aload_n 0, 1), (3, .astore_n 2, 1), (4, .aload_n 2, 1), (5, .ifnull 20, 3), (8, .iload_n 1, 1), (9, .aload_n 2, 1), (10, .getfield 38, 3), (13, .invokestatic 41, 3), (16, .istore_n 1, 1), (17, .aload_n 2, 1), (18, .getfield 15, 3), (21, .astore_n 2, 1), (22, .goto (-18), 3), (25, .iload_n 1, 1), (26, .ireturn, 1)]
set_option maxRecDepth 100000 in
theorem dX0_mostSootUp_q0_ok : ax_decs cX0_mostSootUp dX0_mostSootUp_q0 = true := by decide +kernel
theorem dX0_mostSootUp_0 : decode cX0_mostSootUp 0 = .ok (.iconst 0, 1) := ax_dec dX0_mostSootUp_q0_ok 0 (0, .iconst 0, 1) rfl
theorem dX0_mostSootUp_1 : decode cX0_mostSootUp 1 = .ok (.istore_n 1, 1) := ax_dec dX0_mostSootUp_q0_ok 1 (1, .istore_n 1, 1) rfl
theorem dX0_mostSootUp_2 : decode cX0_mostSootUp 2 = .ok (.aload_n 0, 1) := ax_dec dX0_mostSootUp_q0_ok 2 (2, .aload_n 0, 1) rfl
theorem dX0_mostSootUp_3 : decode cX0_mostSootUp 3 = .ok (.astore_n 2, 1) := ax_dec dX0_mostSootUp_q0_ok 3 (3, .astore_n 2, 1) rfl
theorem dX0_mostSootUp_4 : decode cX0_mostSootUp 4 = .ok (.aload_n 2, 1) := ax_dec dX0_mostSootUp_q0_ok 4 (4, .aload_n 2, 1) rfl
theorem dX0_mostSootUp_5 : decode cX0_mostSootUp 5 = .ok (.ifnull 20, 3) := ax_dec dX0_mostSootUp_q0_ok 5 (5, .ifnull 20, 3) rfl
theorem dX0_mostSootUp_8 : decode cX0_mostSootUp 8 = .ok (.iload_n 1, 1) := ax_dec dX0_mostSootUp_q0_ok 6 (8, .iload_n 1, 1) rfl
theorem dX0_mostSootUp_9 : decode cX0_mostSootUp 9 = .ok (.aload_n 2, 1) := ax_dec dX0_mostSootUp_q0_ok 7 (9, .aload_n 2, 1) rfl
theorem dX0_mostSootUp_10 : decode cX0_mostSootUp 10 = .ok (.getfield 38, 3) := ax_dec dX0_mostSootUp_q0_ok 8 (10, .getfield 38, 3) rfl
theorem dX0_mostSootUp_13 : decode cX0_mostSootUp 13 = .ok (.invokestatic 41, 3) := ax_dec dX0_mostSootUp_q0_ok 9 (13, .invokestatic 41, 3) rfl
theorem dX0_mostSootUp_16 : decode cX0_mostSootUp 16 = .ok (.istore_n 1, 1) := ax_dec dX0_mostSootUp_q0_ok 10 (16, .istore_n 1, 1) rfl
theorem dX0_mostSootUp_17 : decode cX0_mostSootUp 17 = .ok (.aload_n 2, 1) := ax_dec dX0_mostSootUp_q0_ok 11 (17, .aload_n 2, 1) rfl
theorem dX0_mostSootUp_18 : decode cX0_mostSootUp 18 = .ok (.getfield 15, 3) := ax_dec dX0_mostSootUp_q0_ok 12 (18, .getfield 15, 3) rfl
theorem dX0_mostSootUp_21 : decode cX0_mostSootUp 21 = .ok (.astore_n 2, 1) := ax_dec dX0_mostSootUp_q0_ok 13 (21, .astore_n 2, 1) rfl
theorem dX0_mostSootUp_22 : decode cX0_mostSootUp 22 = .ok (.goto (-18), 3) := ax_dec dX0_mostSootUp_q0_ok 14 (22, .goto (-18), 3) rfl
theorem dX0_mostSootUp_25 : decode cX0_mostSootUp 25 = .ok (.iload_n 1, 1) := ax_dec dX0_mostSootUp_q0_ok 15 (25, .iload_n 1, 1) rfl
theorem dX0_mostSootUp_26 : decode cX0_mostSootUp 26 = .ok (.ireturn, 1) := ax_dec dX0_mostSootUp_q0_ok 16 (26, .ireturn, 1) rfl
def dX0_drawUp_q0 : List (Nat × (Instr × Nat)) := [(0, .iconst 0, 1), (1, .istore_n 1, 1), (2, .aload_n 0, 1), (3, .astore_n 2, 1), (4, .aload_n 2, 1), (5, .ifnull 35, 3), (8, .iload_n 1, 1), (9, .iconst 5, 1), (10, .aload_n 2, 1), (11, .getfield 22, 3), (14, .imul, 1), (15, .iconst 2, 1), (16, .aload_n 2, 1), (17, .getfield 28, 3), (20, .imul, 1), (21, .isub, 1), (22, .bipush 9, 2), (24, .aload_n 2, 1), (25, .invokevirtual 47, 3), (28, .isub, 1), (29, .isub, 1), (30, .iadd, 1), (31, .istore_n 1, 1), (32, .aload_n 2, 1), (33, .getfield 15, 3), (36, .astore_n 2, 1), (37, .goto (-33), 3), (40, .iload_n 1, 1), (41, .ireturn, 1)]
set_option maxRecDepth 100000 in
theorem dX0_drawUp_q0_ok : ax_decs cX0_drawUp dX0_drawUp_q0 = true := by decide +kernel
theorem dX0_drawUp_0 : decode cX0_drawUp 0 = .ok (.iconst 0, 1) := ax_dec dX0_drawUp_q0_ok 0 (0, .iconst 0, 1) rfl
theorem dX0_drawUp_1 : decode cX0_drawUp 1 = .ok (.istore_n 1, 1) := ax_dec dX0_drawUp_q0_ok 1 (1, .istore_n 1, 1) rfl
theorem dX0_drawUp_2 : decode cX0_drawUp 2 = .ok (.aload_n 0, 1) := ax_dec dX0_drawUp_q0_ok 2 (2, .aload_n 0, 1) rfl
theorem dX0_drawUp_3 : decode cX0_drawUp 3 = .ok (.astore_n 2, 1) := ax_dec dX0_drawUp_q0_ok 3 (3, .astore_n 2, 1) rfl
theorem dX0_drawUp_4 : decode cX0_drawUp 4 = .ok (.aload_n 2, 1) := ax_dec dX0_drawUp_q0_ok 4 (4, .aload_n 2, 1) rfl
theorem dX0_drawUp_5 : decode cX0_drawUp 5 = .ok (.ifnull 35, 3) := ax_dec dX0_drawUp_q0_ok 5 (5, .ifnull 35, 3) rfl
theorem dX0_drawUp_8 : decode cX0_drawUp 8 = .ok (.iload_n 1, 1) := ax_dec dX0_drawUp_q0_ok 6 (8, .iload_n 1, 1) rfl
theorem dX0_drawUp_9 : decode cX0_drawUp 9 = .ok (.iconst 5, 1) := ax_dec dX0_drawUp_q0_ok 7 (9, .iconst 5, 1) rfl
theorem dX0_drawUp_10 : decode cX0_drawUp 10 = .ok (.aload_n 2, 1) := ax_dec dX0_drawUp_q0_ok 8 (10, .aload_n 2, 1) rfl
theorem dX0_drawUp_11 : decode cX0_drawUp 11 = .ok (.getfield 22, 3) := ax_dec dX0_drawUp_q0_ok 9 (11, .getfield 22, 3) rfl
theorem dX0_drawUp_14 : decode cX0_drawUp 14 = .ok (.imul, 1) := ax_dec dX0_drawUp_q0_ok 10 (14, .imul, 1) rfl
theorem dX0_drawUp_15 : decode cX0_drawUp 15 = .ok (.iconst 2, 1) := ax_dec dX0_drawUp_q0_ok 11 (15, .iconst 2, 1) rfl
theorem dX0_drawUp_16 : decode cX0_drawUp 16 = .ok (.aload_n 2, 1) := ax_dec dX0_drawUp_q0_ok 12 (16, .aload_n 2, 1) rfl
theorem dX0_drawUp_17 : decode cX0_drawUp 17 = .ok (.getfield 28, 3) := ax_dec dX0_drawUp_q0_ok 13 (17, .getfield 28, 3) rfl
theorem dX0_drawUp_20 : decode cX0_drawUp 20 = .ok (.imul, 1) := ax_dec dX0_drawUp_q0_ok 14 (20, .imul, 1) rfl
theorem dX0_drawUp_21 : decode cX0_drawUp 21 = .ok (.isub, 1) := ax_dec dX0_drawUp_q0_ok 15 (21, .isub, 1) rfl
theorem dX0_drawUp_22 : decode cX0_drawUp 22 = .ok (.bipush 9, 2) := ax_dec dX0_drawUp_q0_ok 16 (22, .bipush 9, 2) rfl
theorem dX0_drawUp_24 : decode cX0_drawUp 24 = .ok (.aload_n 2, 1) := ax_dec dX0_drawUp_q0_ok 17 (24, .aload_n 2, 1) rfl
theorem dX0_drawUp_25 : decode cX0_drawUp 25 = .ok (.invokevirtual 47, 3) := ax_dec dX0_drawUp_q0_ok 18 (25, .invokevirtual 47, 3) rfl
theorem dX0_drawUp_28 : decode cX0_drawUp 28 = .ok (.isub, 1) := ax_dec dX0_drawUp_q0_ok 19 (28, .isub, 1) rfl
theorem dX0_drawUp_29 : decode cX0_drawUp 29 = .ok (.isub, 1) := ax_dec dX0_drawUp_q0_ok 20 (29, .isub, 1) rfl
theorem dX0_drawUp_30 : decode cX0_drawUp 30 = .ok (.iadd, 1) := ax_dec dX0_drawUp_q0_ok 21 (30, .iadd, 1) rfl
theorem dX0_drawUp_31 : decode cX0_drawUp 31 = .ok (.istore_n 1, 1) := ax_dec dX0_drawUp_q0_ok 22 (31, .istore_n 1, 1) rfl
theorem dX0_drawUp_32 : decode cX0_drawUp 32 = .ok (.aload_n 2, 1) := ax_dec dX0_drawUp_q0_ok 23 (32, .aload_n 2, 1) rfl
theorem dX0_drawUp_33 : decode cX0_drawUp 33 = .ok (.getfield 15, 3) := ax_dec dX0_drawUp_q0_ok 24 (33, .getfield 15, 3) rfl
theorem dX0_drawUp_36 : decode cX0_drawUp 36 = .ok (.astore_n 2, 1) := ax_dec dX0_drawUp_q0_ok 25 (36, .astore_n 2, 1) rfl
theorem dX0_drawUp_37 : decode cX0_drawUp 37 = .ok (.goto (-33), 3) := ax_dec dX0_drawUp_q0_ok 26 (37, .goto (-33), 3) rfl
theorem dX0_drawUp_40 : decode cX0_drawUp 40 = .ok (.iload_n 1, 1) := ax_dec dX0_drawUp_q0_ok 27 (40, .iload_n 1, 1) rfl
theorem dX0_drawUp_41 : decode cX0_drawUp 41 = .ok (.ireturn, 1) := ax_dec dX0_drawUp_q0_ok 28 (41, .ireturn, 1) rfl
def dX1_init_q0 : List (Nat × (Instr × Nat)) := [(0, .aload_n 0, 1), (1, .invokespecial 3, 3), (4, .aload_n 0, 1), (5, .bipush 10, 2), (7, .anewarray 9, 3), (10, .putfield 11, 3), (13, .aload_n 0, 1), (14, .iconst 4, 1), (15, .anewarray 9, 3), (18, .putfield 17, 3), (21, .aload_n 0, 1), (22, .iconst 4, 1), (23, .anewarray 9, 3), (26, .putfield 20, 3), (29, .aload_n 0, 1), (30, .sipush 400, 3), (33, .newarray .int, 2), (35, .putfield 23, 3), (38, .aload_n 0, 1), (39, .aload_n 1, 1), (40, .putfield 27, 3), (43, .return_, 1)]
set_option maxRecDepth 100000 in
theorem dX1_init_q0_ok : ax_decs cX1_init dX1_init_q0 = true := by decide +kernel
theorem dX1_init_0 : decode cX1_init 0 = .ok (.aload_n 0, 1) := ax_dec dX1_init_q0_ok 0 (0, .aload_n 0, 1) rfl
theorem dX1_init_1 : decode cX1_init 1 = .ok (.invokespecial 3, 3) := ax_dec dX1_init_q0_ok 1 (1, .invokespecial 3, 3) rfl
theorem dX1_init_4 : decode cX1_init 4 = .ok (.aload_n 0, 1) := ax_dec dX1_init_q0_ok 2 (4, .aload_n 0, 1) rfl
theorem dX1_init_5 : decode cX1_init 5 = .ok (.bipush 10, 2) := ax_dec dX1_init_q0_ok 3 (5, .bipush 10, 2) rfl
theorem dX1_init_7 : decode cX1_init 7 = .ok (.anewarray 9, 3) := ax_dec dX1_init_q0_ok 4 (7, .anewarray 9, 3) rfl
theorem dX1_init_10 : decode cX1_init 10 = .ok (.putfield 11, 3) := ax_dec dX1_init_q0_ok 5 (10, .putfield 11, 3) rfl
theorem dX1_init_13 : decode cX1_init 13 = .ok (.aload_n 0, 1) := ax_dec dX1_init_q0_ok 6 (13, .aload_n 0, 1) rfl
theorem dX1_init_14 : decode cX1_init 14 = .ok (.iconst 4, 1) := ax_dec dX1_init_q0_ok 7 (14, .iconst 4, 1) rfl
theorem dX1_init_15 : decode cX1_init 15 = .ok (.anewarray 9, 3) := ax_dec dX1_init_q0_ok 8 (15, .anewarray 9, 3) rfl
theorem dX1_init_18 : decode cX1_init 18 = .ok (.putfield 17, 3) := ax_dec dX1_init_q0_ok 9 (18, .putfield 17, 3) rfl
theorem dX1_init_21 : decode cX1_init 21 = .ok (.aload_n 0, 1) := ax_dec dX1_init_q0_ok 10 (21, .aload_n 0, 1) rfl
theorem dX1_init_22 : decode cX1_init 22 = .ok (.iconst 4, 1) := ax_dec dX1_init_q0_ok 11 (22, .iconst 4, 1) rfl
theorem dX1_init_23 : decode cX1_init 23 = .ok (.anewarray 9, 3) := ax_dec dX1_init_q0_ok 12 (23, .anewarray 9, 3) rfl
theorem dX1_init_26 : decode cX1_init 26 = .ok (.putfield 20, 3) := ax_dec dX1_init_q0_ok 13 (26, .putfield 20, 3) rfl
theorem dX1_init_29 : decode cX1_init 29 = .ok (.aload_n 0, 1) := ax_dec dX1_init_q0_ok 14 (29, .aload_n 0, 1) rfl
theorem dX1_init_30 : decode cX1_init 30 = .ok (.sipush 400, 3) := ax_dec dX1_init_q0_ok 15 (30, .sipush 400, 3) rfl
theorem dX1_init_33 : decode cX1_init 33 = .ok (.newarray .int, 2) := ax_dec dX1_init_q0_ok 16 (33, .newarray .int, 2) rfl
theorem dX1_init_35 : decode cX1_init 35 = .ok (.putfield 23, 3) := ax_dec dX1_init_q0_ok 17 (35, .putfield 23, 3) rfl
theorem dX1_init_38 : decode cX1_init 38 = .ok (.aload_n 0, 1) := ax_dec dX1_init_q0_ok 18 (38, .aload_n 0, 1) rfl
theorem dX1_init_39 : decode cX1_init 39 = .ok (.aload_n 1, 1) := ax_dec dX1_init_q0_ok 19 (39, .aload_n 1, 1) rfl
theorem dX1_init_40 : decode cX1_init 40 = .ok (.putfield 27, 3) := ax_dec dX1_init_q0_ok 20 (40, .putfield 27, 3) rfl
theorem dX1_init_43 : decode cX1_init 43 = .ok (.return_, 1) := ax_dec dX1_init_q0_ok 21 (43, .return_, 1) rfl
def dX1_bitAt_q0 : List (Nat × (Instr × Nat)) := [(0, .iload_n 1, 1), (1, .ifCond .lt 29, 3), (4, .iload_n 1, 1), (5, .aload_n 0, 1), (6, .getfield 31, 3), (9, .if_icmp .ge 21, 3), (12, .iload_n 1, 1), (13, .aload_n 0, 1), (14, .getfield 11, 3), (17, .arraylength, 1), (18, .if_icmp .ge 12, 3), (21, .aload_n 0, 1), (22, .getfield 11, 3), (25, .iload_n 1, 1), (26, .aaload, 1), (27, .goto 4, 3), (30, .aconst_null, 1), (31, .areturn, 1)]
set_option maxRecDepth 100000 in
theorem dX1_bitAt_q0_ok : ax_decs cX1_bitAt dX1_bitAt_q0 = true := by decide +kernel
theorem dX1_bitAt_0 : decode cX1_bitAt 0 = .ok (.iload_n 1, 1) := ax_dec dX1_bitAt_q0_ok 0 (0, .iload_n 1, 1) rfl
theorem dX1_bitAt_1 : decode cX1_bitAt 1 = .ok (.ifCond .lt 29, 3) := ax_dec dX1_bitAt_q0_ok 1 (1, .ifCond .lt 29, 3) rfl
theorem dX1_bitAt_4 : decode cX1_bitAt 4 = .ok (.iload_n 1, 1) := ax_dec dX1_bitAt_q0_ok 2 (4, .iload_n 1, 1) rfl
theorem dX1_bitAt_5 : decode cX1_bitAt 5 = .ok (.aload_n 0, 1) := ax_dec dX1_bitAt_q0_ok 3 (5, .aload_n 0, 1) rfl
theorem dX1_bitAt_6 : decode cX1_bitAt 6 = .ok (.getfield 31, 3) := ax_dec dX1_bitAt_q0_ok 4 (6, .getfield 31, 3) rfl
theorem dX1_bitAt_9 : decode cX1_bitAt 9 = .ok (.if_icmp .ge 21, 3) := ax_dec dX1_bitAt_q0_ok 5 (9, .if_icmp .ge 21, 3) rfl
theorem dX1_bitAt_12 : decode cX1_bitAt 12 = .ok (.iload_n 1, 1) := ax_dec dX1_bitAt_q0_ok 6 (12, .iload_n 1, 1) rfl
theorem dX1_bitAt_13 : decode cX1_bitAt 13 = .ok (.aload_n 0, 1) := ax_dec dX1_bitAt_q0_ok 7 (13, .aload_n 0, 1) rfl
theorem dX1_bitAt_14 : decode cX1_bitAt 14 = .ok (.getfield 11, 3) := ax_dec dX1_bitAt_q0_ok 8 (14, .getfield 11, 3) rfl
theorem dX1_bitAt_17 : decode cX1_bitAt 17 = .ok (.arraylength, 1) := ax_dec dX1_bitAt_q0_ok 9 (17, .arraylength, 1) rfl
theorem dX1_bitAt_18 : decode cX1_bitAt 18 = .ok (.if_icmp .ge 12, 3) := ax_dec dX1_bitAt_q0_ok 10 (18, .if_icmp .ge 12, 3) rfl
theorem dX1_bitAt_21 : decode cX1_bitAt 21 = .ok (.aload_n 0, 1) := ax_dec dX1_bitAt_q0_ok 11 (21, .aload_n 0, 1) rfl
theorem dX1_bitAt_22 : decode cX1_bitAt 22 = .ok (.getfield 11, 3) := ax_dec dX1_bitAt_q0_ok 12 (22, .getfield 11, 3) rfl
theorem dX1_bitAt_25 : decode cX1_bitAt 25 = .ok (.iload_n 1, 1) := ax_dec dX1_bitAt_q0_ok 13 (25, .iload_n 1, 1) rfl
theorem dX1_bitAt_26 : decode cX1_bitAt 26 = .ok (.aaload, 1) := ax_dec dX1_bitAt_q0_ok 14 (26, .aaload, 1) rfl
theorem dX1_bitAt_27 : decode cX1_bitAt 27 = .ok (.goto 4, 3) := ax_dec dX1_bitAt_q0_ok 15 (27, .goto 4, 3) rfl
theorem dX1_bitAt_30 : decode cX1_bitAt 30 = .ok (.aconst_null, 1) := ax_dec dX1_bitAt_q0_ok 16 (30, .aconst_null, 1) rfl
theorem dX1_bitAt_31 : decode cX1_bitAt 31 = .ok (.areturn, 1) := ax_dec dX1_bitAt_q0_ok 17 (31, .areturn, 1) rfl
def dX1_fireplaceAt_q0 : List (Nat × (Instr × Nat)) := [(0, .aload_n 0, 1), (1, .iload_n 1, 1), (2, .invokevirtual 35, 3), (5, .astore_n 2, 1), (6, .aload_n 2, 1), (7, .ifnull 11, 3), (10, .aload_n 0, 1), (11, .aload_n 2, 1), (12, .invokevirtual 39, 3), (15, .ifnull 7, 3), (18, .aconst_null, 1), (19, .goto 4, 3), (22, .aload_n 2, 1), (23, .areturn, 1)]
set_option maxRecDepth 100000 in
theorem dX1_fireplaceAt_q0_ok : ax_decs cX1_fireplaceAt dX1_fireplaceAt_q0 = true := by decide +kernel
theorem dX1_fireplaceAt_0 : decode cX1_fireplaceAt 0 = .ok (.aload_n 0, 1) := ax_dec dX1_fireplaceAt_q0_ok 0 (0, .aload_n 0, 1) rfl
theorem dX1_fireplaceAt_1 : decode cX1_fireplaceAt 1 = .ok (.iload_n 1, 1) := ax_dec dX1_fireplaceAt_q0_ok 1 (1, .iload_n 1, 1) rfl
theorem dX1_fireplaceAt_2 : decode cX1_fireplaceAt 2 = .ok (.invokevirtual 35, 3) := ax_dec dX1_fireplaceAt_q0_ok 2 (2, .invokevirtual 35, 3) rfl
theorem dX1_fireplaceAt_5 : decode cX1_fireplaceAt 5 = .ok (.astore_n 2, 1) := ax_dec dX1_fireplaceAt_q0_ok 3 (5, .astore_n 2, 1) rfl
theorem dX1_fireplaceAt_6 : decode cX1_fireplaceAt 6 = .ok (.aload_n 2, 1) := ax_dec dX1_fireplaceAt_q0_ok 4 (6, .aload_n 2, 1) rfl
theorem dX1_fireplaceAt_7 : decode cX1_fireplaceAt 7 = .ok (.ifnull 11, 3) := ax_dec dX1_fireplaceAt_q0_ok 5 (7, .ifnull 11, 3) rfl
theorem dX1_fireplaceAt_10 : decode cX1_fireplaceAt 10 = .ok (.aload_n 0, 1) := ax_dec dX1_fireplaceAt_q0_ok 6 (10, .aload_n 0, 1) rfl
theorem dX1_fireplaceAt_11 : decode cX1_fireplaceAt 11 = .ok (.aload_n 2, 1) := ax_dec dX1_fireplaceAt_q0_ok 7 (11, .aload_n 2, 1) rfl
theorem dX1_fireplaceAt_12 : decode cX1_fireplaceAt 12 = .ok (.invokevirtual 39, 3) := ax_dec dX1_fireplaceAt_q0_ok 8 (12, .invokevirtual 39, 3) rfl
theorem dX1_fireplaceAt_15 : decode cX1_fireplaceAt 15 = .ok (.ifnull 7, 3) := ax_dec dX1_fireplaceAt_q0_ok 9 (15, .ifnull 7, 3) rfl
theorem dX1_fireplaceAt_18 : decode cX1_fireplaceAt 18 = .ok (.aconst_null, 1) := ax_dec dX1_fireplaceAt_q0_ok 10 (18, .aconst_null, 1) rfl
theorem dX1_fireplaceAt_19 : decode cX1_fireplaceAt 19 = .ok (.goto 4, 3) := ax_dec dX1_fireplaceAt_q0_ok 11 (19, .goto 4, 3) rfl
theorem dX1_fireplaceAt_22 : decode cX1_fireplaceAt 22 = .ok (.aload_n 2, 1) := ax_dec dX1_fireplaceAt_q0_ok 12 (22, .aload_n 2, 1) rfl
theorem dX1_fireplaceAt_23 : decode cX1_fireplaceAt 23 = .ok (.areturn, 1) := ax_dec dX1_fireplaceAt_q0_ok 13 (23, .areturn, 1) rfl
def dX1_firstUnder_q0 : List (Nat × (Instr × Nat)) := [(0, .iconst 0, 1), (1, .istore_n 2, 1), (2, .iload_n 2, 1), (3, .aload_n 0, 1), (4, .getfield 11, 3), (7, .arraylength, 1), (8, .if_icmp .ge 29, 3), (11, .aload_n 0, 1), (12, .iload_n 2, 1), (13, .invokevirtual 35, 3), (16, .astore_n 3, 1), (17, .aload_n 3, 1), (18, .ifnull 13, 3), (21, .aload_n 3, 1), (22, .getfield 43, 3), (25, .aload_n 1, 1), (26, .if_acmp .ne 5, 3), (29, .aload_n 3, 1), (30, .areturn, 1), (31, .iinc 2 1, 3), (34, .goto (-32), 3), (37, .aconst_null, 1), (38, .areturn, 1)]
set_option maxRecDepth 100000 in
theorem dX1_firstUnder_q0_ok : ax_decs cX1_firstUnder dX1_firstUnder_q0 = true := by decide +kernel
theorem dX1_firstUnder_0 : decode cX1_firstUnder 0 = .ok (.iconst 0, 1) := ax_dec dX1_firstUnder_q0_ok 0 (0, .iconst 0, 1) rfl
theorem dX1_firstUnder_1 : decode cX1_firstUnder 1 = .ok (.istore_n 2, 1) := ax_dec dX1_firstUnder_q0_ok 1 (1, .istore_n 2, 1) rfl
theorem dX1_firstUnder_2 : decode cX1_firstUnder 2 = .ok (.iload_n 2, 1) := ax_dec dX1_firstUnder_q0_ok 2 (2, .iload_n 2, 1) rfl
theorem dX1_firstUnder_3 : decode cX1_firstUnder 3 = .ok (.aload_n 0, 1) := ax_dec dX1_firstUnder_q0_ok 3 (3, .aload_n 0, 1) rfl
theorem dX1_firstUnder_4 : decode cX1_firstUnder 4 = .ok (.getfield 11, 3) := ax_dec dX1_firstUnder_q0_ok 4 (4, .getfield 11, 3) rfl
theorem dX1_firstUnder_7 : decode cX1_firstUnder 7 = .ok (.arraylength, 1) := ax_dec dX1_firstUnder_q0_ok 5 (7, .arraylength, 1) rfl
theorem dX1_firstUnder_8 : decode cX1_firstUnder 8 = .ok (.if_icmp .ge 29, 3) := ax_dec dX1_firstUnder_q0_ok 6 (8, .if_icmp .ge 29, 3) rfl
theorem dX1_firstUnder_11 : decode cX1_firstUnder 11 = .ok (.aload_n 0, 1) := ax_dec dX1_firstUnder_q0_ok 7 (11, .aload_n 0, 1) rfl
theorem dX1_firstUnder_12 : decode cX1_firstUnder 12 = .ok (.iload_n 2, 1) := ax_dec dX1_firstUnder_q0_ok 8 (12, .iload_n 2, 1) rfl
theorem dX1_firstUnder_13 : decode cX1_firstUnder 13 = .ok (.invokevirtual 35, 3) := ax_dec dX1_firstUnder_q0_ok 9 (13, .invokevirtual 35, 3) rfl
theorem dX1_firstUnder_16 : decode cX1_firstUnder 16 = .ok (.astore_n 3, 1) := ax_dec dX1_firstUnder_q0_ok 10 (16, .astore_n 3, 1) rfl
theorem dX1_firstUnder_17 : decode cX1_firstUnder 17 = .ok (.aload_n 3, 1) := ax_dec dX1_firstUnder_q0_ok 11 (17, .aload_n 3, 1) rfl
theorem dX1_firstUnder_18 : decode cX1_firstUnder 18 = .ok (.ifnull 13, 3) := ax_dec dX1_firstUnder_q0_ok 12 (18, .ifnull 13, 3) rfl
theorem dX1_firstUnder_21 : decode cX1_firstUnder 21 = .ok (.aload_n 3, 1) := ax_dec dX1_firstUnder_q0_ok 13 (21, .aload_n 3, 1) rfl
theorem dX1_firstUnder_22 : decode cX1_firstUnder 22 = .ok (.getfield 43, 3) := ax_dec dX1_firstUnder_q0_ok 14 (22, .getfield 43, 3) rfl
theorem dX1_firstUnder_25 : decode cX1_firstUnder 25 = .ok (.aload_n 1, 1) := ax_dec dX1_firstUnder_q0_ok 15 (25, .aload_n 1, 1) rfl
theorem dX1_firstUnder_26 : decode cX1_firstUnder 26 = .ok (.if_acmp .ne 5, 3) := ax_dec dX1_firstUnder_q0_ok 16 (26, .if_acmp .ne 5, 3) rfl
theorem dX1_firstUnder_29 : decode cX1_firstUnder 29 = .ok (.aload_n 3, 1) := ax_dec dX1_firstUnder_q0_ok 17 (29, .aload_n 3, 1) rfl
theorem dX1_firstUnder_30 : decode cX1_firstUnder 30 = .ok (.areturn, 1) := ax_dec dX1_firstUnder_q0_ok 18 (30, .areturn, 1) rfl
theorem dX1_firstUnder_31 : decode cX1_firstUnder 31 = .ok (.iinc 2 1, 3) := ax_dec dX1_firstUnder_q0_ok 19 (31, .iinc 2 1, 3) rfl
theorem dX1_firstUnder_34 : decode cX1_firstUnder 34 = .ok (.goto (-32), 3) := ax_dec dX1_firstUnder_q0_ok 20 (34, .goto (-32), 3) rfl
theorem dX1_firstUnder_37 : decode cX1_firstUnder 37 = .ok (.aconst_null, 1) := ax_dec dX1_firstUnder_q0_ok 21 (37, .aconst_null, 1) rfl
theorem dX1_firstUnder_38 : decode cX1_firstUnder 38 = .ok (.areturn, 1) := ax_dec dX1_firstUnder_q0_ok 22 (38, .areturn, 1) rfl
def dX1_isFull_q0 : List (Nat × (Instr × Nat)) := [(0, .aload_n 0, 1), (1, .getfield 31, 3), (4, .ifCond .lt 15, 3), (7, .aload_n 0, 1), (8, .getfield 31, 3), (11, .aload_n 0, 1), (12, .getfield 11, 3), (15, .arraylength, 1), (16, .if_icmp .lt 7, 3), (19, .iconst 1, 1), (20, .goto 4, 3), (23, .iconst 0, 1), (24, .ireturn, 1)]
set_option maxRecDepth 100000 in
theorem dX1_isFull_q0_ok : ax_decs cX1_isFull dX1_isFull_q0 = true := by decide +kernel
theorem dX1_isFull_0 : decode cX1_isFull 0 = .ok (.aload_n 0, 1) := ax_dec dX1_isFull_q0_ok 0 (0, .aload_n 0, 1) rfl
theorem dX1_isFull_1 : decode cX1_isFull 1 = .ok (.getfield 31, 3) := ax_dec dX1_isFull_q0_ok 1 (1, .getfield 31, 3) rfl
theorem dX1_isFull_4 : decode cX1_isFull 4 = .ok (.ifCond .lt 15, 3) := ax_dec dX1_isFull_q0_ok 2 (4, .ifCond .lt 15, 3) rfl
theorem dX1_isFull_7 : decode cX1_isFull 7 = .ok (.aload_n 0, 1) := ax_dec dX1_isFull_q0_ok 3 (7, .aload_n 0, 1) rfl
theorem dX1_isFull_8 : decode cX1_isFull 8 = .ok (.getfield 31, 3) := ax_dec dX1_isFull_q0_ok 4 (8, .getfield 31, 3) rfl
theorem dX1_isFull_11 : decode cX1_isFull 11 = .ok (.aload_n 0, 1) := ax_dec dX1_isFull_q0_ok 5 (11, .aload_n 0, 1) rfl
theorem dX1_isFull_12 : decode cX1_isFull 12 = .ok (.getfield 11, 3) := ax_dec dX1_isFull_q0_ok 6 (12, .getfield 11, 3) rfl
theorem dX1_isFull_15 : decode cX1_isFull 15 = .ok (.arraylength, 1) := ax_dec dX1_isFull_q0_ok 7 (15, .arraylength, 1) rfl
theorem dX1_isFull_16 : decode cX1_isFull 16 = .ok (.if_icmp .lt 7, 3) := ax_dec dX1_isFull_q0_ok 8 (16, .if_icmp .lt 7, 3) rfl
theorem dX1_isFull_19 : decode cX1_isFull 19 = .ok (.iconst 1, 1) := ax_dec dX1_isFull_q0_ok 9 (19, .iconst 1, 1) rfl
theorem dX1_isFull_20 : decode cX1_isFull 20 = .ok (.goto 4, 3) := ax_dec dX1_isFull_q0_ok 10 (20, .goto 4, 3) rfl
theorem dX1_isFull_23 : decode cX1_isFull 23 = .ok (.iconst 0, 1) := ax_dec dX1_isFull_q0_ok 11 (23, .iconst 0, 1) rfl
theorem dX1_isFull_24 : decode cX1_isFull 24 = .ok (.ireturn, 1) := ax_dec dX1_isFull_q0_ok 12 (24, .ireturn, 1) rfl
def dX1_add_q0 : List (Nat × (Instr × Nat)) := [(0, .aload_n 0, 1), (1, .invokevirtual 47, 3), (4, .ifCond .eq 6, 3), (7, .bipush (-4), 2), (9, .ireturn, 1), (10, .aload_n 0, 1), (11, .getfield 11, 3), (14, .aload_n 0, 1), (15, .getfield 31, 3), (18, .aload_n 1, 1), (19, .aastore, 1), (20, .aload_n 0, 1), (21, .dup, 1), (22, .getfield 31, 3), (25, .iconst 1, 1), (26, .iadd, 1), (27, .putfield 31, 3), (30, .aload_n 1, 1), (31, .getfield 51, 3), (34, .ireturn, 1)]
set_option maxRecDepth 100000 in
theorem dX1_add_q0_ok : ax_decs cX1_add dX1_add_q0 = true := by decide +kernel
theorem dX1_add_0 : decode cX1_add 0 = .ok (.aload_n 0, 1) := ax_dec dX1_add_q0_ok 0 (0, .aload_n 0, 1) rfl
theorem dX1_add_1 : decode cX1_add 1 = .ok (.invokevirtual 47, 3) := ax_dec dX1_add_q0_ok 1 (1, .invokevirtual 47, 3) rfl
theorem dX1_add_4 : decode cX1_add 4 = .ok (.ifCond .eq 6, 3) := ax_dec dX1_add_q0_ok 2 (4, .ifCond .eq 6, 3) rfl
theorem dX1_add_7 : decode cX1_add 7 = .ok (.bipush (-4), 2) := ax_dec dX1_add_q0_ok 3 (7, .bipush (-4), 2) rfl
theorem dX1_add_9 : decode cX1_add 9 = .ok (.ireturn, 1) := ax_dec dX1_add_q0_ok 4 (9, .ireturn, 1) rfl
theorem dX1_add_10 : decode cX1_add 10 = .ok (.aload_n 0, 1) := ax_dec dX1_add_q0_ok 5 (10, .aload_n 0, 1) rfl
theorem dX1_add_11 : decode cX1_add 11 = .ok (.getfield 11, 3) := ax_dec dX1_add_q0_ok 6 (11, .getfield 11, 3) rfl
theorem dX1_add_14 : decode cX1_add 14 = .ok (.aload_n 0, 1) := ax_dec dX1_add_q0_ok 7 (14, .aload_n 0, 1) rfl
theorem dX1_add_15 : decode cX1_add 15 = .ok (.getfield 31, 3) := ax_dec dX1_add_q0_ok 8 (15, .getfield 31, 3) rfl
theorem dX1_add_18 : decode cX1_add 18 = .ok (.aload_n 1, 1) := ax_dec dX1_add_q0_ok 9 (18, .aload_n 1, 1) rfl
theorem dX1_add_19 : decode cX1_add 19 = .ok (.aastore, 1) := ax_dec dX1_add_q0_ok 10 (19, .aastore, 1) rfl
theorem dX1_add_20 : decode cX1_add 20 = .ok (.aload_n 0, 1) := ax_dec dX1_add_q0_ok 11 (20, .aload_n 0, 1) rfl
theorem dX1_add_21 : decode cX1_add 21 = .ok (.dup, 1) := ax_dec dX1_add_q0_ok 12 (21, .dup, 1) rfl
theorem dX1_add_22 : decode cX1_add 22 = .ok (.getfield 31, 3) := ax_dec dX1_add_q0_ok 13 (22, .getfield 31, 3) rfl
theorem dX1_add_25 : decode cX1_add 25 = .ok (.iconst 1, 1) := ax_dec dX1_add_q0_ok 14 (25, .iconst 1, 1) rfl
theorem dX1_add_26 : decode cX1_add 26 = .ok (.iadd, 1) := ax_dec dX1_add_q0_ok 15 (26, .iadd, 1) rfl
theorem dX1_add_27 : decode cX1_add 27 = .ok (.putfield 31, 3) := ax_dec dX1_add_q0_ok 16 (27, .putfield 31, 3) rfl
theorem dX1_add_30 : decode cX1_add 30 = .ok (.aload_n 1, 1) := ax_dec dX1_add_q0_ok 17 (30, .aload_n 1, 1) rfl
theorem dX1_add_31 : decode cX1_add 31 = .ok (.getfield 51, 3) := ax_dec dX1_add_q0_ok 18 (31, .getfield 51, 3) rfl
theorem dX1_add_34 : decode cX1_add 34 = .ok (.ireturn, 1) := ax_dec dX1_add_q0_ok 19 (34, .ireturn, 1) rfl
def dX1_fireplaces_q0 : List (Nat × (Instr × Nat)) := [(0, .iconst 0, 1), (1, .istore_n 1, 1), (2, .iconst 0, 1), (3, .istore_n 2, 1), (4, .iload_n 2, 1), (5, .aload_n 0, 1), (6, .getfield 11, 3), (9, .arraylength, 1), (10, .if_icmp .ge 23, 3), (13, .aload_n 0, 1), (14, .iload_n 2, 1), (15, .invokevirtual 54, 3), (18, .ifnull 9, 3), (21, .iload_n 1, 1), (22, .iconst 1, 1), (23, .iload_n 2, 1), (24, .ishl, 1), (25, .ior, 1), (26, .istore_n 1, 1), (27, .iinc 2 1, 3), (30, .goto (-26), 3), (33, .iload_n 1, 1), (34, .ireturn, 1)]
set_option maxRecDepth 100000 in
theorem dX1_fireplaces_q0_ok : ax_decs cX1_fireplaces dX1_fireplaces_q0 = true := by decide +kernel
theorem dX1_fireplaces_0 : decode cX1_fireplaces 0 = .ok (.iconst 0, 1) := ax_dec dX1_fireplaces_q0_ok 0 (0, .iconst 0, 1) rfl
theorem dX1_fireplaces_1 : decode cX1_fireplaces 1 = .ok (.istore_n 1, 1) := ax_dec dX1_fireplaces_q0_ok 1 (1, .istore_n 1, 1) rfl
theorem dX1_fireplaces_2 : decode cX1_fireplaces 2 = .ok (.iconst 0, 1) := ax_dec dX1_fireplaces_q0_ok 2 (2, .iconst 0, 1) rfl
theorem dX1_fireplaces_3 : decode cX1_fireplaces 3 = .ok (.istore_n 2, 1) := ax_dec dX1_fireplaces_q0_ok 3 (3, .istore_n 2, 1) rfl
theorem dX1_fireplaces_4 : decode cX1_fireplaces 4 = .ok (.iload_n 2, 1) := ax_dec dX1_fireplaces_q0_ok 4 (4, .iload_n 2, 1) rfl
theorem dX1_fireplaces_5 : decode cX1_fireplaces 5 = .ok (.aload_n 0, 1) := ax_dec dX1_fireplaces_q0_ok 5 (5, .aload_n 0, 1) rfl
theorem dX1_fireplaces_6 : decode cX1_fireplaces 6 = .ok (.getfield 11, 3) := ax_dec dX1_fireplaces_q0_ok 6 (6, .getfield 11, 3) rfl
theorem dX1_fireplaces_9 : decode cX1_fireplaces 9 = .ok (.arraylength, 1) := ax_dec dX1_fireplaces_q0_ok 7 (9, .arraylength, 1) rfl
theorem dX1_fireplaces_10 : decode cX1_fireplaces 10 = .ok (.if_icmp .ge 23, 3) := ax_dec dX1_fireplaces_q0_ok 8 (10, .if_icmp .ge 23, 3) rfl
theorem dX1_fireplaces_13 : decode cX1_fireplaces 13 = .ok (.aload_n 0, 1) := ax_dec dX1_fireplaces_q0_ok 9 (13, .aload_n 0, 1) rfl
theorem dX1_fireplaces_14 : decode cX1_fireplaces 14 = .ok (.iload_n 2, 1) := ax_dec dX1_fireplaces_q0_ok 10 (14, .iload_n 2, 1) rfl
theorem dX1_fireplaces_15 : decode cX1_fireplaces 15 = .ok (.invokevirtual 54, 3) := ax_dec dX1_fireplaces_q0_ok 11 (15, .invokevirtual 54, 3) rfl
theorem dX1_fireplaces_18 : decode cX1_fireplaces 18 = .ok (.ifnull 9, 3) := ax_dec dX1_fireplaces_q0_ok 12 (18, .ifnull 9, 3) rfl
theorem dX1_fireplaces_21 : decode cX1_fireplaces 21 = .ok (.iload_n 1, 1) := ax_dec dX1_fireplaces_q0_ok 13 (21, .iload_n 1, 1) rfl
theorem dX1_fireplaces_22 : decode cX1_fireplaces 22 = .ok (.iconst 1, 1) := ax_dec dX1_fireplaces_q0_ok 14 (22, .iconst 1, 1) rfl
theorem dX1_fireplaces_23 : decode cX1_fireplaces 23 = .ok (.iload_n 2, 1) := ax_dec dX1_fireplaces_q0_ok 15 (23, .iload_n 2, 1) rfl
theorem dX1_fireplaces_24 : decode cX1_fireplaces 24 = .ok (.ishl, 1) := ax_dec dX1_fireplaces_q0_ok 16 (24, .ishl, 1) rfl
theorem dX1_fireplaces_25 : decode cX1_fireplaces 25 = .ok (.ior, 1) := ax_dec dX1_fireplaces_q0_ok 17 (25, .ior, 1) rfl
theorem dX1_fireplaces_26 : decode cX1_fireplaces 26 = .ok (.istore_n 1, 1) := ax_dec dX1_fireplaces_q0_ok 18 (26, .istore_n 1, 1) rfl
theorem dX1_fireplaces_27 : decode cX1_fireplaces 27 = .ok (.iinc 2 1, 3) := ax_dec dX1_fireplaces_q0_ok 19 (27, .iinc 2 1, 3) rfl
theorem dX1_fireplaces_30 : decode cX1_fireplaces 30 = .ok (.goto (-26), 3) := ax_dec dX1_fireplaces_q0_ok 20 (30, .goto (-26), 3) rfl
theorem dX1_fireplaces_33 : decode cX1_fireplaces 33 = .ok (.iload_n 1, 1) := ax_dec dX1_fireplaces_q0_ok 21 (33, .iload_n 1, 1) rfl
theorem dX1_fireplaces_34 : decode cX1_fireplaces 34 = .ok (.ireturn, 1) := ax_dec dX1_fireplaces_q0_ok 22 (34, .ireturn, 1) rfl
def dX1_pots_q0 : List (Nat × (Instr × Nat)) := [(0, .iconst 0, 1), (1, .istore_n 1, 1), (2, .iconst 0, 1), (3, .istore_n 2, 1), (4, .iload_n 2, 1), (5, .aload_n 0, 1), (6, .getfield 11, 3), (9, .arraylength, 1), (10, .if_icmp .ge 32, 3), (13, .aload_n 0, 1), (14, .iload_n 2, 1), (15, .invokevirtual 35, 3), (18, .astore_n 3, 1), (19, .aload_n 3, 1), (20, .ifnull 16, 3), (23, .aload_n 3, 1), (24, .getfield 43, 3), (27, .ifnonnull 9, 3), (30, .iload_n 1, 1), (31, .iconst 1, 1), (32, .iload_n 2, 1), (33, .ishl, 1), (34, .ior, 1), (35, .istore_n 1, 1), (36, .iinc 2 1, 3), (39, .goto (-35), 3), (42, .iload_n 1, 1), (43, .ireturn, 1)]
set_option maxRecDepth 100000 in
theorem dX1_pots_q0_ok : ax_decs cX1_pots dX1_pots_q0 = true := by decide +kernel
theorem dX1_pots_0 : decode cX1_pots 0 = .ok (.iconst 0, 1) := ax_dec dX1_pots_q0_ok 0 (0, .iconst 0, 1) rfl
theorem dX1_pots_1 : decode cX1_pots 1 = .ok (.istore_n 1, 1) := ax_dec dX1_pots_q0_ok 1 (1, .istore_n 1, 1) rfl
theorem dX1_pots_2 : decode cX1_pots 2 = .ok (.iconst 0, 1) := ax_dec dX1_pots_q0_ok 2 (2, .iconst 0, 1) rfl
theorem dX1_pots_3 : decode cX1_pots 3 = .ok (.istore_n 2, 1) := ax_dec dX1_pots_q0_ok 3 (3, .istore_n 2, 1) rfl
theorem dX1_pots_4 : decode cX1_pots 4 = .ok (.iload_n 2, 1) := ax_dec dX1_pots_q0_ok 4 (4, .iload_n 2, 1) rfl
theorem dX1_pots_5 : decode cX1_pots 5 = .ok (.aload_n 0, 1) := ax_dec dX1_pots_q0_ok 5 (5, .aload_n 0, 1) rfl
theorem dX1_pots_6 : decode cX1_pots 6 = .ok (.getfield 11, 3) := ax_dec dX1_pots_q0_ok 6 (6, .getfield 11, 3) rfl
theorem dX1_pots_9 : decode cX1_pots 9 = .ok (.arraylength, 1) := ax_dec dX1_pots_q0_ok 7 (9, .arraylength, 1) rfl
theorem dX1_pots_10 : decode cX1_pots 10 = .ok (.if_icmp .ge 32, 3) := ax_dec dX1_pots_q0_ok 8 (10, .if_icmp .ge 32, 3) rfl
theorem dX1_pots_13 : decode cX1_pots 13 = .ok (.aload_n 0, 1) := ax_dec dX1_pots_q0_ok 9 (13, .aload_n 0, 1) rfl
theorem dX1_pots_14 : decode cX1_pots 14 = .ok (.iload_n 2, 1) := ax_dec dX1_pots_q0_ok 10 (14, .iload_n 2, 1) rfl
theorem dX1_pots_15 : decode cX1_pots 15 = .ok (.invokevirtual 35, 3) := ax_dec dX1_pots_q0_ok 11 (15, .invokevirtual 35, 3) rfl
theorem dX1_pots_18 : decode cX1_pots 18 = .ok (.astore_n 3, 1) := ax_dec dX1_pots_q0_ok 12 (18, .astore_n 3, 1) rfl
theorem dX1_pots_19 : decode cX1_pots 19 = .ok (.aload_n 3, 1) := ax_dec dX1_pots_q0_ok 13 (19, .aload_n 3, 1) rfl
theorem dX1_pots_20 : decode cX1_pots 20 = .ok (.ifnull 16, 3) := ax_dec dX1_pots_q0_ok 14 (20, .ifnull 16, 3) rfl
theorem dX1_pots_23 : decode cX1_pots 23 = .ok (.aload_n 3, 1) := ax_dec dX1_pots_q0_ok 15 (23, .aload_n 3, 1) rfl
theorem dX1_pots_24 : decode cX1_pots 24 = .ok (.getfield 43, 3) := ax_dec dX1_pots_q0_ok 16 (24, .getfield 43, 3) rfl
theorem dX1_pots_27 : decode cX1_pots 27 = .ok (.ifnonnull 9, 3) := ax_dec dX1_pots_q0_ok 17 (27, .ifnonnull 9, 3) rfl
theorem dX1_pots_30 : decode cX1_pots 30 = .ok (.iload_n 1, 1) := ax_dec dX1_pots_q0_ok 18 (30, .iload_n 1, 1) rfl
theorem dX1_pots_31 : decode cX1_pots 31 = .ok (.iconst 1, 1) := ax_dec dX1_pots_q0_ok 19 (31, .iconst 1, 1) rfl
theorem dX1_pots_32 : decode cX1_pots 32 = .ok (.iload_n 2, 1) := ax_dec dX1_pots_q0_ok 20 (32, .iload_n 2, 1) rfl
theorem dX1_pots_33 : decode cX1_pots 33 = .ok (.ishl, 1) := ax_dec dX1_pots_q0_ok 21 (33, .ishl, 1) rfl
theorem dX1_pots_34 : decode cX1_pots 34 = .ok (.ior, 1) := ax_dec dX1_pots_q0_ok 22 (34, .ior, 1) rfl
theorem dX1_pots_35 : decode cX1_pots 35 = .ok (.istore_n 1, 1) := ax_dec dX1_pots_q0_ok 23 (35, .istore_n 1, 1) rfl
theorem dX1_pots_36 : decode cX1_pots 36 = .ok (.iinc 2 1, 3) := ax_dec dX1_pots_q0_ok 24 (36, .iinc 2 1, 3) rfl
theorem dX1_pots_39 : decode cX1_pots 39 = .ok (.goto (-35), 3) := ax_dec dX1_pots_q0_ok 25 (39, .goto (-35), 3) rfl
theorem dX1_pots_42 : decode cX1_pots 42 = .ok (.iload_n 1, 1) := ax_dec dX1_pots_q0_ok 26 (42, .iload_n 1, 1) rfl
theorem dX1_pots_43 : decode cX1_pots 43 = .ok (.ireturn, 1) := ax_dec dX1_pots_q0_ok 27 (43, .ireturn, 1) rfl
def dX1_fireplacesUnder_q0 : List (Nat × (Instr × Nat)) := [(0, .iconst 0, 1), (1, .istore_n 2, 1), (2, .iconst 0, 1), (3, .istore_n 3, 1), (4, .iload_n 3, 1), (5, .aload_n 0, 1), (6, .getfield 11, 3), (9, .arraylength, 1), (10, .if_icmp .ge 42, 3), (13, .aload_n 0, 1), (14, .iload_n 3, 1), (15, .invokevirtual 54, 3), (18, .astore 4, 2), (20, .aload 4, 2), (22, .ifnull 24, 3), (25, .aload 4, 2), (27, .invokevirtual 57, 3), (30, .iconst 1, 1), (31, .aload_n 1, 1), (32, .getfield 51, 3), (35, .ishl, 1), (36, .iand, 1), (37, .ifCond .eq 9, 3), (40, .iload_n 2, 1), (41, .iconst 1, 1), (42, .iload_n 3, 1), (43, .ishl, 1), (44, .ior, 1), (45, .istore_n 2, 1), (46, .iinc 3 1, 3), (49, .goto (-45), 3), (52, .iload_n 2, 1)]
set_option maxRecDepth 100000 in
theorem dX1_fireplacesUnder_q0_ok : ax_decs cX1_fireplacesUnder dX1_fireplacesUnder_q0 = true := by decide +kernel
theorem dX1_fireplacesUnder_0 : decode cX1_fireplacesUnder 0 = .ok (.iconst 0, 1) := ax_dec dX1_fireplacesUnder_q0_ok 0 (0, .iconst 0, 1) rfl
theorem dX1_fireplacesUnder_1 : decode cX1_fireplacesUnder 1 = .ok (.istore_n 2, 1) := ax_dec dX1_fireplacesUnder_q0_ok 1 (1, .istore_n 2, 1) rfl
theorem dX1_fireplacesUnder_2 : decode cX1_fireplacesUnder 2 = .ok (.iconst 0, 1) := ax_dec dX1_fireplacesUnder_q0_ok 2 (2, .iconst 0, 1) rfl
theorem dX1_fireplacesUnder_3 : decode cX1_fireplacesUnder 3 = .ok (.istore_n 3, 1) := ax_dec dX1_fireplacesUnder_q0_ok 3 (3, .istore_n 3, 1) rfl
theorem dX1_fireplacesUnder_4 : decode cX1_fireplacesUnder 4 = .ok (.iload_n 3, 1) := ax_dec dX1_fireplacesUnder_q0_ok 4 (4, .iload_n 3, 1) rfl
theorem dX1_fireplacesUnder_5 : decode cX1_fireplacesUnder 5 = .ok (.aload_n 0, 1) := ax_dec dX1_fireplacesUnder_q0_ok 5 (5, .aload_n 0, 1) rfl
theorem dX1_fireplacesUnder_6 : decode cX1_fireplacesUnder 6 = .ok (.getfield 11, 3) := ax_dec dX1_fireplacesUnder_q0_ok 6 (6, .getfield 11, 3) rfl
theorem dX1_fireplacesUnder_9 : decode cX1_fireplacesUnder 9 = .ok (.arraylength, 1) := ax_dec dX1_fireplacesUnder_q0_ok 7 (9, .arraylength, 1) rfl
theorem dX1_fireplacesUnder_10 : decode cX1_fireplacesUnder 10 = .ok (.if_icmp .ge 42, 3) := ax_dec dX1_fireplacesUnder_q0_ok 8 (10, .if_icmp .ge 42, 3) rfl
theorem dX1_fireplacesUnder_13 : decode cX1_fireplacesUnder 13 = .ok (.aload_n 0, 1) := ax_dec dX1_fireplacesUnder_q0_ok 9 (13, .aload_n 0, 1) rfl
theorem dX1_fireplacesUnder_14 : decode cX1_fireplacesUnder 14 = .ok (.iload_n 3, 1) := ax_dec dX1_fireplacesUnder_q0_ok 10 (14, .iload_n 3, 1) rfl
theorem dX1_fireplacesUnder_15 : decode cX1_fireplacesUnder 15 = .ok (.invokevirtual 54, 3) := ax_dec dX1_fireplacesUnder_q0_ok 11 (15, .invokevirtual 54, 3) rfl
theorem dX1_fireplacesUnder_18 : decode cX1_fireplacesUnder 18 = .ok (.astore 4, 2) := ax_dec dX1_fireplacesUnder_q0_ok 12 (18, .astore 4, 2) rfl
theorem dX1_fireplacesUnder_20 : decode cX1_fireplacesUnder 20 = .ok (.aload 4, 2) := ax_dec dX1_fireplacesUnder_q0_ok 13 (20, .aload 4, 2) rfl
theorem dX1_fireplacesUnder_22 : decode cX1_fireplacesUnder 22 = .ok (.ifnull 24, 3) := ax_dec dX1_fireplacesUnder_q0_ok 14 (22, .ifnull 24, 3) rfl
theorem dX1_fireplacesUnder_25 : decode cX1_fireplacesUnder 25 = .ok (.aload 4, 2) := ax_dec dX1_fireplacesUnder_q0_ok 15 (25, .aload 4, 2) rfl
theorem dX1_fireplacesUnder_27 : decode cX1_fireplacesUnder 27 = .ok (.invokevirtual 57, 3) := ax_dec dX1_fireplacesUnder_q0_ok 16 (27, .invokevirtual 57, 3) rfl
theorem dX1_fireplacesUnder_30 : decode cX1_fireplacesUnder 30 = .ok (.iconst 1, 1) := ax_dec dX1_fireplacesUnder_q0_ok 17 (30, .iconst 1, 1) rfl
theorem dX1_fireplacesUnder_31 : decode cX1_fireplacesUnder 31 = .ok (.aload_n 1, 1) := ax_dec dX1_fireplacesUnder_q0_ok 18 (31, .aload_n 1, 1) rfl
theorem dX1_fireplacesUnder_32 : decode cX1_fireplacesUnder 32 = .ok (.getfield 51, 3) := ax_dec dX1_fireplacesUnder_q0_ok 19 (32, .getfield 51, 3) rfl
theorem dX1_fireplacesUnder_35 : decode cX1_fireplacesUnder 35 = .ok (.ishl, 1) := ax_dec dX1_fireplacesUnder_q0_ok 20 (35, .ishl, 1) rfl
theorem dX1_fireplacesUnder_36 : decode cX1_fireplacesUnder 36 = .ok (.iand, 1) := ax_dec dX1_fireplacesUnder_q0_ok 21 (36, .iand, 1) rfl
theorem dX1_fireplacesUnder_37 : decode cX1_fireplacesUnder 37 = .ok (.ifCond .eq 9, 3) := ax_dec dX1_fireplacesUnder_q0_ok 22 (37, .ifCond .eq 9, 3) rfl
theorem dX1_fireplacesUnder_40 : decode cX1_fireplacesUnder 40 = .ok (.iload_n 2, 1) := ax_dec dX1_fireplacesUnder_q0_ok 23 (40, .iload_n 2, 1) rfl
theorem dX1_fireplacesUnder_41 : decode cX1_fireplacesUnder 41 = .ok (.iconst 1, 1) := ax_dec dX1_fireplacesUnder_q0_ok 24 (41, .iconst 1, 1) rfl
theorem dX1_fireplacesUnder_42 : decode cX1_fireplacesUnder 42 = .ok (.iload_n 3, 1) := ax_dec dX1_fireplacesUnder_q0_ok 25 (42, .iload_n 3, 1) rfl
theorem dX1_fireplacesUnder_43 : decode cX1_fireplacesUnder 43 = .ok (.ishl, 1) := ax_dec dX1_fireplacesUnder_q0_ok 26 (43, .ishl, 1) rfl
theorem dX1_fireplacesUnder_44 : decode cX1_fireplacesUnder 44 = .ok (.ior, 1) := ax_dec dX1_fireplacesUnder_q0_ok 27 (44, .ior, 1) rfl
theorem dX1_fireplacesUnder_45 : decode cX1_fireplacesUnder 45 = .ok (.istore_n 2, 1) := ax_dec dX1_fireplacesUnder_q0_ok 28 (45, .istore_n 2, 1) rfl
theorem dX1_fireplacesUnder_46 : decode cX1_fireplacesUnder 46 = .ok (.iinc 3 1, 3) := ax_dec dX1_fireplacesUnder_q0_ok 29 (46, .iinc 3 1, 3) rfl
theorem dX1_fireplacesUnder_49 : decode cX1_fireplacesUnder 49 = .ok (.goto (-45), 3) := ax_dec dX1_fireplacesUnder_q0_ok 30 (49, .goto (-45), 3) rfl
theorem dX1_fireplacesUnder_52 : decode cX1_fireplacesUnder 52 = .ok (.iload_n 2, 1) := ax_dec dX1_fireplacesUnder_q0_ok 31 (52, .iload_n 2, 1) rfl
def dX1_fireplacesUnder_q1 : List (Nat × (Instr × Nat)) := [(53, .ireturn, 1)]
set_option maxRecDepth 100000 in
theorem dX1_fireplacesUnder_q1_ok : ax_decs cX1_fireplacesUnder dX1_fireplacesUnder_q1 = true := by decide +kernel
theorem dX1_fireplacesUnder_53 : decode cX1_fireplacesUnder 53 = .ok (.ireturn, 1) := ax_dec dX1_fireplacesUnder_q1_ok 0 (53, .ireturn, 1) rfl
def dX1_setSootAside_q0 : List (Nat × (Instr × Nat)) := [(0, .iconst 0, 1), (1, .istore_n 1, 1), (2, .iload_n 1, 1), (3, .aload_n 0, 1), (4, .getfield 11, 3), (7, .arraylength, 1), (8, .if_icmp .ge 27, 3), (11, .aload_n 0, 1), (12, .iload_n 1, 1), (13, .invokevirtual 35, 3), (16, .astore_n 2, 1), (17, .aload_n 2, 1), (18, .ifnull 11, 3), (21, .aload_n 2, 1), (22, .aload_n 2, 1), (23, .getfield 61, 3), (26, .putfield 64, 3), (29, .iinc 1 1, 3), (32, .goto (-30), 3), (35, .return_, 1)]
set_option maxRecDepth 100000 in
theorem dX1_setSootAside_q0_ok : ax_decs cX1_setSootAside dX1_setSootAside_q0 = true := by decide +kernel
theorem dX1_setSootAside_0 : decode cX1_setSootAside 0 = .ok (.iconst 0, 1) := ax_dec dX1_setSootAside_q0_ok 0 (0, .iconst 0, 1) rfl
theorem dX1_setSootAside_1 : decode cX1_setSootAside 1 = .ok (.istore_n 1, 1) := ax_dec dX1_setSootAside_q0_ok 1 (1, .istore_n 1, 1) rfl
theorem dX1_setSootAside_2 : decode cX1_setSootAside 2 = .ok (.iload_n 1, 1) := ax_dec dX1_setSootAside_q0_ok 2 (2, .iload_n 1, 1) rfl
theorem dX1_setSootAside_3 : decode cX1_setSootAside 3 = .ok (.aload_n 0, 1) := ax_dec dX1_setSootAside_q0_ok 3 (3, .aload_n 0, 1) rfl
theorem dX1_setSootAside_4 : decode cX1_setSootAside 4 = .ok (.getfield 11, 3) := ax_dec dX1_setSootAside_q0_ok 4 (4, .getfield 11, 3) rfl
theorem dX1_setSootAside_7 : decode cX1_setSootAside 7 = .ok (.arraylength, 1) := ax_dec dX1_setSootAside_q0_ok 5 (7, .arraylength, 1) rfl
theorem dX1_setSootAside_8 : decode cX1_setSootAside 8 = .ok (.if_icmp .ge 27, 3) := ax_dec dX1_setSootAside_q0_ok 6 (8, .if_icmp .ge 27, 3) rfl
theorem dX1_setSootAside_11 : decode cX1_setSootAside 11 = .ok (.aload_n 0, 1) := ax_dec dX1_setSootAside_q0_ok 7 (11, .aload_n 0, 1) rfl
theorem dX1_setSootAside_12 : decode cX1_setSootAside 12 = .ok (.iload_n 1, 1) := ax_dec dX1_setSootAside_q0_ok 8 (12, .iload_n 1, 1) rfl
theorem dX1_setSootAside_13 : decode cX1_setSootAside 13 = .ok (.invokevirtual 35, 3) := ax_dec dX1_setSootAside_q0_ok 9 (13, .invokevirtual 35, 3) rfl
theorem dX1_setSootAside_16 : decode cX1_setSootAside 16 = .ok (.astore_n 2, 1) := ax_dec dX1_setSootAside_q0_ok 10 (16, .astore_n 2, 1) rfl
theorem dX1_setSootAside_17 : decode cX1_setSootAside 17 = .ok (.aload_n 2, 1) := ax_dec dX1_setSootAside_q0_ok 11 (17, .aload_n 2, 1) rfl
theorem dX1_setSootAside_18 : decode cX1_setSootAside 18 = .ok (.ifnull 11, 3) := ax_dec dX1_setSootAside_q0_ok 12 (18, .ifnull 11, 3) rfl
theorem dX1_setSootAside_21 : decode cX1_setSootAside 21 = .ok (.aload_n 2, 1) := ax_dec dX1_setSootAside_q0_ok 13 (21, .aload_n 2, 1) rfl
theorem dX1_setSootAside_22 : decode cX1_setSootAside 22 = .ok (.aload_n 2, 1) := ax_dec dX1_setSootAside_q0_ok 14 (22, .aload_n 2, 1) rfl
theorem dX1_setSootAside_23 : decode cX1_setSootAside 23 = .ok (.getfield 61, 3) := ax_dec dX1_setSootAside_q0_ok 15 (23, .getfield 61, 3) rfl
theorem dX1_setSootAside_26 : decode cX1_setSootAside 26 = .ok (.putfield 64, 3) := ax_dec dX1_setSootAside_q0_ok 16 (26, .putfield 64, 3) rfl
theorem dX1_setSootAside_29 : decode cX1_setSootAside 29 = .ok (.iinc 1 1, 3) := ax_dec dX1_setSootAside_q0_ok 17 (29, .iinc 1 1, 3) rfl
theorem dX1_setSootAside_32 : decode cX1_setSootAside 32 = .ok (.goto (-30), 3) := ax_dec dX1_setSootAside_q0_ok 18 (32, .goto (-30), 3) rfl
theorem dX1_setSootAside_35 : decode cX1_setSootAside 35 = .ok (.return_, 1) := ax_dec dX1_setSootAside_q0_ok 19 (35, .return_, 1) rfl
def dX1_putSootBack_q0 : List (Nat × (Instr × Nat)) := [(0, .iconst 0, 1), (1, .istore_n 1, 1), (2, .iload_n 1, 1), (3, .aload_n 0, 1), (4, .getfield 11, 3), (7, .arraylength, 1), (8, .if_icmp .ge 27, 3), (11, .aload_n 0, 1), (12, .iload_n 1, 1), (13, .invokevirtual 35, 3), (16, .astore_n 2, 1), (17, .aload_n 2, 1), (18, .ifnull 11, 3), (21, .aload_n 2, 1), (22, .aload_n 2, 1), (23, .getfield 64, 3), (26, .putfield 61, 3), (29, .iinc 1 1, 3), (32, .goto (-30), 3), (35, .return_, 1)]
set_option maxRecDepth 100000 in
theorem dX1_putSootBack_q0_ok : ax_decs cX1_putSootBack dX1_putSootBack_q0 = true := by decide +kernel
theorem dX1_putSootBack_0 : decode cX1_putSootBack 0 = .ok (.iconst 0, 1) := ax_dec dX1_putSootBack_q0_ok 0 (0, .iconst 0, 1) rfl
theorem dX1_putSootBack_1 : decode cX1_putSootBack 1 = .ok (.istore_n 1, 1) := ax_dec dX1_putSootBack_q0_ok 1 (1, .istore_n 1, 1) rfl
theorem dX1_putSootBack_2 : decode cX1_putSootBack 2 = .ok (.iload_n 1, 1) := ax_dec dX1_putSootBack_q0_ok 2 (2, .iload_n 1, 1) rfl
theorem dX1_putSootBack_3 : decode cX1_putSootBack 3 = .ok (.aload_n 0, 1) := ax_dec dX1_putSootBack_q0_ok 3 (3, .aload_n 0, 1) rfl
theorem dX1_putSootBack_4 : decode cX1_putSootBack 4 = .ok (.getfield 11, 3) := ax_dec dX1_putSootBack_q0_ok 4 (4, .getfield 11, 3) rfl
theorem dX1_putSootBack_7 : decode cX1_putSootBack 7 = .ok (.arraylength, 1) := ax_dec dX1_putSootBack_q0_ok 5 (7, .arraylength, 1) rfl
theorem dX1_putSootBack_8 : decode cX1_putSootBack 8 = .ok (.if_icmp .ge 27, 3) := ax_dec dX1_putSootBack_q0_ok 6 (8, .if_icmp .ge 27, 3) rfl
theorem dX1_putSootBack_11 : decode cX1_putSootBack 11 = .ok (.aload_n 0, 1) := ax_dec dX1_putSootBack_q0_ok 7 (11, .aload_n 0, 1) rfl
theorem dX1_putSootBack_12 : decode cX1_putSootBack 12 = .ok (.iload_n 1, 1) := ax_dec dX1_putSootBack_q0_ok 8 (12, .iload_n 1, 1) rfl
theorem dX1_putSootBack_13 : decode cX1_putSootBack 13 = .ok (.invokevirtual 35, 3) := ax_dec dX1_putSootBack_q0_ok 9 (13, .invokevirtual 35, 3) rfl
theorem dX1_putSootBack_16 : decode cX1_putSootBack 16 = .ok (.astore_n 2, 1) := ax_dec dX1_putSootBack_q0_ok 10 (16, .astore_n 2, 1) rfl
theorem dX1_putSootBack_17 : decode cX1_putSootBack 17 = .ok (.aload_n 2, 1) := ax_dec dX1_putSootBack_q0_ok 11 (17, .aload_n 2, 1) rfl
theorem dX1_putSootBack_18 : decode cX1_putSootBack 18 = .ok (.ifnull 11, 3) := ax_dec dX1_putSootBack_q0_ok 12 (18, .ifnull 11, 3) rfl
theorem dX1_putSootBack_21 : decode cX1_putSootBack 21 = .ok (.aload_n 2, 1) := ax_dec dX1_putSootBack_q0_ok 13 (21, .aload_n 2, 1) rfl
theorem dX1_putSootBack_22 : decode cX1_putSootBack 22 = .ok (.aload_n 2, 1) := ax_dec dX1_putSootBack_q0_ok 14 (22, .aload_n 2, 1) rfl
theorem dX1_putSootBack_23 : decode cX1_putSootBack 23 = .ok (.getfield 64, 3) := ax_dec dX1_putSootBack_q0_ok 15 (23, .getfield 64, 3) rfl
theorem dX1_putSootBack_26 : decode cX1_putSootBack 26 = .ok (.putfield 61, 3) := ax_dec dX1_putSootBack_q0_ok 16 (26, .putfield 61, 3) rfl
theorem dX1_putSootBack_29 : decode cX1_putSootBack 29 = .ok (.iinc 1 1, 3) := ax_dec dX1_putSootBack_q0_ok 17 (29, .iinc 1 1, 3) rfl
theorem dX1_putSootBack_32 : decode cX1_putSootBack 32 = .ok (.goto (-30), 3) := ax_dec dX1_putSootBack_q0_ok 18 (32, .goto (-30), 3) rfl
theorem dX1_putSootBack_35 : decode cX1_putSootBack 35 = .ok (.return_, 1) := ax_dec dX1_putSootBack_q0_ok 19 (35, .return_, 1) rfl
def dX1_keepImage_q0 : List (Nat × (Instr × Nat)) := [(0, .aload_n 0, 1), (1, .aload_n 0, 1), (2, .getfield 31, 3), (5, .putfield 67, 3), (8, .iconst 0, 1), (9, .istore_n 1, 1), (10, .iload_n 1, 1), (11, .aload_n 0, 1), (12, .getfield 11, 3), (15, .arraylength, 1), (16, .if_icmp .ge 43, 3), (19, .aload_n 0, 1), (20, .iload_n 1, 1), (21, .invokevirtual 35, 3), (24, .astore_n 2, 1), (25, .aload_n 2, 1), (26, .ifnull 27, 3), (29, .aload_n 2, 1), (30, .aload_n 2, 1), (31, .getfield 70, 3), (34, .putfield 73, 3), (37, .aload_n 2, 1), (38, .aload_n 2, 1), (39, .getfield 76, 3), (42, .putfield 79, 3), (45, .aload_n 2, 1), (46, .aload_n 2, 1), (47, .getfield 61, 3), (50, .putfield 82, 3), (53, .iinc 1 1, 3), (56, .goto (-46), 3), (59, .return_, 1)]
set_option maxRecDepth 100000 in
theorem dX1_keepImage_q0_ok : ax_decs cX1_keepImage dX1_keepImage_q0 = true := by decide +kernel
theorem dX1_keepImage_0 : decode cX1_keepImage 0 = .ok (.aload_n 0, 1) := ax_dec dX1_keepImage_q0_ok 0 (0, .aload_n 0, 1) rfl
theorem dX1_keepImage_1 : decode cX1_keepImage 1 = .ok (.aload_n 0, 1) := ax_dec dX1_keepImage_q0_ok 1 (1, .aload_n 0, 1) rfl
theorem dX1_keepImage_2 : decode cX1_keepImage 2 = .ok (.getfield 31, 3) := ax_dec dX1_keepImage_q0_ok 2 (2, .getfield 31, 3) rfl
theorem dX1_keepImage_5 : decode cX1_keepImage 5 = .ok (.putfield 67, 3) := ax_dec dX1_keepImage_q0_ok 3 (5, .putfield 67, 3) rfl
theorem dX1_keepImage_8 : decode cX1_keepImage 8 = .ok (.iconst 0, 1) := ax_dec dX1_keepImage_q0_ok 4 (8, .iconst 0, 1) rfl
theorem dX1_keepImage_9 : decode cX1_keepImage 9 = .ok (.istore_n 1, 1) := ax_dec dX1_keepImage_q0_ok 5 (9, .istore_n 1, 1) rfl
theorem dX1_keepImage_10 : decode cX1_keepImage 10 = .ok (.iload_n 1, 1) := ax_dec dX1_keepImage_q0_ok 6 (10, .iload_n 1, 1) rfl
theorem dX1_keepImage_11 : decode cX1_keepImage 11 = .ok (.aload_n 0, 1) := ax_dec dX1_keepImage_q0_ok 7 (11, .aload_n 0, 1) rfl
theorem dX1_keepImage_12 : decode cX1_keepImage 12 = .ok (.getfield 11, 3) := ax_dec dX1_keepImage_q0_ok 8 (12, .getfield 11, 3) rfl
theorem dX1_keepImage_15 : decode cX1_keepImage 15 = .ok (.arraylength, 1) := ax_dec dX1_keepImage_q0_ok 9 (15, .arraylength, 1) rfl
theorem dX1_keepImage_16 : decode cX1_keepImage 16 = .ok (.if_icmp .ge 43, 3) := ax_dec dX1_keepImage_q0_ok 10 (16, .if_icmp .ge 43, 3) rfl
theorem dX1_keepImage_19 : decode cX1_keepImage 19 = .ok (.aload_n 0, 1) := ax_dec dX1_keepImage_q0_ok 11 (19, .aload_n 0, 1) rfl
theorem dX1_keepImage_20 : decode cX1_keepImage 20 = .ok (.iload_n 1, 1) := ax_dec dX1_keepImage_q0_ok 12 (20, .iload_n 1, 1) rfl
theorem dX1_keepImage_21 : decode cX1_keepImage 21 = .ok (.invokevirtual 35, 3) := ax_dec dX1_keepImage_q0_ok 13 (21, .invokevirtual 35, 3) rfl
theorem dX1_keepImage_24 : decode cX1_keepImage 24 = .ok (.astore_n 2, 1) := ax_dec dX1_keepImage_q0_ok 14 (24, .astore_n 2, 1) rfl
theorem dX1_keepImage_25 : decode cX1_keepImage 25 = .ok (.aload_n 2, 1) := ax_dec dX1_keepImage_q0_ok 15 (25, .aload_n 2, 1) rfl
theorem dX1_keepImage_26 : decode cX1_keepImage 26 = .ok (.ifnull 27, 3) := ax_dec dX1_keepImage_q0_ok 16 (26, .ifnull 27, 3) rfl
theorem dX1_keepImage_29 : decode cX1_keepImage 29 = .ok (.aload_n 2, 1) := ax_dec dX1_keepImage_q0_ok 17 (29, .aload_n 2, 1) rfl
theorem dX1_keepImage_30 : decode cX1_keepImage 30 = .ok (.aload_n 2, 1) := ax_dec dX1_keepImage_q0_ok 18 (30, .aload_n 2, 1) rfl
theorem dX1_keepImage_31 : decode cX1_keepImage 31 = .ok (.getfield 70, 3) := ax_dec dX1_keepImage_q0_ok 19 (31, .getfield 70, 3) rfl
theorem dX1_keepImage_34 : decode cX1_keepImage 34 = .ok (.putfield 73, 3) := ax_dec dX1_keepImage_q0_ok 20 (34, .putfield 73, 3) rfl
theorem dX1_keepImage_37 : decode cX1_keepImage 37 = .ok (.aload_n 2, 1) := ax_dec dX1_keepImage_q0_ok 21 (37, .aload_n 2, 1) rfl
theorem dX1_keepImage_38 : decode cX1_keepImage 38 = .ok (.aload_n 2, 1) := ax_dec dX1_keepImage_q0_ok 22 (38, .aload_n 2, 1) rfl
theorem dX1_keepImage_39 : decode cX1_keepImage 39 = .ok (.getfield 76, 3) := ax_dec dX1_keepImage_q0_ok 23 (39, .getfield 76, 3) rfl
theorem dX1_keepImage_42 : decode cX1_keepImage 42 = .ok (.putfield 79, 3) := ax_dec dX1_keepImage_q0_ok 24 (42, .putfield 79, 3) rfl
theorem dX1_keepImage_45 : decode cX1_keepImage 45 = .ok (.aload_n 2, 1) := ax_dec dX1_keepImage_q0_ok 25 (45, .aload_n 2, 1) rfl
theorem dX1_keepImage_46 : decode cX1_keepImage 46 = .ok (.aload_n 2, 1) := ax_dec dX1_keepImage_q0_ok 26 (46, .aload_n 2, 1) rfl
theorem dX1_keepImage_47 : decode cX1_keepImage 47 = .ok (.getfield 61, 3) := ax_dec dX1_keepImage_q0_ok 27 (47, .getfield 61, 3) rfl
theorem dX1_keepImage_50 : decode cX1_keepImage 50 = .ok (.putfield 82, 3) := ax_dec dX1_keepImage_q0_ok 28 (50, .putfield 82, 3) rfl
theorem dX1_keepImage_53 : decode cX1_keepImage 53 = .ok (.iinc 1 1, 3) := ax_dec dX1_keepImage_q0_ok 29 (53, .iinc 1 1, 3) rfl
theorem dX1_keepImage_56 : decode cX1_keepImage 56 = .ok (.goto (-46), 3) := ax_dec dX1_keepImage_q0_ok 30 (56, .goto (-46), 3) rfl
theorem dX1_keepImage_59 : decode cX1_keepImage 59 = .ok (.return_, 1) := ax_dec dX1_keepImage_q0_ok 31 (59, .return_, 1) rfl
def dX1_goBack_q0 : List (Nat × (Instr × Nat)) := [(0, .aload_n 0, 1), (1, .aload_n 0, 1), (2, .getfield 67, 3), (5, .putfield 31, 3), (8, .iconst 0, 1), (9, .istore_n 1, 1), (10, .iload_n 1, 1), (11, .aload_n 0, 1), (12, .getfield 11, 3), (15, .arraylength, 1), (16, .if_icmp .ge 43, 3), (19, .aload_n 0, 1), (20, .iload_n 1, 1), (21, .invokevirtual 35, 3), (24, .astore_n 2, 1), (25, .aload_n 2, 1), (26, .ifnull 27, 3), (29, .aload_n 2, 1), (30, .aload_n 2, 1), (31, .getfield 73, 3), (34, .putfield 70, 3), (37, .aload_n 2, 1), (38, .aload_n 2, 1), (39, .getfield 79, 3), (42, .putfield 76, 3), (45, .aload_n 2, 1), (46, .aload_n 2, 1), (47, .getfield 82, 3), (50, .putfield 61, 3), (53, .iinc 1 1, 3), (56, .goto (-46), 3), (59, .return_, 1)]
set_option maxRecDepth 100000 in
theorem dX1_goBack_q0_ok : ax_decs cX1_goBack dX1_goBack_q0 = true := by decide +kernel
theorem dX1_goBack_0 : decode cX1_goBack 0 = .ok (.aload_n 0, 1) := ax_dec dX1_goBack_q0_ok 0 (0, .aload_n 0, 1) rfl
theorem dX1_goBack_1 : decode cX1_goBack 1 = .ok (.aload_n 0, 1) := ax_dec dX1_goBack_q0_ok 1 (1, .aload_n 0, 1) rfl
theorem dX1_goBack_2 : decode cX1_goBack 2 = .ok (.getfield 67, 3) := ax_dec dX1_goBack_q0_ok 2 (2, .getfield 67, 3) rfl
theorem dX1_goBack_5 : decode cX1_goBack 5 = .ok (.putfield 31, 3) := ax_dec dX1_goBack_q0_ok 3 (5, .putfield 31, 3) rfl
theorem dX1_goBack_8 : decode cX1_goBack 8 = .ok (.iconst 0, 1) := ax_dec dX1_goBack_q0_ok 4 (8, .iconst 0, 1) rfl
theorem dX1_goBack_9 : decode cX1_goBack 9 = .ok (.istore_n 1, 1) := ax_dec dX1_goBack_q0_ok 5 (9, .istore_n 1, 1) rfl
theorem dX1_goBack_10 : decode cX1_goBack 10 = .ok (.iload_n 1, 1) := ax_dec dX1_goBack_q0_ok 6 (10, .iload_n 1, 1) rfl
theorem dX1_goBack_11 : decode cX1_goBack 11 = .ok (.aload_n 0, 1) := ax_dec dX1_goBack_q0_ok 7 (11, .aload_n 0, 1) rfl
theorem dX1_goBack_12 : decode cX1_goBack 12 = .ok (.getfield 11, 3) := ax_dec dX1_goBack_q0_ok 8 (12, .getfield 11, 3) rfl
theorem dX1_goBack_15 : decode cX1_goBack 15 = .ok (.arraylength, 1) := ax_dec dX1_goBack_q0_ok 9 (15, .arraylength, 1) rfl
theorem dX1_goBack_16 : decode cX1_goBack 16 = .ok (.if_icmp .ge 43, 3) := ax_dec dX1_goBack_q0_ok 10 (16, .if_icmp .ge 43, 3) rfl
theorem dX1_goBack_19 : decode cX1_goBack 19 = .ok (.aload_n 0, 1) := ax_dec dX1_goBack_q0_ok 11 (19, .aload_n 0, 1) rfl
theorem dX1_goBack_20 : decode cX1_goBack 20 = .ok (.iload_n 1, 1) := ax_dec dX1_goBack_q0_ok 12 (20, .iload_n 1, 1) rfl
theorem dX1_goBack_21 : decode cX1_goBack 21 = .ok (.invokevirtual 35, 3) := ax_dec dX1_goBack_q0_ok 13 (21, .invokevirtual 35, 3) rfl
theorem dX1_goBack_24 : decode cX1_goBack 24 = .ok (.astore_n 2, 1) := ax_dec dX1_goBack_q0_ok 14 (24, .astore_n 2, 1) rfl
theorem dX1_goBack_25 : decode cX1_goBack 25 = .ok (.aload_n 2, 1) := ax_dec dX1_goBack_q0_ok 15 (25, .aload_n 2, 1) rfl
theorem dX1_goBack_26 : decode cX1_goBack 26 = .ok (.ifnull 27, 3) := ax_dec dX1_goBack_q0_ok 16 (26, .ifnull 27, 3) rfl
theorem dX1_goBack_29 : decode cX1_goBack 29 = .ok (.aload_n 2, 1) := ax_dec dX1_goBack_q0_ok 17 (29, .aload_n 2, 1) rfl
theorem dX1_goBack_30 : decode cX1_goBack 30 = .ok (.aload_n 2, 1) := ax_dec dX1_goBack_q0_ok 18 (30, .aload_n 2, 1) rfl
theorem dX1_goBack_31 : decode cX1_goBack 31 = .ok (.getfield 73, 3) := ax_dec dX1_goBack_q0_ok 19 (31, .getfield 73, 3) rfl
theorem dX1_goBack_34 : decode cX1_goBack 34 = .ok (.putfield 70, 3) := ax_dec dX1_goBack_q0_ok 20 (34, .putfield 70, 3) rfl
theorem dX1_goBack_37 : decode cX1_goBack 37 = .ok (.aload_n 2, 1) := ax_dec dX1_goBack_q0_ok 21 (37, .aload_n 2, 1) rfl
theorem dX1_goBack_38 : decode cX1_goBack 38 = .ok (.aload_n 2, 1) := ax_dec dX1_goBack_q0_ok 22 (38, .aload_n 2, 1) rfl
theorem dX1_goBack_39 : decode cX1_goBack 39 = .ok (.getfield 79, 3) := ax_dec dX1_goBack_q0_ok 23 (39, .getfield 79, 3) rfl
theorem dX1_goBack_42 : decode cX1_goBack 42 = .ok (.putfield 76, 3) := ax_dec dX1_goBack_q0_ok 24 (42, .putfield 76, 3) rfl
theorem dX1_goBack_45 : decode cX1_goBack 45 = .ok (.aload_n 2, 1) := ax_dec dX1_goBack_q0_ok 25 (45, .aload_n 2, 1) rfl
theorem dX1_goBack_46 : decode cX1_goBack 46 = .ok (.aload_n 2, 1) := ax_dec dX1_goBack_q0_ok 26 (46, .aload_n 2, 1) rfl
theorem dX1_goBack_47 : decode cX1_goBack 47 = .ok (.getfield 82, 3) := ax_dec dX1_goBack_q0_ok 27 (47, .getfield 82, 3) rfl
theorem dX1_goBack_50 : decode cX1_goBack 50 = .ok (.putfield 61, 3) := ax_dec dX1_goBack_q0_ok 28 (50, .putfield 61, 3) rfl
theorem dX1_goBack_53 : decode cX1_goBack 53 = .ok (.iinc 1 1, 3) := ax_dec dX1_goBack_q0_ok 29 (53, .iinc 1 1, 3) rfl
theorem dX1_goBack_56 : decode cX1_goBack 56 = .ok (.goto (-46), 3) := ax_dec dX1_goBack_q0_ok 30 (56, .goto (-46), 3) rfl
theorem dX1_goBack_59 : decode cX1_goBack 59 = .ok (.return_, 1) := ax_dec dX1_goBack_q0_ok 31 (59, .return_, 1) rfl
def dX1_light_q0 : List (Nat × (Instr × Nat)) := [(0, .aload_n 1, 1), (1, .astore_n 3, 1), (2, .aload_n 3, 1), (3, .ifnull 43, 3), (6, .aload_n 0, 1), (7, .getfield 27, 3), (10, .iconst 0, 1), (11, .aload_n 3, 1), (12, .iload_n 2, 1), (13, .invokevirtual 85, 3), (16, .istore 4, 2), (18, .aload_n 3, 1), (19, .bipush 99, 2), (21, .aload_n 3, 1), (22, .getfield 61, 3), (25, .aload_n 3, 1), (26, .iload 4, 2), (28, .invokevirtual 91, 3), (31, .iadd, 1), (32, .invokestatic 95, 3), (35, .putfield 61, 3), (38, .aload_n 3, 1), (39, .getfield 43, 3), (42, .astore_n 3, 1), (43, .goto (-41), 3), (46, .return_, 1)]
set_option maxRecDepth 100000 in
theorem dX1_light_q0_ok : ax_decs cX1_light dX1_light_q0 = true := by decide +kernel
theorem dX1_light_0 : decode cX1_light 0 = .ok (.aload_n 1, 1) := ax_dec dX1_light_q0_ok 0 (0, .aload_n 1, 1) rfl
theorem dX1_light_1 : decode cX1_light 1 = .ok (.astore_n 3, 1) := ax_dec dX1_light_q0_ok 1 (1, .astore_n 3, 1) rfl
theorem dX1_light_2 : decode cX1_light 2 = .ok (.aload_n 3, 1) := ax_dec dX1_light_q0_ok 2 (2, .aload_n 3, 1) rfl
theorem dX1_light_3 : decode cX1_light 3 = .ok (.ifnull 43, 3) := ax_dec dX1_light_q0_ok 3 (3, .ifnull 43, 3) rfl
theorem dX1_light_6 : decode cX1_light 6 = .ok (.aload_n 0, 1) := ax_dec dX1_light_q0_ok 4 (6, .aload_n 0, 1) rfl
theorem dX1_light_7 : decode cX1_light 7 = .ok (.getfield 27, 3) := ax_dec dX1_light_q0_ok 5 (7, .getfield 27, 3) rfl
theorem dX1_light_10 : decode cX1_light 10 = .ok (.iconst 0, 1) := ax_dec dX1_light_q0_ok 6 (10, .iconst 0, 1) rfl
theorem dX1_light_11 : decode cX1_light 11 = .ok (.aload_n 3, 1) := ax_dec dX1_light_q0_ok 7 (11, .aload_n 3, 1) rfl
theorem dX1_light_12 : decode cX1_light 12 = .ok (.iload_n 2, 1) := ax_dec dX1_light_q0_ok 8 (12, .iload_n 2, 1) rfl
theorem dX1_light_13 : decode cX1_light 13 = .ok (.invokevirtual 85, 3) := ax_dec dX1_light_q0_ok 9 (13, .invokevirtual 85, 3) rfl
theorem dX1_light_16 : decode cX1_light 16 = .ok (.istore 4, 2) := ax_dec dX1_light_q0_ok 10 (16, .istore 4, 2) rfl
theorem dX1_light_18 : decode cX1_light 18 = .ok (.aload_n 3, 1) := ax_dec dX1_light_q0_ok 11 (18, .aload_n 3, 1) rfl
theorem dX1_light_19 : decode cX1_light 19 = .ok (.bipush 99, 2) := ax_dec dX1_light_q0_ok 12 (19, .bipush 99, 2) rfl
theorem dX1_light_21 : decode cX1_light 21 = .ok (.aload_n 3, 1) := ax_dec dX1_light_q0_ok 13 (21, .aload_n 3, 1) rfl
theorem dX1_light_22 : decode cX1_light 22 = .ok (.getfield 61, 3) := ax_dec dX1_light_q0_ok 14 (22, .getfield 61, 3) rfl
theorem dX1_light_25 : decode cX1_light 25 = .ok (.aload_n 3, 1) := ax_dec dX1_light_q0_ok 15 (25, .aload_n 3, 1) rfl
theorem dX1_light_26 : decode cX1_light 26 = .ok (.iload 4, 2) := ax_dec dX1_light_q0_ok 16 (26, .iload 4, 2) rfl
theorem dX1_light_28 : decode cX1_light 28 = .ok (.invokevirtual 91, 3) := ax_dec dX1_light_q0_ok 17 (28, .invokevirtual 91, 3) rfl
theorem dX1_light_31 : decode cX1_light 31 = .ok (.iadd, 1) := ax_dec dX1_light_q0_ok 18 (31, .iadd, 1) rfl
theorem dX1_light_32 : decode cX1_light 32 = .ok (.invokestatic 95, 3) := ax_dec dX1_light_q0_ok 19 (32, .invokestatic 95, 3) rfl
theorem dX1_light_35 : decode cX1_light 35 = .ok (.putfield 61, 3) := ax_dec dX1_light_q0_ok 20 (35, .putfield 61, 3) rfl
theorem dX1_light_38 : decode cX1_light 38 = .ok (.aload_n 3, 1) := ax_dec dX1_light_q0_ok 21 (38, .aload_n 3, 1) rfl
theorem dX1_light_39 : decode cX1_light 39 = .ok (.getfield 43, 3) := ax_dec dX1_light_q0_ok 22 (39, .getfield 43, 3) rfl
theorem dX1_light_42 : decode cX1_light 42 = .ok (.astore_n 3, 1) := ax_dec dX1_light_q0_ok 23 (42, .astore_n 3, 1) rfl
theorem dX1_light_43 : decode cX1_light 43 = .ok (.goto (-41), 3) := ax_dec dX1_light_q0_ok 24 (43, .goto (-41), 3) rfl
theorem dX1_light_46 : decode cX1_light 46 = .ok (.return_, 1) := ax_dec dX1_light_q0_ok 25 (46, .return_, 1) rfl
def dX1_staysIn_q0 : List (Nat × (Instr × Nat)) := [(0, .aload_n 1, 1), (1, .astore_n 3, 1), (2, .aload_n 3, 1), (3, .ifnull 34, 3), (6, .aload_n 3, 1), (7, .invokevirtual 101, 3), (10, .ifCond .eq 17, 3), (13, .aload_n 0, 1), (14, .getfield 27, 3), (17, .iconst 1, 1), (18, .aload_n 3, 1), (19, .iconst 0, 1), (20, .invokevirtual 85, 3), (23, .iload_n 2, 1), (24, .if_icmp .le 5, 3), (27, .aload_n 3, 1), (28, .areturn, 1), (29, .aload_n 3, 1), (30, .getfield 43, 3), (33, .astore_n 3, 1), (34, .goto (-32), 3), (37, .aconst_null, 1), (38, .areturn, 1)]
set_option maxRecDepth 100000 in
theorem dX1_staysIn_q0_ok : ax_decs cX1_staysIn dX1_staysIn_q0 = true := by decide +kernel
theorem dX1_staysIn_0 : decode cX1_staysIn 0 = .ok (.aload_n 1, 1) := ax_dec dX1_staysIn_q0_ok 0 (0, .aload_n 1, 1) rfl
theorem dX1_staysIn_1 : decode cX1_staysIn 1 = .ok (.astore_n 3, 1) := ax_dec dX1_staysIn_q0_ok 1 (1, .astore_n 3, 1) rfl
theorem dX1_staysIn_2 : decode cX1_staysIn 2 = .ok (.aload_n 3, 1) := ax_dec dX1_staysIn_q0_ok 2 (2, .aload_n 3, 1) rfl
theorem dX1_staysIn_3 : decode cX1_staysIn 3 = .ok (.ifnull 34, 3) := ax_dec dX1_staysIn_q0_ok 3 (3, .ifnull 34, 3) rfl
theorem dX1_staysIn_6 : decode cX1_staysIn 6 = .ok (.aload_n 3, 1) := ax_dec dX1_staysIn_q0_ok 4 (6, .aload_n 3, 1) rfl
theorem dX1_staysIn_7 : decode cX1_staysIn 7 = .ok (.invokevirtual 101, 3) := ax_dec dX1_staysIn_q0_ok 5 (7, .invokevirtual 101, 3) rfl
theorem dX1_staysIn_10 : decode cX1_staysIn 10 = .ok (.ifCond .eq 17, 3) := ax_dec dX1_staysIn_q0_ok 6 (10, .ifCond .eq 17, 3) rfl
theorem dX1_staysIn_13 : decode cX1_staysIn 13 = .ok (.aload_n 0, 1) := ax_dec dX1_staysIn_q0_ok 7 (13, .aload_n 0, 1) rfl
theorem dX1_staysIn_14 : decode cX1_staysIn 14 = .ok (.getfield 27, 3) := ax_dec dX1_staysIn_q0_ok 8 (14, .getfield 27, 3) rfl
theorem dX1_staysIn_17 : decode cX1_staysIn 17 = .ok (.iconst 1, 1) := ax_dec dX1_staysIn_q0_ok 9 (17, .iconst 1, 1) rfl
theorem dX1_staysIn_18 : decode cX1_staysIn 18 = .ok (.aload_n 3, 1) := ax_dec dX1_staysIn_q0_ok 10 (18, .aload_n 3, 1) rfl
theorem dX1_staysIn_19 : decode cX1_staysIn 19 = .ok (.iconst 0, 1) := ax_dec dX1_staysIn_q0_ok 11 (19, .iconst 0, 1) rfl
theorem dX1_staysIn_20 : decode cX1_staysIn 20 = .ok (.invokevirtual 85, 3) := ax_dec dX1_staysIn_q0_ok 12 (20, .invokevirtual 85, 3) rfl
theorem dX1_staysIn_23 : decode cX1_staysIn 23 = .ok (.iload_n 2, 1) := ax_dec dX1_staysIn_q0_ok 13 (23, .iload_n 2, 1) rfl
theorem dX1_staysIn_24 : decode cX1_staysIn 24 = .ok (.if_icmp .le 5, 3) := ax_dec dX1_staysIn_q0_ok 14 (24, .if_icmp .le 5, 3) rfl
theorem dX1_staysIn_27 : decode cX1_staysIn 27 = .ok (.aload_n 3, 1) := ax_dec dX1_staysIn_q0_ok 15 (27, .aload_n 3, 1) rfl
theorem dX1_staysIn_28 : decode cX1_staysIn 28 = .ok (.areturn, 1) := ax_dec dX1_staysIn_q0_ok 16 (28, .areturn, 1) rfl
theorem dX1_staysIn_29 : decode cX1_staysIn 29 = .ok (.aload_n 3, 1) := ax_dec dX1_staysIn_q0_ok 17 (29, .aload_n 3, 1) rfl
theorem dX1_staysIn_30 : decode cX1_staysIn 30 = .ok (.getfield 43, 3) := ax_dec dX1_staysIn_q0_ok 18 (30, .getfield 43, 3) rfl
theorem dX1_staysIn_33 : decode cX1_staysIn 33 = .ok (.astore_n 3, 1) := ax_dec dX1_staysIn_q0_ok 19 (33, .astore_n 3, 1) rfl
theorem dX1_staysIn_34 : decode cX1_staysIn 34 = .ok (.goto (-32), 3) := ax_dec dX1_staysIn_q0_ok 20 (34, .goto (-32), 3) rfl
theorem dX1_staysIn_37 : decode cX1_staysIn 37 = .ok (.aconst_null, 1) := ax_dec dX1_staysIn_q0_ok 21 (37, .aconst_null, 1) rfl
theorem dX1_staysIn_38 : decode cX1_staysIn 38 = .ok (.areturn, 1) := ax_dec dX1_staysIn_q0_ok 22 (38, .areturn, 1) rfl
def dX1_brush_q0 : List (Nat × (Instr × Nat)) := [(0, .aload_n 0, 1), (1, .aload_n 1, 1), (2, .iload_n 2, 1), (3, .invokevirtual 104, 3), (6, .astore_n 3, 1), (7, .iconst 0, 1), (8, .istore 4, 2), (10, .aload_n 1, 1), (11, .astore 5, 2), (13, .aload 5, 2), (15, .ifnull 46, 3), (18, .aload 5, 2), (20, .aload_n 3, 1), (21, .if_acmp .eq 40, 3), (24, .aload 5, 2), (26, .invokevirtual 108, 3), (29, .istore 6, 2), (31, .iload 4, 2), (33, .aload 5, 2), (35, .getfield 61, 3), (38, .iload 6, 2), (40, .isub, 1), (41, .iadd, 1), (42, .istore 4, 2), (44, .aload 5, 2), (46, .iload 6, 2), (48, .putfield 61, 3), (51, .aload 5, 2), (53, .getfield 43, 3), (56, .astore 5, 2), (58, .goto (-45), 3), (61, .iload 4, 2)]
set_option maxRecDepth 100000 in
theorem dX1_brush_q0_ok : ax_decs cX1_brush dX1_brush_q0 = true := by decide +kernel
theorem dX1_brush_0 : decode cX1_brush 0 = .ok (.aload_n 0, 1) := ax_dec dX1_brush_q0_ok 0 (0, .aload_n 0, 1) rfl
theorem dX1_brush_1 : decode cX1_brush 1 = .ok (.aload_n 1, 1) := ax_dec dX1_brush_q0_ok 1 (1, .aload_n 1, 1) rfl
theorem dX1_brush_2 : decode cX1_brush 2 = .ok (.iload_n 2, 1) := ax_dec dX1_brush_q0_ok 2 (2, .iload_n 2, 1) rfl
theorem dX1_brush_3 : decode cX1_brush 3 = .ok (.invokevirtual 104, 3) := ax_dec dX1_brush_q0_ok 3 (3, .invokevirtual 104, 3) rfl
theorem dX1_brush_6 : decode cX1_brush 6 = .ok (.astore_n 3, 1) := ax_dec dX1_brush_q0_ok 4 (6, .astore_n 3, 1) rfl
theorem dX1_brush_7 : decode cX1_brush 7 = .ok (.iconst 0, 1) := ax_dec dX1_brush_q0_ok 5 (7, .iconst 0, 1) rfl
theorem dX1_brush_8 : decode cX1_brush 8 = .ok (.istore 4, 2) := ax_dec dX1_brush_q0_ok 6 (8, .istore 4, 2) rfl
theorem dX1_brush_10 : decode cX1_brush 10 = .ok (.aload_n 1, 1) := ax_dec dX1_brush_q0_ok 7 (10, .aload_n 1, 1) rfl
theorem dX1_brush_11 : decode cX1_brush 11 = .ok (.astore 5, 2) := ax_dec dX1_brush_q0_ok 8 (11, .astore 5, 2) rfl
theorem dX1_brush_13 : decode cX1_brush 13 = .ok (.aload 5, 2) := ax_dec dX1_brush_q0_ok 9 (13, .aload 5, 2) rfl
theorem dX1_brush_15 : decode cX1_brush 15 = .ok (.ifnull 46, 3) := ax_dec dX1_brush_q0_ok 10 (15, .ifnull 46, 3) rfl
theorem dX1_brush_18 : decode cX1_brush 18 = .ok (.aload 5, 2) := ax_dec dX1_brush_q0_ok 11 (18, .aload 5, 2) rfl
theorem dX1_brush_20 : decode cX1_brush 20 = .ok (.aload_n 3, 1) := ax_dec dX1_brush_q0_ok 12 (20, .aload_n 3, 1) rfl
theorem dX1_brush_21 : decode cX1_brush 21 = .ok (.if_acmp .eq 40, 3) := ax_dec dX1_brush_q0_ok 13 (21, .if_acmp .eq 40, 3) rfl
theorem dX1_brush_24 : decode cX1_brush 24 = .ok (.aload 5, 2) := ax_dec dX1_brush_q0_ok 14 (24, .aload 5, 2) rfl
theorem dX1_brush_26 : decode cX1_brush 26 = .ok (.invokevirtual 108, 3) := ax_dec dX1_brush_q0_ok 15 (26, .invokevirtual 108, 3) rfl
theorem dX1_brush_29 : decode cX1_brush 29 = .ok (.istore 6, 2) := ax_dec dX1_brush_q0_ok 16 (29, .istore 6, 2) rfl
theorem dX1_brush_31 : decode cX1_brush 31 = .ok (.iload 4, 2) := ax_dec dX1_brush_q0_ok 17 (31, .iload 4, 2) rfl
theorem dX1_brush_33 : decode cX1_brush 33 = .ok (.aload 5, 2) := ax_dec dX1_brush_q0_ok 18 (33, .aload 5, 2) rfl
theorem dX1_brush_35 : decode cX1_brush 35 = .ok (.getfield 61, 3) := ax_dec dX1_brush_q0_ok 19 (35, .getfield 61, 3) rfl
theorem dX1_brush_38 : decode cX1_brush 38 = .ok (.iload 6, 2) := ax_dec dX1_brush_q0_ok 20 (38, .iload 6, 2) rfl
theorem dX1_brush_40 : decode cX1_brush 40 = .ok (.isub, 1) := ax_dec dX1_brush_q0_ok 21 (40, .isub, 1) rfl
theorem dX1_brush_41 : decode cX1_brush 41 = .ok (.iadd, 1) := ax_dec dX1_brush_q0_ok 22 (41, .iadd, 1) rfl
theorem dX1_brush_42 : decode cX1_brush 42 = .ok (.istore 4, 2) := ax_dec dX1_brush_q0_ok 23 (42, .istore 4, 2) rfl
theorem dX1_brush_44 : decode cX1_brush 44 = .ok (.aload 5, 2) := ax_dec dX1_brush_q0_ok 24 (44, .aload 5, 2) rfl
theorem dX1_brush_46 : decode cX1_brush 46 = .ok (.iload 6, 2) := ax_dec dX1_brush_q0_ok 25 (46, .iload 6, 2) rfl
theorem dX1_brush_48 : decode cX1_brush 48 = .ok (.putfield 61, 3) := ax_dec dX1_brush_q0_ok 26 (48, .putfield 61, 3) rfl
theorem dX1_brush_51 : decode cX1_brush 51 = .ok (.aload 5, 2) := ax_dec dX1_brush_q0_ok 27 (51, .aload 5, 2) rfl
theorem dX1_brush_53 : decode cX1_brush 53 = .ok (.getfield 43, 3) := ax_dec dX1_brush_q0_ok 28 (53, .getfield 43, 3) rfl
theorem dX1_brush_56 : decode cX1_brush 56 = .ok (.astore 5, 2) := ax_dec dX1_brush_q0_ok 29 (56, .astore 5, 2) rfl
theorem dX1_brush_58 : decode cX1_brush 58 = .ok (.goto (-45), 3) := ax_dec dX1_brush_q0_ok 30 (58, .goto (-45), 3) rfl
theorem dX1_brush_61 : decode cX1_brush 61 = .ok (.iload 4, 2) := ax_dec dX1_brush_q0_ok 31 (61, .iload 4, 2) rfl
def dX1_brush_q1 : List (Nat × (Instr × Nat)) := [(63, .ireturn, 1)]
set_option maxRecDepth 100000 in
theorem dX1_brush_q1_ok : ax_decs cX1_brush dX1_brush_q1 = true := by decide +kernel
theorem dX1_brush_63 : decode cX1_brush 63 = .ok (.ireturn, 1) := ax_dec dX1_brush_q1_ok 0 (63, .ireturn, 1) rfl
def dX1_fineBehindFire_q0 : List (Nat × (Instr × Nat)) := [(0, .aload_n 0, 1), (1, .aload_n 3, 1), (2, .iload 4, 2), (4, .invokevirtual 111, 3), (7, .lload_n 1, 1), (8, .lstore 5, 2), (10, .aload_n 3, 1), (11, .astore 7, 2), (13, .aload 7, 2), (15, .ifnull 38, 3), (18, .lload 5, 2), (20, .bipush 100, 2), (22, .aload_n 0, 1), (23, .getfield 27, 3), (26, .iconst 2, 1), (27, .aload 7, 2), (29, .iload 4, 2), (31, .invokevirtual 85, 3), (34, .isub, 1), (35, .i2l, 1), (36, .lmul, 1), (37, .ldc2_w 115, 3), (40, .ldiv, 1), (41, .lstore 5, 2), (43, .aload 7, 2), (45, .getfield 43, 3), (48, .astore 7, 2), (50, .goto (-37), 3), (53, .lload 5, 2), (55, .lreturn, 1)]
set_option maxRecDepth 100000 in
theorem dX1_fineBehindFire_q0_ok : ax_decs cX1_fineBehindFire dX1_fineBehindFire_q0 = true := by decide +kernel
theorem dX1_fineBehindFire_0 : decode cX1_fineBehindFire 0 = .ok (.aload_n 0, 1) := ax_dec dX1_fineBehindFire_q0_ok 0 (0, .aload_n 0, 1) rfl
theorem dX1_fineBehindFire_1 : decode cX1_fineBehindFire 1 = .ok (.aload_n 3, 1) := ax_dec dX1_fineBehindFire_q0_ok 1 (1, .aload_n 3, 1) rfl
theorem dX1_fineBehindFire_2 : decode cX1_fineBehindFire 2 = .ok (.iload 4, 2) := ax_dec dX1_fineBehindFire_q0_ok 2 (2, .iload 4, 2) rfl
theorem dX1_fineBehindFire_4 : decode cX1_fineBehindFire 4 = .ok (.invokevirtual 111, 3) := ax_dec dX1_fineBehindFire_q0_ok 3 (4, .invokevirtual 111, 3) rfl
theorem dX1_fineBehindFire_7 : decode cX1_fineBehindFire 7 = .ok (.lload_n 1, 1) := ax_dec dX1_fineBehindFire_q0_ok 4 (7, .lload_n 1, 1) rfl
theorem dX1_fineBehindFire_8 : decode cX1_fineBehindFire 8 = .ok (.lstore 5, 2) := ax_dec dX1_fineBehindFire_q0_ok 5 (8, .lstore 5, 2) rfl
theorem dX1_fineBehindFire_10 : decode cX1_fineBehindFire 10 = .ok (.aload_n 3, 1) := ax_dec dX1_fineBehindFire_q0_ok 6 (10, .aload_n 3, 1) rfl
theorem dX1_fineBehindFire_11 : decode cX1_fineBehindFire 11 = .ok (.astore 7, 2) := ax_dec dX1_fineBehindFire_q0_ok 7 (11, .astore 7, 2) rfl
theorem dX1_fineBehindFire_13 : decode cX1_fineBehindFire 13 = .ok (.aload 7, 2) := ax_dec dX1_fineBehindFire_q0_ok 8 (13, .aload 7, 2) rfl
theorem dX1_fineBehindFire_15 : decode cX1_fineBehindFire 15 = .ok (.ifnull 38, 3) := ax_dec dX1_fineBehindFire_q0_ok 9 (15, .ifnull 38, 3) rfl
theorem dX1_fineBehindFire_18 : decode cX1_fineBehindFire 18 = .ok (.lload 5, 2) := ax_dec dX1_fineBehindFire_q0_ok 10 (18, .lload 5, 2) rfl
theorem dX1_fineBehindFire_20 : decode cX1_fineBehindFire 20 = .ok (.bipush 100, 2) := ax_dec dX1_fineBehindFire_q0_ok 11 (20, .bipush 100, 2) rfl
theorem dX1_fineBehindFire_22 : decode cX1_fineBehindFire 22 = .ok (.aload_n 0, 1) := ax_dec dX1_fineBehindFire_q0_ok 12 (22, .aload_n 0, 1) rfl
theorem dX1_fineBehindFire_23 : decode cX1_fineBehindFire 23 = .ok (.getfield 27, 3) := ax_dec dX1_fineBehindFire_q0_ok 13 (23, .getfield 27, 3) rfl
theorem dX1_fineBehindFire_26 : decode cX1_fineBehindFire 26 = .ok (.iconst 2, 1) := ax_dec dX1_fineBehindFire_q0_ok 14 (26, .iconst 2, 1) rfl
theorem dX1_fineBehindFire_27 : decode cX1_fineBehindFire 27 = .ok (.aload 7, 2) := ax_dec dX1_fineBehindFire_q0_ok 15 (27, .aload 7, 2) rfl
theorem dX1_fineBehindFire_29 : decode cX1_fineBehindFire 29 = .ok (.iload 4, 2) := ax_dec dX1_fineBehindFire_q0_ok 16 (29, .iload 4, 2) rfl
theorem dX1_fineBehindFire_31 : decode cX1_fineBehindFire 31 = .ok (.invokevirtual 85, 3) := ax_dec dX1_fineBehindFire_q0_ok 17 (31, .invokevirtual 85, 3) rfl
theorem dX1_fineBehindFire_34 : decode cX1_fineBehindFire 34 = .ok (.isub, 1) := ax_dec dX1_fineBehindFire_q0_ok 18 (34, .isub, 1) rfl
theorem dX1_fineBehindFire_35 : decode cX1_fineBehindFire 35 = .ok (.i2l, 1) := ax_dec dX1_fineBehindFire_q0_ok 19 (35, .i2l, 1) rfl
theorem dX1_fineBehindFire_36 : decode cX1_fineBehindFire 36 = .ok (.lmul, 1) := ax_dec dX1_fineBehindFire_q0_ok 20 (36, .lmul, 1) rfl
theorem dX1_fineBehindFire_37 : decode cX1_fineBehindFire 37 = .ok (.ldc2_w 115, 3) := ax_dec dX1_fineBehindFire_q0_ok 21 (37, .ldc2_w 115, 3) rfl
theorem dX1_fineBehindFire_40 : decode cX1_fineBehindFire 40 = .ok (.ldiv, 1) := ax_dec dX1_fineBehindFire_q0_ok 22 (40, .ldiv, 1) rfl
theorem dX1_fineBehindFire_41 : decode cX1_fineBehindFire 41 = .ok (.lstore 5, 2) := ax_dec dX1_fineBehindFire_q0_ok 23 (41, .lstore 5, 2) rfl
theorem dX1_fineBehindFire_43 : decode cX1_fineBehindFire 43 = .ok (.aload 7, 2) := ax_dec dX1_fineBehindFire_q0_ok 24 (43, .aload 7, 2) rfl
theorem dX1_fineBehindFire_45 : decode cX1_fineBehindFire 45 = .ok (.getfield 43, 3) := ax_dec dX1_fineBehindFire_q0_ok 25 (45, .getfield 43, 3) rfl
theorem dX1_fineBehindFire_48 : decode cX1_fineBehindFire 48 = .ok (.astore 7, 2) := ax_dec dX1_fineBehindFire_q0_ok 26 (48, .astore 7, 2) rfl
theorem dX1_fineBehindFire_50 : decode cX1_fineBehindFire 50 = .ok (.goto (-37), 3) := ax_dec dX1_fineBehindFire_q0_ok 27 (50, .goto (-37), 3) rfl
theorem dX1_fineBehindFire_53 : decode cX1_fineBehindFire 53 = .ok (.lload 5, 2) := ax_dec dX1_fineBehindFire_q0_ok 28 (53, .lload 5, 2) rfl
theorem dX1_fineBehindFire_55 : decode cX1_fineBehindFire 55 = .ok (.lreturn, 1) := ax_dec dX1_fineBehindFire_q0_ok 29 (55, .lreturn, 1) rfl
def dX1_staysBelow_q0 : List (Nat × (Instr × Nat)) := [(0, .iconst 0, 1), (1, .istore 6, 2), (3, .iconst 0, 1), (4, .istore 7, 2), (6, .iload 7, 2), (8, .bipush 24, 2), (10, .if_icmp .ge 46, 3), (13, .aload_n 0, 1), (14, .aload_n 3, 1), (15, .iload 4, 2), (17, .invokevirtual 111, 3), (20, .aload_n 3, 1), (21, .invokevirtual 117, 3), (24, .iload_n 1, 1), (25, .if_icmp .le 5, 3), (28, .iconst 0, 1), (29, .ireturn, 1), (30, .iinc 6 1, 3), (33, .iload 6, 2), (35, .iload_n 2, 1), (36, .if_icmp .ne 14, 3), (39, .aload_n 0, 1), (40, .aload_n 3, 1), (41, .iload 5, 2), (43, .invokevirtual 120, 3), (46, .pop, 1), (47, .iconst 0, 1), (48, .istore 6, 2), (50, .iinc 7 1, 3), (53, .goto (-47), 3), (56, .iconst 1, 1), (57, .ireturn, 1)]
set_option maxRecDepth 100000 in
theorem dX1_staysBelow_q0_ok : ax_decs cX1_staysBelow dX1_staysBelow_q0 = true := by decide +kernel
theorem dX1_staysBelow_0 : decode cX1_staysBelow 0 = .ok (.iconst 0, 1) := ax_dec dX1_staysBelow_q0_ok 0 (0, .iconst 0, 1) rfl
theorem dX1_staysBelow_1 : decode cX1_staysBelow 1 = .ok (.istore 6, 2) := ax_dec dX1_staysBelow_q0_ok 1 (1, .istore 6, 2) rfl
theorem dX1_staysBelow_3 : decode cX1_staysBelow 3 = .ok (.iconst 0, 1) := ax_dec dX1_staysBelow_q0_ok 2 (3, .iconst 0, 1) rfl
theorem dX1_staysBelow_4 : decode cX1_staysBelow 4 = .ok (.istore 7, 2) := ax_dec dX1_staysBelow_q0_ok 3 (4, .istore 7, 2) rfl
theorem dX1_staysBelow_6 : decode cX1_staysBelow 6 = .ok (.iload 7, 2) := ax_dec dX1_staysBelow_q0_ok 4 (6, .iload 7, 2) rfl
theorem dX1_staysBelow_8 : decode cX1_staysBelow 8 = .ok (.bipush 24, 2) := ax_dec dX1_staysBelow_q0_ok 5 (8, .bipush 24, 2) rfl
theorem dX1_staysBelow_10 : decode cX1_staysBelow 10 = .ok (.if_icmp .ge 46, 3) := ax_dec dX1_staysBelow_q0_ok 6 (10, .if_icmp .ge 46, 3) rfl
theorem dX1_staysBelow_13 : decode cX1_staysBelow 13 = .ok (.aload_n 0, 1) := ax_dec dX1_staysBelow_q0_ok 7 (13, .aload_n 0, 1) rfl
theorem dX1_staysBelow_14 : decode cX1_staysBelow 14 = .ok (.aload_n 3, 1) := ax_dec dX1_staysBelow_q0_ok 8 (14, .aload_n 3, 1) rfl
theorem dX1_staysBelow_15 : decode cX1_staysBelow 15 = .ok (.iload 4, 2) := ax_dec dX1_staysBelow_q0_ok 9 (15, .iload 4, 2) rfl
theorem dX1_staysBelow_17 : decode cX1_staysBelow 17 = .ok (.invokevirtual 111, 3) := ax_dec dX1_staysBelow_q0_ok 10 (17, .invokevirtual 111, 3) rfl
theorem dX1_staysBelow_20 : decode cX1_staysBelow 20 = .ok (.aload_n 3, 1) := ax_dec dX1_staysBelow_q0_ok 11 (20, .aload_n 3, 1) rfl
theorem dX1_staysBelow_21 : decode cX1_staysBelow 21 = .ok (.invokevirtual 117, 3) := ax_dec dX1_staysBelow_q0_ok 12 (21, .invokevirtual 117, 3) rfl
theorem dX1_staysBelow_24 : decode cX1_staysBelow 24 = .ok (.iload_n 1, 1) := ax_dec dX1_staysBelow_q0_ok 13 (24, .iload_n 1, 1) rfl
theorem dX1_staysBelow_25 : decode cX1_staysBelow 25 = .ok (.if_icmp .le 5, 3) := ax_dec dX1_staysBelow_q0_ok 14 (25, .if_icmp .le 5, 3) rfl
theorem dX1_staysBelow_28 : decode cX1_staysBelow 28 = .ok (.iconst 0, 1) := ax_dec dX1_staysBelow_q0_ok 15 (28, .iconst 0, 1) rfl
theorem dX1_staysBelow_29 : decode cX1_staysBelow 29 = .ok (.ireturn, 1) := ax_dec dX1_staysBelow_q0_ok 16 (29, .ireturn, 1) rfl
theorem dX1_staysBelow_30 : decode cX1_staysBelow 30 = .ok (.iinc 6 1, 3) := ax_dec dX1_staysBelow_q0_ok 17 (30, .iinc 6 1, 3) rfl
theorem dX1_staysBelow_33 : decode cX1_staysBelow 33 = .ok (.iload 6, 2) := ax_dec dX1_staysBelow_q0_ok 18 (33, .iload 6, 2) rfl
theorem dX1_staysBelow_35 : decode cX1_staysBelow 35 = .ok (.iload_n 2, 1) := ax_dec dX1_staysBelow_q0_ok 19 (35, .iload_n 2, 1) rfl
theorem dX1_staysBelow_36 : decode cX1_staysBelow 36 = .ok (.if_icmp .ne 14, 3) := ax_dec dX1_staysBelow_q0_ok 20 (36, .if_icmp .ne 14, 3) rfl
theorem dX1_staysBelow_39 : decode cX1_staysBelow 39 = .ok (.aload_n 0, 1) := ax_dec dX1_staysBelow_q0_ok 21 (39, .aload_n 0, 1) rfl
theorem dX1_staysBelow_40 : decode cX1_staysBelow 40 = .ok (.aload_n 3, 1) := ax_dec dX1_staysBelow_q0_ok 22 (40, .aload_n 3, 1) rfl
theorem dX1_staysBelow_41 : decode cX1_staysBelow 41 = .ok (.iload 5, 2) := ax_dec dX1_staysBelow_q0_ok 23 (41, .iload 5, 2) rfl
theorem dX1_staysBelow_43 : decode cX1_staysBelow 43 = .ok (.invokevirtual 120, 3) := ax_dec dX1_staysBelow_q0_ok 24 (43, .invokevirtual 120, 3) rfl
theorem dX1_staysBelow_46 : decode cX1_staysBelow 46 = .ok (.pop, 1) := ax_dec dX1_staysBelow_q0_ok 25 (46, .pop, 1) rfl
theorem dX1_staysBelow_47 : decode cX1_staysBelow 47 = .ok (.iconst 0, 1) := ax_dec dX1_staysBelow_q0_ok 26 (47, .iconst 0, 1) rfl
theorem dX1_staysBelow_48 : decode cX1_staysBelow 48 = .ok (.istore 6, 2) := ax_dec dX1_staysBelow_q0_ok 27 (48, .istore 6, 2) rfl
theorem dX1_staysBelow_50 : decode cX1_staysBelow 50 = .ok (.iinc 7 1, 3) := ax_dec dX1_staysBelow_q0_ok 28 (50, .iinc 7 1, 3) rfl
theorem dX1_staysBelow_53 : decode cX1_staysBelow 53 = .ok (.goto (-47), 3) := ax_dec dX1_staysBelow_q0_ok 29 (53, .goto (-47), 3) rfl
theorem dX1_staysBelow_56 : decode cX1_staysBelow 56 = .ok (.iconst 1, 1) := ax_dec dX1_staysBelow_q0_ok 30 (56, .iconst 1, 1) rfl
theorem dX1_staysBelow_57 : decode cX1_staysBelow 57 = .ok (.ireturn, 1) := ax_dec dX1_staysBelow_q0_ok 31 (57, .ireturn, 1) rfl
def dX1_weighBurning_q0 : List (Nat × (Instr × Nat)) := [(0, .iconst 0, 1), (1, .istore 4, 2), (3, .aload_n 0, 1), (4, .invokevirtual 124, 3), (7, .iconst 0, 1), (8, .istore 5, 2), (10, .iload 5, 2), (12, .iload_n 2, 1), (13, .if_icmp .ge 64, 3), (16, .aload_n 0, 1), (17, .aload_n 1, 1), (18, .iload_n 3, 1), (19, .invokevirtual 111, 3), (22, .aload_n 1, 1), (23, .astore 6, 2), (25, .aload 6, 2), (27, .ifnull 44, 3), (30, .iload 4, 2), (32, .aload_n 0, 1), (33, .getfield 23, 3), (36, .arraylength, 1), (37, .if_icmp .ge 34, 3), (40, .aload_n 0, 1), (41, .getfield 23, 3), (44, .iload 4, 2), (46, .aload_n 0, 1), (47, .getfield 27, 3), (50, .iconst 2, 1), (51, .aload 6, 2), (53, .iload_n 3, 1), (54, .invokevirtual 85, 3), (57, .iastore, 1)]
set_option maxRecDepth 100000 in
theorem dX1_weighBurning_q0_ok : ax_decs cX1_weighBurning dX1_weighBurning_q0 = true := by decide +kernel
theorem dX1_weighBurning_0 : decode cX1_weighBurning 0 = .ok (.iconst 0, 1) := ax_dec dX1_weighBurning_q0_ok 0 (0, .iconst 0, 1) rfl
theorem dX1_weighBurning_1 : decode cX1_weighBurning 1 = .ok (.istore 4, 2) := ax_dec dX1_weighBurning_q0_ok 1 (1, .istore 4, 2) rfl
theorem dX1_weighBurning_3 : decode cX1_weighBurning 3 = .ok (.aload_n 0, 1) := ax_dec dX1_weighBurning_q0_ok 2 (3, .aload_n 0, 1) rfl
theorem dX1_weighBurning_4 : decode cX1_weighBurning 4 = .ok (.invokevirtual 124, 3) := ax_dec dX1_weighBurning_q0_ok 3 (4, .invokevirtual 124, 3) rfl
theorem dX1_weighBurning_7 : decode cX1_weighBurning 7 = .ok (.iconst 0, 1) := ax_dec dX1_weighBurning_q0_ok 4 (7, .iconst 0, 1) rfl
theorem dX1_weighBurning_8 : decode cX1_weighBurning 8 = .ok (.istore 5, 2) := ax_dec dX1_weighBurning_q0_ok 5 (8, .istore 5, 2) rfl
theorem dX1_weighBurning_10 : decode cX1_weighBurning 10 = .ok (.iload 5, 2) := ax_dec dX1_weighBurning_q0_ok 6 (10, .iload 5, 2) rfl
theorem dX1_weighBurning_12 : decode cX1_weighBurning 12 = .ok (.iload_n 2, 1) := ax_dec dX1_weighBurning_q0_ok 7 (12, .iload_n 2, 1) rfl
theorem dX1_weighBurning_13 : decode cX1_weighBurning 13 = .ok (.if_icmp .ge 64, 3) := ax_dec dX1_weighBurning_q0_ok 8 (13, .if_icmp .ge 64, 3) rfl
theorem dX1_weighBurning_16 : decode cX1_weighBurning 16 = .ok (.aload_n 0, 1) := ax_dec dX1_weighBurning_q0_ok 9 (16, .aload_n 0, 1) rfl
theorem dX1_weighBurning_17 : decode cX1_weighBurning 17 = .ok (.aload_n 1, 1) := ax_dec dX1_weighBurning_q0_ok 10 (17, .aload_n 1, 1) rfl
theorem dX1_weighBurning_18 : decode cX1_weighBurning 18 = .ok (.iload_n 3, 1) := ax_dec dX1_weighBurning_q0_ok 11 (18, .iload_n 3, 1) rfl
theorem dX1_weighBurning_19 : decode cX1_weighBurning 19 = .ok (.invokevirtual 111, 3) := ax_dec dX1_weighBurning_q0_ok 12 (19, .invokevirtual 111, 3) rfl
theorem dX1_weighBurning_22 : decode cX1_weighBurning 22 = .ok (.aload_n 1, 1) := ax_dec dX1_weighBurning_q0_ok 13 (22, .aload_n 1, 1) rfl
theorem dX1_weighBurning_23 : decode cX1_weighBurning 23 = .ok (.astore 6, 2) := ax_dec dX1_weighBurning_q0_ok 14 (23, .astore 6, 2) rfl
theorem dX1_weighBurning_25 : decode cX1_weighBurning 25 = .ok (.aload 6, 2) := ax_dec dX1_weighBurning_q0_ok 15 (25, .aload 6, 2) rfl
theorem dX1_weighBurning_27 : decode cX1_weighBurning 27 = .ok (.ifnull 44, 3) := ax_dec dX1_weighBurning_q0_ok 16 (27, .ifnull 44, 3) rfl
theorem dX1_weighBurning_30 : decode cX1_weighBurning 30 = .ok (.iload 4, 2) := ax_dec dX1_weighBurning_q0_ok 17 (30, .iload 4, 2) rfl
theorem dX1_weighBurning_32 : decode cX1_weighBurning 32 = .ok (.aload_n 0, 1) := ax_dec dX1_weighBurning_q0_ok 18 (32, .aload_n 0, 1) rfl
theorem dX1_weighBurning_33 : decode cX1_weighBurning 33 = .ok (.getfield 23, 3) := ax_dec dX1_weighBurning_q0_ok 19 (33, .getfield 23, 3) rfl
theorem dX1_weighBurning_36 : decode cX1_weighBurning 36 = .ok (.arraylength, 1) := ax_dec dX1_weighBurning_q0_ok 20 (36, .arraylength, 1) rfl
theorem dX1_weighBurning_37 : decode cX1_weighBurning 37 = .ok (.if_icmp .ge 34, 3) := ax_dec dX1_weighBurning_q0_ok 21 (37, .if_icmp .ge 34, 3) rfl
theorem dX1_weighBurning_40 : decode cX1_weighBurning 40 = .ok (.aload_n 0, 1) := ax_dec dX1_weighBurning_q0_ok 22 (40, .aload_n 0, 1) rfl
theorem dX1_weighBurning_41 : decode cX1_weighBurning 41 = .ok (.getfield 23, 3) := ax_dec dX1_weighBurning_q0_ok 23 (41, .getfield 23, 3) rfl
theorem dX1_weighBurning_44 : decode cX1_weighBurning 44 = .ok (.iload 4, 2) := ax_dec dX1_weighBurning_q0_ok 24 (44, .iload 4, 2) rfl
theorem dX1_weighBurning_46 : decode cX1_weighBurning 46 = .ok (.aload_n 0, 1) := ax_dec dX1_weighBurning_q0_ok 25 (46, .aload_n 0, 1) rfl
theorem dX1_weighBurning_47 : decode cX1_weighBurning 47 = .ok (.getfield 27, 3) := ax_dec dX1_weighBurning_q0_ok 26 (47, .getfield 27, 3) rfl
theorem dX1_weighBurning_50 : decode cX1_weighBurning 50 = .ok (.iconst 2, 1) := ax_dec dX1_weighBurning_q0_ok 27 (50, .iconst 2, 1) rfl
theorem dX1_weighBurning_51 : decode cX1_weighBurning 51 = .ok (.aload 6, 2) := ax_dec dX1_weighBurning_q0_ok 28 (51, .aload 6, 2) rfl
theorem dX1_weighBurning_53 : decode cX1_weighBurning 53 = .ok (.iload_n 3, 1) := ax_dec dX1_weighBurning_q0_ok 29 (53, .iload_n 3, 1) rfl
theorem dX1_weighBurning_54 : decode cX1_weighBurning 54 = .ok (.invokevirtual 85, 3) := ax_dec dX1_weighBurning_q0_ok 30 (54, .invokevirtual 85, 3) rfl
theorem dX1_weighBurning_57 : decode cX1_weighBurning 57 = .ok (.iastore, 1) := ax_dec dX1_weighBurning_q0_ok 31 (57, .iastore, 1) rfl
def dX1_weighBurning_q1 : List (Nat × (Instr × Nat)) := [(58, .iinc 4 1, 3), (61, .aload 6, 2), (63, .getfield 43, 3), (66, .astore 6, 2), (68, .goto (-43), 3), (71, .iinc 5 1, 3), (74, .goto (-64), 3), (77, .aload_n 0, 1), (78, .invokevirtual 127, 3), (81, .return_, 1)]
set_option maxRecDepth 100000 in
theorem dX1_weighBurning_q1_ok : ax_decs cX1_weighBurning dX1_weighBurning_q1 = true := by decide +kernel
theorem dX1_weighBurning_58 : decode cX1_weighBurning 58 = .ok (.iinc 4 1, 3) := ax_dec dX1_weighBurning_q1_ok 0 (58, .iinc 4 1, 3) rfl
theorem dX1_weighBurning_61 : decode cX1_weighBurning 61 = .ok (.aload 6, 2) := ax_dec dX1_weighBurning_q1_ok 1 (61, .aload 6, 2) rfl
theorem dX1_weighBurning_63 : decode cX1_weighBurning 63 = .ok (.getfield 43, 3) := ax_dec dX1_weighBurning_q1_ok 2 (63, .getfield 43, 3) rfl
theorem dX1_weighBurning_66 : decode cX1_weighBurning 66 = .ok (.astore 6, 2) := ax_dec dX1_weighBurning_q1_ok 3 (66, .astore 6, 2) rfl
theorem dX1_weighBurning_68 : decode cX1_weighBurning 68 = .ok (.goto (-43), 3) := ax_dec dX1_weighBurning_q1_ok 4 (68, .goto (-43), 3) rfl
theorem dX1_weighBurning_71 : decode cX1_weighBurning 71 = .ok (.iinc 5 1, 3) := ax_dec dX1_weighBurning_q1_ok 5 (71, .iinc 5 1, 3) rfl
theorem dX1_weighBurning_74 : decode cX1_weighBurning 74 = .ok (.goto (-64), 3) := ax_dec dX1_weighBurning_q1_ok 6 (74, .goto (-64), 3) rfl
theorem dX1_weighBurning_77 : decode cX1_weighBurning 77 = .ok (.aload_n 0, 1) := ax_dec dX1_weighBurning_q1_ok 7 (77, .aload_n 0, 1) rfl
theorem dX1_weighBurning_78 : decode cX1_weighBurning 78 = .ok (.invokevirtual 127, 3) := ax_dec dX1_weighBurning_q1_ok 8 (78, .invokevirtual 127, 3) rfl
theorem dX1_weighBurning_81 : decode cX1_weighBurning 81 = .ok (.return_, 1) := ax_dec dX1_weighBurning_q1_ok 9 (81, .return_, 1) rfl
def dX1_firstBurning_q0 : List (Nat × (Instr × Nat)) := [(0, .lload_n 1, 1), (1, .lconst 1, 1), (2, .ladd, 1), (3, .lstore 5, 2), (5, .iconst 0, 1), (6, .istore 7, 2), (8, .iconst 1, 1), (9, .istore 8, 2), (11, .iload 8, 2), (13, .iload 4, 2), (15, .if_icmp .gt 73, 3), (18, .aload_n 3, 1), (19, .astore 9, 2), (21, .aload 9, 2), (23, .ifnull 59, 3), (26, .iload 7, 2), (28, .aload_n 0, 1), (29, .getfield 23, 3), (32, .arraylength, 1), (33, .if_icmp .ge 49, 3), (36, .lload 5, 2), (38, .ldc2_w 130, 3), (41, .lmul, 1), (42, .ldc2_w 132, 3), (45, .lrem, 1), (46, .lstore 5, 2), (48, .lload 5, 2), (50, .ldc2_w 115, 3), (53, .lrem, 1), (54, .aload_n 0, 1), (55, .getfield 23, 3), (58, .iload 7, 2)]
set_option maxRecDepth 100000 in
theorem dX1_firstBurning_q0_ok : ax_decs cX1_firstBurning dX1_firstBurning_q0 = true := by decide +kernel
theorem dX1_firstBurning_0 : decode cX1_firstBurning 0 = .ok (.lload_n 1, 1) := ax_dec dX1_firstBurning_q0_ok 0 (0, .lload_n 1, 1) rfl
theorem dX1_firstBurning_1 : decode cX1_firstBurning 1 = .ok (.lconst 1, 1) := ax_dec dX1_firstBurning_q0_ok 1 (1, .lconst 1, 1) rfl
theorem dX1_firstBurning_2 : decode cX1_firstBurning 2 = .ok (.ladd, 1) := ax_dec dX1_firstBurning_q0_ok 2 (2, .ladd, 1) rfl
theorem dX1_firstBurning_3 : decode cX1_firstBurning 3 = .ok (.lstore 5, 2) := ax_dec dX1_firstBurning_q0_ok 3 (3, .lstore 5, 2) rfl
theorem dX1_firstBurning_5 : decode cX1_firstBurning 5 = .ok (.iconst 0, 1) := ax_dec dX1_firstBurning_q0_ok 4 (5, .iconst 0, 1) rfl
theorem dX1_firstBurning_6 : decode cX1_firstBurning 6 = .ok (.istore 7, 2) := ax_dec dX1_firstBurning_q0_ok 5 (6, .istore 7, 2) rfl
theorem dX1_firstBurning_8 : decode cX1_firstBurning 8 = .ok (.iconst 1, 1) := ax_dec dX1_firstBurning_q0_ok 6 (8, .iconst 1, 1) rfl
theorem dX1_firstBurning_9 : decode cX1_firstBurning 9 = .ok (.istore 8, 2) := ax_dec dX1_firstBurning_q0_ok 7 (9, .istore 8, 2) rfl
theorem dX1_firstBurning_11 : decode cX1_firstBurning 11 = .ok (.iload 8, 2) := ax_dec dX1_firstBurning_q0_ok 8 (11, .iload 8, 2) rfl
theorem dX1_firstBurning_13 : decode cX1_firstBurning 13 = .ok (.iload 4, 2) := ax_dec dX1_firstBurning_q0_ok 9 (13, .iload 4, 2) rfl
theorem dX1_firstBurning_15 : decode cX1_firstBurning 15 = .ok (.if_icmp .gt 73, 3) := ax_dec dX1_firstBurning_q0_ok 10 (15, .if_icmp .gt 73, 3) rfl
theorem dX1_firstBurning_18 : decode cX1_firstBurning 18 = .ok (.aload_n 3, 1) := ax_dec dX1_firstBurning_q0_ok 11 (18, .aload_n 3, 1) rfl
theorem dX1_firstBurning_19 : decode cX1_firstBurning 19 = .ok (.astore 9, 2) := ax_dec dX1_firstBurning_q0_ok 12 (19, .astore 9, 2) rfl
theorem dX1_firstBurning_21 : decode cX1_firstBurning 21 = .ok (.aload 9, 2) := ax_dec dX1_firstBurning_q0_ok 13 (21, .aload 9, 2) rfl
theorem dX1_firstBurning_23 : decode cX1_firstBurning 23 = .ok (.ifnull 59, 3) := ax_dec dX1_firstBurning_q0_ok 14 (23, .ifnull 59, 3) rfl
theorem dX1_firstBurning_26 : decode cX1_firstBurning 26 = .ok (.iload 7, 2) := ax_dec dX1_firstBurning_q0_ok 15 (26, .iload 7, 2) rfl
theorem dX1_firstBurning_28 : decode cX1_firstBurning 28 = .ok (.aload_n 0, 1) := ax_dec dX1_firstBurning_q0_ok 16 (28, .aload_n 0, 1) rfl
theorem dX1_firstBurning_29 : decode cX1_firstBurning 29 = .ok (.getfield 23, 3) := ax_dec dX1_firstBurning_q0_ok 17 (29, .getfield 23, 3) rfl
theorem dX1_firstBurning_32 : decode cX1_firstBurning 32 = .ok (.arraylength, 1) := ax_dec dX1_firstBurning_q0_ok 18 (32, .arraylength, 1) rfl
theorem dX1_firstBurning_33 : decode cX1_firstBurning 33 = .ok (.if_icmp .ge 49, 3) := ax_dec dX1_firstBurning_q0_ok 19 (33, .if_icmp .ge 49, 3) rfl
theorem dX1_firstBurning_36 : decode cX1_firstBurning 36 = .ok (.lload 5, 2) := ax_dec dX1_firstBurning_q0_ok 20 (36, .lload 5, 2) rfl
theorem dX1_firstBurning_38 : decode cX1_firstBurning 38 = .ok (.ldc2_w 130, 3) := ax_dec dX1_firstBurning_q0_ok 21 (38, .ldc2_w 130, 3) rfl
theorem dX1_firstBurning_41 : decode cX1_firstBurning 41 = .ok (.lmul, 1) := ax_dec dX1_firstBurning_q0_ok 22 (41, .lmul, 1) rfl
theorem dX1_firstBurning_42 : decode cX1_firstBurning 42 = .ok (.ldc2_w 132, 3) := ax_dec dX1_firstBurning_q0_ok 23 (42, .ldc2_w 132, 3) rfl
theorem dX1_firstBurning_45 : decode cX1_firstBurning 45 = .ok (.lrem, 1) := ax_dec dX1_firstBurning_q0_ok 24 (45, .lrem, 1) rfl
theorem dX1_firstBurning_46 : decode cX1_firstBurning 46 = .ok (.lstore 5, 2) := ax_dec dX1_firstBurning_q0_ok 25 (46, .lstore 5, 2) rfl
theorem dX1_firstBurning_48 : decode cX1_firstBurning 48 = .ok (.lload 5, 2) := ax_dec dX1_firstBurning_q0_ok 26 (48, .lload 5, 2) rfl
theorem dX1_firstBurning_50 : decode cX1_firstBurning 50 = .ok (.ldc2_w 115, 3) := ax_dec dX1_firstBurning_q0_ok 27 (50, .ldc2_w 115, 3) rfl
theorem dX1_firstBurning_53 : decode cX1_firstBurning 53 = .ok (.lrem, 1) := ax_dec dX1_firstBurning_q0_ok 28 (53, .lrem, 1) rfl
theorem dX1_firstBurning_54 : decode cX1_firstBurning 54 = .ok (.aload_n 0, 1) := ax_dec dX1_firstBurning_q0_ok 29 (54, .aload_n 0, 1) rfl
theorem dX1_firstBurning_55 : decode cX1_firstBurning 55 = .ok (.getfield 23, 3) := ax_dec dX1_firstBurning_q0_ok 30 (55, .getfield 23, 3) rfl
theorem dX1_firstBurning_58 : decode cX1_firstBurning 58 = .ok (.iload 7, 2) := ax_dec dX1_firstBurning_q0_ok 31 (58, .iload 7, 2) rfl
def dX1_firstBurning_q1 : List (Nat × (Instr × Nat)) := [(60, .iaload, 1), (61, .i2l, 1), (62, .lcmp, 1), (63, .ifCond .ge 6, 3), (66, .iload 8, 2), (68, .ireturn, 1), (69, .iinc 7 1, 3), (72, .aload 9, 2), (74, .getfield 43, 3), (77, .astore 9, 2), (79, .goto (-58), 3), (82, .iinc 8 1, 3), (85, .goto (-74), 3), (88, .iconst (-1), 1), (89, .ireturn, 1)]
set_option maxRecDepth 100000 in
theorem dX1_firstBurning_q1_ok : ax_decs cX1_firstBurning dX1_firstBurning_q1 = true := by decide +kernel
theorem dX1_firstBurning_60 : decode cX1_firstBurning 60 = .ok (.iaload, 1) := ax_dec dX1_firstBurning_q1_ok 0 (60, .iaload, 1) rfl
theorem dX1_firstBurning_61 : decode cX1_firstBurning 61 = .ok (.i2l, 1) := ax_dec dX1_firstBurning_q1_ok 1 (61, .i2l, 1) rfl
theorem dX1_firstBurning_62 : decode cX1_firstBurning 62 = .ok (.lcmp, 1) := ax_dec dX1_firstBurning_q1_ok 2 (62, .lcmp, 1) rfl
theorem dX1_firstBurning_63 : decode cX1_firstBurning 63 = .ok (.ifCond .ge 6, 3) := ax_dec dX1_firstBurning_q1_ok 3 (63, .ifCond .ge 6, 3) rfl
theorem dX1_firstBurning_66 : decode cX1_firstBurning 66 = .ok (.iload 8, 2) := ax_dec dX1_firstBurning_q1_ok 4 (66, .iload 8, 2) rfl
theorem dX1_firstBurning_68 : decode cX1_firstBurning 68 = .ok (.ireturn, 1) := ax_dec dX1_firstBurning_q1_ok 5 (68, .ireturn, 1) rfl
theorem dX1_firstBurning_69 : decode cX1_firstBurning 69 = .ok (.iinc 7 1, 3) := ax_dec dX1_firstBurning_q1_ok 6 (69, .iinc 7 1, 3) rfl
theorem dX1_firstBurning_72 : decode cX1_firstBurning 72 = .ok (.aload 9, 2) := ax_dec dX1_firstBurning_q1_ok 7 (72, .aload 9, 2) rfl
theorem dX1_firstBurning_74 : decode cX1_firstBurning 74 = .ok (.getfield 43, 3) := ax_dec dX1_firstBurning_q1_ok 8 (74, .getfield 43, 3) rfl
theorem dX1_firstBurning_77 : decode cX1_firstBurning 77 = .ok (.astore 9, 2) := ax_dec dX1_firstBurning_q1_ok 9 (77, .astore 9, 2) rfl
theorem dX1_firstBurning_79 : decode cX1_firstBurning 79 = .ok (.goto (-58), 3) := ax_dec dX1_firstBurning_q1_ok 10 (79, .goto (-58), 3) rfl
theorem dX1_firstBurning_82 : decode cX1_firstBurning 82 = .ok (.iinc 8 1, 3) := ax_dec dX1_firstBurning_q1_ok 11 (82, .iinc 8 1, 3) rfl
theorem dX1_firstBurning_85 : decode cX1_firstBurning 85 = .ok (.goto (-74), 3) := ax_dec dX1_firstBurning_q1_ok 12 (85, .goto (-74), 3) rfl
theorem dX1_firstBurning_88 : decode cX1_firstBurning 88 = .ok (.iconst (-1), 1) := ax_dec dX1_firstBurning_q1_ok 13 (88, .iconst (-1), 1) rfl
theorem dX1_firstBurning_89 : decode cX1_firstBurning 89 = .ok (.ireturn, 1) := ax_dec dX1_firstBurning_q1_ok 14 (89, .ireturn, 1) rfl
def dX1_bestRound_q0 : List (Nat × (Instr × Nat)) := [(0, .aload_n 0, 1), (1, .invokevirtual 134, 3), (4, .istore_n 3, 1), (5, .iload_n 3, 1), (6, .ifCond .ne 5, 3), (9, .iconst 0, 1), (10, .ireturn, 1), (11, .iconst 1, 1), (12, .istore 4, 2), (14, .iconst 0, 1), (15, .istore 5, 2), (17, .iload 5, 2), (19, .iload_n 3, 1), (20, .if_icmp .ge 15, 3), (23, .iload 4, 2), (25, .iload_n 3, 1), (26, .imul, 1), (27, .istore 4, 2), (29, .iinc 5 1, 3), (32, .goto (-15), 3), (35, .ldc 137, 2), (37, .istore 5, 2), (39, .iconst 0, 1), (40, .istore 6, 2), (42, .iload 6, 2), (44, .iload 4, 2), (46, .if_icmp .ge 53, 3), (49, .aload_n 0, 1), (50, .iload 6, 2), (52, .iload_n 3, 1), (53, .invokevirtual 138, 3), (56, .ifCond .eq 37, 3)]
set_option maxRecDepth 100000 in
theorem dX1_bestRound_q0_ok : ax_decs cX1_bestRound dX1_bestRound_q0 = true := by decide +kernel
theorem dX1_bestRound_0 : decode cX1_bestRound 0 = .ok (.aload_n 0, 1) := ax_dec dX1_bestRound_q0_ok 0 (0, .aload_n 0, 1) rfl
theorem dX1_bestRound_1 : decode cX1_bestRound 1 = .ok (.invokevirtual 134, 3) := ax_dec dX1_bestRound_q0_ok 1 (1, .invokevirtual 134, 3) rfl
theorem dX1_bestRound_4 : decode cX1_bestRound 4 = .ok (.istore_n 3, 1) := ax_dec dX1_bestRound_q0_ok 2 (4, .istore_n 3, 1) rfl
theorem dX1_bestRound_5 : decode cX1_bestRound 5 = .ok (.iload_n 3, 1) := ax_dec dX1_bestRound_q0_ok 3 (5, .iload_n 3, 1) rfl
theorem dX1_bestRound_6 : decode cX1_bestRound 6 = .ok (.ifCond .ne 5, 3) := ax_dec dX1_bestRound_q0_ok 4 (6, .ifCond .ne 5, 3) rfl
theorem dX1_bestRound_9 : decode cX1_bestRound 9 = .ok (.iconst 0, 1) := ax_dec dX1_bestRound_q0_ok 5 (9, .iconst 0, 1) rfl
theorem dX1_bestRound_10 : decode cX1_bestRound 10 = .ok (.ireturn, 1) := ax_dec dX1_bestRound_q0_ok 6 (10, .ireturn, 1) rfl
theorem dX1_bestRound_11 : decode cX1_bestRound 11 = .ok (.iconst 1, 1) := ax_dec dX1_bestRound_q0_ok 7 (11, .iconst 1, 1) rfl
theorem dX1_bestRound_12 : decode cX1_bestRound 12 = .ok (.istore 4, 2) := ax_dec dX1_bestRound_q0_ok 8 (12, .istore 4, 2) rfl
theorem dX1_bestRound_14 : decode cX1_bestRound 14 = .ok (.iconst 0, 1) := ax_dec dX1_bestRound_q0_ok 9 (14, .iconst 0, 1) rfl
theorem dX1_bestRound_15 : decode cX1_bestRound 15 = .ok (.istore 5, 2) := ax_dec dX1_bestRound_q0_ok 10 (15, .istore 5, 2) rfl
theorem dX1_bestRound_17 : decode cX1_bestRound 17 = .ok (.iload 5, 2) := ax_dec dX1_bestRound_q0_ok 11 (17, .iload 5, 2) rfl
theorem dX1_bestRound_19 : decode cX1_bestRound 19 = .ok (.iload_n 3, 1) := ax_dec dX1_bestRound_q0_ok 12 (19, .iload_n 3, 1) rfl
theorem dX1_bestRound_20 : decode cX1_bestRound 20 = .ok (.if_icmp .ge 15, 3) := ax_dec dX1_bestRound_q0_ok 13 (20, .if_icmp .ge 15, 3) rfl
theorem dX1_bestRound_23 : decode cX1_bestRound 23 = .ok (.iload 4, 2) := ax_dec dX1_bestRound_q0_ok 14 (23, .iload 4, 2) rfl
theorem dX1_bestRound_25 : decode cX1_bestRound 25 = .ok (.iload_n 3, 1) := ax_dec dX1_bestRound_q0_ok 15 (25, .iload_n 3, 1) rfl
theorem dX1_bestRound_26 : decode cX1_bestRound 26 = .ok (.imul, 1) := ax_dec dX1_bestRound_q0_ok 16 (26, .imul, 1) rfl
theorem dX1_bestRound_27 : decode cX1_bestRound 27 = .ok (.istore 4, 2) := ax_dec dX1_bestRound_q0_ok 17 (27, .istore 4, 2) rfl
theorem dX1_bestRound_29 : decode cX1_bestRound 29 = .ok (.iinc 5 1, 3) := ax_dec dX1_bestRound_q0_ok 18 (29, .iinc 5 1, 3) rfl
theorem dX1_bestRound_32 : decode cX1_bestRound 32 = .ok (.goto (-15), 3) := ax_dec dX1_bestRound_q0_ok 19 (32, .goto (-15), 3) rfl
theorem dX1_bestRound_35 : decode cX1_bestRound 35 = .ok (.ldc 137, 2) := ax_dec dX1_bestRound_q0_ok 20 (35, .ldc 137, 2) rfl
theorem dX1_bestRound_37 : decode cX1_bestRound 37 = .ok (.istore 5, 2) := ax_dec dX1_bestRound_q0_ok 21 (37, .istore 5, 2) rfl
theorem dX1_bestRound_39 : decode cX1_bestRound 39 = .ok (.iconst 0, 1) := ax_dec dX1_bestRound_q0_ok 22 (39, .iconst 0, 1) rfl
theorem dX1_bestRound_40 : decode cX1_bestRound 40 = .ok (.istore 6, 2) := ax_dec dX1_bestRound_q0_ok 23 (40, .istore 6, 2) rfl
theorem dX1_bestRound_42 : decode cX1_bestRound 42 = .ok (.iload 6, 2) := ax_dec dX1_bestRound_q0_ok 24 (42, .iload 6, 2) rfl
theorem dX1_bestRound_44 : decode cX1_bestRound 44 = .ok (.iload 4, 2) := ax_dec dX1_bestRound_q0_ok 25 (44, .iload 4, 2) rfl
theorem dX1_bestRound_46 : decode cX1_bestRound 46 = .ok (.if_icmp .ge 53, 3) := ax_dec dX1_bestRound_q0_ok 26 (46, .if_icmp .ge 53, 3) rfl
theorem dX1_bestRound_49 : decode cX1_bestRound 49 = .ok (.aload_n 0, 1) := ax_dec dX1_bestRound_q0_ok 27 (49, .aload_n 0, 1) rfl
theorem dX1_bestRound_50 : decode cX1_bestRound 50 = .ok (.iload 6, 2) := ax_dec dX1_bestRound_q0_ok 28 (50, .iload 6, 2) rfl
theorem dX1_bestRound_52 : decode cX1_bestRound 52 = .ok (.iload_n 3, 1) := ax_dec dX1_bestRound_q0_ok 29 (52, .iload_n 3, 1) rfl
theorem dX1_bestRound_53 : decode cX1_bestRound 53 = .ok (.invokevirtual 138, 3) := ax_dec dX1_bestRound_q0_ok 30 (53, .invokevirtual 138, 3) rfl
theorem dX1_bestRound_56 : decode cX1_bestRound 56 = .ok (.ifCond .eq 37, 3) := ax_dec dX1_bestRound_q0_ok 31 (56, .ifCond .eq 37, 3) rfl
def dX1_bestRound_q1 : List (Nat × (Instr × Nat)) := [(59, .aload_n 0, 1), (60, .iload_n 3, 1), (61, .iload_n 1, 1), (62, .iload_n 2, 1), (63, .invokevirtual 142, 3), (66, .istore 7, 2), (68, .iload 7, 2), (70, .iload 5, 2), (72, .sipush 10000, 3), (75, .idiv, 1), (76, .if_icmp .ge 17, 3), (79, .sipush 10000, 3), (82, .iload 7, 2), (84, .imul, 1), (85, .aload_n 0, 1), (86, .iload_n 3, 1), (87, .invokevirtual 146, 3), (90, .iadd, 1), (91, .istore 5, 2), (93, .iinc 6 1, 3), (96, .goto (-54), 3), (99, .iload 5, 2), (101, .ireturn, 1)]
set_option maxRecDepth 100000 in
theorem dX1_bestRound_q1_ok : ax_decs cX1_bestRound dX1_bestRound_q1 = true := by decide +kernel
theorem dX1_bestRound_59 : decode cX1_bestRound 59 = .ok (.aload_n 0, 1) := ax_dec dX1_bestRound_q1_ok 0 (59, .aload_n 0, 1) rfl
theorem dX1_bestRound_60 : decode cX1_bestRound 60 = .ok (.iload_n 3, 1) := ax_dec dX1_bestRound_q1_ok 1 (60, .iload_n 3, 1) rfl
theorem dX1_bestRound_61 : decode cX1_bestRound 61 = .ok (.iload_n 1, 1) := ax_dec dX1_bestRound_q1_ok 2 (61, .iload_n 1, 1) rfl
theorem dX1_bestRound_62 : decode cX1_bestRound 62 = .ok (.iload_n 2, 1) := ax_dec dX1_bestRound_q1_ok 3 (62, .iload_n 2, 1) rfl
theorem dX1_bestRound_63 : decode cX1_bestRound 63 = .ok (.invokevirtual 142, 3) := ax_dec dX1_bestRound_q1_ok 4 (63, .invokevirtual 142, 3) rfl
theorem dX1_bestRound_66 : decode cX1_bestRound 66 = .ok (.istore 7, 2) := ax_dec dX1_bestRound_q1_ok 5 (66, .istore 7, 2) rfl
theorem dX1_bestRound_68 : decode cX1_bestRound 68 = .ok (.iload 7, 2) := ax_dec dX1_bestRound_q1_ok 6 (68, .iload 7, 2) rfl
theorem dX1_bestRound_70 : decode cX1_bestRound 70 = .ok (.iload 5, 2) := ax_dec dX1_bestRound_q1_ok 7 (70, .iload 5, 2) rfl
theorem dX1_bestRound_72 : decode cX1_bestRound 72 = .ok (.sipush 10000, 3) := ax_dec dX1_bestRound_q1_ok 8 (72, .sipush 10000, 3) rfl
theorem dX1_bestRound_75 : decode cX1_bestRound 75 = .ok (.idiv, 1) := ax_dec dX1_bestRound_q1_ok 9 (75, .idiv, 1) rfl
theorem dX1_bestRound_76 : decode cX1_bestRound 76 = .ok (.if_icmp .ge 17, 3) := ax_dec dX1_bestRound_q1_ok 10 (76, .if_icmp .ge 17, 3) rfl
theorem dX1_bestRound_79 : decode cX1_bestRound 79 = .ok (.sipush 10000, 3) := ax_dec dX1_bestRound_q1_ok 11 (79, .sipush 10000, 3) rfl
theorem dX1_bestRound_82 : decode cX1_bestRound 82 = .ok (.iload 7, 2) := ax_dec dX1_bestRound_q1_ok 12 (82, .iload 7, 2) rfl
theorem dX1_bestRound_84 : decode cX1_bestRound 84 = .ok (.imul, 1) := ax_dec dX1_bestRound_q1_ok 13 (84, .imul, 1) rfl
theorem dX1_bestRound_85 : decode cX1_bestRound 85 = .ok (.aload_n 0, 1) := ax_dec dX1_bestRound_q1_ok 14 (85, .aload_n 0, 1) rfl
theorem dX1_bestRound_86 : decode cX1_bestRound 86 = .ok (.iload_n 3, 1) := ax_dec dX1_bestRound_q1_ok 15 (86, .iload_n 3, 1) rfl
theorem dX1_bestRound_87 : decode cX1_bestRound 87 = .ok (.invokevirtual 146, 3) := ax_dec dX1_bestRound_q1_ok 16 (87, .invokevirtual 146, 3) rfl
theorem dX1_bestRound_90 : decode cX1_bestRound 90 = .ok (.iadd, 1) := ax_dec dX1_bestRound_q1_ok 17 (90, .iadd, 1) rfl
theorem dX1_bestRound_91 : decode cX1_bestRound 91 = .ok (.istore 5, 2) := ax_dec dX1_bestRound_q1_ok 18 (91, .istore 5, 2) rfl
theorem dX1_bestRound_93 : decode cX1_bestRound 93 = .ok (.iinc 6 1, 3) := ax_dec dX1_bestRound_q1_ok 19 (93, .iinc 6 1, 3) rfl
theorem dX1_bestRound_96 : decode cX1_bestRound 96 = .ok (.goto (-54), 3) := ax_dec dX1_bestRound_q1_ok 20 (96, .goto (-54), 3) rfl
theorem dX1_bestRound_99 : decode cX1_bestRound 99 = .ok (.iload 5, 2) := ax_dec dX1_bestRound_q1_ok 21 (99, .iload 5, 2) rfl
theorem dX1_bestRound_101 : decode cX1_bestRound 101 = .ok (.ireturn, 1) := ax_dec dX1_bestRound_q1_ok 22 (101, .ireturn, 1) rfl
def dX1_gatherPlaces_q0 : List (Nat × (Instr × Nat)) := [(0, .iconst 0, 1), (1, .istore_n 1, 1), (2, .iconst 0, 1), (3, .istore_n 2, 1), (4, .iload_n 2, 1), (5, .aload_n 0, 1), (6, .getfield 11, 3), (9, .arraylength, 1), (10, .if_icmp .ge 38, 3), (13, .iload_n 1, 1), (14, .aload_n 0, 1), (15, .getfield 17, 3), (18, .arraylength, 1), (19, .if_icmp .ge 29, 3), (22, .aload_n 0, 1), (23, .iload_n 2, 1), (24, .invokevirtual 54, 3), (27, .astore_n 3, 1), (28, .aload_n 3, 1), (29, .ifnull 13, 3), (32, .aload_n 0, 1), (33, .getfield 17, 3), (36, .iload_n 1, 1), (37, .aload_n 3, 1), (38, .aastore, 1), (39, .iinc 1 1, 3), (42, .iinc 2 1, 3), (45, .goto (-41), 3), (48, .iload_n 1, 1), (49, .ireturn, 1)]
set_option maxRecDepth 100000 in
theorem dX1_gatherPlaces_q0_ok : ax_decs cX1_gatherPlaces dX1_gatherPlaces_q0 = true := by decide +kernel
theorem dX1_gatherPlaces_0 : decode cX1_gatherPlaces 0 = .ok (.iconst 0, 1) := ax_dec dX1_gatherPlaces_q0_ok 0 (0, .iconst 0, 1) rfl
theorem dX1_gatherPlaces_1 : decode cX1_gatherPlaces 1 = .ok (.istore_n 1, 1) := ax_dec dX1_gatherPlaces_q0_ok 1 (1, .istore_n 1, 1) rfl
theorem dX1_gatherPlaces_2 : decode cX1_gatherPlaces 2 = .ok (.iconst 0, 1) := ax_dec dX1_gatherPlaces_q0_ok 2 (2, .iconst 0, 1) rfl
theorem dX1_gatherPlaces_3 : decode cX1_gatherPlaces 3 = .ok (.istore_n 2, 1) := ax_dec dX1_gatherPlaces_q0_ok 3 (3, .istore_n 2, 1) rfl
theorem dX1_gatherPlaces_4 : decode cX1_gatherPlaces 4 = .ok (.iload_n 2, 1) := ax_dec dX1_gatherPlaces_q0_ok 4 (4, .iload_n 2, 1) rfl
theorem dX1_gatherPlaces_5 : decode cX1_gatherPlaces 5 = .ok (.aload_n 0, 1) := ax_dec dX1_gatherPlaces_q0_ok 5 (5, .aload_n 0, 1) rfl
theorem dX1_gatherPlaces_6 : decode cX1_gatherPlaces 6 = .ok (.getfield 11, 3) := ax_dec dX1_gatherPlaces_q0_ok 6 (6, .getfield 11, 3) rfl
theorem dX1_gatherPlaces_9 : decode cX1_gatherPlaces 9 = .ok (.arraylength, 1) := ax_dec dX1_gatherPlaces_q0_ok 7 (9, .arraylength, 1) rfl
theorem dX1_gatherPlaces_10 : decode cX1_gatherPlaces 10 = .ok (.if_icmp .ge 38, 3) := ax_dec dX1_gatherPlaces_q0_ok 8 (10, .if_icmp .ge 38, 3) rfl
theorem dX1_gatherPlaces_13 : decode cX1_gatherPlaces 13 = .ok (.iload_n 1, 1) := ax_dec dX1_gatherPlaces_q0_ok 9 (13, .iload_n 1, 1) rfl
theorem dX1_gatherPlaces_14 : decode cX1_gatherPlaces 14 = .ok (.aload_n 0, 1) := ax_dec dX1_gatherPlaces_q0_ok 10 (14, .aload_n 0, 1) rfl
theorem dX1_gatherPlaces_15 : decode cX1_gatherPlaces 15 = .ok (.getfield 17, 3) := ax_dec dX1_gatherPlaces_q0_ok 11 (15, .getfield 17, 3) rfl
theorem dX1_gatherPlaces_18 : decode cX1_gatherPlaces 18 = .ok (.arraylength, 1) := ax_dec dX1_gatherPlaces_q0_ok 12 (18, .arraylength, 1) rfl
theorem dX1_gatherPlaces_19 : decode cX1_gatherPlaces 19 = .ok (.if_icmp .ge 29, 3) := ax_dec dX1_gatherPlaces_q0_ok 13 (19, .if_icmp .ge 29, 3) rfl
theorem dX1_gatherPlaces_22 : decode cX1_gatherPlaces 22 = .ok (.aload_n 0, 1) := ax_dec dX1_gatherPlaces_q0_ok 14 (22, .aload_n 0, 1) rfl
theorem dX1_gatherPlaces_23 : decode cX1_gatherPlaces 23 = .ok (.iload_n 2, 1) := ax_dec dX1_gatherPlaces_q0_ok 15 (23, .iload_n 2, 1) rfl
theorem dX1_gatherPlaces_24 : decode cX1_gatherPlaces 24 = .ok (.invokevirtual 54, 3) := ax_dec dX1_gatherPlaces_q0_ok 16 (24, .invokevirtual 54, 3) rfl
theorem dX1_gatherPlaces_27 : decode cX1_gatherPlaces 27 = .ok (.astore_n 3, 1) := ax_dec dX1_gatherPlaces_q0_ok 17 (27, .astore_n 3, 1) rfl
theorem dX1_gatherPlaces_28 : decode cX1_gatherPlaces 28 = .ok (.aload_n 3, 1) := ax_dec dX1_gatherPlaces_q0_ok 18 (28, .aload_n 3, 1) rfl
theorem dX1_gatherPlaces_29 : decode cX1_gatherPlaces 29 = .ok (.ifnull 13, 3) := ax_dec dX1_gatherPlaces_q0_ok 19 (29, .ifnull 13, 3) rfl
theorem dX1_gatherPlaces_32 : decode cX1_gatherPlaces 32 = .ok (.aload_n 0, 1) := ax_dec dX1_gatherPlaces_q0_ok 20 (32, .aload_n 0, 1) rfl
theorem dX1_gatherPlaces_33 : decode cX1_gatherPlaces 33 = .ok (.getfield 17, 3) := ax_dec dX1_gatherPlaces_q0_ok 21 (33, .getfield 17, 3) rfl
theorem dX1_gatherPlaces_36 : decode cX1_gatherPlaces 36 = .ok (.iload_n 1, 1) := ax_dec dX1_gatherPlaces_q0_ok 22 (36, .iload_n 1, 1) rfl
theorem dX1_gatherPlaces_37 : decode cX1_gatherPlaces 37 = .ok (.aload_n 3, 1) := ax_dec dX1_gatherPlaces_q0_ok 23 (37, .aload_n 3, 1) rfl
theorem dX1_gatherPlaces_38 : decode cX1_gatherPlaces 38 = .ok (.aastore, 1) := ax_dec dX1_gatherPlaces_q0_ok 24 (38, .aastore, 1) rfl
theorem dX1_gatherPlaces_39 : decode cX1_gatherPlaces 39 = .ok (.iinc 1 1, 3) := ax_dec dX1_gatherPlaces_q0_ok 25 (39, .iinc 1 1, 3) rfl
theorem dX1_gatherPlaces_42 : decode cX1_gatherPlaces 42 = .ok (.iinc 2 1, 3) := ax_dec dX1_gatherPlaces_q0_ok 26 (42, .iinc 2 1, 3) rfl
theorem dX1_gatherPlaces_45 : decode cX1_gatherPlaces 45 = .ok (.goto (-41), 3) := ax_dec dX1_gatherPlaces_q0_ok 27 (45, .goto (-41), 3) rfl
theorem dX1_gatherPlaces_48 : decode cX1_gatherPlaces 48 = .ok (.iload_n 1, 1) := ax_dec dX1_gatherPlaces_q0_ok 28 (48, .iload_n 1, 1) rfl
theorem dX1_gatherPlaces_49 : decode cX1_gatherPlaces 49 = .ok (.ireturn, 1) := ax_dec dX1_gatherPlaces_q0_ok 29 (49, .ireturn, 1) rfl
def dX1_layOrder_q0 : List (Nat × (Instr × Nat)) := [(0, .iload_n 1, 1), (1, .istore_n 3, 1), (2, .iconst 0, 1), (3, .istore 4, 2), (5, .iload_n 2, 1), (6, .iconst 1, 1), (7, .isub, 1), (8, .istore 5, 2), (10, .iload 5, 2), (12, .ifCond .lt 82, 3), (15, .iload 5, 2), (17, .aload_n 0, 1), (18, .getfield 20, 3), (21, .arraylength, 1), (22, .if_icmp .ge 72, 3), (25, .iload_n 2, 1), (26, .ifCond .le 68, 3), (29, .iload_n 3, 1), (30, .iload_n 2, 1), (31, .irem, 1), (32, .istore 6, 2), (34, .iload_n 3, 1), (35, .iload_n 2, 1), (36, .idiv, 1), (37, .istore_n 3, 1), (38, .iload 4, 2), (40, .iconst 1, 1), (41, .iload 6, 2), (43, .ishl, 1), (44, .iand, 1), (45, .ifCond .ne 18, 3), (48, .iload 6, 2)]
set_option maxRecDepth 100000 in
theorem dX1_layOrder_q0_ok : ax_decs cX1_layOrder dX1_layOrder_q0 = true := by decide +kernel
theorem dX1_layOrder_0 : decode cX1_layOrder 0 = .ok (.iload_n 1, 1) := ax_dec dX1_layOrder_q0_ok 0 (0, .iload_n 1, 1) rfl
theorem dX1_layOrder_1 : decode cX1_layOrder 1 = .ok (.istore_n 3, 1) := ax_dec dX1_layOrder_q0_ok 1 (1, .istore_n 3, 1) rfl
theorem dX1_layOrder_2 : decode cX1_layOrder 2 = .ok (.iconst 0, 1) := ax_dec dX1_layOrder_q0_ok 2 (2, .iconst 0, 1) rfl
theorem dX1_layOrder_3 : decode cX1_layOrder 3 = .ok (.istore 4, 2) := ax_dec dX1_layOrder_q0_ok 3 (3, .istore 4, 2) rfl
theorem dX1_layOrder_5 : decode cX1_layOrder 5 = .ok (.iload_n 2, 1) := ax_dec dX1_layOrder_q0_ok 4 (5, .iload_n 2, 1) rfl
theorem dX1_layOrder_6 : decode cX1_layOrder 6 = .ok (.iconst 1, 1) := ax_dec dX1_layOrder_q0_ok 5 (6, .iconst 1, 1) rfl
theorem dX1_layOrder_7 : decode cX1_layOrder 7 = .ok (.isub, 1) := ax_dec dX1_layOrder_q0_ok 6 (7, .isub, 1) rfl
theorem dX1_layOrder_8 : decode cX1_layOrder 8 = .ok (.istore 5, 2) := ax_dec dX1_layOrder_q0_ok 7 (8, .istore 5, 2) rfl
theorem dX1_layOrder_10 : decode cX1_layOrder 10 = .ok (.iload 5, 2) := ax_dec dX1_layOrder_q0_ok 8 (10, .iload 5, 2) rfl
theorem dX1_layOrder_12 : decode cX1_layOrder 12 = .ok (.ifCond .lt 82, 3) := ax_dec dX1_layOrder_q0_ok 9 (12, .ifCond .lt 82, 3) rfl
theorem dX1_layOrder_15 : decode cX1_layOrder 15 = .ok (.iload 5, 2) := ax_dec dX1_layOrder_q0_ok 10 (15, .iload 5, 2) rfl
theorem dX1_layOrder_17 : decode cX1_layOrder 17 = .ok (.aload_n 0, 1) := ax_dec dX1_layOrder_q0_ok 11 (17, .aload_n 0, 1) rfl
theorem dX1_layOrder_18 : decode cX1_layOrder 18 = .ok (.getfield 20, 3) := ax_dec dX1_layOrder_q0_ok 12 (18, .getfield 20, 3) rfl
theorem dX1_layOrder_21 : decode cX1_layOrder 21 = .ok (.arraylength, 1) := ax_dec dX1_layOrder_q0_ok 13 (21, .arraylength, 1) rfl
theorem dX1_layOrder_22 : decode cX1_layOrder 22 = .ok (.if_icmp .ge 72, 3) := ax_dec dX1_layOrder_q0_ok 14 (22, .if_icmp .ge 72, 3) rfl
theorem dX1_layOrder_25 : decode cX1_layOrder 25 = .ok (.iload_n 2, 1) := ax_dec dX1_layOrder_q0_ok 15 (25, .iload_n 2, 1) rfl
theorem dX1_layOrder_26 : decode cX1_layOrder 26 = .ok (.ifCond .le 68, 3) := ax_dec dX1_layOrder_q0_ok 16 (26, .ifCond .le 68, 3) rfl
theorem dX1_layOrder_29 : decode cX1_layOrder 29 = .ok (.iload_n 3, 1) := ax_dec dX1_layOrder_q0_ok 17 (29, .iload_n 3, 1) rfl
theorem dX1_layOrder_30 : decode cX1_layOrder 30 = .ok (.iload_n 2, 1) := ax_dec dX1_layOrder_q0_ok 18 (30, .iload_n 2, 1) rfl
theorem dX1_layOrder_31 : decode cX1_layOrder 31 = .ok (.irem, 1) := ax_dec dX1_layOrder_q0_ok 19 (31, .irem, 1) rfl
theorem dX1_layOrder_32 : decode cX1_layOrder 32 = .ok (.istore 6, 2) := ax_dec dX1_layOrder_q0_ok 20 (32, .istore 6, 2) rfl
theorem dX1_layOrder_34 : decode cX1_layOrder 34 = .ok (.iload_n 3, 1) := ax_dec dX1_layOrder_q0_ok 21 (34, .iload_n 3, 1) rfl
theorem dX1_layOrder_35 : decode cX1_layOrder 35 = .ok (.iload_n 2, 1) := ax_dec dX1_layOrder_q0_ok 22 (35, .iload_n 2, 1) rfl
theorem dX1_layOrder_36 : decode cX1_layOrder 36 = .ok (.idiv, 1) := ax_dec dX1_layOrder_q0_ok 23 (36, .idiv, 1) rfl
theorem dX1_layOrder_37 : decode cX1_layOrder 37 = .ok (.istore_n 3, 1) := ax_dec dX1_layOrder_q0_ok 24 (37, .istore_n 3, 1) rfl
theorem dX1_layOrder_38 : decode cX1_layOrder 38 = .ok (.iload 4, 2) := ax_dec dX1_layOrder_q0_ok 25 (38, .iload 4, 2) rfl
theorem dX1_layOrder_40 : decode cX1_layOrder 40 = .ok (.iconst 1, 1) := ax_dec dX1_layOrder_q0_ok 26 (40, .iconst 1, 1) rfl
theorem dX1_layOrder_41 : decode cX1_layOrder 41 = .ok (.iload 6, 2) := ax_dec dX1_layOrder_q0_ok 27 (41, .iload 6, 2) rfl
theorem dX1_layOrder_43 : decode cX1_layOrder 43 = .ok (.ishl, 1) := ax_dec dX1_layOrder_q0_ok 28 (43, .ishl, 1) rfl
theorem dX1_layOrder_44 : decode cX1_layOrder 44 = .ok (.iand, 1) := ax_dec dX1_layOrder_q0_ok 29 (44, .iand, 1) rfl
theorem dX1_layOrder_45 : decode cX1_layOrder 45 = .ok (.ifCond .ne 18, 3) := ax_dec dX1_layOrder_q0_ok 30 (45, .ifCond .ne 18, 3) rfl
theorem dX1_layOrder_48 : decode cX1_layOrder 48 = .ok (.iload 6, 2) := ax_dec dX1_layOrder_q0_ok 31 (48, .iload 6, 2) rfl
def dX1_layOrder_q1 : List (Nat × (Instr × Nat)) := [(50, .ifCond .lt 13, 3), (53, .iload 6, 2), (55, .aload_n 0, 1), (56, .getfield 17, 3), (59, .arraylength, 1), (60, .if_icmp .lt 5, 3), (63, .iconst 0, 1), (64, .ireturn, 1), (65, .iload 4, 2), (67, .iconst 1, 1), (68, .iload 6, 2), (70, .ishl, 1), (71, .ior, 1), (72, .istore 4, 2), (74, .aload_n 0, 1), (75, .getfield 20, 3), (78, .iload 5, 2), (80, .aload_n 0, 1), (81, .getfield 17, 3), (84, .iload 6, 2), (86, .aaload, 1), (87, .aastore, 1), (88, .iinc 5 (-1), 3), (91, .goto (-81), 3), (94, .iconst 1, 1), (95, .ireturn, 1)]
set_option maxRecDepth 100000 in
theorem dX1_layOrder_q1_ok : ax_decs cX1_layOrder dX1_layOrder_q1 = true := by decide +kernel
theorem dX1_layOrder_50 : decode cX1_layOrder 50 = .ok (.ifCond .lt 13, 3) := ax_dec dX1_layOrder_q1_ok 0 (50, .ifCond .lt 13, 3) rfl
theorem dX1_layOrder_53 : decode cX1_layOrder 53 = .ok (.iload 6, 2) := ax_dec dX1_layOrder_q1_ok 1 (53, .iload 6, 2) rfl
theorem dX1_layOrder_55 : decode cX1_layOrder 55 = .ok (.aload_n 0, 1) := ax_dec dX1_layOrder_q1_ok 2 (55, .aload_n 0, 1) rfl
theorem dX1_layOrder_56 : decode cX1_layOrder 56 = .ok (.getfield 17, 3) := ax_dec dX1_layOrder_q1_ok 3 (56, .getfield 17, 3) rfl
theorem dX1_layOrder_59 : decode cX1_layOrder 59 = .ok (.arraylength, 1) := ax_dec dX1_layOrder_q1_ok 4 (59, .arraylength, 1) rfl
theorem dX1_layOrder_60 : decode cX1_layOrder 60 = .ok (.if_icmp .lt 5, 3) := ax_dec dX1_layOrder_q1_ok 5 (60, .if_icmp .lt 5, 3) rfl
theorem dX1_layOrder_63 : decode cX1_layOrder 63 = .ok (.iconst 0, 1) := ax_dec dX1_layOrder_q1_ok 6 (63, .iconst 0, 1) rfl
theorem dX1_layOrder_64 : decode cX1_layOrder 64 = .ok (.ireturn, 1) := ax_dec dX1_layOrder_q1_ok 7 (64, .ireturn, 1) rfl
theorem dX1_layOrder_65 : decode cX1_layOrder 65 = .ok (.iload 4, 2) := ax_dec dX1_layOrder_q1_ok 8 (65, .iload 4, 2) rfl
theorem dX1_layOrder_67 : decode cX1_layOrder 67 = .ok (.iconst 1, 1) := ax_dec dX1_layOrder_q1_ok 9 (67, .iconst 1, 1) rfl
theorem dX1_layOrder_68 : decode cX1_layOrder 68 = .ok (.iload 6, 2) := ax_dec dX1_layOrder_q1_ok 10 (68, .iload 6, 2) rfl
theorem dX1_layOrder_70 : decode cX1_layOrder 70 = .ok (.ishl, 1) := ax_dec dX1_layOrder_q1_ok 11 (70, .ishl, 1) rfl
theorem dX1_layOrder_71 : decode cX1_layOrder 71 = .ok (.ior, 1) := ax_dec dX1_layOrder_q1_ok 12 (71, .ior, 1) rfl
theorem dX1_layOrder_72 : decode cX1_layOrder 72 = .ok (.istore 4, 2) := ax_dec dX1_layOrder_q1_ok 13 (72, .istore 4, 2) rfl
theorem dX1_layOrder_74 : decode cX1_layOrder 74 = .ok (.aload_n 0, 1) := ax_dec dX1_layOrder_q1_ok 14 (74, .aload_n 0, 1) rfl
theorem dX1_layOrder_75 : decode cX1_layOrder 75 = .ok (.getfield 20, 3) := ax_dec dX1_layOrder_q1_ok 15 (75, .getfield 20, 3) rfl
theorem dX1_layOrder_78 : decode cX1_layOrder 78 = .ok (.iload 5, 2) := ax_dec dX1_layOrder_q1_ok 16 (78, .iload 5, 2) rfl
theorem dX1_layOrder_80 : decode cX1_layOrder 80 = .ok (.aload_n 0, 1) := ax_dec dX1_layOrder_q1_ok 17 (80, .aload_n 0, 1) rfl
theorem dX1_layOrder_81 : decode cX1_layOrder 81 = .ok (.getfield 17, 3) := ax_dec dX1_layOrder_q1_ok 18 (81, .getfield 17, 3) rfl
theorem dX1_layOrder_84 : decode cX1_layOrder 84 = .ok (.iload 6, 2) := ax_dec dX1_layOrder_q1_ok 19 (84, .iload 6, 2) rfl
theorem dX1_layOrder_86 : decode cX1_layOrder 86 = .ok (.aaload, 1) := ax_dec dX1_layOrder_q1_ok 20 (86, .aaload, 1) rfl
theorem dX1_layOrder_87 : decode cX1_layOrder 87 = .ok (.aastore, 1) := ax_dec dX1_layOrder_q1_ok 21 (87, .aastore, 1) rfl
theorem dX1_layOrder_88 : decode cX1_layOrder 88 = .ok (.iinc 5 (-1), 3) := ax_dec dX1_layOrder_q1_ok 22 (88, .iinc 5 (-1), 3) rfl
theorem dX1_layOrder_91 : decode cX1_layOrder 91 = .ok (.goto (-81), 3) := ax_dec dX1_layOrder_q1_ok 23 (91, .goto (-81), 3) rfl
theorem dX1_layOrder_94 : decode cX1_layOrder 94 = .ok (.iconst 1, 1) := ax_dec dX1_layOrder_q1_ok 24 (94, .iconst 1, 1) rfl
theorem dX1_layOrder_95 : decode cX1_layOrder 95 = .ok (.ireturn, 1) := ax_dec dX1_layOrder_q1_ok 25 (95, .ireturn, 1) rfl
def dX1_orderAsDigits_q0 : List (Nat × (Instr × Nat)) := [(0, .iconst 0, 1), (1, .istore_n 2, 1), (2, .iconst 0, 1), (3, .istore_n 3, 1), (4, .iload_n 3, 1), (5, .iload_n 1, 1), (6, .if_icmp .ge 33, 3), (9, .iload_n 3, 1), (10, .aload_n 0, 1), (11, .getfield 20, 3), (14, .arraylength, 1), (15, .if_icmp .ge 24, 3), (18, .bipush 10, 2), (20, .iload_n 2, 1), (21, .imul, 1), (22, .aload_n 0, 1), (23, .getfield 20, 3), (26, .iload_n 3, 1), (27, .aaload, 1), (28, .invokestatic 149, 3), (31, .iadd, 1), (32, .istore_n 2, 1), (33, .iinc 3 1, 3), (36, .goto (-32), 3), (39, .iload_n 2, 1), (40, .ireturn, 1)]
set_option maxRecDepth 100000 in
theorem dX1_orderAsDigits_q0_ok : ax_decs cX1_orderAsDigits dX1_orderAsDigits_q0 = true := by decide +kernel
theorem dX1_orderAsDigits_0 : decode cX1_orderAsDigits 0 = .ok (.iconst 0, 1) := ax_dec dX1_orderAsDigits_q0_ok 0 (0, .iconst 0, 1) rfl
theorem dX1_orderAsDigits_1 : decode cX1_orderAsDigits 1 = .ok (.istore_n 2, 1) := ax_dec dX1_orderAsDigits_q0_ok 1 (1, .istore_n 2, 1) rfl
theorem dX1_orderAsDigits_2 : decode cX1_orderAsDigits 2 = .ok (.iconst 0, 1) := ax_dec dX1_orderAsDigits_q0_ok 2 (2, .iconst 0, 1) rfl
theorem dX1_orderAsDigits_3 : decode cX1_orderAsDigits 3 = .ok (.istore_n 3, 1) := ax_dec dX1_orderAsDigits_q0_ok 3 (3, .istore_n 3, 1) rfl
theorem dX1_orderAsDigits_4 : decode cX1_orderAsDigits 4 = .ok (.iload_n 3, 1) := ax_dec dX1_orderAsDigits_q0_ok 4 (4, .iload_n 3, 1) rfl
theorem dX1_orderAsDigits_5 : decode cX1_orderAsDigits 5 = .ok (.iload_n 1, 1) := ax_dec dX1_orderAsDigits_q0_ok 5 (5, .iload_n 1, 1) rfl
theorem dX1_orderAsDigits_6 : decode cX1_orderAsDigits 6 = .ok (.if_icmp .ge 33, 3) := ax_dec dX1_orderAsDigits_q0_ok 6 (6, .if_icmp .ge 33, 3) rfl
theorem dX1_orderAsDigits_9 : decode cX1_orderAsDigits 9 = .ok (.iload_n 3, 1) := ax_dec dX1_orderAsDigits_q0_ok 7 (9, .iload_n 3, 1) rfl
theorem dX1_orderAsDigits_10 : decode cX1_orderAsDigits 10 = .ok (.aload_n 0, 1) := ax_dec dX1_orderAsDigits_q0_ok 8 (10, .aload_n 0, 1) rfl
theorem dX1_orderAsDigits_11 : decode cX1_orderAsDigits 11 = .ok (.getfield 20, 3) := ax_dec dX1_orderAsDigits_q0_ok 9 (11, .getfield 20, 3) rfl
theorem dX1_orderAsDigits_14 : decode cX1_orderAsDigits 14 = .ok (.arraylength, 1) := ax_dec dX1_orderAsDigits_q0_ok 10 (14, .arraylength, 1) rfl
theorem dX1_orderAsDigits_15 : decode cX1_orderAsDigits 15 = .ok (.if_icmp .ge 24, 3) := ax_dec dX1_orderAsDigits_q0_ok 11 (15, .if_icmp .ge 24, 3) rfl
theorem dX1_orderAsDigits_18 : decode cX1_orderAsDigits 18 = .ok (.bipush 10, 2) := ax_dec dX1_orderAsDigits_q0_ok 12 (18, .bipush 10, 2) rfl
theorem dX1_orderAsDigits_20 : decode cX1_orderAsDigits 20 = .ok (.iload_n 2, 1) := ax_dec dX1_orderAsDigits_q0_ok 13 (20, .iload_n 2, 1) rfl
theorem dX1_orderAsDigits_21 : decode cX1_orderAsDigits 21 = .ok (.imul, 1) := ax_dec dX1_orderAsDigits_q0_ok 14 (21, .imul, 1) rfl
theorem dX1_orderAsDigits_22 : decode cX1_orderAsDigits 22 = .ok (.aload_n 0, 1) := ax_dec dX1_orderAsDigits_q0_ok 15 (22, .aload_n 0, 1) rfl
theorem dX1_orderAsDigits_23 : decode cX1_orderAsDigits 23 = .ok (.getfield 20, 3) := ax_dec dX1_orderAsDigits_q0_ok 16 (23, .getfield 20, 3) rfl
theorem dX1_orderAsDigits_26 : decode cX1_orderAsDigits 26 = .ok (.iload_n 3, 1) := ax_dec dX1_orderAsDigits_q0_ok 17 (26, .iload_n 3, 1) rfl
theorem dX1_orderAsDigits_27 : decode cX1_orderAsDigits 27 = .ok (.aaload, 1) := ax_dec dX1_orderAsDigits_q0_ok 18 (27, .aaload, 1) rfl
theorem dX1_orderAsDigits_28 : decode cX1_orderAsDigits 28 = .ok (.invokestatic 149, 3) := ax_dec dX1_orderAsDigits_q0_ok 19 (28, .invokestatic 149, 3) rfl
theorem dX1_orderAsDigits_31 : decode cX1_orderAsDigits 31 = .ok (.iadd, 1) := ax_dec dX1_orderAsDigits_q0_ok 20 (31, .iadd, 1) rfl
theorem dX1_orderAsDigits_32 : decode cX1_orderAsDigits 32 = .ok (.istore_n 2, 1) := ax_dec dX1_orderAsDigits_q0_ok 21 (32, .istore_n 2, 1) rfl
theorem dX1_orderAsDigits_33 : decode cX1_orderAsDigits 33 = .ok (.iinc 3 1, 3) := ax_dec dX1_orderAsDigits_q0_ok 22 (33, .iinc 3 1, 3) rfl
theorem dX1_orderAsDigits_36 : decode cX1_orderAsDigits 36 = .ok (.goto (-32), 3) := ax_dec dX1_orderAsDigits_q0_ok 23 (36, .goto (-32), 3) rfl
theorem dX1_orderAsDigits_39 : decode cX1_orderAsDigits 39 = .ok (.iload_n 2, 1) := ax_dec dX1_orderAsDigits_q0_ok 24 (39, .iload_n 2, 1) rfl
theorem dX1_orderAsDigits_40 : decode cX1_orderAsDigits 40 = .ok (.ireturn, 1) := ax_dec dX1_orderAsDigits_q0_ok 25 (40, .ireturn, 1) rfl
def dX1_mostSootInRound_q0 : List (Nat × (Instr × Nat)) := [(0, .iconst 0, 1), (1, .istore 4, 2), (3, .aload_n 0, 1), (4, .invokevirtual 124, 3), (7, .iconst 0, 1), (8, .istore 5, 2), (10, .iload 5, 2), (12, .iload_n 1, 1), (13, .if_icmp .ge 89, 3), (16, .iload 5, 2), (18, .aload_n 0, 1), (19, .getfield 20, 3), (22, .arraylength, 1), (23, .if_icmp .ge 79, 3), (26, .iconst 0, 1), (27, .istore 6, 2), (29, .iload 6, 2), (31, .iload_n 1, 1), (32, .if_icmp .ge 31, 3), (35, .iload 6, 2), (37, .aload_n 0, 1), (38, .getfield 17, 3), (41, .arraylength, 1), (42, .if_icmp .ge 21, 3), (45, .aload_n 0, 1), (46, .aload_n 0, 1), (47, .getfield 17, 3), (50, .iload 6, 2), (52, .aaload, 1), (53, .iload_n 2, 1), (54, .invokevirtual 111, 3), (57, .iinc 6 1, 3)]
set_option maxRecDepth 100000 in
theorem dX1_mostSootInRound_q0_ok : ax_decs cX1_mostSootInRound dX1_mostSootInRound_q0 = true := by decide +kernel
theorem dX1_mostSootInRound_0 : decode cX1_mostSootInRound 0 = .ok (.iconst 0, 1) := ax_dec dX1_mostSootInRound_q0_ok 0 (0, .iconst 0, 1) rfl
theorem dX1_mostSootInRound_1 : decode cX1_mostSootInRound 1 = .ok (.istore 4, 2) := ax_dec dX1_mostSootInRound_q0_ok 1 (1, .istore 4, 2) rfl
theorem dX1_mostSootInRound_3 : decode cX1_mostSootInRound 3 = .ok (.aload_n 0, 1) := ax_dec dX1_mostSootInRound_q0_ok 2 (3, .aload_n 0, 1) rfl
theorem dX1_mostSootInRound_4 : decode cX1_mostSootInRound 4 = .ok (.invokevirtual 124, 3) := ax_dec dX1_mostSootInRound_q0_ok 3 (4, .invokevirtual 124, 3) rfl
theorem dX1_mostSootInRound_7 : decode cX1_mostSootInRound 7 = .ok (.iconst 0, 1) := ax_dec dX1_mostSootInRound_q0_ok 4 (7, .iconst 0, 1) rfl
theorem dX1_mostSootInRound_8 : decode cX1_mostSootInRound 8 = .ok (.istore 5, 2) := ax_dec dX1_mostSootInRound_q0_ok 5 (8, .istore 5, 2) rfl
theorem dX1_mostSootInRound_10 : decode cX1_mostSootInRound 10 = .ok (.iload 5, 2) := ax_dec dX1_mostSootInRound_q0_ok 6 (10, .iload 5, 2) rfl
theorem dX1_mostSootInRound_12 : decode cX1_mostSootInRound 12 = .ok (.iload_n 1, 1) := ax_dec dX1_mostSootInRound_q0_ok 7 (12, .iload_n 1, 1) rfl
theorem dX1_mostSootInRound_13 : decode cX1_mostSootInRound 13 = .ok (.if_icmp .ge 89, 3) := ax_dec dX1_mostSootInRound_q0_ok 8 (13, .if_icmp .ge 89, 3) rfl
theorem dX1_mostSootInRound_16 : decode cX1_mostSootInRound 16 = .ok (.iload 5, 2) := ax_dec dX1_mostSootInRound_q0_ok 9 (16, .iload 5, 2) rfl
theorem dX1_mostSootInRound_18 : decode cX1_mostSootInRound 18 = .ok (.aload_n 0, 1) := ax_dec dX1_mostSootInRound_q0_ok 10 (18, .aload_n 0, 1) rfl
theorem dX1_mostSootInRound_19 : decode cX1_mostSootInRound 19 = .ok (.getfield 20, 3) := ax_dec dX1_mostSootInRound_q0_ok 11 (19, .getfield 20, 3) rfl
theorem dX1_mostSootInRound_22 : decode cX1_mostSootInRound 22 = .ok (.arraylength, 1) := ax_dec dX1_mostSootInRound_q0_ok 12 (22, .arraylength, 1) rfl
theorem dX1_mostSootInRound_23 : decode cX1_mostSootInRound 23 = .ok (.if_icmp .ge 79, 3) := ax_dec dX1_mostSootInRound_q0_ok 13 (23, .if_icmp .ge 79, 3) rfl
theorem dX1_mostSootInRound_26 : decode cX1_mostSootInRound 26 = .ok (.iconst 0, 1) := ax_dec dX1_mostSootInRound_q0_ok 14 (26, .iconst 0, 1) rfl
theorem dX1_mostSootInRound_27 : decode cX1_mostSootInRound 27 = .ok (.istore 6, 2) := ax_dec dX1_mostSootInRound_q0_ok 15 (27, .istore 6, 2) rfl
theorem dX1_mostSootInRound_29 : decode cX1_mostSootInRound 29 = .ok (.iload 6, 2) := ax_dec dX1_mostSootInRound_q0_ok 16 (29, .iload 6, 2) rfl
theorem dX1_mostSootInRound_31 : decode cX1_mostSootInRound 31 = .ok (.iload_n 1, 1) := ax_dec dX1_mostSootInRound_q0_ok 17 (31, .iload_n 1, 1) rfl
theorem dX1_mostSootInRound_32 : decode cX1_mostSootInRound 32 = .ok (.if_icmp .ge 31, 3) := ax_dec dX1_mostSootInRound_q0_ok 18 (32, .if_icmp .ge 31, 3) rfl
theorem dX1_mostSootInRound_35 : decode cX1_mostSootInRound 35 = .ok (.iload 6, 2) := ax_dec dX1_mostSootInRound_q0_ok 19 (35, .iload 6, 2) rfl
theorem dX1_mostSootInRound_37 : decode cX1_mostSootInRound 37 = .ok (.aload_n 0, 1) := ax_dec dX1_mostSootInRound_q0_ok 20 (37, .aload_n 0, 1) rfl
theorem dX1_mostSootInRound_38 : decode cX1_mostSootInRound 38 = .ok (.getfield 17, 3) := ax_dec dX1_mostSootInRound_q0_ok 21 (38, .getfield 17, 3) rfl
theorem dX1_mostSootInRound_41 : decode cX1_mostSootInRound 41 = .ok (.arraylength, 1) := ax_dec dX1_mostSootInRound_q0_ok 22 (41, .arraylength, 1) rfl
theorem dX1_mostSootInRound_42 : decode cX1_mostSootInRound 42 = .ok (.if_icmp .ge 21, 3) := ax_dec dX1_mostSootInRound_q0_ok 23 (42, .if_icmp .ge 21, 3) rfl
theorem dX1_mostSootInRound_45 : decode cX1_mostSootInRound 45 = .ok (.aload_n 0, 1) := ax_dec dX1_mostSootInRound_q0_ok 24 (45, .aload_n 0, 1) rfl
theorem dX1_mostSootInRound_46 : decode cX1_mostSootInRound 46 = .ok (.aload_n 0, 1) := ax_dec dX1_mostSootInRound_q0_ok 25 (46, .aload_n 0, 1) rfl
theorem dX1_mostSootInRound_47 : decode cX1_mostSootInRound 47 = .ok (.getfield 17, 3) := ax_dec dX1_mostSootInRound_q0_ok 26 (47, .getfield 17, 3) rfl
theorem dX1_mostSootInRound_50 : decode cX1_mostSootInRound 50 = .ok (.iload 6, 2) := ax_dec dX1_mostSootInRound_q0_ok 27 (50, .iload 6, 2) rfl
theorem dX1_mostSootInRound_52 : decode cX1_mostSootInRound 52 = .ok (.aaload, 1) := ax_dec dX1_mostSootInRound_q0_ok 28 (52, .aaload, 1) rfl
theorem dX1_mostSootInRound_53 : decode cX1_mostSootInRound 53 = .ok (.iload_n 2, 1) := ax_dec dX1_mostSootInRound_q0_ok 29 (53, .iload_n 2, 1) rfl
theorem dX1_mostSootInRound_54 : decode cX1_mostSootInRound 54 = .ok (.invokevirtual 111, 3) := ax_dec dX1_mostSootInRound_q0_ok 30 (54, .invokevirtual 111, 3) rfl
theorem dX1_mostSootInRound_57 : decode cX1_mostSootInRound 57 = .ok (.iinc 6 1, 3) := ax_dec dX1_mostSootInRound_q0_ok 31 (57, .iinc 6 1, 3) rfl
def dX1_mostSootInRound_q1 : List (Nat × (Instr × Nat)) := [(60, .goto (-31), 3), (63, .iload 4, 2), (65, .aload_n 0, 1), (66, .invokevirtual 153, 3), (69, .invokestatic 156, 3), (72, .istore 4, 2), (74, .aload_n 0, 1), (75, .getfield 20, 3), (78, .iload 5, 2), (80, .aaload, 1), (81, .astore 6, 2), (83, .aload 6, 2), (85, .ifnull 11, 3), (88, .aload_n 0, 1), (89, .aload 6, 2), (91, .iload_n 3, 1), (92, .invokevirtual 120, 3), (95, .pop, 1), (96, .iinc 5 1, 3), (99, .goto (-89), 3), (102, .aload_n 0, 1), (103, .invokevirtual 127, 3), (106, .iload 4, 2), (108, .ireturn, 1)]
set_option maxRecDepth 100000 in
theorem dX1_mostSootInRound_q1_ok : ax_decs cX1_mostSootInRound dX1_mostSootInRound_q1 = true := by decide +kernel
theorem dX1_mostSootInRound_60 : decode cX1_mostSootInRound 60 = .ok (.goto (-31), 3) := ax_dec dX1_mostSootInRound_q1_ok 0 (60, .goto (-31), 3) rfl
theorem dX1_mostSootInRound_63 : decode cX1_mostSootInRound 63 = .ok (.iload 4, 2) := ax_dec dX1_mostSootInRound_q1_ok 1 (63, .iload 4, 2) rfl
theorem dX1_mostSootInRound_65 : decode cX1_mostSootInRound 65 = .ok (.aload_n 0, 1) := ax_dec dX1_mostSootInRound_q1_ok 2 (65, .aload_n 0, 1) rfl
theorem dX1_mostSootInRound_66 : decode cX1_mostSootInRound 66 = .ok (.invokevirtual 153, 3) := ax_dec dX1_mostSootInRound_q1_ok 3 (66, .invokevirtual 153, 3) rfl
theorem dX1_mostSootInRound_69 : decode cX1_mostSootInRound 69 = .ok (.invokestatic 156, 3) := ax_dec dX1_mostSootInRound_q1_ok 4 (69, .invokestatic 156, 3) rfl
theorem dX1_mostSootInRound_72 : decode cX1_mostSootInRound 72 = .ok (.istore 4, 2) := ax_dec dX1_mostSootInRound_q1_ok 5 (72, .istore 4, 2) rfl
theorem dX1_mostSootInRound_74 : decode cX1_mostSootInRound 74 = .ok (.aload_n 0, 1) := ax_dec dX1_mostSootInRound_q1_ok 6 (74, .aload_n 0, 1) rfl
theorem dX1_mostSootInRound_75 : decode cX1_mostSootInRound 75 = .ok (.getfield 20, 3) := ax_dec dX1_mostSootInRound_q1_ok 7 (75, .getfield 20, 3) rfl
theorem dX1_mostSootInRound_78 : decode cX1_mostSootInRound 78 = .ok (.iload 5, 2) := ax_dec dX1_mostSootInRound_q1_ok 8 (78, .iload 5, 2) rfl
theorem dX1_mostSootInRound_80 : decode cX1_mostSootInRound 80 = .ok (.aaload, 1) := ax_dec dX1_mostSootInRound_q1_ok 9 (80, .aaload, 1) rfl
theorem dX1_mostSootInRound_81 : decode cX1_mostSootInRound 81 = .ok (.astore 6, 2) := ax_dec dX1_mostSootInRound_q1_ok 10 (81, .astore 6, 2) rfl
theorem dX1_mostSootInRound_83 : decode cX1_mostSootInRound 83 = .ok (.aload 6, 2) := ax_dec dX1_mostSootInRound_q1_ok 11 (83, .aload 6, 2) rfl
theorem dX1_mostSootInRound_85 : decode cX1_mostSootInRound 85 = .ok (.ifnull 11, 3) := ax_dec dX1_mostSootInRound_q1_ok 12 (85, .ifnull 11, 3) rfl
theorem dX1_mostSootInRound_88 : decode cX1_mostSootInRound 88 = .ok (.aload_n 0, 1) := ax_dec dX1_mostSootInRound_q1_ok 13 (88, .aload_n 0, 1) rfl
theorem dX1_mostSootInRound_89 : decode cX1_mostSootInRound 89 = .ok (.aload 6, 2) := ax_dec dX1_mostSootInRound_q1_ok 14 (89, .aload 6, 2) rfl
theorem dX1_mostSootInRound_91 : decode cX1_mostSootInRound 91 = .ok (.iload_n 3, 1) := ax_dec dX1_mostSootInRound_q1_ok 15 (91, .iload_n 3, 1) rfl
theorem dX1_mostSootInRound_92 : decode cX1_mostSootInRound 92 = .ok (.invokevirtual 120, 3) := ax_dec dX1_mostSootInRound_q1_ok 16 (92, .invokevirtual 120, 3) rfl
theorem dX1_mostSootInRound_95 : decode cX1_mostSootInRound 95 = .ok (.pop, 1) := ax_dec dX1_mostSootInRound_q1_ok 17 (95, .pop, 1) rfl
theorem dX1_mostSootInRound_96 : decode cX1_mostSootInRound 96 = .ok (.iinc 5 1, 3) := ax_dec dX1_mostSootInRound_q1_ok 18 (96, .iinc 5 1, 3) rfl
theorem dX1_mostSootInRound_99 : decode cX1_mostSootInRound 99 = .ok (.goto (-89), 3) := ax_dec dX1_mostSootInRound_q1_ok 19 (99, .goto (-89), 3) rfl
theorem dX1_mostSootInRound_102 : decode cX1_mostSootInRound 102 = .ok (.aload_n 0, 1) := ax_dec dX1_mostSootInRound_q1_ok 20 (102, .aload_n 0, 1) rfl
theorem dX1_mostSootInRound_103 : decode cX1_mostSootInRound 103 = .ok (.invokevirtual 127, 3) := ax_dec dX1_mostSootInRound_q1_ok 21 (103, .invokevirtual 127, 3) rfl
theorem dX1_mostSootInRound_106 : decode cX1_mostSootInRound 106 = .ok (.iload 4, 2) := ax_dec dX1_mostSootInRound_q1_ok 22 (106, .iload 4, 2) rfl
theorem dX1_mostSootInRound_108 : decode cX1_mostSootInRound 108 = .ok (.ireturn, 1) := ax_dec dX1_mostSootInRound_q1_ok 23 (108, .ireturn, 1) rfl
def dX1_mostSoot_q0 : List (Nat × (Instr × Nat)) := [(0, .iconst 0, 1), (1, .istore_n 1, 1), (2, .iconst 0, 1), (3, .istore_n 2, 1), (4, .iload_n 2, 1), (5, .aload_n 0, 1), (6, .getfield 11, 3), (9, .arraylength, 1), (10, .if_icmp .ge 28, 3), (13, .aload_n 0, 1), (14, .iload_n 2, 1), (15, .invokevirtual 35, 3), (18, .astore_n 3, 1), (19, .aload_n 3, 1), (20, .ifnull 12, 3), (23, .iload_n 1, 1), (24, .aload_n 3, 1), (25, .getfield 61, 3), (28, .invokestatic 156, 3), (31, .istore_n 1, 1), (32, .iinc 2 1, 3), (35, .goto (-31), 3), (38, .iload_n 1, 1), (39, .ireturn, 1)]
set_option maxRecDepth 100000 in
theorem dX1_mostSoot_q0_ok : ax_decs cX1_mostSoot dX1_mostSoot_q0 = true := by decide +kernel
theorem dX1_mostSoot_0 : decode cX1_mostSoot 0 = .ok (.iconst 0, 1) := ax_dec dX1_mostSoot_q0_ok 0 (0, .iconst 0, 1) rfl
theorem dX1_mostSoot_1 : decode cX1_mostSoot 1 = .ok (.istore_n 1, 1) := ax_dec dX1_mostSoot_q0_ok 1 (1, .istore_n 1, 1) rfl
theorem dX1_mostSoot_2 : decode cX1_mostSoot 2 = .ok (.iconst 0, 1) := ax_dec dX1_mostSoot_q0_ok 2 (2, .iconst 0, 1) rfl
theorem dX1_mostSoot_3 : decode cX1_mostSoot 3 = .ok (.istore_n 2, 1) := ax_dec dX1_mostSoot_q0_ok 3 (3, .istore_n 2, 1) rfl
theorem dX1_mostSoot_4 : decode cX1_mostSoot 4 = .ok (.iload_n 2, 1) := ax_dec dX1_mostSoot_q0_ok 4 (4, .iload_n 2, 1) rfl
theorem dX1_mostSoot_5 : decode cX1_mostSoot 5 = .ok (.aload_n 0, 1) := ax_dec dX1_mostSoot_q0_ok 5 (5, .aload_n 0, 1) rfl
theorem dX1_mostSoot_6 : decode cX1_mostSoot 6 = .ok (.getfield 11, 3) := ax_dec dX1_mostSoot_q0_ok 6 (6, .getfield 11, 3) rfl
theorem dX1_mostSoot_9 : decode cX1_mostSoot 9 = .ok (.arraylength, 1) := ax_dec dX1_mostSoot_q0_ok 7 (9, .arraylength, 1) rfl
theorem dX1_mostSoot_10 : decode cX1_mostSoot 10 = .ok (.if_icmp .ge 28, 3) := ax_dec dX1_mostSoot_q0_ok 8 (10, .if_icmp .ge 28, 3) rfl
theorem dX1_mostSoot_13 : decode cX1_mostSoot 13 = .ok (.aload_n 0, 1) := ax_dec dX1_mostSoot_q0_ok 9 (13, .aload_n 0, 1) rfl
theorem dX1_mostSoot_14 : decode cX1_mostSoot 14 = .ok (.iload_n 2, 1) := ax_dec dX1_mostSoot_q0_ok 10 (14, .iload_n 2, 1) rfl
theorem dX1_mostSoot_15 : decode cX1_mostSoot 15 = .ok (.invokevirtual 35, 3) := ax_dec dX1_mostSoot_q0_ok 11 (15, .invokevirtual 35, 3) rfl
theorem dX1_mostSoot_18 : decode cX1_mostSoot 18 = .ok (.astore_n 3, 1) := ax_dec dX1_mostSoot_q0_ok 12 (18, .astore_n 3, 1) rfl
theorem dX1_mostSoot_19 : decode cX1_mostSoot 19 = .ok (.aload_n 3, 1) := ax_dec dX1_mostSoot_q0_ok 13 (19, .aload_n 3, 1) rfl
theorem dX1_mostSoot_20 : decode cX1_mostSoot 20 = .ok (.ifnull 12, 3) := ax_dec dX1_mostSoot_q0_ok 14 (20, .ifnull 12, 3) rfl
theorem dX1_mostSoot_23 : decode cX1_mostSoot 23 = .ok (.iload_n 1, 1) := ax_dec dX1_mostSoot_q0_ok 15 (23, .iload_n 1, 1) rfl
theorem dX1_mostSoot_24 : decode cX1_mostSoot 24 = .ok (.aload_n 3, 1) := ax_dec dX1_mostSoot_q0_ok 16 (24, .aload_n 3, 1) rfl
theorem dX1_mostSoot_25 : decode cX1_mostSoot 25 = .ok (.getfield 61, 3) := ax_dec dX1_mostSoot_q0_ok 17 (25, .getfield 61, 3) rfl
theorem dX1_mostSoot_28 : decode cX1_mostSoot 28 = .ok (.invokestatic 156, 3) := ax_dec dX1_mostSoot_q0_ok 18 (28, .invokestatic 156, 3) rfl
theorem dX1_mostSoot_31 : decode cX1_mostSoot 31 = .ok (.istore_n 1, 1) := ax_dec dX1_mostSoot_q0_ok 19 (31, .istore_n 1, 1) rfl
theorem dX1_mostSoot_32 : decode cX1_mostSoot 32 = .ok (.iinc 2 1, 3) := ax_dec dX1_mostSoot_q0_ok 20 (32, .iinc 2 1, 3) rfl
theorem dX1_mostSoot_35 : decode cX1_mostSoot 35 = .ok (.goto (-31), 3) := ax_dec dX1_mostSoot_q0_ok 21 (35, .goto (-31), 3) rfl
theorem dX1_mostSoot_38 : decode cX1_mostSoot 38 = .ok (.iload_n 1, 1) := ax_dec dX1_mostSoot_q0_ok 22 (38, .iload_n 1, 1) rfl
theorem dX1_mostSoot_39 : decode cX1_mostSoot 39 = .ok (.ireturn, 1) := ax_dec dX1_mostSoot_q0_ok 23 (39, .ireturn, 1) rfl
def dX2_init_q0 : List (Nat × (Instr × Nat)) := [(0, .aload_n 0, 1), (1, .invokespecial 3, 3), (4, .aload_n 0, 1), (5, .sipush 160, 3), (8, .newarray .int, 2), (10, .putfield 9, 3), (13, .aload_n 0, 1), (14, .sipush 160, 3), (17, .newarray .int, 2), (19, .putfield 15, 3), (22, .aload_n 0, 1), (23, .iconst 3, 1), (24, .newarray .int, 2), (26, .putfield 18, 3), (29, .aload_n 0, 1), (30, .bipush 6, 2), (32, .newarray .int, 2), (34, .putfield 23, 3), (37, .return_, 1)]
set_option maxRecDepth 100000 in
theorem dX2_init_q0_ok : ax_decs cX2_init dX2_init_q0 = true := by decide +kernel
theorem dX2_init_0 : decode cX2_init 0 = .ok (.aload_n 0, 1) := ax_dec dX2_init_q0_ok 0 (0, .aload_n 0, 1) rfl
theorem dX2_init_1 : decode cX2_init 1 = .ok (.invokespecial 3, 3) := ax_dec dX2_init_q0_ok 1 (1, .invokespecial 3, 3) rfl
theorem dX2_init_4 : decode cX2_init 4 = .ok (.aload_n 0, 1) := ax_dec dX2_init_q0_ok 2 (4, .aload_n 0, 1) rfl
theorem dX2_init_5 : decode cX2_init 5 = .ok (.sipush 160, 3) := ax_dec dX2_init_q0_ok 3 (5, .sipush 160, 3) rfl
theorem dX2_init_8 : decode cX2_init 8 = .ok (.newarray .int, 2) := ax_dec dX2_init_q0_ok 4 (8, .newarray .int, 2) rfl
theorem dX2_init_10 : decode cX2_init 10 = .ok (.putfield 9, 3) := ax_dec dX2_init_q0_ok 5 (10, .putfield 9, 3) rfl
theorem dX2_init_13 : decode cX2_init 13 = .ok (.aload_n 0, 1) := ax_dec dX2_init_q0_ok 6 (13, .aload_n 0, 1) rfl
theorem dX2_init_14 : decode cX2_init 14 = .ok (.sipush 160, 3) := ax_dec dX2_init_q0_ok 7 (14, .sipush 160, 3) rfl
theorem dX2_init_17 : decode cX2_init 17 = .ok (.newarray .int, 2) := ax_dec dX2_init_q0_ok 8 (17, .newarray .int, 2) rfl
theorem dX2_init_19 : decode cX2_init 19 = .ok (.putfield 15, 3) := ax_dec dX2_init_q0_ok 9 (19, .putfield 15, 3) rfl
theorem dX2_init_22 : decode cX2_init 22 = .ok (.aload_n 0, 1) := ax_dec dX2_init_q0_ok 10 (22, .aload_n 0, 1) rfl
theorem dX2_init_23 : decode cX2_init 23 = .ok (.iconst 3, 1) := ax_dec dX2_init_q0_ok 11 (23, .iconst 3, 1) rfl
theorem dX2_init_24 : decode cX2_init 24 = .ok (.newarray .int, 2) := ax_dec dX2_init_q0_ok 12 (24, .newarray .int, 2) rfl
theorem dX2_init_26 : decode cX2_init 26 = .ok (.putfield 18, 3) := ax_dec dX2_init_q0_ok 13 (26, .putfield 18, 3) rfl
theorem dX2_init_29 : decode cX2_init 29 = .ok (.aload_n 0, 1) := ax_dec dX2_init_q0_ok 14 (29, .aload_n 0, 1) rfl
theorem dX2_init_30 : decode cX2_init 30 = .ok (.bipush 6, 2) := ax_dec dX2_init_q0_ok 15 (30, .bipush 6, 2) rfl
theorem dX2_init_32 : decode cX2_init 32 = .ok (.newarray .int, 2) := ax_dec dX2_init_q0_ok 16 (32, .newarray .int, 2) rfl
theorem dX2_init_34 : decode cX2_init 34 = .ok (.putfield 23, 3) := ax_dec dX2_init_q0_ok 17 (34, .putfield 23, 3) rfl
theorem dX2_init_37 : decode cX2_init 37 = .ok (.return_, 1) := ax_dec dX2_init_q0_ok 18 (37, .return_, 1) rfl
def dX2_clear_q0 : List (Nat × (Instr × Nat)) := [(0, .aload_n 0, 1), (1, .iconst 0, 1), (2, .putfield 26, 3), (5, .return_, 1)]
set_option maxRecDepth 100000 in
theorem dX2_clear_q0_ok : ax_decs cX2_clear dX2_clear_q0 = true := by decide +kernel
theorem dX2_clear_0 : decode cX2_clear 0 = .ok (.aload_n 0, 1) := ax_dec dX2_clear_q0_ok 0 (0, .aload_n 0, 1) rfl
theorem dX2_clear_1 : decode cX2_clear 1 = .ok (.iconst 0, 1) := ax_dec dX2_clear_q0_ok 1 (1, .iconst 0, 1) rfl
theorem dX2_clear_2 : decode cX2_clear 2 = .ok (.putfield 26, 3) := ax_dec dX2_clear_q0_ok 2 (2, .putfield 26, 3) rfl
theorem dX2_clear_5 : decode cX2_clear 5 = .ok (.return_, 1) := ax_dec dX2_clear_q0_ok 3 (5, .return_, 1) rfl
def dX2_addStep_q0 : List (Nat × (Instr × Nat)) := [(0, .aload_n 0, 1), (1, .getfield 26, 3), (4, .ifCond .lt 40, 3), (7, .aload_n 0, 1), (8, .getfield 26, 3), (11, .aload_n 0, 1), (12, .getfield 9, 3), (15, .arraylength, 1), (16, .if_icmp .ge 28, 3), (19, .aload_n 0, 1), (20, .getfield 9, 3), (23, .aload_n 0, 1), (24, .getfield 26, 3), (27, .bipush 32, 2), (29, .iload_n 2, 1), (30, .imul, 1), (31, .iload_n 1, 1), (32, .iadd, 1), (33, .iastore, 1), (34, .aload_n 0, 1), (35, .dup, 1), (36, .getfield 26, 3), (39, .iconst 1, 1), (40, .iadd, 1), (41, .putfield 26, 3), (44, .return_, 1)]
set_option maxRecDepth 100000 in
theorem dX2_addStep_q0_ok : ax_decs cX2_addStep dX2_addStep_q0 = true := by decide +kernel
theorem dX2_addStep_0 : decode cX2_addStep 0 = .ok (.aload_n 0, 1) := ax_dec dX2_addStep_q0_ok 0 (0, .aload_n 0, 1) rfl
theorem dX2_addStep_1 : decode cX2_addStep 1 = .ok (.getfield 26, 3) := ax_dec dX2_addStep_q0_ok 1 (1, .getfield 26, 3) rfl
theorem dX2_addStep_4 : decode cX2_addStep 4 = .ok (.ifCond .lt 40, 3) := ax_dec dX2_addStep_q0_ok 2 (4, .ifCond .lt 40, 3) rfl
theorem dX2_addStep_7 : decode cX2_addStep 7 = .ok (.aload_n 0, 1) := ax_dec dX2_addStep_q0_ok 3 (7, .aload_n 0, 1) rfl
theorem dX2_addStep_8 : decode cX2_addStep 8 = .ok (.getfield 26, 3) := ax_dec dX2_addStep_q0_ok 4 (8, .getfield 26, 3) rfl
theorem dX2_addStep_11 : decode cX2_addStep 11 = .ok (.aload_n 0, 1) := ax_dec dX2_addStep_q0_ok 5 (11, .aload_n 0, 1) rfl
theorem dX2_addStep_12 : decode cX2_addStep 12 = .ok (.getfield 9, 3) := ax_dec dX2_addStep_q0_ok 6 (12, .getfield 9, 3) rfl
theorem dX2_addStep_15 : decode cX2_addStep 15 = .ok (.arraylength, 1) := ax_dec dX2_addStep_q0_ok 7 (15, .arraylength, 1) rfl
theorem dX2_addStep_16 : decode cX2_addStep 16 = .ok (.if_icmp .ge 28, 3) := ax_dec dX2_addStep_q0_ok 8 (16, .if_icmp .ge 28, 3) rfl
theorem dX2_addStep_19 : decode cX2_addStep 19 = .ok (.aload_n 0, 1) := ax_dec dX2_addStep_q0_ok 9 (19, .aload_n 0, 1) rfl
theorem dX2_addStep_20 : decode cX2_addStep 20 = .ok (.getfield 9, 3) := ax_dec dX2_addStep_q0_ok 10 (20, .getfield 9, 3) rfl
theorem dX2_addStep_23 : decode cX2_addStep 23 = .ok (.aload_n 0, 1) := ax_dec dX2_addStep_q0_ok 11 (23, .aload_n 0, 1) rfl
theorem dX2_addStep_24 : decode cX2_addStep 24 = .ok (.getfield 26, 3) := ax_dec dX2_addStep_q0_ok 12 (24, .getfield 26, 3) rfl
theorem dX2_addStep_27 : decode cX2_addStep 27 = .ok (.bipush 32, 2) := ax_dec dX2_addStep_q0_ok 13 (27, .bipush 32, 2) rfl
theorem dX2_addStep_29 : decode cX2_addStep 29 = .ok (.iload_n 2, 1) := ax_dec dX2_addStep_q0_ok 14 (29, .iload_n 2, 1) rfl
theorem dX2_addStep_30 : decode cX2_addStep 30 = .ok (.imul, 1) := ax_dec dX2_addStep_q0_ok 15 (30, .imul, 1) rfl
theorem dX2_addStep_31 : decode cX2_addStep 31 = .ok (.iload_n 1, 1) := ax_dec dX2_addStep_q0_ok 16 (31, .iload_n 1, 1) rfl
theorem dX2_addStep_32 : decode cX2_addStep 32 = .ok (.iadd, 1) := ax_dec dX2_addStep_q0_ok 17 (32, .iadd, 1) rfl
theorem dX2_addStep_33 : decode cX2_addStep 33 = .ok (.iastore, 1) := ax_dec dX2_addStep_q0_ok 18 (33, .iastore, 1) rfl
theorem dX2_addStep_34 : decode cX2_addStep 34 = .ok (.aload_n 0, 1) := ax_dec dX2_addStep_q0_ok 19 (34, .aload_n 0, 1) rfl
theorem dX2_addStep_35 : decode cX2_addStep 35 = .ok (.dup, 1) := ax_dec dX2_addStep_q0_ok 20 (35, .dup, 1) rfl
theorem dX2_addStep_36 : decode cX2_addStep 36 = .ok (.getfield 26, 3) := ax_dec dX2_addStep_q0_ok 21 (36, .getfield 26, 3) rfl
theorem dX2_addStep_39 : decode cX2_addStep 39 = .ok (.iconst 1, 1) := ax_dec dX2_addStep_q0_ok 22 (39, .iconst 1, 1) rfl
theorem dX2_addStep_40 : decode cX2_addStep 40 = .ok (.iadd, 1) := ax_dec dX2_addStep_q0_ok 23 (40, .iadd, 1) rfl
theorem dX2_addStep_41 : decode cX2_addStep 41 = .ok (.putfield 26, 3) := ax_dec dX2_addStep_q0_ok 24 (41, .putfield 26, 3) rfl
theorem dX2_addStep_44 : decode cX2_addStep 44 = .ok (.return_, 1) := ax_dec dX2_addStep_q0_ok 25 (44, .return_, 1) rfl
def dX2_endPart_q0 : List (Nat × (Instr × Nat)) := [(0, .iload_n 1, 1), (1, .ifCond .lt 22, 3), (4, .iload_n 1, 1), (5, .aload_n 0, 1), (6, .getfield 18, 3), (9, .arraylength, 1), (10, .if_icmp .ge 13, 3), (13, .aload_n 0, 1), (14, .getfield 18, 3), (17, .iload_n 1, 1), (18, .aload_n 0, 1), (19, .getfield 26, 3), (22, .iastore, 1), (23, .return_, 1)]
set_option maxRecDepth 100000 in
theorem dX2_endPart_q0_ok : ax_decs cX2_endPart dX2_endPart_q0 = true := by decide +kernel
theorem dX2_endPart_0 : decode cX2_endPart 0 = .ok (.iload_n 1, 1) := ax_dec dX2_endPart_q0_ok 0 (0, .iload_n 1, 1) rfl
theorem dX2_endPart_1 : decode cX2_endPart 1 = .ok (.ifCond .lt 22, 3) := ax_dec dX2_endPart_q0_ok 1 (1, .ifCond .lt 22, 3) rfl
theorem dX2_endPart_4 : decode cX2_endPart 4 = .ok (.iload_n 1, 1) := ax_dec dX2_endPart_q0_ok 2 (4, .iload_n 1, 1) rfl
theorem dX2_endPart_5 : decode cX2_endPart 5 = .ok (.aload_n 0, 1) := ax_dec dX2_endPart_q0_ok 3 (5, .aload_n 0, 1) rfl
theorem dX2_endPart_6 : decode cX2_endPart 6 = .ok (.getfield 18, 3) := ax_dec dX2_endPart_q0_ok 4 (6, .getfield 18, 3) rfl
theorem dX2_endPart_9 : decode cX2_endPart 9 = .ok (.arraylength, 1) := ax_dec dX2_endPart_q0_ok 5 (9, .arraylength, 1) rfl
theorem dX2_endPart_10 : decode cX2_endPart 10 = .ok (.if_icmp .ge 13, 3) := ax_dec dX2_endPart_q0_ok 6 (10, .if_icmp .ge 13, 3) rfl
theorem dX2_endPart_13 : decode cX2_endPart 13 = .ok (.aload_n 0, 1) := ax_dec dX2_endPart_q0_ok 7 (13, .aload_n 0, 1) rfl
theorem dX2_endPart_14 : decode cX2_endPart 14 = .ok (.getfield 18, 3) := ax_dec dX2_endPart_q0_ok 8 (14, .getfield 18, 3) rfl
theorem dX2_endPart_17 : decode cX2_endPart 17 = .ok (.iload_n 1, 1) := ax_dec dX2_endPart_q0_ok 9 (17, .iload_n 1, 1) rfl
theorem dX2_endPart_18 : decode cX2_endPart 18 = .ok (.aload_n 0, 1) := ax_dec dX2_endPart_q0_ok 10 (18, .aload_n 0, 1) rfl
theorem dX2_endPart_19 : decode cX2_endPart 19 = .ok (.getfield 26, 3) := ax_dec dX2_endPart_q0_ok 11 (19, .getfield 26, 3) rfl
theorem dX2_endPart_22 : decode cX2_endPart 22 = .ok (.iastore, 1) := ax_dec dX2_endPart_q0_ok 12 (22, .iastore, 1) rfl
theorem dX2_endPart_23 : decode cX2_endPart 23 = .ok (.return_, 1) := ax_dec dX2_endPart_q0_ok 13 (23, .return_, 1) rfl
def dX2_heavyBy_q0 : List (Nat × (Instr × Nat)) := [(0, .aload_n 2, 1), (1, .iload_n 1, 1), (2, .invokevirtual 30, 3), (5, .astore_n 3, 1), (6, .aload_n 3, 1), (7, .ifnonnull 7, 3), (10, .iconst (-1), 1), (11, .goto 10, 3), (14, .aload_n 0, 1), (15, .iconst 1, 1), (16, .aload_n 3, 1), (17, .iconst 0, 1), (18, .invokevirtual 36, 3), (21, .ireturn, 1)]
set_option maxRecDepth 100000 in
theorem dX2_heavyBy_q0_ok : ax_decs cX2_heavyBy dX2_heavyBy_q0 = true := by decide +kernel
theorem dX2_heavyBy_0 : decode cX2_heavyBy 0 = .ok (.aload_n 2, 1) := ax_dec dX2_heavyBy_q0_ok 0 (0, .aload_n 2, 1) rfl
theorem dX2_heavyBy_1 : decode cX2_heavyBy 1 = .ok (.iload_n 1, 1) := ax_dec dX2_heavyBy_q0_ok 1 (1, .iload_n 1, 1) rfl
theorem dX2_heavyBy_2 : decode cX2_heavyBy 2 = .ok (.invokevirtual 30, 3) := ax_dec dX2_heavyBy_q0_ok 2 (2, .invokevirtual 30, 3) rfl
theorem dX2_heavyBy_5 : decode cX2_heavyBy 5 = .ok (.astore_n 3, 1) := ax_dec dX2_heavyBy_q0_ok 3 (5, .astore_n 3, 1) rfl
theorem dX2_heavyBy_6 : decode cX2_heavyBy 6 = .ok (.aload_n 3, 1) := ax_dec dX2_heavyBy_q0_ok 4 (6, .aload_n 3, 1) rfl
theorem dX2_heavyBy_7 : decode cX2_heavyBy 7 = .ok (.ifnonnull 7, 3) := ax_dec dX2_heavyBy_q0_ok 5 (7, .ifnonnull 7, 3) rfl
theorem dX2_heavyBy_10 : decode cX2_heavyBy 10 = .ok (.iconst (-1), 1) := ax_dec dX2_heavyBy_q0_ok 6 (10, .iconst (-1), 1) rfl
theorem dX2_heavyBy_11 : decode cX2_heavyBy 11 = .ok (.goto 10, 3) := ax_dec dX2_heavyBy_q0_ok 7 (11, .goto 10, 3) rfl
theorem dX2_heavyBy_14 : decode cX2_heavyBy 14 = .ok (.aload_n 0, 1) := ax_dec dX2_heavyBy_q0_ok 8 (14, .aload_n 0, 1) rfl
theorem dX2_heavyBy_15 : decode cX2_heavyBy 15 = .ok (.iconst 1, 1) := ax_dec dX2_heavyBy_q0_ok 9 (15, .iconst 1, 1) rfl
theorem dX2_heavyBy_16 : decode cX2_heavyBy 16 = .ok (.aload_n 3, 1) := ax_dec dX2_heavyBy_q0_ok 10 (16, .aload_n 3, 1) rfl
theorem dX2_heavyBy_17 : decode cX2_heavyBy 17 = .ok (.iconst 0, 1) := ax_dec dX2_heavyBy_q0_ok 11 (17, .iconst 0, 1) rfl
theorem dX2_heavyBy_18 : decode cX2_heavyBy 18 = .ok (.invokevirtual 36, 3) := ax_dec dX2_heavyBy_q0_ok 12 (18, .invokevirtual 36, 3) rfl
theorem dX2_heavyBy_21 : decode cX2_heavyBy 21 = .ok (.ireturn, 1) := ax_dec dX2_heavyBy_q0_ok 13 (21, .ireturn, 1) rfl
def dX2_says_q0 : List (Nat × (Instr × Nat)) := [(0, .iload_n 1, 1), (1, .ifCond .lt 12, 3), (4, .iload_n 1, 1), (5, .aload_n 0, 1), (6, .getfield 18, 3), (9, .arraylength, 1), (10, .if_icmp .lt 5, 3), (13, .iconst 0, 1), (14, .ireturn, 1), (15, .aload_n 0, 1), (16, .getfield 23, 3), (19, .iconst 0, 1), (20, .aload_n 2, 1), (21, .getfield 40, 3), (24, .iastore, 1), (25, .aload_n 0, 1), (26, .getfield 23, 3), (29, .iconst 1, 1), (30, .aload_n 2, 1), (31, .invokevirtual 43, 3), (34, .iastore, 1), (35, .aload_n 0, 1), (36, .getfield 23, 3), (39, .iconst 2, 1), (40, .aload_n 2, 1), (41, .getfield 47, 3), (44, .iastore, 1), (45, .aload_n 0, 1), (46, .getfield 23, 3), (49, .iconst 3, 1), (50, .aload_n 2, 1), (51, .getfield 50, 3)]
set_option maxRecDepth 100000 in
theorem dX2_says_q0_ok : ax_decs cX2_says dX2_says_q0 = true := by decide +kernel
theorem dX2_says_0 : decode cX2_says 0 = .ok (.iload_n 1, 1) := ax_dec dX2_says_q0_ok 0 (0, .iload_n 1, 1) rfl
theorem dX2_says_1 : decode cX2_says 1 = .ok (.ifCond .lt 12, 3) := ax_dec dX2_says_q0_ok 1 (1, .ifCond .lt 12, 3) rfl
theorem dX2_says_4 : decode cX2_says 4 = .ok (.iload_n 1, 1) := ax_dec dX2_says_q0_ok 2 (4, .iload_n 1, 1) rfl
theorem dX2_says_5 : decode cX2_says 5 = .ok (.aload_n 0, 1) := ax_dec dX2_says_q0_ok 3 (5, .aload_n 0, 1) rfl
theorem dX2_says_6 : decode cX2_says 6 = .ok (.getfield 18, 3) := ax_dec dX2_says_q0_ok 4 (6, .getfield 18, 3) rfl
theorem dX2_says_9 : decode cX2_says 9 = .ok (.arraylength, 1) := ax_dec dX2_says_q0_ok 5 (9, .arraylength, 1) rfl
theorem dX2_says_10 : decode cX2_says 10 = .ok (.if_icmp .lt 5, 3) := ax_dec dX2_says_q0_ok 6 (10, .if_icmp .lt 5, 3) rfl
theorem dX2_says_13 : decode cX2_says 13 = .ok (.iconst 0, 1) := ax_dec dX2_says_q0_ok 7 (13, .iconst 0, 1) rfl
theorem dX2_says_14 : decode cX2_says 14 = .ok (.ireturn, 1) := ax_dec dX2_says_q0_ok 8 (14, .ireturn, 1) rfl
theorem dX2_says_15 : decode cX2_says 15 = .ok (.aload_n 0, 1) := ax_dec dX2_says_q0_ok 9 (15, .aload_n 0, 1) rfl
theorem dX2_says_16 : decode cX2_says 16 = .ok (.getfield 23, 3) := ax_dec dX2_says_q0_ok 10 (16, .getfield 23, 3) rfl
theorem dX2_says_19 : decode cX2_says 19 = .ok (.iconst 0, 1) := ax_dec dX2_says_q0_ok 11 (19, .iconst 0, 1) rfl
theorem dX2_says_20 : decode cX2_says 20 = .ok (.aload_n 2, 1) := ax_dec dX2_says_q0_ok 12 (20, .aload_n 2, 1) rfl
theorem dX2_says_21 : decode cX2_says 21 = .ok (.getfield 40, 3) := ax_dec dX2_says_q0_ok 13 (21, .getfield 40, 3) rfl
theorem dX2_says_24 : decode cX2_says 24 = .ok (.iastore, 1) := ax_dec dX2_says_q0_ok 14 (24, .iastore, 1) rfl
theorem dX2_says_25 : decode cX2_says 25 = .ok (.aload_n 0, 1) := ax_dec dX2_says_q0_ok 15 (25, .aload_n 0, 1) rfl
theorem dX2_says_26 : decode cX2_says 26 = .ok (.getfield 23, 3) := ax_dec dX2_says_q0_ok 16 (26, .getfield 23, 3) rfl
theorem dX2_says_29 : decode cX2_says 29 = .ok (.iconst 1, 1) := ax_dec dX2_says_q0_ok 17 (29, .iconst 1, 1) rfl
theorem dX2_says_30 : decode cX2_says 30 = .ok (.aload_n 2, 1) := ax_dec dX2_says_q0_ok 18 (30, .aload_n 2, 1) rfl
theorem dX2_says_31 : decode cX2_says 31 = .ok (.invokevirtual 43, 3) := ax_dec dX2_says_q0_ok 19 (31, .invokevirtual 43, 3) rfl
theorem dX2_says_34 : decode cX2_says 34 = .ok (.iastore, 1) := ax_dec dX2_says_q0_ok 20 (34, .iastore, 1) rfl
theorem dX2_says_35 : decode cX2_says 35 = .ok (.aload_n 0, 1) := ax_dec dX2_says_q0_ok 21 (35, .aload_n 0, 1) rfl
theorem dX2_says_36 : decode cX2_says 36 = .ok (.getfield 23, 3) := ax_dec dX2_says_q0_ok 22 (36, .getfield 23, 3) rfl
theorem dX2_says_39 : decode cX2_says 39 = .ok (.iconst 2, 1) := ax_dec dX2_says_q0_ok 23 (39, .iconst 2, 1) rfl
theorem dX2_says_40 : decode cX2_says 40 = .ok (.aload_n 2, 1) := ax_dec dX2_says_q0_ok 24 (40, .aload_n 2, 1) rfl
theorem dX2_says_41 : decode cX2_says 41 = .ok (.getfield 47, 3) := ax_dec dX2_says_q0_ok 25 (41, .getfield 47, 3) rfl
theorem dX2_says_44 : decode cX2_says 44 = .ok (.iastore, 1) := ax_dec dX2_says_q0_ok 26 (44, .iastore, 1) rfl
theorem dX2_says_45 : decode cX2_says 45 = .ok (.aload_n 0, 1) := ax_dec dX2_says_q0_ok 27 (45, .aload_n 0, 1) rfl
theorem dX2_says_46 : decode cX2_says 46 = .ok (.getfield 23, 3) := ax_dec dX2_says_q0_ok 28 (46, .getfield 23, 3) rfl
theorem dX2_says_49 : decode cX2_says 49 = .ok (.iconst 3, 1) := ax_dec dX2_says_q0_ok 29 (49, .iconst 3, 1) rfl
theorem dX2_says_50 : decode cX2_says 50 = .ok (.aload_n 2, 1) := ax_dec dX2_says_q0_ok 30 (50, .aload_n 2, 1) rfl
theorem dX2_says_51 : decode cX2_says 51 = .ok (.getfield 50, 3) := ax_dec dX2_says_q0_ok 31 (51, .getfield 50, 3) rfl
def dX2_says_q1 : List (Nat × (Instr × Nat)) := [(54, .iastore, 1), (55, .aload_n 0, 1), (56, .getfield 23, 3), (59, .iconst 4, 1), (60, .iload_n 3, 1), (61, .bipush 10, 2), (63, .idiv, 1), (64, .iastore, 1), (65, .aload_n 0, 1), (66, .getfield 23, 3), (69, .iconst 5, 1), (70, .iload_n 3, 1), (71, .bipush 10, 2), (73, .irem, 1), (74, .iastore, 1), (75, .iconst 0, 1), (76, .istore 4, 2), (78, .iload_n 1, 1), (79, .ifCond .ne 7, 3), (82, .iconst 0, 1), (83, .goto 11, 3), (86, .aload_n 0, 1), (87, .getfield 18, 3), (90, .iload_n 1, 1), (91, .iconst 1, 1), (92, .isub, 1), (93, .iaload, 1), (94, .istore 5, 2), (96, .iload 5, 2), (98, .ifCond .lt 58, 3), (101, .iload 5, 2), (103, .aload_n 0, 1)]
set_option maxRecDepth 100000 in
theorem dX2_says_q1_ok : ax_decs cX2_says dX2_says_q1 = true := by decide +kernel
theorem dX2_says_54 : decode cX2_says 54 = .ok (.iastore, 1) := ax_dec dX2_says_q1_ok 0 (54, .iastore, 1) rfl
theorem dX2_says_55 : decode cX2_says 55 = .ok (.aload_n 0, 1) := ax_dec dX2_says_q1_ok 1 (55, .aload_n 0, 1) rfl
theorem dX2_says_56 : decode cX2_says 56 = .ok (.getfield 23, 3) := ax_dec dX2_says_q1_ok 2 (56, .getfield 23, 3) rfl
theorem dX2_says_59 : decode cX2_says 59 = .ok (.iconst 4, 1) := ax_dec dX2_says_q1_ok 3 (59, .iconst 4, 1) rfl
theorem dX2_says_60 : decode cX2_says 60 = .ok (.iload_n 3, 1) := ax_dec dX2_says_q1_ok 4 (60, .iload_n 3, 1) rfl
theorem dX2_says_61 : decode cX2_says 61 = .ok (.bipush 10, 2) := ax_dec dX2_says_q1_ok 5 (61, .bipush 10, 2) rfl
theorem dX2_says_63 : decode cX2_says 63 = .ok (.idiv, 1) := ax_dec dX2_says_q1_ok 6 (63, .idiv, 1) rfl
theorem dX2_says_64 : decode cX2_says 64 = .ok (.iastore, 1) := ax_dec dX2_says_q1_ok 7 (64, .iastore, 1) rfl
theorem dX2_says_65 : decode cX2_says 65 = .ok (.aload_n 0, 1) := ax_dec dX2_says_q1_ok 8 (65, .aload_n 0, 1) rfl
theorem dX2_says_66 : decode cX2_says 66 = .ok (.getfield 23, 3) := ax_dec dX2_says_q1_ok 9 (66, .getfield 23, 3) rfl
theorem dX2_says_69 : decode cX2_says 69 = .ok (.iconst 5, 1) := ax_dec dX2_says_q1_ok 10 (69, .iconst 5, 1) rfl
theorem dX2_says_70 : decode cX2_says 70 = .ok (.iload_n 3, 1) := ax_dec dX2_says_q1_ok 11 (70, .iload_n 3, 1) rfl
theorem dX2_says_71 : decode cX2_says 71 = .ok (.bipush 10, 2) := ax_dec dX2_says_q1_ok 12 (71, .bipush 10, 2) rfl
theorem dX2_says_73 : decode cX2_says 73 = .ok (.irem, 1) := ax_dec dX2_says_q1_ok 13 (73, .irem, 1) rfl
theorem dX2_says_74 : decode cX2_says 74 = .ok (.iastore, 1) := ax_dec dX2_says_q1_ok 14 (74, .iastore, 1) rfl
theorem dX2_says_75 : decode cX2_says 75 = .ok (.iconst 0, 1) := ax_dec dX2_says_q1_ok 15 (75, .iconst 0, 1) rfl
theorem dX2_says_76 : decode cX2_says 76 = .ok (.istore 4, 2) := ax_dec dX2_says_q1_ok 16 (76, .istore 4, 2) rfl
theorem dX2_says_78 : decode cX2_says 78 = .ok (.iload_n 1, 1) := ax_dec dX2_says_q1_ok 17 (78, .iload_n 1, 1) rfl
theorem dX2_says_79 : decode cX2_says 79 = .ok (.ifCond .ne 7, 3) := ax_dec dX2_says_q1_ok 18 (79, .ifCond .ne 7, 3) rfl
theorem dX2_says_82 : decode cX2_says 82 = .ok (.iconst 0, 1) := ax_dec dX2_says_q1_ok 19 (82, .iconst 0, 1) rfl
theorem dX2_says_83 : decode cX2_says 83 = .ok (.goto 11, 3) := ax_dec dX2_says_q1_ok 20 (83, .goto 11, 3) rfl
theorem dX2_says_86 : decode cX2_says 86 = .ok (.aload_n 0, 1) := ax_dec dX2_says_q1_ok 21 (86, .aload_n 0, 1) rfl
theorem dX2_says_87 : decode cX2_says 87 = .ok (.getfield 18, 3) := ax_dec dX2_says_q1_ok 22 (87, .getfield 18, 3) rfl
theorem dX2_says_90 : decode cX2_says 90 = .ok (.iload_n 1, 1) := ax_dec dX2_says_q1_ok 23 (90, .iload_n 1, 1) rfl
theorem dX2_says_91 : decode cX2_says 91 = .ok (.iconst 1, 1) := ax_dec dX2_says_q1_ok 24 (91, .iconst 1, 1) rfl
theorem dX2_says_92 : decode cX2_says 92 = .ok (.isub, 1) := ax_dec dX2_says_q1_ok 25 (92, .isub, 1) rfl
theorem dX2_says_93 : decode cX2_says 93 = .ok (.iaload, 1) := ax_dec dX2_says_q1_ok 26 (93, .iaload, 1) rfl
theorem dX2_says_94 : decode cX2_says 94 = .ok (.istore 5, 2) := ax_dec dX2_says_q1_ok 27 (94, .istore 5, 2) rfl
theorem dX2_says_96 : decode cX2_says 96 = .ok (.iload 5, 2) := ax_dec dX2_says_q1_ok 28 (96, .iload 5, 2) rfl
theorem dX2_says_98 : decode cX2_says 98 = .ok (.ifCond .lt 58, 3) := ax_dec dX2_says_q1_ok 29 (98, .ifCond .lt 58, 3) rfl
theorem dX2_says_101 : decode cX2_says 101 = .ok (.iload 5, 2) := ax_dec dX2_says_q1_ok 30 (101, .iload 5, 2) rfl
theorem dX2_says_103 : decode cX2_says 103 = .ok (.aload_n 0, 1) := ax_dec dX2_says_q1_ok 31 (103, .aload_n 0, 1) rfl
def dX2_says_q2 : List (Nat × (Instr × Nat)) := [(104, .getfield 18, 3), (107, .iload_n 1, 1), (108, .iaload, 1), (109, .if_icmp .ge 47, 3), (112, .iload 5, 2), (114, .aload_n 0, 1), (115, .getfield 9, 3), (118, .arraylength, 1), (119, .if_icmp .ge 37, 3), (122, .aload_n 0, 1), (123, .aload_n 0, 1), (124, .getfield 9, 3), (127, .iload 5, 2), (129, .iaload, 1), (130, .bipush 32, 2), (132, .irem, 1), (133, .aload_n 0, 1), (134, .getfield 9, 3), (137, .iload 5, 2), (139, .iaload, 1), (140, .bipush 32, 2), (142, .idiv, 1), (143, .iload 4, 2), (145, .invokevirtual 53, 3), (148, .istore 4, 2), (150, .iinc 5 1, 3), (153, .goto (-57), 3), (156, .iload 4, 2), (158, .ifCond .le 12, 3), (161, .aload_n 0, 1), (162, .getfield 15, 3), (165, .iconst 0, 1)]
set_option maxRecDepth 100000 in
theorem dX2_says_q2_ok : ax_decs cX2_says dX2_says_q2 = true := by decide +kernel
theorem dX2_says_104 : decode cX2_says 104 = .ok (.getfield 18, 3) := ax_dec dX2_says_q2_ok 0 (104, .getfield 18, 3) rfl
theorem dX2_says_107 : decode cX2_says 107 = .ok (.iload_n 1, 1) := ax_dec dX2_says_q2_ok 1 (107, .iload_n 1, 1) rfl
theorem dX2_says_108 : decode cX2_says 108 = .ok (.iaload, 1) := ax_dec dX2_says_q2_ok 2 (108, .iaload, 1) rfl
theorem dX2_says_109 : decode cX2_says 109 = .ok (.if_icmp .ge 47, 3) := ax_dec dX2_says_q2_ok 3 (109, .if_icmp .ge 47, 3) rfl
theorem dX2_says_112 : decode cX2_says 112 = .ok (.iload 5, 2) := ax_dec dX2_says_q2_ok 4 (112, .iload 5, 2) rfl
theorem dX2_says_114 : decode cX2_says 114 = .ok (.aload_n 0, 1) := ax_dec dX2_says_q2_ok 5 (114, .aload_n 0, 1) rfl
theorem dX2_says_115 : decode cX2_says 115 = .ok (.getfield 9, 3) := ax_dec dX2_says_q2_ok 6 (115, .getfield 9, 3) rfl
theorem dX2_says_118 : decode cX2_says 118 = .ok (.arraylength, 1) := ax_dec dX2_says_q2_ok 7 (118, .arraylength, 1) rfl
theorem dX2_says_119 : decode cX2_says 119 = .ok (.if_icmp .ge 37, 3) := ax_dec dX2_says_q2_ok 8 (119, .if_icmp .ge 37, 3) rfl
theorem dX2_says_122 : decode cX2_says 122 = .ok (.aload_n 0, 1) := ax_dec dX2_says_q2_ok 9 (122, .aload_n 0, 1) rfl
theorem dX2_says_123 : decode cX2_says 123 = .ok (.aload_n 0, 1) := ax_dec dX2_says_q2_ok 10 (123, .aload_n 0, 1) rfl
theorem dX2_says_124 : decode cX2_says 124 = .ok (.getfield 9, 3) := ax_dec dX2_says_q2_ok 11 (124, .getfield 9, 3) rfl
theorem dX2_says_127 : decode cX2_says 127 = .ok (.iload 5, 2) := ax_dec dX2_says_q2_ok 12 (127, .iload 5, 2) rfl
theorem dX2_says_129 : decode cX2_says 129 = .ok (.iaload, 1) := ax_dec dX2_says_q2_ok 13 (129, .iaload, 1) rfl
theorem dX2_says_130 : decode cX2_says 130 = .ok (.bipush 32, 2) := ax_dec dX2_says_q2_ok 14 (130, .bipush 32, 2) rfl
theorem dX2_says_132 : decode cX2_says 132 = .ok (.irem, 1) := ax_dec dX2_says_q2_ok 15 (132, .irem, 1) rfl
theorem dX2_says_133 : decode cX2_says 133 = .ok (.aload_n 0, 1) := ax_dec dX2_says_q2_ok 16 (133, .aload_n 0, 1) rfl
theorem dX2_says_134 : decode cX2_says 134 = .ok (.getfield 9, 3) := ax_dec dX2_says_q2_ok 17 (134, .getfield 9, 3) rfl
theorem dX2_says_137 : decode cX2_says 137 = .ok (.iload 5, 2) := ax_dec dX2_says_q2_ok 18 (137, .iload 5, 2) rfl
theorem dX2_says_139 : decode cX2_says 139 = .ok (.iaload, 1) := ax_dec dX2_says_q2_ok 19 (139, .iaload, 1) rfl
theorem dX2_says_140 : decode cX2_says 140 = .ok (.bipush 32, 2) := ax_dec dX2_says_q2_ok 20 (140, .bipush 32, 2) rfl
theorem dX2_says_142 : decode cX2_says 142 = .ok (.idiv, 1) := ax_dec dX2_says_q2_ok 21 (142, .idiv, 1) rfl
theorem dX2_says_143 : decode cX2_says 143 = .ok (.iload 4, 2) := ax_dec dX2_says_q2_ok 22 (143, .iload 4, 2) rfl
theorem dX2_says_145 : decode cX2_says 145 = .ok (.invokevirtual 53, 3) := ax_dec dX2_says_q2_ok 23 (145, .invokevirtual 53, 3) rfl
theorem dX2_says_148 : decode cX2_says 148 = .ok (.istore 4, 2) := ax_dec dX2_says_q2_ok 24 (148, .istore 4, 2) rfl
theorem dX2_says_150 : decode cX2_says 150 = .ok (.iinc 5 1, 3) := ax_dec dX2_says_q2_ok 25 (150, .iinc 5 1, 3) rfl
theorem dX2_says_153 : decode cX2_says 153 = .ok (.goto (-57), 3) := ax_dec dX2_says_q2_ok 26 (153, .goto (-57), 3) rfl
theorem dX2_says_156 : decode cX2_says 156 = .ok (.iload 4, 2) := ax_dec dX2_says_q2_ok 27 (156, .iload 4, 2) rfl
theorem dX2_says_158 : decode cX2_says 158 = .ok (.ifCond .le 12, 3) := ax_dec dX2_says_q2_ok 28 (158, .ifCond .le 12, 3) rfl
theorem dX2_says_161 : decode cX2_says 161 = .ok (.aload_n 0, 1) := ax_dec dX2_says_q2_ok 29 (161, .aload_n 0, 1) rfl
theorem dX2_says_162 : decode cX2_says 162 = .ok (.getfield 15, 3) := ax_dec dX2_says_q2_ok 30 (162, .getfield 15, 3) rfl
theorem dX2_says_165 : decode cX2_says 165 = .ok (.iconst 0, 1) := ax_dec dX2_says_q2_ok 31 (165, .iconst 0, 1) rfl
def dX2_says_q3 : List (Nat × (Instr × Nat)) := [(166, .iaload, 1), (167, .goto 4, 3), (170, .iconst 0, 1), (171, .istore 5, 2), (173, .iconst 0, 1), (174, .iload_n 1, 1), (175, .iconst 2, 1), (176, .if_icmp .ne 8, 3), (179, .bipush 100, 2), (181, .goto 5, 3), (184, .bipush 99, 2), (186, .iload 5, 2), (188, .invokestatic 57, 3), (191, .invokestatic 63, 3), (194, .ireturn, 1)]
set_option maxRecDepth 100000 in
theorem dX2_says_q3_ok : ax_decs cX2_says dX2_says_q3 = true := by decide +kernel
theorem dX2_says_166 : decode cX2_says 166 = .ok (.iaload, 1) := ax_dec dX2_says_q3_ok 0 (166, .iaload, 1) rfl
theorem dX2_says_167 : decode cX2_says 167 = .ok (.goto 4, 3) := ax_dec dX2_says_q3_ok 1 (167, .goto 4, 3) rfl
theorem dX2_says_170 : decode cX2_says 170 = .ok (.iconst 0, 1) := ax_dec dX2_says_q3_ok 2 (170, .iconst 0, 1) rfl
theorem dX2_says_171 : decode cX2_says 171 = .ok (.istore 5, 2) := ax_dec dX2_says_q3_ok 3 (171, .istore 5, 2) rfl
theorem dX2_says_173 : decode cX2_says 173 = .ok (.iconst 0, 1) := ax_dec dX2_says_q3_ok 4 (173, .iconst 0, 1) rfl
theorem dX2_says_174 : decode cX2_says 174 = .ok (.iload_n 1, 1) := ax_dec dX2_says_q3_ok 5 (174, .iload_n 1, 1) rfl
theorem dX2_says_175 : decode cX2_says 175 = .ok (.iconst 2, 1) := ax_dec dX2_says_q3_ok 6 (175, .iconst 2, 1) rfl
theorem dX2_says_176 : decode cX2_says 176 = .ok (.if_icmp .ne 8, 3) := ax_dec dX2_says_q3_ok 7 (176, .if_icmp .ne 8, 3) rfl
theorem dX2_says_179 : decode cX2_says 179 = .ok (.bipush 100, 2) := ax_dec dX2_says_q3_ok 8 (179, .bipush 100, 2) rfl
theorem dX2_says_181 : decode cX2_says 181 = .ok (.goto 5, 3) := ax_dec dX2_says_q3_ok 9 (181, .goto 5, 3) rfl
theorem dX2_says_184 : decode cX2_says 184 = .ok (.bipush 99, 2) := ax_dec dX2_says_q3_ok 10 (184, .bipush 99, 2) rfl
theorem dX2_says_186 : decode cX2_says 186 = .ok (.iload 5, 2) := ax_dec dX2_says_q3_ok 11 (186, .iload 5, 2) rfl
theorem dX2_says_188 : decode cX2_says 188 = .ok (.invokestatic 57, 3) := ax_dec dX2_says_q3_ok 12 (188, .invokestatic 57, 3) rfl
theorem dX2_says_191 : decode cX2_says 191 = .ok (.invokestatic 63, 3) := ax_dec dX2_says_q3_ok 13 (191, .invokestatic 63, 3) rfl
theorem dX2_says_194 : decode cX2_says 194 = .ok (.ireturn, 1) := ax_dec dX2_says_q3_ok 14 (194, .ireturn, 1) rfl
def dX2_step_q0 : List (Nat × (Instr × Nat)) := [(0, .iload_n 1, 1), (1, .iconst 2, 1), (2, .if_icmp .eq 8, 3), (5, .iload_n 1, 1), (6, .iconst 3, 1), (7, .if_icmp .ne 56, 3), (10, .iload_n 3, 1), (11, .ifCond .lt 12, 3), (14, .iload_n 3, 1), (15, .aload_n 0, 1), (16, .getfield 15, 3), (19, .arraylength, 1), (20, .if_icmp .lt 5, 3), (23, .iconst 0, 1), (24, .ireturn, 1), (25, .aload_n 0, 1), (26, .getfield 15, 3), (29, .iload_n 3, 1), (30, .iload_n 1, 1), (31, .iconst 2, 1), (32, .if_icmp .eq 16, 3), (35, .iload_n 2, 1), (36, .ifCond .lt 12, 3), (39, .iload_n 2, 1), (40, .aload_n 0, 1), (41, .getfield 23, 3), (44, .arraylength, 1), (45, .if_icmp .lt 7, 3), (48, .iload_n 2, 1), (49, .goto 9, 3), (52, .aload_n 0, 1), (53, .getfield 23, 3)]
set_option maxRecDepth 100000 in
theorem dX2_step_q0_ok : ax_decs cX2_step dX2_step_q0 = true := by decide +kernel
theorem dX2_step_0 : decode cX2_step 0 = .ok (.iload_n 1, 1) := ax_dec dX2_step_q0_ok 0 (0, .iload_n 1, 1) rfl
theorem dX2_step_1 : decode cX2_step 1 = .ok (.iconst 2, 1) := ax_dec dX2_step_q0_ok 1 (1, .iconst 2, 1) rfl
theorem dX2_step_2 : decode cX2_step 2 = .ok (.if_icmp .eq 8, 3) := ax_dec dX2_step_q0_ok 2 (2, .if_icmp .eq 8, 3) rfl
theorem dX2_step_5 : decode cX2_step 5 = .ok (.iload_n 1, 1) := ax_dec dX2_step_q0_ok 3 (5, .iload_n 1, 1) rfl
theorem dX2_step_6 : decode cX2_step 6 = .ok (.iconst 3, 1) := ax_dec dX2_step_q0_ok 4 (6, .iconst 3, 1) rfl
theorem dX2_step_7 : decode cX2_step 7 = .ok (.if_icmp .ne 56, 3) := ax_dec dX2_step_q0_ok 5 (7, .if_icmp .ne 56, 3) rfl
theorem dX2_step_10 : decode cX2_step 10 = .ok (.iload_n 3, 1) := ax_dec dX2_step_q0_ok 6 (10, .iload_n 3, 1) rfl
theorem dX2_step_11 : decode cX2_step 11 = .ok (.ifCond .lt 12, 3) := ax_dec dX2_step_q0_ok 7 (11, .ifCond .lt 12, 3) rfl
theorem dX2_step_14 : decode cX2_step 14 = .ok (.iload_n 3, 1) := ax_dec dX2_step_q0_ok 8 (14, .iload_n 3, 1) rfl
theorem dX2_step_15 : decode cX2_step 15 = .ok (.aload_n 0, 1) := ax_dec dX2_step_q0_ok 9 (15, .aload_n 0, 1) rfl
theorem dX2_step_16 : decode cX2_step 16 = .ok (.getfield 15, 3) := ax_dec dX2_step_q0_ok 10 (16, .getfield 15, 3) rfl
theorem dX2_step_19 : decode cX2_step 19 = .ok (.arraylength, 1) := ax_dec dX2_step_q0_ok 11 (19, .arraylength, 1) rfl
theorem dX2_step_20 : decode cX2_step 20 = .ok (.if_icmp .lt 5, 3) := ax_dec dX2_step_q0_ok 12 (20, .if_icmp .lt 5, 3) rfl
theorem dX2_step_23 : decode cX2_step 23 = .ok (.iconst 0, 1) := ax_dec dX2_step_q0_ok 13 (23, .iconst 0, 1) rfl
theorem dX2_step_24 : decode cX2_step 24 = .ok (.ireturn, 1) := ax_dec dX2_step_q0_ok 14 (24, .ireturn, 1) rfl
theorem dX2_step_25 : decode cX2_step 25 = .ok (.aload_n 0, 1) := ax_dec dX2_step_q0_ok 15 (25, .aload_n 0, 1) rfl
theorem dX2_step_26 : decode cX2_step 26 = .ok (.getfield 15, 3) := ax_dec dX2_step_q0_ok 16 (26, .getfield 15, 3) rfl
theorem dX2_step_29 : decode cX2_step 29 = .ok (.iload_n 3, 1) := ax_dec dX2_step_q0_ok 17 (29, .iload_n 3, 1) rfl
theorem dX2_step_30 : decode cX2_step 30 = .ok (.iload_n 1, 1) := ax_dec dX2_step_q0_ok 18 (30, .iload_n 1, 1) rfl
theorem dX2_step_31 : decode cX2_step 31 = .ok (.iconst 2, 1) := ax_dec dX2_step_q0_ok 19 (31, .iconst 2, 1) rfl
theorem dX2_step_32 : decode cX2_step 32 = .ok (.if_icmp .eq 16, 3) := ax_dec dX2_step_q0_ok 20 (32, .if_icmp .eq 16, 3) rfl
theorem dX2_step_35 : decode cX2_step 35 = .ok (.iload_n 2, 1) := ax_dec dX2_step_q0_ok 21 (35, .iload_n 2, 1) rfl
theorem dX2_step_36 : decode cX2_step 36 = .ok (.ifCond .lt 12, 3) := ax_dec dX2_step_q0_ok 22 (36, .ifCond .lt 12, 3) rfl
theorem dX2_step_39 : decode cX2_step 39 = .ok (.iload_n 2, 1) := ax_dec dX2_step_q0_ok 23 (39, .iload_n 2, 1) rfl
theorem dX2_step_40 : decode cX2_step 40 = .ok (.aload_n 0, 1) := ax_dec dX2_step_q0_ok 24 (40, .aload_n 0, 1) rfl
theorem dX2_step_41 : decode cX2_step 41 = .ok (.getfield 23, 3) := ax_dec dX2_step_q0_ok 25 (41, .getfield 23, 3) rfl
theorem dX2_step_44 : decode cX2_step 44 = .ok (.arraylength, 1) := ax_dec dX2_step_q0_ok 26 (44, .arraylength, 1) rfl
theorem dX2_step_45 : decode cX2_step 45 = .ok (.if_icmp .lt 7, 3) := ax_dec dX2_step_q0_ok 27 (45, .if_icmp .lt 7, 3) rfl
theorem dX2_step_48 : decode cX2_step 48 = .ok (.iload_n 2, 1) := ax_dec dX2_step_q0_ok 28 (48, .iload_n 2, 1) rfl
theorem dX2_step_49 : decode cX2_step 49 = .ok (.goto 9, 3) := ax_dec dX2_step_q0_ok 29 (49, .goto 9, 3) rfl
theorem dX2_step_52 : decode cX2_step 52 = .ok (.aload_n 0, 1) := ax_dec dX2_step_q0_ok 30 (52, .aload_n 0, 1) rfl
theorem dX2_step_53 : decode cX2_step 53 = .ok (.getfield 23, 3) := ax_dec dX2_step_q0_ok 31 (53, .getfield 23, 3) rfl
def dX2_step_q1 : List (Nat × (Instr × Nat)) := [(56, .iload_n 2, 1), (57, .iaload, 1), (58, .iastore, 1), (59, .iload_n 3, 1), (60, .iconst 1, 1), (61, .iadd, 1), (62, .ireturn, 1), (63, .iload_n 3, 1), (64, .iconst 1, 1), (65, .isub, 1), (66, .istore 4, 2), (68, .iload 4, 2), (70, .ifCond .lt 13, 3), (73, .iload 4, 2), (75, .aload_n 0, 1), (76, .getfield 15, 3), (79, .arraylength, 1), (80, .if_icmp .lt 5, 3), (83, .iconst 0, 1), (84, .ireturn, 1), (85, .aload_n 0, 1), (86, .getfield 15, 3), (89, .iload 4, 2), (91, .iaload, 1), (92, .istore 5, 2), (94, .iload_n 1, 1), (95, .bipush 13, 2), (97, .if_icmp .eq 9, 3), (100, .iload_n 1, 1), (101, .bipush 7, 2), (103, .if_icmp .ne 34, 3), (106, .aload_n 0, 1)]
set_option maxRecDepth 100000 in
theorem dX2_step_q1_ok : ax_decs cX2_step dX2_step_q1 = true := by decide +kernel
theorem dX2_step_56 : decode cX2_step 56 = .ok (.iload_n 2, 1) := ax_dec dX2_step_q1_ok 0 (56, .iload_n 2, 1) rfl
theorem dX2_step_57 : decode cX2_step 57 = .ok (.iaload, 1) := ax_dec dX2_step_q1_ok 1 (57, .iaload, 1) rfl
theorem dX2_step_58 : decode cX2_step 58 = .ok (.iastore, 1) := ax_dec dX2_step_q1_ok 2 (58, .iastore, 1) rfl
theorem dX2_step_59 : decode cX2_step 59 = .ok (.iload_n 3, 1) := ax_dec dX2_step_q1_ok 3 (59, .iload_n 3, 1) rfl
theorem dX2_step_60 : decode cX2_step 60 = .ok (.iconst 1, 1) := ax_dec dX2_step_q1_ok 4 (60, .iconst 1, 1) rfl
theorem dX2_step_61 : decode cX2_step 61 = .ok (.iadd, 1) := ax_dec dX2_step_q1_ok 5 (61, .iadd, 1) rfl
theorem dX2_step_62 : decode cX2_step 62 = .ok (.ireturn, 1) := ax_dec dX2_step_q1_ok 6 (62, .ireturn, 1) rfl
theorem dX2_step_63 : decode cX2_step 63 = .ok (.iload_n 3, 1) := ax_dec dX2_step_q1_ok 7 (63, .iload_n 3, 1) rfl
theorem dX2_step_64 : decode cX2_step 64 = .ok (.iconst 1, 1) := ax_dec dX2_step_q1_ok 8 (64, .iconst 1, 1) rfl
theorem dX2_step_65 : decode cX2_step 65 = .ok (.isub, 1) := ax_dec dX2_step_q1_ok 9 (65, .isub, 1) rfl
theorem dX2_step_66 : decode cX2_step 66 = .ok (.istore 4, 2) := ax_dec dX2_step_q1_ok 10 (66, .istore 4, 2) rfl
theorem dX2_step_68 : decode cX2_step 68 = .ok (.iload 4, 2) := ax_dec dX2_step_q1_ok 11 (68, .iload 4, 2) rfl
theorem dX2_step_70 : decode cX2_step 70 = .ok (.ifCond .lt 13, 3) := ax_dec dX2_step_q1_ok 12 (70, .ifCond .lt 13, 3) rfl
theorem dX2_step_73 : decode cX2_step 73 = .ok (.iload 4, 2) := ax_dec dX2_step_q1_ok 13 (73, .iload 4, 2) rfl
theorem dX2_step_75 : decode cX2_step 75 = .ok (.aload_n 0, 1) := ax_dec dX2_step_q1_ok 14 (75, .aload_n 0, 1) rfl
theorem dX2_step_76 : decode cX2_step 76 = .ok (.getfield 15, 3) := ax_dec dX2_step_q1_ok 15 (76, .getfield 15, 3) rfl
theorem dX2_step_79 : decode cX2_step 79 = .ok (.arraylength, 1) := ax_dec dX2_step_q1_ok 16 (79, .arraylength, 1) rfl
theorem dX2_step_80 : decode cX2_step 80 = .ok (.if_icmp .lt 5, 3) := ax_dec dX2_step_q1_ok 17 (80, .if_icmp .lt 5, 3) rfl
theorem dX2_step_83 : decode cX2_step 83 = .ok (.iconst 0, 1) := ax_dec dX2_step_q1_ok 18 (83, .iconst 0, 1) rfl
theorem dX2_step_84 : decode cX2_step 84 = .ok (.ireturn, 1) := ax_dec dX2_step_q1_ok 19 (84, .ireturn, 1) rfl
theorem dX2_step_85 : decode cX2_step 85 = .ok (.aload_n 0, 1) := ax_dec dX2_step_q1_ok 20 (85, .aload_n 0, 1) rfl
theorem dX2_step_86 : decode cX2_step 86 = .ok (.getfield 15, 3) := ax_dec dX2_step_q1_ok 21 (86, .getfield 15, 3) rfl
theorem dX2_step_89 : decode cX2_step 89 = .ok (.iload 4, 2) := ax_dec dX2_step_q1_ok 22 (89, .iload 4, 2) rfl
theorem dX2_step_91 : decode cX2_step 91 = .ok (.iaload, 1) := ax_dec dX2_step_q1_ok 23 (91, .iaload, 1) rfl
theorem dX2_step_92 : decode cX2_step 92 = .ok (.istore 5, 2) := ax_dec dX2_step_q1_ok 24 (92, .istore 5, 2) rfl
theorem dX2_step_94 : decode cX2_step 94 = .ok (.iload_n 1, 1) := ax_dec dX2_step_q1_ok 25 (94, .iload_n 1, 1) rfl
theorem dX2_step_95 : decode cX2_step 95 = .ok (.bipush 13, 2) := ax_dec dX2_step_q1_ok 26 (95, .bipush 13, 2) rfl
theorem dX2_step_97 : decode cX2_step 97 = .ok (.if_icmp .eq 9, 3) := ax_dec dX2_step_q1_ok 27 (97, .if_icmp .eq 9, 3) rfl
theorem dX2_step_100 : decode cX2_step 100 = .ok (.iload_n 1, 1) := ax_dec dX2_step_q1_ok 28 (100, .iload_n 1, 1) rfl
theorem dX2_step_101 : decode cX2_step 101 = .ok (.bipush 7, 2) := ax_dec dX2_step_q1_ok 29 (101, .bipush 7, 2) rfl
theorem dX2_step_103 : decode cX2_step 103 = .ok (.if_icmp .ne 34, 3) := ax_dec dX2_step_q1_ok 30 (103, .if_icmp .ne 34, 3) rfl
theorem dX2_step_106 : decode cX2_step 106 = .ok (.aload_n 0, 1) := ax_dec dX2_step_q1_ok 31 (106, .aload_n 0, 1) rfl
def dX2_step_q2 : List (Nat × (Instr × Nat)) := [(107, .getfield 15, 3), (110, .iload 4, 2), (112, .iload_n 1, 1), (113, .bipush 13, 2), (115, .if_icmp .ne 9, 3), (118, .iload 5, 2), (120, .ineg, 1), (121, .goto 13, 3), (124, .iload 5, 2), (126, .ifCond .ne 7, 3), (129, .iconst 1, 1), (130, .goto 4, 3), (133, .iconst 0, 1), (134, .iastore, 1), (135, .iload_n 3, 1), (136, .ireturn, 1), (137, .iload 4, 2), (139, .ifCond .ne 5, 3), (142, .iconst 0, 1), (143, .ireturn, 1), (144, .aload_n 0, 1), (145, .getfield 15, 3), (148, .iload 4, 2), (150, .iconst 1, 1), (151, .isub, 1), (152, .iload_n 1, 1), (153, .aload_n 0, 1), (154, .getfield 15, 3), (157, .iload 4, 2), (159, .iconst 1, 1), (160, .isub, 1), (161, .iaload, 1)]
set_option maxRecDepth 100000 in
theorem dX2_step_q2_ok : ax_decs cX2_step dX2_step_q2 = true := by decide +kernel
theorem dX2_step_107 : decode cX2_step 107 = .ok (.getfield 15, 3) := ax_dec dX2_step_q2_ok 0 (107, .getfield 15, 3) rfl
theorem dX2_step_110 : decode cX2_step 110 = .ok (.iload 4, 2) := ax_dec dX2_step_q2_ok 1 (110, .iload 4, 2) rfl
theorem dX2_step_112 : decode cX2_step 112 = .ok (.iload_n 1, 1) := ax_dec dX2_step_q2_ok 2 (112, .iload_n 1, 1) rfl
theorem dX2_step_113 : decode cX2_step 113 = .ok (.bipush 13, 2) := ax_dec dX2_step_q2_ok 3 (113, .bipush 13, 2) rfl
theorem dX2_step_115 : decode cX2_step 115 = .ok (.if_icmp .ne 9, 3) := ax_dec dX2_step_q2_ok 4 (115, .if_icmp .ne 9, 3) rfl
theorem dX2_step_118 : decode cX2_step 118 = .ok (.iload 5, 2) := ax_dec dX2_step_q2_ok 5 (118, .iload 5, 2) rfl
theorem dX2_step_120 : decode cX2_step 120 = .ok (.ineg, 1) := ax_dec dX2_step_q2_ok 6 (120, .ineg, 1) rfl
theorem dX2_step_121 : decode cX2_step 121 = .ok (.goto 13, 3) := ax_dec dX2_step_q2_ok 7 (121, .goto 13, 3) rfl
theorem dX2_step_124 : decode cX2_step 124 = .ok (.iload 5, 2) := ax_dec dX2_step_q2_ok 8 (124, .iload 5, 2) rfl
theorem dX2_step_126 : decode cX2_step 126 = .ok (.ifCond .ne 7, 3) := ax_dec dX2_step_q2_ok 9 (126, .ifCond .ne 7, 3) rfl
theorem dX2_step_129 : decode cX2_step 129 = .ok (.iconst 1, 1) := ax_dec dX2_step_q2_ok 10 (129, .iconst 1, 1) rfl
theorem dX2_step_130 : decode cX2_step 130 = .ok (.goto 4, 3) := ax_dec dX2_step_q2_ok 11 (130, .goto 4, 3) rfl
theorem dX2_step_133 : decode cX2_step 133 = .ok (.iconst 0, 1) := ax_dec dX2_step_q2_ok 12 (133, .iconst 0, 1) rfl
theorem dX2_step_134 : decode cX2_step 134 = .ok (.iastore, 1) := ax_dec dX2_step_q2_ok 13 (134, .iastore, 1) rfl
theorem dX2_step_135 : decode cX2_step 135 = .ok (.iload_n 3, 1) := ax_dec dX2_step_q2_ok 14 (135, .iload_n 3, 1) rfl
theorem dX2_step_136 : decode cX2_step 136 = .ok (.ireturn, 1) := ax_dec dX2_step_q2_ok 15 (136, .ireturn, 1) rfl
theorem dX2_step_137 : decode cX2_step 137 = .ok (.iload 4, 2) := ax_dec dX2_step_q2_ok 16 (137, .iload 4, 2) rfl
theorem dX2_step_139 : decode cX2_step 139 = .ok (.ifCond .ne 5, 3) := ax_dec dX2_step_q2_ok 17 (139, .ifCond .ne 5, 3) rfl
theorem dX2_step_142 : decode cX2_step 142 = .ok (.iconst 0, 1) := ax_dec dX2_step_q2_ok 18 (142, .iconst 0, 1) rfl
theorem dX2_step_143 : decode cX2_step 143 = .ok (.ireturn, 1) := ax_dec dX2_step_q2_ok 19 (143, .ireturn, 1) rfl
theorem dX2_step_144 : decode cX2_step 144 = .ok (.aload_n 0, 1) := ax_dec dX2_step_q2_ok 20 (144, .aload_n 0, 1) rfl
theorem dX2_step_145 : decode cX2_step 145 = .ok (.getfield 15, 3) := ax_dec dX2_step_q2_ok 21 (145, .getfield 15, 3) rfl
theorem dX2_step_148 : decode cX2_step 148 = .ok (.iload 4, 2) := ax_dec dX2_step_q2_ok 22 (148, .iload 4, 2) rfl
theorem dX2_step_150 : decode cX2_step 150 = .ok (.iconst 1, 1) := ax_dec dX2_step_q2_ok 23 (150, .iconst 1, 1) rfl
theorem dX2_step_151 : decode cX2_step 151 = .ok (.isub, 1) := ax_dec dX2_step_q2_ok 24 (151, .isub, 1) rfl
theorem dX2_step_152 : decode cX2_step 152 = .ok (.iload_n 1, 1) := ax_dec dX2_step_q2_ok 25 (152, .iload_n 1, 1) rfl
theorem dX2_step_153 : decode cX2_step 153 = .ok (.aload_n 0, 1) := ax_dec dX2_step_q2_ok 26 (153, .aload_n 0, 1) rfl
theorem dX2_step_154 : decode cX2_step 154 = .ok (.getfield 15, 3) := ax_dec dX2_step_q2_ok 27 (154, .getfield 15, 3) rfl
theorem dX2_step_157 : decode cX2_step 157 = .ok (.iload 4, 2) := ax_dec dX2_step_q2_ok 28 (157, .iload 4, 2) rfl
theorem dX2_step_159 : decode cX2_step 159 = .ok (.iconst 1, 1) := ax_dec dX2_step_q2_ok 29 (159, .iconst 1, 1) rfl
theorem dX2_step_160 : decode cX2_step 160 = .ok (.isub, 1) := ax_dec dX2_step_q2_ok 30 (160, .isub, 1) rfl
theorem dX2_step_161 : decode cX2_step 161 = .ok (.iaload, 1) := ax_dec dX2_step_q2_ok 31 (161, .iaload, 1) rfl
def dX2_step_q3 : List (Nat × (Instr × Nat)) := [(162, .iload 5, 2), (164, .invokestatic 66, 3), (167, .iastore, 1), (168, .iload 4, 2), (170, .ireturn, 1)]
set_option maxRecDepth 100000 in
theorem dX2_step_q3_ok : ax_decs cX2_step dX2_step_q3 = true := by decide +kernel
theorem dX2_step_162 : decode cX2_step 162 = .ok (.iload 5, 2) := ax_dec dX2_step_q3_ok 0 (162, .iload 5, 2) rfl
theorem dX2_step_164 : decode cX2_step 164 = .ok (.invokestatic 66, 3) := ax_dec dX2_step_q3_ok 1 (164, .invokestatic 66, 3) rfl
theorem dX2_step_167 : decode cX2_step 167 = .ok (.iastore, 1) := ax_dec dX2_step_q3_ok 2 (167, .iastore, 1) rfl
theorem dX2_step_168 : decode cX2_step 168 = .ok (.iload 4, 2) := ax_dec dX2_step_q3_ok 3 (168, .iload 4, 2) rfl
theorem dX2_step_170 : decode cX2_step 170 = .ok (.ireturn, 1) := ax_dec dX2_step_q3_ok 4 (170, .ireturn, 1) rfl
def dX2_joined_q0 : List (Nat × (Instr × Nat)) := [(0, .iload_n 0, 1), (1, .tableswitch 101 5 11 #[43, 57, 101, 71, 82, 93, 97], 43), (44, .iload_n 1, 1), (45, .ifCond .ne 7, 3), (48, .iload_n 2, 1), (49, .ifCond .eq 7, 3), (52, .iconst 1, 1), (53, .goto 4, 3), (56, .iconst 0, 1), (57, .ireturn, 1), (58, .iload_n 1, 1), (59, .ifCond .eq 11, 3), (62, .iload_n 2, 1), (63, .ifCond .eq 7, 3), (66, .iconst 1, 1), (67, .goto 4, 3), (70, .iconst 0, 1), (71, .ireturn, 1), (72, .iload_n 1, 1), (73, .iload_n 2, 1), (74, .if_icmp .ge 7, 3), (77, .iconst 1, 1), (78, .goto 4, 3), (81, .iconst 0, 1), (82, .ireturn, 1), (83, .iload_n 1, 1), (84, .iload_n 2, 1), (85, .if_icmp .ne 7, 3), (88, .iconst 1, 1), (89, .goto 4, 3), (92, .iconst 0, 1), (93, .ireturn, 1)]
set_option maxRecDepth 100000 in
theorem dX2_joined_q0_ok : ax_decs cX2_joined dX2_joined_q0 = true := by decide +kernel
theorem dX2_joined_0 : decode cX2_joined 0 = .ok (.iload_n 0, 1) := ax_dec dX2_joined_q0_ok 0 (0, .iload_n 0, 1) rfl
theorem dX2_joined_1 : decode cX2_joined 1 = .ok (.tableswitch 101 5 11 #[43, 57, 101, 71, 82, 93, 97], 43) := ax_dec dX2_joined_q0_ok 1 (1, .tableswitch 101 5 11 #[43, 57, 101, 71, 82, 93, 97], 43) rfl
theorem dX2_joined_44 : decode cX2_joined 44 = .ok (.iload_n 1, 1) := ax_dec dX2_joined_q0_ok 2 (44, .iload_n 1, 1) rfl
theorem dX2_joined_45 : decode cX2_joined 45 = .ok (.ifCond .ne 7, 3) := ax_dec dX2_joined_q0_ok 3 (45, .ifCond .ne 7, 3) rfl
theorem dX2_joined_48 : decode cX2_joined 48 = .ok (.iload_n 2, 1) := ax_dec dX2_joined_q0_ok 4 (48, .iload_n 2, 1) rfl
theorem dX2_joined_49 : decode cX2_joined 49 = .ok (.ifCond .eq 7, 3) := ax_dec dX2_joined_q0_ok 5 (49, .ifCond .eq 7, 3) rfl
theorem dX2_joined_52 : decode cX2_joined 52 = .ok (.iconst 1, 1) := ax_dec dX2_joined_q0_ok 6 (52, .iconst 1, 1) rfl
theorem dX2_joined_53 : decode cX2_joined 53 = .ok (.goto 4, 3) := ax_dec dX2_joined_q0_ok 7 (53, .goto 4, 3) rfl
theorem dX2_joined_56 : decode cX2_joined 56 = .ok (.iconst 0, 1) := ax_dec dX2_joined_q0_ok 8 (56, .iconst 0, 1) rfl
theorem dX2_joined_57 : decode cX2_joined 57 = .ok (.ireturn, 1) := ax_dec dX2_joined_q0_ok 9 (57, .ireturn, 1) rfl
theorem dX2_joined_58 : decode cX2_joined 58 = .ok (.iload_n 1, 1) := ax_dec dX2_joined_q0_ok 10 (58, .iload_n 1, 1) rfl
theorem dX2_joined_59 : decode cX2_joined 59 = .ok (.ifCond .eq 11, 3) := ax_dec dX2_joined_q0_ok 11 (59, .ifCond .eq 11, 3) rfl
theorem dX2_joined_62 : decode cX2_joined 62 = .ok (.iload_n 2, 1) := ax_dec dX2_joined_q0_ok 12 (62, .iload_n 2, 1) rfl
theorem dX2_joined_63 : decode cX2_joined 63 = .ok (.ifCond .eq 7, 3) := ax_dec dX2_joined_q0_ok 13 (63, .ifCond .eq 7, 3) rfl
theorem dX2_joined_66 : decode cX2_joined 66 = .ok (.iconst 1, 1) := ax_dec dX2_joined_q0_ok 14 (66, .iconst 1, 1) rfl
theorem dX2_joined_67 : decode cX2_joined 67 = .ok (.goto 4, 3) := ax_dec dX2_joined_q0_ok 15 (67, .goto 4, 3) rfl
theorem dX2_joined_70 : decode cX2_joined 70 = .ok (.iconst 0, 1) := ax_dec dX2_joined_q0_ok 16 (70, .iconst 0, 1) rfl
theorem dX2_joined_71 : decode cX2_joined 71 = .ok (.ireturn, 1) := ax_dec dX2_joined_q0_ok 17 (71, .ireturn, 1) rfl
theorem dX2_joined_72 : decode cX2_joined 72 = .ok (.iload_n 1, 1) := ax_dec dX2_joined_q0_ok 18 (72, .iload_n 1, 1) rfl
theorem dX2_joined_73 : decode cX2_joined 73 = .ok (.iload_n 2, 1) := ax_dec dX2_joined_q0_ok 19 (73, .iload_n 2, 1) rfl
theorem dX2_joined_74 : decode cX2_joined 74 = .ok (.if_icmp .ge 7, 3) := ax_dec dX2_joined_q0_ok 20 (74, .if_icmp .ge 7, 3) rfl
theorem dX2_joined_77 : decode cX2_joined 77 = .ok (.iconst 1, 1) := ax_dec dX2_joined_q0_ok 21 (77, .iconst 1, 1) rfl
theorem dX2_joined_78 : decode cX2_joined 78 = .ok (.goto 4, 3) := ax_dec dX2_joined_q0_ok 22 (78, .goto 4, 3) rfl
theorem dX2_joined_81 : decode cX2_joined 81 = .ok (.iconst 0, 1) := ax_dec dX2_joined_q0_ok 23 (81, .iconst 0, 1) rfl
theorem dX2_joined_82 : decode cX2_joined 82 = .ok (.ireturn, 1) := ax_dec dX2_joined_q0_ok 24 (82, .ireturn, 1) rfl
theorem dX2_joined_83 : decode cX2_joined 83 = .ok (.iload_n 1, 1) := ax_dec dX2_joined_q0_ok 25 (83, .iload_n 1, 1) rfl
theorem dX2_joined_84 : decode cX2_joined 84 = .ok (.iload_n 2, 1) := ax_dec dX2_joined_q0_ok 26 (84, .iload_n 2, 1) rfl
theorem dX2_joined_85 : decode cX2_joined 85 = .ok (.if_icmp .ne 7, 3) := ax_dec dX2_joined_q0_ok 27 (85, .if_icmp .ne 7, 3) rfl
theorem dX2_joined_88 : decode cX2_joined 88 = .ok (.iconst 1, 1) := ax_dec dX2_joined_q0_ok 28 (88, .iconst 1, 1) rfl
theorem dX2_joined_89 : decode cX2_joined 89 = .ok (.goto 4, 3) := ax_dec dX2_joined_q0_ok 29 (89, .goto 4, 3) rfl
theorem dX2_joined_92 : decode cX2_joined 92 = .ok (.iconst 0, 1) := ax_dec dX2_joined_q0_ok 30 (92, .iconst 0, 1) rfl
theorem dX2_joined_93 : decode cX2_joined 93 = .ok (.ireturn, 1) := ax_dec dX2_joined_q0_ok 31 (93, .ireturn, 1) rfl
def dX2_joined_q1 : List (Nat × (Instr × Nat)) := [(94, .iload_n 1, 1), (95, .iload_n 2, 1), (96, .iadd, 1), (97, .ireturn, 1), (98, .iload_n 1, 1), (99, .iload_n 2, 1), (100, .isub, 1), (101, .ireturn, 1), (102, .iload_n 1, 1), (103, .iload_n 2, 1), (104, .imul, 1), (105, .ireturn, 1)]
set_option maxRecDepth 100000 in
theorem dX2_joined_q1_ok : ax_decs cX2_joined dX2_joined_q1 = true := by decide +kernel
theorem dX2_joined_94 : decode cX2_joined 94 = .ok (.iload_n 1, 1) := ax_dec dX2_joined_q1_ok 0 (94, .iload_n 1, 1) rfl
theorem dX2_joined_95 : decode cX2_joined 95 = .ok (.iload_n 2, 1) := ax_dec dX2_joined_q1_ok 1 (95, .iload_n 2, 1) rfl
theorem dX2_joined_96 : decode cX2_joined 96 = .ok (.iadd, 1) := ax_dec dX2_joined_q1_ok 2 (96, .iadd, 1) rfl
theorem dX2_joined_97 : decode cX2_joined 97 = .ok (.ireturn, 1) := ax_dec dX2_joined_q1_ok 3 (97, .ireturn, 1) rfl
theorem dX2_joined_98 : decode cX2_joined 98 = .ok (.iload_n 1, 1) := ax_dec dX2_joined_q1_ok 4 (98, .iload_n 1, 1) rfl
theorem dX2_joined_99 : decode cX2_joined 99 = .ok (.iload_n 2, 1) := ax_dec dX2_joined_q1_ok 5 (99, .iload_n 2, 1) rfl
theorem dX2_joined_100 : decode cX2_joined 100 = .ok (.isub, 1) := ax_dec dX2_joined_q1_ok 6 (100, .isub, 1) rfl
theorem dX2_joined_101 : decode cX2_joined 101 = .ok (.ireturn, 1) := ax_dec dX2_joined_q1_ok 7 (101, .ireturn, 1) rfl
theorem dX2_joined_102 : decode cX2_joined 102 = .ok (.iload_n 1, 1) := ax_dec dX2_joined_q1_ok 8 (102, .iload_n 1, 1) rfl
theorem dX2_joined_103 : decode cX2_joined 103 = .ok (.iload_n 2, 1) := ax_dec dX2_joined_q1_ok 9 (103, .iload_n 2, 1) rfl
theorem dX2_joined_104 : decode cX2_joined 104 = .ok (.imul, 1) := ax_dec dX2_joined_q1_ok 10 (104, .imul, 1) rfl
theorem dX2_joined_105 : decode cX2_joined 105 = .ok (.ireturn, 1) := ax_dec dX2_joined_q1_ok 11 (105, .ireturn, 1) rfl
def dX3_init_q0 : List (Nat × (Instr × Nat)) := [(0, .aload_n 0, 1), (1, .invokespecial 3, 3), (4, .aload_n 0, 1), (5, .sipush 160, 3), (8, .newarray .int, 2), (10, .putfield 9, 3), (13, .aload_n 0, 1), (14, .sipush 160, 3), (17, .newarray .int, 2), (19, .putfield 15, 3), (22, .return_, 1)]
set_option maxRecDepth 100000 in
theorem dX3_init_q0_ok : ax_decs cX3_init dX3_init_q0 = true := by decide +kernel
theorem dX3_init_0 : decode cX3_init 0 = .ok (.aload_n 0, 1) := ax_dec dX3_init_q0_ok 0 (0, .aload_n 0, 1) rfl
theorem dX3_init_1 : decode cX3_init 1 = .ok (.invokespecial 3, 3) := ax_dec dX3_init_q0_ok 1 (1, .invokespecial 3, 3) rfl
theorem dX3_init_4 : decode cX3_init 4 = .ok (.aload_n 0, 1) := ax_dec dX3_init_q0_ok 2 (4, .aload_n 0, 1) rfl
theorem dX3_init_5 : decode cX3_init 5 = .ok (.sipush 160, 3) := ax_dec dX3_init_q0_ok 3 (5, .sipush 160, 3) rfl
theorem dX3_init_8 : decode cX3_init 8 = .ok (.newarray .int, 2) := ax_dec dX3_init_q0_ok 4 (8, .newarray .int, 2) rfl
theorem dX3_init_10 : decode cX3_init 10 = .ok (.putfield 9, 3) := ax_dec dX3_init_q0_ok 5 (10, .putfield 9, 3) rfl
theorem dX3_init_13 : decode cX3_init 13 = .ok (.aload_n 0, 1) := ax_dec dX3_init_q0_ok 6 (13, .aload_n 0, 1) rfl
theorem dX3_init_14 : decode cX3_init 14 = .ok (.sipush 160, 3) := ax_dec dX3_init_q0_ok 7 (14, .sipush 160, 3) rfl
theorem dX3_init_17 : decode cX3_init 17 = .ok (.newarray .int, 2) := ax_dec dX3_init_q0_ok 8 (17, .newarray .int, 2) rfl
theorem dX3_init_19 : decode cX3_init 19 = .ok (.putfield 15, 3) := ax_dec dX3_init_q0_ok 9 (19, .putfield 15, 3) rfl
theorem dX3_init_22 : decode cX3_init 22 = .ok (.return_, 1) := ax_dec dX3_init_q0_ok 10 (22, .return_, 1) rfl
def dX3_append_q0 : List (Nat × (Instr × Nat)) := [(0, .aload_n 0, 1), (1, .getfield 18, 3), (4, .ifCond .lt 35, 3), (7, .aload_n 0, 1), (8, .getfield 18, 3), (11, .aload_n 0, 1), (12, .getfield 9, 3), (15, .arraylength, 1), (16, .if_icmp .ge 23, 3), (19, .aload_n 0, 1), (20, .getfield 9, 3), (23, .aload_n 0, 1), (24, .getfield 18, 3), (27, .iload_n 1, 1), (28, .iastore, 1), (29, .aload_n 0, 1), (30, .dup, 1), (31, .getfield 18, 3), (34, .iconst 1, 1), (35, .iadd, 1), (36, .putfield 18, 3), (39, .return_, 1)]
set_option maxRecDepth 100000 in
theorem dX3_append_q0_ok : ax_decs cX3_append dX3_append_q0 = true := by decide +kernel
theorem dX3_append_0 : decode cX3_append 0 = .ok (.aload_n 0, 1) := ax_dec dX3_append_q0_ok 0 (0, .aload_n 0, 1) rfl
theorem dX3_append_1 : decode cX3_append 1 = .ok (.getfield 18, 3) := ax_dec dX3_append_q0_ok 1 (1, .getfield 18, 3) rfl
theorem dX3_append_4 : decode cX3_append 4 = .ok (.ifCond .lt 35, 3) := ax_dec dX3_append_q0_ok 2 (4, .ifCond .lt 35, 3) rfl
theorem dX3_append_7 : decode cX3_append 7 = .ok (.aload_n 0, 1) := ax_dec dX3_append_q0_ok 3 (7, .aload_n 0, 1) rfl
theorem dX3_append_8 : decode cX3_append 8 = .ok (.getfield 18, 3) := ax_dec dX3_append_q0_ok 4 (8, .getfield 18, 3) rfl
theorem dX3_append_11 : decode cX3_append 11 = .ok (.aload_n 0, 1) := ax_dec dX3_append_q0_ok 5 (11, .aload_n 0, 1) rfl
theorem dX3_append_12 : decode cX3_append 12 = .ok (.getfield 9, 3) := ax_dec dX3_append_q0_ok 6 (12, .getfield 9, 3) rfl
theorem dX3_append_15 : decode cX3_append 15 = .ok (.arraylength, 1) := ax_dec dX3_append_q0_ok 7 (15, .arraylength, 1) rfl
theorem dX3_append_16 : decode cX3_append 16 = .ok (.if_icmp .ge 23, 3) := ax_dec dX3_append_q0_ok 8 (16, .if_icmp .ge 23, 3) rfl
theorem dX3_append_19 : decode cX3_append 19 = .ok (.aload_n 0, 1) := ax_dec dX3_append_q0_ok 9 (19, .aload_n 0, 1) rfl
theorem dX3_append_20 : decode cX3_append 20 = .ok (.getfield 9, 3) := ax_dec dX3_append_q0_ok 10 (20, .getfield 9, 3) rfl
theorem dX3_append_23 : decode cX3_append 23 = .ok (.aload_n 0, 1) := ax_dec dX3_append_q0_ok 11 (23, .aload_n 0, 1) rfl
theorem dX3_append_24 : decode cX3_append 24 = .ok (.getfield 18, 3) := ax_dec dX3_append_q0_ok 12 (24, .getfield 18, 3) rfl
theorem dX3_append_27 : decode cX3_append 27 = .ok (.iload_n 1, 1) := ax_dec dX3_append_q0_ok 13 (27, .iload_n 1, 1) rfl
theorem dX3_append_28 : decode cX3_append 28 = .ok (.iastore, 1) := ax_dec dX3_append_q0_ok 14 (28, .iastore, 1) rfl
theorem dX3_append_29 : decode cX3_append 29 = .ok (.aload_n 0, 1) := ax_dec dX3_append_q0_ok 15 (29, .aload_n 0, 1) rfl
theorem dX3_append_30 : decode cX3_append 30 = .ok (.dup, 1) := ax_dec dX3_append_q0_ok 16 (30, .dup, 1) rfl
theorem dX3_append_31 : decode cX3_append 31 = .ok (.getfield 18, 3) := ax_dec dX3_append_q0_ok 17 (31, .getfield 18, 3) rfl
theorem dX3_append_34 : decode cX3_append 34 = .ok (.iconst 1, 1) := ax_dec dX3_append_q0_ok 18 (34, .iconst 1, 1) rfl
theorem dX3_append_35 : decode cX3_append 35 = .ok (.iadd, 1) := ax_dec dX3_append_q0_ok 19 (35, .iadd, 1) rfl
theorem dX3_append_36 : decode cX3_append 36 = .ok (.putfield 18, 3) := ax_dec dX3_append_q0_ok 20 (36, .putfield 18, 3) rfl
theorem dX3_append_39 : decode cX3_append 39 = .ok (.return_, 1) := ax_dec dX3_append_q0_ok 21 (39, .return_, 1) rfl
def dX3_write_q0 : List (Nat × (Instr × Nat)) := [(0, .iconst 0, 1), (1, .istore_n 2, 1), (2, .iload_n 2, 1), (3, .aload_n 1, 1), (4, .invokevirtual 22, 3), (7, .if_icmp .ge 18, 3), (10, .aload_n 0, 1), (11, .aload_n 1, 1), (12, .iload_n 2, 1), (13, .invokevirtual 28, 3), (16, .invokevirtual 32, 3), (19, .iinc 2 1, 3), (22, .goto (-20), 3), (25, .return_, 1)]
set_option maxRecDepth 100000 in
theorem dX3_write_q0_ok : ax_decs cX3_write dX3_write_q0 = true := by decide +kernel
theorem dX3_write_0 : decode cX3_write 0 = .ok (.iconst 0, 1) := ax_dec dX3_write_q0_ok 0 (0, .iconst 0, 1) rfl
theorem dX3_write_1 : decode cX3_write 1 = .ok (.istore_n 2, 1) := ax_dec dX3_write_q0_ok 1 (1, .istore_n 2, 1) rfl
theorem dX3_write_2 : decode cX3_write 2 = .ok (.iload_n 2, 1) := ax_dec dX3_write_q0_ok 2 (2, .iload_n 2, 1) rfl
theorem dX3_write_3 : decode cX3_write 3 = .ok (.aload_n 1, 1) := ax_dec dX3_write_q0_ok 3 (3, .aload_n 1, 1) rfl
theorem dX3_write_4 : decode cX3_write 4 = .ok (.invokevirtual 22, 3) := ax_dec dX3_write_q0_ok 4 (4, .invokevirtual 22, 3) rfl
theorem dX3_write_7 : decode cX3_write 7 = .ok (.if_icmp .ge 18, 3) := ax_dec dX3_write_q0_ok 5 (7, .if_icmp .ge 18, 3) rfl
theorem dX3_write_10 : decode cX3_write 10 = .ok (.aload_n 0, 1) := ax_dec dX3_write_q0_ok 6 (10, .aload_n 0, 1) rfl
theorem dX3_write_11 : decode cX3_write 11 = .ok (.aload_n 1, 1) := ax_dec dX3_write_q0_ok 7 (11, .aload_n 1, 1) rfl
theorem dX3_write_12 : decode cX3_write 12 = .ok (.iload_n 2, 1) := ax_dec dX3_write_q0_ok 8 (12, .iload_n 2, 1) rfl
theorem dX3_write_13 : decode cX3_write 13 = .ok (.invokevirtual 28, 3) := ax_dec dX3_write_q0_ok 9 (13, .invokevirtual 28, 3) rfl
theorem dX3_write_16 : decode cX3_write 16 = .ok (.invokevirtual 32, 3) := ax_dec dX3_write_q0_ok 10 (16, .invokevirtual 32, 3) rfl
theorem dX3_write_19 : decode cX3_write 19 = .ok (.iinc 2 1, 3) := ax_dec dX3_write_q0_ok 11 (19, .iinc 2 1, 3) rfl
theorem dX3_write_22 : decode cX3_write 22 = .ok (.goto (-20), 3) := ax_dec dX3_write_q0_ok 12 (22, .goto (-20), 3) rfl
theorem dX3_write_25 : decode cX3_write 25 = .ok (.return_, 1) := ax_dec dX3_write_q0_ok 13 (25, .return_, 1) rfl
def dX3_read_q0 : List (Nat × (Instr × Nat)) := [(0, .aload_n 1, 1), (1, .invokevirtual 36, 3), (4, .aload_n 0, 1), (5, .iconst 0, 1), (6, .putfield 41, 3), (9, .iconst 1, 1), (10, .istore_n 2, 1), (11, .iconst 0, 1), (12, .istore_n 3, 1), (13, .iload_n 3, 1), (14, .iconst 2, 1), (15, .if_icmp .gt 52, 3), (18, .iload_n 2, 1), (19, .ifCond .eq 48, 3), (22, .aload_n 0, 1), (23, .invokevirtual 44, 3), (26, .aload_n 0, 1), (27, .getfield 47, 3), (30, .iconst 4, 1), (31, .if_icmp .ne 23, 3), (34, .aload_n 0, 1), (35, .getfield 52, 3), (38, .iload_n 3, 1), (39, .if_icmp .ne 15, 3), (42, .aload_n 0, 1), (43, .aload_n 1, 1), (44, .invokevirtual 55, 3), (47, .ifCond .eq 7, 3), (50, .iconst 1, 1), (51, .goto 4, 3), (54, .iconst 0, 1), (55, .istore_n 2, 1)]
set_option maxRecDepth 100000 in
theorem dX3_read_q0_ok : ax_decs cX3_read dX3_read_q0 = true := by decide +kernel
theorem dX3_read_0 : decode cX3_read 0 = .ok (.aload_n 1, 1) := ax_dec dX3_read_q0_ok 0 (0, .aload_n 1, 1) rfl
theorem dX3_read_1 : decode cX3_read 1 = .ok (.invokevirtual 36, 3) := ax_dec dX3_read_q0_ok 1 (1, .invokevirtual 36, 3) rfl
theorem dX3_read_4 : decode cX3_read 4 = .ok (.aload_n 0, 1) := ax_dec dX3_read_q0_ok 2 (4, .aload_n 0, 1) rfl
theorem dX3_read_5 : decode cX3_read 5 = .ok (.iconst 0, 1) := ax_dec dX3_read_q0_ok 3 (5, .iconst 0, 1) rfl
theorem dX3_read_6 : decode cX3_read 6 = .ok (.putfield 41, 3) := ax_dec dX3_read_q0_ok 4 (6, .putfield 41, 3) rfl
theorem dX3_read_9 : decode cX3_read 9 = .ok (.iconst 1, 1) := ax_dec dX3_read_q0_ok 5 (9, .iconst 1, 1) rfl
theorem dX3_read_10 : decode cX3_read 10 = .ok (.istore_n 2, 1) := ax_dec dX3_read_q0_ok 6 (10, .istore_n 2, 1) rfl
theorem dX3_read_11 : decode cX3_read 11 = .ok (.iconst 0, 1) := ax_dec dX3_read_q0_ok 7 (11, .iconst 0, 1) rfl
theorem dX3_read_12 : decode cX3_read 12 = .ok (.istore_n 3, 1) := ax_dec dX3_read_q0_ok 8 (12, .istore_n 3, 1) rfl
theorem dX3_read_13 : decode cX3_read 13 = .ok (.iload_n 3, 1) := ax_dec dX3_read_q0_ok 9 (13, .iload_n 3, 1) rfl
theorem dX3_read_14 : decode cX3_read 14 = .ok (.iconst 2, 1) := ax_dec dX3_read_q0_ok 10 (14, .iconst 2, 1) rfl
theorem dX3_read_15 : decode cX3_read 15 = .ok (.if_icmp .gt 52, 3) := ax_dec dX3_read_q0_ok 11 (15, .if_icmp .gt 52, 3) rfl
theorem dX3_read_18 : decode cX3_read 18 = .ok (.iload_n 2, 1) := ax_dec dX3_read_q0_ok 12 (18, .iload_n 2, 1) rfl
theorem dX3_read_19 : decode cX3_read 19 = .ok (.ifCond .eq 48, 3) := ax_dec dX3_read_q0_ok 13 (19, .ifCond .eq 48, 3) rfl
theorem dX3_read_22 : decode cX3_read 22 = .ok (.aload_n 0, 1) := ax_dec dX3_read_q0_ok 14 (22, .aload_n 0, 1) rfl
theorem dX3_read_23 : decode cX3_read 23 = .ok (.invokevirtual 44, 3) := ax_dec dX3_read_q0_ok 15 (23, .invokevirtual 44, 3) rfl
theorem dX3_read_26 : decode cX3_read 26 = .ok (.aload_n 0, 1) := ax_dec dX3_read_q0_ok 16 (26, .aload_n 0, 1) rfl
theorem dX3_read_27 : decode cX3_read 27 = .ok (.getfield 47, 3) := ax_dec dX3_read_q0_ok 17 (27, .getfield 47, 3) rfl
theorem dX3_read_30 : decode cX3_read 30 = .ok (.iconst 4, 1) := ax_dec dX3_read_q0_ok 18 (30, .iconst 4, 1) rfl
theorem dX3_read_31 : decode cX3_read 31 = .ok (.if_icmp .ne 23, 3) := ax_dec dX3_read_q0_ok 19 (31, .if_icmp .ne 23, 3) rfl
theorem dX3_read_34 : decode cX3_read 34 = .ok (.aload_n 0, 1) := ax_dec dX3_read_q0_ok 20 (34, .aload_n 0, 1) rfl
theorem dX3_read_35 : decode cX3_read 35 = .ok (.getfield 52, 3) := ax_dec dX3_read_q0_ok 21 (35, .getfield 52, 3) rfl
theorem dX3_read_38 : decode cX3_read 38 = .ok (.iload_n 3, 1) := ax_dec dX3_read_q0_ok 22 (38, .iload_n 3, 1) rfl
theorem dX3_read_39 : decode cX3_read 39 = .ok (.if_icmp .ne 15, 3) := ax_dec dX3_read_q0_ok 23 (39, .if_icmp .ne 15, 3) rfl
theorem dX3_read_42 : decode cX3_read 42 = .ok (.aload_n 0, 1) := ax_dec dX3_read_q0_ok 24 (42, .aload_n 0, 1) rfl
theorem dX3_read_43 : decode cX3_read 43 = .ok (.aload_n 1, 1) := ax_dec dX3_read_q0_ok 25 (43, .aload_n 1, 1) rfl
theorem dX3_read_44 : decode cX3_read 44 = .ok (.invokevirtual 55, 3) := ax_dec dX3_read_q0_ok 26 (44, .invokevirtual 55, 3) rfl
theorem dX3_read_47 : decode cX3_read 47 = .ok (.ifCond .eq 7, 3) := ax_dec dX3_read_q0_ok 27 (47, .ifCond .eq 7, 3) rfl
theorem dX3_read_50 : decode cX3_read 50 = .ok (.iconst 1, 1) := ax_dec dX3_read_q0_ok 28 (50, .iconst 1, 1) rfl
theorem dX3_read_51 : decode cX3_read 51 = .ok (.goto 4, 3) := ax_dec dX3_read_q0_ok 29 (51, .goto 4, 3) rfl
theorem dX3_read_54 : decode cX3_read 54 = .ok (.iconst 0, 1) := ax_dec dX3_read_q0_ok 30 (54, .iconst 0, 1) rfl
theorem dX3_read_55 : decode cX3_read 55 = .ok (.istore_n 2, 1) := ax_dec dX3_read_q0_ok 31 (55, .istore_n 2, 1) rfl
def dX3_read_q1 : List (Nat × (Instr × Nat)) := [(56, .aload_n 1, 1), (57, .iload_n 3, 1), (58, .invokevirtual 59, 3), (61, .iinc 3 1, 3), (64, .goto (-51), 3), (67, .iload_n 2, 1), (68, .ifCond .eq 20, 3), (71, .aload_n 0, 1), (72, .invokevirtual 44, 3), (75, .aload_n 0, 1), (76, .getfield 47, 3), (79, .ifCond .ne 7, 3), (82, .iconst 1, 1), (83, .goto 4, 3), (86, .iconst 0, 1), (87, .istore_n 2, 1), (88, .aload_n 0, 1), (89, .iconst 0, 1), (90, .putfield 18, 3), (93, .iload_n 2, 1), (94, .ifCond .eq 7, 3), (97, .iconst (-1), 1), (98, .goto 7, 3), (101, .aload_n 0, 1), (102, .getfield 62, 3), (105, .ireturn, 1)]
set_option maxRecDepth 100000 in
theorem dX3_read_q1_ok : ax_decs cX3_read dX3_read_q1 = true := by decide +kernel
theorem dX3_read_56 : decode cX3_read 56 = .ok (.aload_n 1, 1) := ax_dec dX3_read_q1_ok 0 (56, .aload_n 1, 1) rfl
theorem dX3_read_57 : decode cX3_read 57 = .ok (.iload_n 3, 1) := ax_dec dX3_read_q1_ok 1 (57, .iload_n 3, 1) rfl
theorem dX3_read_58 : decode cX3_read 58 = .ok (.invokevirtual 59, 3) := ax_dec dX3_read_q1_ok 2 (58, .invokevirtual 59, 3) rfl
theorem dX3_read_61 : decode cX3_read 61 = .ok (.iinc 3 1, 3) := ax_dec dX3_read_q1_ok 3 (61, .iinc 3 1, 3) rfl
theorem dX3_read_64 : decode cX3_read 64 = .ok (.goto (-51), 3) := ax_dec dX3_read_q1_ok 4 (64, .goto (-51), 3) rfl
theorem dX3_read_67 : decode cX3_read 67 = .ok (.iload_n 2, 1) := ax_dec dX3_read_q1_ok 5 (67, .iload_n 2, 1) rfl
theorem dX3_read_68 : decode cX3_read 68 = .ok (.ifCond .eq 20, 3) := ax_dec dX3_read_q1_ok 6 (68, .ifCond .eq 20, 3) rfl
theorem dX3_read_71 : decode cX3_read 71 = .ok (.aload_n 0, 1) := ax_dec dX3_read_q1_ok 7 (71, .aload_n 0, 1) rfl
theorem dX3_read_72 : decode cX3_read 72 = .ok (.invokevirtual 44, 3) := ax_dec dX3_read_q1_ok 8 (72, .invokevirtual 44, 3) rfl
theorem dX3_read_75 : decode cX3_read 75 = .ok (.aload_n 0, 1) := ax_dec dX3_read_q1_ok 9 (75, .aload_n 0, 1) rfl
theorem dX3_read_76 : decode cX3_read 76 = .ok (.getfield 47, 3) := ax_dec dX3_read_q1_ok 10 (76, .getfield 47, 3) rfl
theorem dX3_read_79 : decode cX3_read 79 = .ok (.ifCond .ne 7, 3) := ax_dec dX3_read_q1_ok 11 (79, .ifCond .ne 7, 3) rfl
theorem dX3_read_82 : decode cX3_read 82 = .ok (.iconst 1, 1) := ax_dec dX3_read_q1_ok 12 (82, .iconst 1, 1) rfl
theorem dX3_read_83 : decode cX3_read 83 = .ok (.goto 4, 3) := ax_dec dX3_read_q1_ok 13 (83, .goto 4, 3) rfl
theorem dX3_read_86 : decode cX3_read 86 = .ok (.iconst 0, 1) := ax_dec dX3_read_q1_ok 14 (86, .iconst 0, 1) rfl
theorem dX3_read_87 : decode cX3_read 87 = .ok (.istore_n 2, 1) := ax_dec dX3_read_q1_ok 15 (87, .istore_n 2, 1) rfl
theorem dX3_read_88 : decode cX3_read 88 = .ok (.aload_n 0, 1) := ax_dec dX3_read_q1_ok 16 (88, .aload_n 0, 1) rfl
theorem dX3_read_89 : decode cX3_read 89 = .ok (.iconst 0, 1) := ax_dec dX3_read_q1_ok 17 (89, .iconst 0, 1) rfl
theorem dX3_read_90 : decode cX3_read 90 = .ok (.putfield 18, 3) := ax_dec dX3_read_q1_ok 18 (90, .putfield 18, 3) rfl
theorem dX3_read_93 : decode cX3_read 93 = .ok (.iload_n 2, 1) := ax_dec dX3_read_q1_ok 19 (93, .iload_n 2, 1) rfl
theorem dX3_read_94 : decode cX3_read 94 = .ok (.ifCond .eq 7, 3) := ax_dec dX3_read_q1_ok 20 (94, .ifCond .eq 7, 3) rfl
theorem dX3_read_97 : decode cX3_read 97 = .ok (.iconst (-1), 1) := ax_dec dX3_read_q1_ok 21 (97, .iconst (-1), 1) rfl
theorem dX3_read_98 : decode cX3_read 98 = .ok (.goto 7, 3) := ax_dec dX3_read_q1_ok 22 (98, .goto 7, 3) rfl
theorem dX3_read_101 : decode cX3_read 101 = .ok (.aload_n 0, 1) := ax_dec dX3_read_q1_ok 23 (101, .aload_n 0, 1) rfl
theorem dX3_read_102 : decode cX3_read 102 = .ok (.getfield 62, 3) := ax_dec dX3_read_q1_ok 24 (102, .getfield 62, 3) rfl
theorem dX3_read_105 : decode cX3_read 105 = .ok (.ireturn, 1) := ax_dec dX3_read_q1_ok 25 (105, .ireturn, 1) rfl
def dX3_readSaying_q0 : List (Nat × (Instr × Nat)) := [(0, .aload_n 0, 1), (1, .iconst 0, 1), (2, .putfield 65, 3), (5, .aload_n 0, 1), (6, .iconst 0, 1), (7, .putfield 68, 3), (10, .iconst 1, 1), (11, .istore_n 2, 1), (12, .iconst 0, 1), (13, .istore_n 3, 1), (14, .iload_n 3, 1), (15, .sipush 160, 3), (18, .if_icmp .gt 121, 3), (21, .aload_n 0, 1), (22, .invokevirtual 44, 3), (25, .iload_n 2, 1), (26, .ifCond .eq 45, 3), (29, .aload_n 0, 1), (30, .getfield 47, 3), (33, .iconst 2, 1), (34, .if_icmp .eq 11, 3), (37, .aload_n 0, 1), (38, .getfield 47, 3), (41, .iconst 3, 1), (42, .if_icmp .ne 20, 3), (45, .aload_n 1, 1), (46, .aload_n 0, 1), (47, .getfield 47, 3), (50, .aload_n 0, 1), (51, .getfield 52, 3), (54, .invokevirtual 71, 3), (57, .iconst 0, 1)]
set_option maxRecDepth 100000 in
theorem dX3_readSaying_q0_ok : ax_decs cX3_readSaying dX3_readSaying_q0 = true := by decide +kernel
theorem dX3_readSaying_0 : decode cX3_readSaying 0 = .ok (.aload_n 0, 1) := ax_dec dX3_readSaying_q0_ok 0 (0, .aload_n 0, 1) rfl
theorem dX3_readSaying_1 : decode cX3_readSaying 1 = .ok (.iconst 0, 1) := ax_dec dX3_readSaying_q0_ok 1 (1, .iconst 0, 1) rfl
theorem dX3_readSaying_2 : decode cX3_readSaying 2 = .ok (.putfield 65, 3) := ax_dec dX3_readSaying_q0_ok 2 (2, .putfield 65, 3) rfl
theorem dX3_readSaying_5 : decode cX3_readSaying 5 = .ok (.aload_n 0, 1) := ax_dec dX3_readSaying_q0_ok 3 (5, .aload_n 0, 1) rfl
theorem dX3_readSaying_6 : decode cX3_readSaying 6 = .ok (.iconst 0, 1) := ax_dec dX3_readSaying_q0_ok 4 (6, .iconst 0, 1) rfl
theorem dX3_readSaying_7 : decode cX3_readSaying 7 = .ok (.putfield 68, 3) := ax_dec dX3_readSaying_q0_ok 5 (7, .putfield 68, 3) rfl
theorem dX3_readSaying_10 : decode cX3_readSaying 10 = .ok (.iconst 1, 1) := ax_dec dX3_readSaying_q0_ok 6 (10, .iconst 1, 1) rfl
theorem dX3_readSaying_11 : decode cX3_readSaying 11 = .ok (.istore_n 2, 1) := ax_dec dX3_readSaying_q0_ok 7 (11, .istore_n 2, 1) rfl
theorem dX3_readSaying_12 : decode cX3_readSaying 12 = .ok (.iconst 0, 1) := ax_dec dX3_readSaying_q0_ok 8 (12, .iconst 0, 1) rfl
theorem dX3_readSaying_13 : decode cX3_readSaying 13 = .ok (.istore_n 3, 1) := ax_dec dX3_readSaying_q0_ok 9 (13, .istore_n 3, 1) rfl
theorem dX3_readSaying_14 : decode cX3_readSaying 14 = .ok (.iload_n 3, 1) := ax_dec dX3_readSaying_q0_ok 10 (14, .iload_n 3, 1) rfl
theorem dX3_readSaying_15 : decode cX3_readSaying 15 = .ok (.sipush 160, 3) := ax_dec dX3_readSaying_q0_ok 11 (15, .sipush 160, 3) rfl
theorem dX3_readSaying_18 : decode cX3_readSaying 18 = .ok (.if_icmp .gt 121, 3) := ax_dec dX3_readSaying_q0_ok 12 (18, .if_icmp .gt 121, 3) rfl
theorem dX3_readSaying_21 : decode cX3_readSaying 21 = .ok (.aload_n 0, 1) := ax_dec dX3_readSaying_q0_ok 13 (21, .aload_n 0, 1) rfl
theorem dX3_readSaying_22 : decode cX3_readSaying 22 = .ok (.invokevirtual 44, 3) := ax_dec dX3_readSaying_q0_ok 14 (22, .invokevirtual 44, 3) rfl
theorem dX3_readSaying_25 : decode cX3_readSaying 25 = .ok (.iload_n 2, 1) := ax_dec dX3_readSaying_q0_ok 15 (25, .iload_n 2, 1) rfl
theorem dX3_readSaying_26 : decode cX3_readSaying 26 = .ok (.ifCond .eq 45, 3) := ax_dec dX3_readSaying_q0_ok 16 (26, .ifCond .eq 45, 3) rfl
theorem dX3_readSaying_29 : decode cX3_readSaying 29 = .ok (.aload_n 0, 1) := ax_dec dX3_readSaying_q0_ok 17 (29, .aload_n 0, 1) rfl
theorem dX3_readSaying_30 : decode cX3_readSaying 30 = .ok (.getfield 47, 3) := ax_dec dX3_readSaying_q0_ok 18 (30, .getfield 47, 3) rfl
theorem dX3_readSaying_33 : decode cX3_readSaying 33 = .ok (.iconst 2, 1) := ax_dec dX3_readSaying_q0_ok 19 (33, .iconst 2, 1) rfl
theorem dX3_readSaying_34 : decode cX3_readSaying 34 = .ok (.if_icmp .eq 11, 3) := ax_dec dX3_readSaying_q0_ok 20 (34, .if_icmp .eq 11, 3) rfl
theorem dX3_readSaying_37 : decode cX3_readSaying 37 = .ok (.aload_n 0, 1) := ax_dec dX3_readSaying_q0_ok 21 (37, .aload_n 0, 1) rfl
theorem dX3_readSaying_38 : decode cX3_readSaying 38 = .ok (.getfield 47, 3) := ax_dec dX3_readSaying_q0_ok 22 (38, .getfield 47, 3) rfl
theorem dX3_readSaying_41 : decode cX3_readSaying 41 = .ok (.iconst 3, 1) := ax_dec dX3_readSaying_q0_ok 23 (41, .iconst 3, 1) rfl
theorem dX3_readSaying_42 : decode cX3_readSaying 42 = .ok (.if_icmp .ne 20, 3) := ax_dec dX3_readSaying_q0_ok 24 (42, .if_icmp .ne 20, 3) rfl
theorem dX3_readSaying_45 : decode cX3_readSaying 45 = .ok (.aload_n 1, 1) := ax_dec dX3_readSaying_q0_ok 25 (45, .aload_n 1, 1) rfl
theorem dX3_readSaying_46 : decode cX3_readSaying 46 = .ok (.aload_n 0, 1) := ax_dec dX3_readSaying_q0_ok 26 (46, .aload_n 0, 1) rfl
theorem dX3_readSaying_47 : decode cX3_readSaying 47 = .ok (.getfield 47, 3) := ax_dec dX3_readSaying_q0_ok 27 (47, .getfield 47, 3) rfl
theorem dX3_readSaying_50 : decode cX3_readSaying 50 = .ok (.aload_n 0, 1) := ax_dec dX3_readSaying_q0_ok 28 (50, .aload_n 0, 1) rfl
theorem dX3_readSaying_51 : decode cX3_readSaying 51 = .ok (.getfield 52, 3) := ax_dec dX3_readSaying_q0_ok 29 (51, .getfield 52, 3) rfl
theorem dX3_readSaying_54 : decode cX3_readSaying 54 = .ok (.invokevirtual 71, 3) := ax_dec dX3_readSaying_q0_ok 30 (54, .invokevirtual 71, 3) rfl
theorem dX3_readSaying_57 : decode cX3_readSaying 57 = .ok (.iconst 0, 1) := ax_dec dX3_readSaying_q0_ok 31 (57, .iconst 0, 1) rfl
def dX3_readSaying_q1 : List (Nat × (Instr × Nat)) := [(58, .istore_n 2, 1), (59, .goto 74, 3), (62, .aload_n 0, 1), (63, .invokevirtual 75, 3), (66, .ifCond .ne 67, 3), (69, .iconst 0, 1), (70, .ireturn, 1), (71, .aload_n 0, 1), (72, .getfield 47, 3), (75, .bipush 16, 2), (77, .if_icmp .ne 22, 3), (80, .aload_n 0, 1), (81, .iconst 1, 1), (82, .aload_n 1, 1), (83, .invokevirtual 79, 3), (86, .aload_n 0, 1), (87, .getfield 65, 3), (90, .ifCond .ne 7, 3), (93, .iconst 1, 1), (94, .goto 4, 3), (97, .iconst 0, 1), (98, .ireturn, 1), (99, .aload_n 0, 1), (100, .getfield 47, 3), (103, .bipush 15, 2), (105, .if_icmp .ne 13, 3), (108, .aload_n 0, 1), (109, .aload_n 1, 1), (110, .invokevirtual 83, 3), (113, .ifCond .ne 20, 3), (116, .iconst 0, 1), (117, .ireturn, 1)]
set_option maxRecDepth 100000 in
theorem dX3_readSaying_q1_ok : ax_decs cX3_readSaying dX3_readSaying_q1 = true := by decide +kernel
theorem dX3_readSaying_58 : decode cX3_readSaying 58 = .ok (.istore_n 2, 1) := ax_dec dX3_readSaying_q1_ok 0 (58, .istore_n 2, 1) rfl
theorem dX3_readSaying_59 : decode cX3_readSaying 59 = .ok (.goto 74, 3) := ax_dec dX3_readSaying_q1_ok 1 (59, .goto 74, 3) rfl
theorem dX3_readSaying_62 : decode cX3_readSaying 62 = .ok (.aload_n 0, 1) := ax_dec dX3_readSaying_q1_ok 2 (62, .aload_n 0, 1) rfl
theorem dX3_readSaying_63 : decode cX3_readSaying 63 = .ok (.invokevirtual 75, 3) := ax_dec dX3_readSaying_q1_ok 3 (63, .invokevirtual 75, 3) rfl
theorem dX3_readSaying_66 : decode cX3_readSaying 66 = .ok (.ifCond .ne 67, 3) := ax_dec dX3_readSaying_q1_ok 4 (66, .ifCond .ne 67, 3) rfl
theorem dX3_readSaying_69 : decode cX3_readSaying 69 = .ok (.iconst 0, 1) := ax_dec dX3_readSaying_q1_ok 5 (69, .iconst 0, 1) rfl
theorem dX3_readSaying_70 : decode cX3_readSaying 70 = .ok (.ireturn, 1) := ax_dec dX3_readSaying_q1_ok 6 (70, .ireturn, 1) rfl
theorem dX3_readSaying_71 : decode cX3_readSaying 71 = .ok (.aload_n 0, 1) := ax_dec dX3_readSaying_q1_ok 7 (71, .aload_n 0, 1) rfl
theorem dX3_readSaying_72 : decode cX3_readSaying 72 = .ok (.getfield 47, 3) := ax_dec dX3_readSaying_q1_ok 8 (72, .getfield 47, 3) rfl
theorem dX3_readSaying_75 : decode cX3_readSaying 75 = .ok (.bipush 16, 2) := ax_dec dX3_readSaying_q1_ok 9 (75, .bipush 16, 2) rfl
theorem dX3_readSaying_77 : decode cX3_readSaying 77 = .ok (.if_icmp .ne 22, 3) := ax_dec dX3_readSaying_q1_ok 10 (77, .if_icmp .ne 22, 3) rfl
theorem dX3_readSaying_80 : decode cX3_readSaying 80 = .ok (.aload_n 0, 1) := ax_dec dX3_readSaying_q1_ok 11 (80, .aload_n 0, 1) rfl
theorem dX3_readSaying_81 : decode cX3_readSaying 81 = .ok (.iconst 1, 1) := ax_dec dX3_readSaying_q1_ok 12 (81, .iconst 1, 1) rfl
theorem dX3_readSaying_82 : decode cX3_readSaying 82 = .ok (.aload_n 1, 1) := ax_dec dX3_readSaying_q1_ok 13 (82, .aload_n 1, 1) rfl
theorem dX3_readSaying_83 : decode cX3_readSaying 83 = .ok (.invokevirtual 79, 3) := ax_dec dX3_readSaying_q1_ok 14 (83, .invokevirtual 79, 3) rfl
theorem dX3_readSaying_86 : decode cX3_readSaying 86 = .ok (.aload_n 0, 1) := ax_dec dX3_readSaying_q1_ok 15 (86, .aload_n 0, 1) rfl
theorem dX3_readSaying_87 : decode cX3_readSaying 87 = .ok (.getfield 65, 3) := ax_dec dX3_readSaying_q1_ok 16 (87, .getfield 65, 3) rfl
theorem dX3_readSaying_90 : decode cX3_readSaying 90 = .ok (.ifCond .ne 7, 3) := ax_dec dX3_readSaying_q1_ok 17 (90, .ifCond .ne 7, 3) rfl
theorem dX3_readSaying_93 : decode cX3_readSaying 93 = .ok (.iconst 1, 1) := ax_dec dX3_readSaying_q1_ok 18 (93, .iconst 1, 1) rfl
theorem dX3_readSaying_94 : decode cX3_readSaying 94 = .ok (.goto 4, 3) := ax_dec dX3_readSaying_q1_ok 19 (94, .goto 4, 3) rfl
theorem dX3_readSaying_97 : decode cX3_readSaying 97 = .ok (.iconst 0, 1) := ax_dec dX3_readSaying_q1_ok 20 (97, .iconst 0, 1) rfl
theorem dX3_readSaying_98 : decode cX3_readSaying 98 = .ok (.ireturn, 1) := ax_dec dX3_readSaying_q1_ok 21 (98, .ireturn, 1) rfl
theorem dX3_readSaying_99 : decode cX3_readSaying 99 = .ok (.aload_n 0, 1) := ax_dec dX3_readSaying_q1_ok 22 (99, .aload_n 0, 1) rfl
theorem dX3_readSaying_100 : decode cX3_readSaying 100 = .ok (.getfield 47, 3) := ax_dec dX3_readSaying_q1_ok 23 (100, .getfield 47, 3) rfl
theorem dX3_readSaying_103 : decode cX3_readSaying 103 = .ok (.bipush 15, 2) := ax_dec dX3_readSaying_q1_ok 24 (103, .bipush 15, 2) rfl
theorem dX3_readSaying_105 : decode cX3_readSaying 105 = .ok (.if_icmp .ne 13, 3) := ax_dec dX3_readSaying_q1_ok 25 (105, .if_icmp .ne 13, 3) rfl
theorem dX3_readSaying_108 : decode cX3_readSaying 108 = .ok (.aload_n 0, 1) := ax_dec dX3_readSaying_q1_ok 26 (108, .aload_n 0, 1) rfl
theorem dX3_readSaying_109 : decode cX3_readSaying 109 = .ok (.aload_n 1, 1) := ax_dec dX3_readSaying_q1_ok 27 (109, .aload_n 1, 1) rfl
theorem dX3_readSaying_110 : decode cX3_readSaying 110 = .ok (.invokevirtual 83, 3) := ax_dec dX3_readSaying_q1_ok 28 (110, .invokevirtual 83, 3) rfl
theorem dX3_readSaying_113 : decode cX3_readSaying 113 = .ok (.ifCond .ne 20, 3) := ax_dec dX3_readSaying_q1_ok 29 (113, .ifCond .ne 20, 3) rfl
theorem dX3_readSaying_116 : decode cX3_readSaying 116 = .ok (.iconst 0, 1) := ax_dec dX3_readSaying_q1_ok 30 (116, .iconst 0, 1) rfl
theorem dX3_readSaying_117 : decode cX3_readSaying 117 = .ok (.ireturn, 1) := ax_dec dX3_readSaying_q1_ok 31 (117, .ireturn, 1) rfl
def dX3_readSaying_q2 : List (Nat × (Instr × Nat)) := [(118, .aload_n 0, 1), (119, .aload_n 1, 1), (120, .invokevirtual 86, 3), (123, .ifCond .eq 8, 3), (126, .iconst 1, 1), (127, .istore_n 2, 1), (128, .goto 5, 3), (131, .iconst 0, 1), (132, .ireturn, 1), (133, .iinc 3 1, 3), (136, .goto (-122), 3), (139, .iconst 0, 1), (140, .ireturn, 1)]
set_option maxRecDepth 100000 in
theorem dX3_readSaying_q2_ok : ax_decs cX3_readSaying dX3_readSaying_q2 = true := by decide +kernel
theorem dX3_readSaying_118 : decode cX3_readSaying 118 = .ok (.aload_n 0, 1) := ax_dec dX3_readSaying_q2_ok 0 (118, .aload_n 0, 1) rfl
theorem dX3_readSaying_119 : decode cX3_readSaying 119 = .ok (.aload_n 1, 1) := ax_dec dX3_readSaying_q2_ok 1 (119, .aload_n 1, 1) rfl
theorem dX3_readSaying_120 : decode cX3_readSaying 120 = .ok (.invokevirtual 86, 3) := ax_dec dX3_readSaying_q2_ok 2 (120, .invokevirtual 86, 3) rfl
theorem dX3_readSaying_123 : decode cX3_readSaying 123 = .ok (.ifCond .eq 8, 3) := ax_dec dX3_readSaying_q2_ok 3 (123, .ifCond .eq 8, 3) rfl
theorem dX3_readSaying_126 : decode cX3_readSaying 126 = .ok (.iconst 1, 1) := ax_dec dX3_readSaying_q2_ok 4 (126, .iconst 1, 1) rfl
theorem dX3_readSaying_127 : decode cX3_readSaying 127 = .ok (.istore_n 2, 1) := ax_dec dX3_readSaying_q2_ok 5 (127, .istore_n 2, 1) rfl
theorem dX3_readSaying_128 : decode cX3_readSaying 128 = .ok (.goto 5, 3) := ax_dec dX3_readSaying_q2_ok 6 (128, .goto 5, 3) rfl
theorem dX3_readSaying_131 : decode cX3_readSaying 131 = .ok (.iconst 0, 1) := ax_dec dX3_readSaying_q2_ok 7 (131, .iconst 0, 1) rfl
theorem dX3_readSaying_132 : decode cX3_readSaying 132 = .ok (.ireturn, 1) := ax_dec dX3_readSaying_q2_ok 8 (132, .ireturn, 1) rfl
theorem dX3_readSaying_133 : decode cX3_readSaying 133 = .ok (.iinc 3 1, 3) := ax_dec dX3_readSaying_q2_ok 9 (133, .iinc 3 1, 3) rfl
theorem dX3_readSaying_136 : decode cX3_readSaying 136 = .ok (.goto (-122), 3) := ax_dec dX3_readSaying_q2_ok 10 (136, .goto (-122), 3) rfl
theorem dX3_readSaying_139 : decode cX3_readSaying 139 = .ok (.iconst 0, 1) := ax_dec dX3_readSaying_q2_ok 11 (139, .iconst 0, 1) rfl
theorem dX3_readSaying_140 : decode cX3_readSaying 140 = .ok (.ireturn, 1) := ax_dec dX3_readSaying_q2_ok 12 (140, .ireturn, 1) rfl
def dX3_opens_q0 : List (Nat × (Instr × Nat)) := [(0, .aload_n 0, 1), (1, .getfield 47, 3), (4, .bipush 11, 2), (6, .if_icmp .ne 8, 3), (9, .bipush 13, 2), (11, .goto 7, 3), (14, .aload_n 0, 1), (15, .getfield 47, 3), (18, .istore_n 1, 1), (19, .iload_n 1, 1), (20, .bipush 13, 2), (22, .if_icmp .eq 17, 3), (25, .iload_n 1, 1), (26, .bipush 14, 2), (28, .if_icmp .eq 11, 3), (31, .iload_n 1, 1), (32, .bipush 7, 2), (34, .if_icmp .eq 5, 3), (37, .iconst 0, 1), (38, .ireturn, 1), (39, .iload_n 1, 1), (40, .bipush 7, 2), (42, .if_icmp .ne 20, 3), (45, .aload_n 0, 1), (46, .invokevirtual 89, 3), (49, .invokestatic 92, 3), (52, .bipush 7, 2), (54, .invokestatic 92, 3), (57, .if_icmp .le 5, 3), (60, .iconst 0, 1), (61, .ireturn, 1), (62, .aload_n 0, 1)]
set_option maxRecDepth 100000 in
theorem dX3_opens_q0_ok : ax_decs cX3_opens dX3_opens_q0 = true := by decide +kernel
theorem dX3_opens_0 : decode cX3_opens 0 = .ok (.aload_n 0, 1) := ax_dec dX3_opens_q0_ok 0 (0, .aload_n 0, 1) rfl
theorem dX3_opens_1 : decode cX3_opens 1 = .ok (.getfield 47, 3) := ax_dec dX3_opens_q0_ok 1 (1, .getfield 47, 3) rfl
theorem dX3_opens_4 : decode cX3_opens 4 = .ok (.bipush 11, 2) := ax_dec dX3_opens_q0_ok 2 (4, .bipush 11, 2) rfl
theorem dX3_opens_6 : decode cX3_opens 6 = .ok (.if_icmp .ne 8, 3) := ax_dec dX3_opens_q0_ok 3 (6, .if_icmp .ne 8, 3) rfl
theorem dX3_opens_9 : decode cX3_opens 9 = .ok (.bipush 13, 2) := ax_dec dX3_opens_q0_ok 4 (9, .bipush 13, 2) rfl
theorem dX3_opens_11 : decode cX3_opens 11 = .ok (.goto 7, 3) := ax_dec dX3_opens_q0_ok 5 (11, .goto 7, 3) rfl
theorem dX3_opens_14 : decode cX3_opens 14 = .ok (.aload_n 0, 1) := ax_dec dX3_opens_q0_ok 6 (14, .aload_n 0, 1) rfl
theorem dX3_opens_15 : decode cX3_opens 15 = .ok (.getfield 47, 3) := ax_dec dX3_opens_q0_ok 7 (15, .getfield 47, 3) rfl
theorem dX3_opens_18 : decode cX3_opens 18 = .ok (.istore_n 1, 1) := ax_dec dX3_opens_q0_ok 8 (18, .istore_n 1, 1) rfl
theorem dX3_opens_19 : decode cX3_opens 19 = .ok (.iload_n 1, 1) := ax_dec dX3_opens_q0_ok 9 (19, .iload_n 1, 1) rfl
theorem dX3_opens_20 : decode cX3_opens 20 = .ok (.bipush 13, 2) := ax_dec dX3_opens_q0_ok 10 (20, .bipush 13, 2) rfl
theorem dX3_opens_22 : decode cX3_opens 22 = .ok (.if_icmp .eq 17, 3) := ax_dec dX3_opens_q0_ok 11 (22, .if_icmp .eq 17, 3) rfl
theorem dX3_opens_25 : decode cX3_opens 25 = .ok (.iload_n 1, 1) := ax_dec dX3_opens_q0_ok 12 (25, .iload_n 1, 1) rfl
theorem dX3_opens_26 : decode cX3_opens 26 = .ok (.bipush 14, 2) := ax_dec dX3_opens_q0_ok 13 (26, .bipush 14, 2) rfl
theorem dX3_opens_28 : decode cX3_opens 28 = .ok (.if_icmp .eq 11, 3) := ax_dec dX3_opens_q0_ok 14 (28, .if_icmp .eq 11, 3) rfl
theorem dX3_opens_31 : decode cX3_opens 31 = .ok (.iload_n 1, 1) := ax_dec dX3_opens_q0_ok 15 (31, .iload_n 1, 1) rfl
theorem dX3_opens_32 : decode cX3_opens 32 = .ok (.bipush 7, 2) := ax_dec dX3_opens_q0_ok 16 (32, .bipush 7, 2) rfl
theorem dX3_opens_34 : decode cX3_opens 34 = .ok (.if_icmp .eq 5, 3) := ax_dec dX3_opens_q0_ok 17 (34, .if_icmp .eq 5, 3) rfl
theorem dX3_opens_37 : decode cX3_opens 37 = .ok (.iconst 0, 1) := ax_dec dX3_opens_q0_ok 18 (37, .iconst 0, 1) rfl
theorem dX3_opens_38 : decode cX3_opens 38 = .ok (.ireturn, 1) := ax_dec dX3_opens_q0_ok 19 (38, .ireturn, 1) rfl
theorem dX3_opens_39 : decode cX3_opens 39 = .ok (.iload_n 1, 1) := ax_dec dX3_opens_q0_ok 20 (39, .iload_n 1, 1) rfl
theorem dX3_opens_40 : decode cX3_opens 40 = .ok (.bipush 7, 2) := ax_dec dX3_opens_q0_ok 21 (40, .bipush 7, 2) rfl
theorem dX3_opens_42 : decode cX3_opens 42 = .ok (.if_icmp .ne 20, 3) := ax_dec dX3_opens_q0_ok 22 (42, .if_icmp .ne 20, 3) rfl
theorem dX3_opens_45 : decode cX3_opens 45 = .ok (.aload_n 0, 1) := ax_dec dX3_opens_q0_ok 23 (45, .aload_n 0, 1) rfl
theorem dX3_opens_46 : decode cX3_opens 46 = .ok (.invokevirtual 89, 3) := ax_dec dX3_opens_q0_ok 24 (46, .invokevirtual 89, 3) rfl
theorem dX3_opens_49 : decode cX3_opens 49 = .ok (.invokestatic 92, 3) := ax_dec dX3_opens_q0_ok 25 (49, .invokestatic 92, 3) rfl
theorem dX3_opens_52 : decode cX3_opens 52 = .ok (.bipush 7, 2) := ax_dec dX3_opens_q0_ok 26 (52, .bipush 7, 2) rfl
theorem dX3_opens_54 : decode cX3_opens 54 = .ok (.invokestatic 92, 3) := ax_dec dX3_opens_q0_ok 27 (54, .invokestatic 92, 3) rfl
theorem dX3_opens_57 : decode cX3_opens 57 = .ok (.if_icmp .le 5, 3) := ax_dec dX3_opens_q0_ok 28 (57, .if_icmp .le 5, 3) rfl
theorem dX3_opens_60 : decode cX3_opens 60 = .ok (.iconst 0, 1) := ax_dec dX3_opens_q0_ok 29 (60, .iconst 0, 1) rfl
theorem dX3_opens_61 : decode cX3_opens 61 = .ok (.ireturn, 1) := ax_dec dX3_opens_q0_ok 30 (61, .ireturn, 1) rfl
theorem dX3_opens_62 : decode cX3_opens 62 = .ok (.aload_n 0, 1) := ax_dec dX3_opens_q0_ok 31 (62, .aload_n 0, 1) rfl
def dX3_opens_q1 : List (Nat × (Instr × Nat)) := [(63, .getfield 68, 3), (66, .iconst 5, 1), (67, .if_icmp .lt 5, 3), (70, .iconst 0, 1), (71, .ireturn, 1), (72, .aload_n 0, 1), (73, .dup, 1), (74, .getfield 68, 3), (77, .iconst 1, 1), (78, .iadd, 1), (79, .putfield 68, 3), (82, .aload_n 0, 1), (83, .iload_n 1, 1), (84, .invokevirtual 96, 3), (87, .iconst 1, 1), (88, .ireturn, 1)]
set_option maxRecDepth 100000 in
theorem dX3_opens_q1_ok : ax_decs cX3_opens dX3_opens_q1 = true := by decide +kernel
theorem dX3_opens_63 : decode cX3_opens 63 = .ok (.getfield 68, 3) := ax_dec dX3_opens_q1_ok 0 (63, .getfield 68, 3) rfl
theorem dX3_opens_66 : decode cX3_opens 66 = .ok (.iconst 5, 1) := ax_dec dX3_opens_q1_ok 1 (66, .iconst 5, 1) rfl
theorem dX3_opens_67 : decode cX3_opens 67 = .ok (.if_icmp .lt 5, 3) := ax_dec dX3_opens_q1_ok 2 (67, .if_icmp .lt 5, 3) rfl
theorem dX3_opens_70 : decode cX3_opens 70 = .ok (.iconst 0, 1) := ax_dec dX3_opens_q1_ok 3 (70, .iconst 0, 1) rfl
theorem dX3_opens_71 : decode cX3_opens 71 = .ok (.ireturn, 1) := ax_dec dX3_opens_q1_ok 4 (71, .ireturn, 1) rfl
theorem dX3_opens_72 : decode cX3_opens 72 = .ok (.aload_n 0, 1) := ax_dec dX3_opens_q1_ok 5 (72, .aload_n 0, 1) rfl
theorem dX3_opens_73 : decode cX3_opens 73 = .ok (.dup, 1) := ax_dec dX3_opens_q1_ok 6 (73, .dup, 1) rfl
theorem dX3_opens_74 : decode cX3_opens 74 = .ok (.getfield 68, 3) := ax_dec dX3_opens_q1_ok 7 (74, .getfield 68, 3) rfl
theorem dX3_opens_77 : decode cX3_opens 77 = .ok (.iconst 1, 1) := ax_dec dX3_opens_q1_ok 8 (77, .iconst 1, 1) rfl
theorem dX3_opens_78 : decode cX3_opens 78 = .ok (.iadd, 1) := ax_dec dX3_opens_q1_ok 9 (78, .iadd, 1) rfl
theorem dX3_opens_79 : decode cX3_opens 79 = .ok (.putfield 68, 3) := ax_dec dX3_opens_q1_ok 10 (79, .putfield 68, 3) rfl
theorem dX3_opens_82 : decode cX3_opens 82 = .ok (.aload_n 0, 1) := ax_dec dX3_opens_q1_ok 11 (82, .aload_n 0, 1) rfl
theorem dX3_opens_83 : decode cX3_opens 83 = .ok (.iload_n 1, 1) := ax_dec dX3_opens_q1_ok 12 (83, .iload_n 1, 1) rfl
theorem dX3_opens_84 : decode cX3_opens 84 = .ok (.invokevirtual 96, 3) := ax_dec dX3_opens_q1_ok 13 (84, .invokevirtual 96, 3) rfl
theorem dX3_opens_87 : decode cX3_opens 87 = .ok (.iconst 1, 1) := ax_dec dX3_opens_q1_ok 14 (87, .iconst 1, 1) rfl
theorem dX3_opens_88 : decode cX3_opens 88 = .ok (.ireturn, 1) := ax_dec dX3_opens_q1_ok 15 (88, .ireturn, 1) rfl
def dX3_closes_q0 : List (Nat × (Instr × Nat)) := [(0, .aload_n 0, 1), (1, .iconst 1, 1), (2, .aload_n 1, 1), (3, .invokevirtual 79, 3), (6, .aload_n 0, 1), (7, .invokevirtual 89, 3), (10, .bipush 14, 2), (12, .if_icmp .eq 5, 3), (15, .iconst 0, 1), (16, .ireturn, 1), (17, .aload_n 0, 1), (18, .dup, 1), (19, .getfield 65, 3), (22, .iconst 1, 1), (23, .isub, 1), (24, .putfield 65, 3), (27, .aload_n 0, 1), (28, .dup, 1), (29, .getfield 68, 3), (32, .iconst 1, 1), (33, .isub, 1), (34, .putfield 68, 3), (37, .iconst 1, 1), (38, .ireturn, 1)]
set_option maxRecDepth 100000 in
theorem dX3_closes_q0_ok : ax_decs cX3_closes dX3_closes_q0 = true := by decide +kernel
theorem dX3_closes_0 : decode cX3_closes 0 = .ok (.aload_n 0, 1) := ax_dec dX3_closes_q0_ok 0 (0, .aload_n 0, 1) rfl
theorem dX3_closes_1 : decode cX3_closes 1 = .ok (.iconst 1, 1) := ax_dec dX3_closes_q0_ok 1 (1, .iconst 1, 1) rfl
theorem dX3_closes_2 : decode cX3_closes 2 = .ok (.aload_n 1, 1) := ax_dec dX3_closes_q0_ok 2 (2, .aload_n 1, 1) rfl
theorem dX3_closes_3 : decode cX3_closes 3 = .ok (.invokevirtual 79, 3) := ax_dec dX3_closes_q0_ok 3 (3, .invokevirtual 79, 3) rfl
theorem dX3_closes_6 : decode cX3_closes 6 = .ok (.aload_n 0, 1) := ax_dec dX3_closes_q0_ok 4 (6, .aload_n 0, 1) rfl
theorem dX3_closes_7 : decode cX3_closes 7 = .ok (.invokevirtual 89, 3) := ax_dec dX3_closes_q0_ok 5 (7, .invokevirtual 89, 3) rfl
theorem dX3_closes_10 : decode cX3_closes 10 = .ok (.bipush 14, 2) := ax_dec dX3_closes_q0_ok 6 (10, .bipush 14, 2) rfl
theorem dX3_closes_12 : decode cX3_closes 12 = .ok (.if_icmp .eq 5, 3) := ax_dec dX3_closes_q0_ok 7 (12, .if_icmp .eq 5, 3) rfl
theorem dX3_closes_15 : decode cX3_closes 15 = .ok (.iconst 0, 1) := ax_dec dX3_closes_q0_ok 8 (15, .iconst 0, 1) rfl
theorem dX3_closes_16 : decode cX3_closes 16 = .ok (.ireturn, 1) := ax_dec dX3_closes_q0_ok 9 (16, .ireturn, 1) rfl
theorem dX3_closes_17 : decode cX3_closes 17 = .ok (.aload_n 0, 1) := ax_dec dX3_closes_q0_ok 10 (17, .aload_n 0, 1) rfl
theorem dX3_closes_18 : decode cX3_closes 18 = .ok (.dup, 1) := ax_dec dX3_closes_q0_ok 11 (18, .dup, 1) rfl
theorem dX3_closes_19 : decode cX3_closes 19 = .ok (.getfield 65, 3) := ax_dec dX3_closes_q0_ok 12 (19, .getfield 65, 3) rfl
theorem dX3_closes_22 : decode cX3_closes 22 = .ok (.iconst 1, 1) := ax_dec dX3_closes_q0_ok 13 (22, .iconst 1, 1) rfl
theorem dX3_closes_23 : decode cX3_closes 23 = .ok (.isub, 1) := ax_dec dX3_closes_q0_ok 14 (23, .isub, 1) rfl
theorem dX3_closes_24 : decode cX3_closes 24 = .ok (.putfield 65, 3) := ax_dec dX3_closes_q0_ok 15 (24, .putfield 65, 3) rfl
theorem dX3_closes_27 : decode cX3_closes 27 = .ok (.aload_n 0, 1) := ax_dec dX3_closes_q0_ok 16 (27, .aload_n 0, 1) rfl
theorem dX3_closes_28 : decode cX3_closes 28 = .ok (.dup, 1) := ax_dec dX3_closes_q0_ok 17 (28, .dup, 1) rfl
theorem dX3_closes_29 : decode cX3_closes 29 = .ok (.getfield 68, 3) := ax_dec dX3_closes_q0_ok 18 (29, .getfield 68, 3) rfl
theorem dX3_closes_32 : decode cX3_closes 32 = .ok (.iconst 1, 1) := ax_dec dX3_closes_q0_ok 19 (32, .iconst 1, 1) rfl
theorem dX3_closes_33 : decode cX3_closes 33 = .ok (.isub, 1) := ax_dec dX3_closes_q0_ok 20 (33, .isub, 1) rfl
theorem dX3_closes_34 : decode cX3_closes 34 = .ok (.putfield 68, 3) := ax_dec dX3_closes_q0_ok 21 (34, .putfield 68, 3) rfl
theorem dX3_closes_37 : decode cX3_closes 37 = .ok (.iconst 1, 1) := ax_dec dX3_closes_q0_ok 22 (37, .iconst 1, 1) rfl
theorem dX3_closes_38 : decode cX3_closes 38 = .ok (.ireturn, 1) := ax_dec dX3_closes_q0_ok 23 (38, .ireturn, 1) rfl
def dX3_joins_q0 : List (Nat × (Instr × Nat)) := [(0, .aload_n 0, 1), (1, .getfield 47, 3), (4, .invokestatic 99, 3), (7, .ifCond .ne 5, 3), (10, .iconst 0, 1), (11, .ireturn, 1), (12, .aload_n 0, 1), (13, .getfield 47, 3), (16, .invokestatic 92, 3), (19, .istore_n 2, 1), (20, .aload_n 0, 1), (21, .getfield 47, 3), (24, .bipush 8, 2), (26, .if_icmp .eq 28, 3), (29, .aload_n 0, 1), (30, .getfield 47, 3), (33, .bipush 9, 2), (35, .if_icmp .eq 19, 3), (38, .aload_n 0, 1), (39, .iload_n 2, 1), (40, .aload_n 1, 1), (41, .invokevirtual 79, 3), (44, .aload_n 0, 1), (45, .aload_n 0, 1), (46, .getfield 47, 3), (49, .invokevirtual 96, 3), (52, .iconst 1, 1), (53, .ireturn, 1), (54, .aload_n 0, 1), (55, .iload_n 2, 1), (56, .iconst 1, 1), (57, .iadd, 1)]
set_option maxRecDepth 100000 in
theorem dX3_joins_q0_ok : ax_decs cX3_joins dX3_joins_q0 = true := by decide +kernel
theorem dX3_joins_0 : decode cX3_joins 0 = .ok (.aload_n 0, 1) := ax_dec dX3_joins_q0_ok 0 (0, .aload_n 0, 1) rfl
theorem dX3_joins_1 : decode cX3_joins 1 = .ok (.getfield 47, 3) := ax_dec dX3_joins_q0_ok 1 (1, .getfield 47, 3) rfl
theorem dX3_joins_4 : decode cX3_joins 4 = .ok (.invokestatic 99, 3) := ax_dec dX3_joins_q0_ok 2 (4, .invokestatic 99, 3) rfl
theorem dX3_joins_7 : decode cX3_joins 7 = .ok (.ifCond .ne 5, 3) := ax_dec dX3_joins_q0_ok 3 (7, .ifCond .ne 5, 3) rfl
theorem dX3_joins_10 : decode cX3_joins 10 = .ok (.iconst 0, 1) := ax_dec dX3_joins_q0_ok 4 (10, .iconst 0, 1) rfl
theorem dX3_joins_11 : decode cX3_joins 11 = .ok (.ireturn, 1) := ax_dec dX3_joins_q0_ok 5 (11, .ireturn, 1) rfl
theorem dX3_joins_12 : decode cX3_joins 12 = .ok (.aload_n 0, 1) := ax_dec dX3_joins_q0_ok 6 (12, .aload_n 0, 1) rfl
theorem dX3_joins_13 : decode cX3_joins 13 = .ok (.getfield 47, 3) := ax_dec dX3_joins_q0_ok 7 (13, .getfield 47, 3) rfl
theorem dX3_joins_16 : decode cX3_joins 16 = .ok (.invokestatic 92, 3) := ax_dec dX3_joins_q0_ok 8 (16, .invokestatic 92, 3) rfl
theorem dX3_joins_19 : decode cX3_joins 19 = .ok (.istore_n 2, 1) := ax_dec dX3_joins_q0_ok 9 (19, .istore_n 2, 1) rfl
theorem dX3_joins_20 : decode cX3_joins 20 = .ok (.aload_n 0, 1) := ax_dec dX3_joins_q0_ok 10 (20, .aload_n 0, 1) rfl
theorem dX3_joins_21 : decode cX3_joins 21 = .ok (.getfield 47, 3) := ax_dec dX3_joins_q0_ok 11 (21, .getfield 47, 3) rfl
theorem dX3_joins_24 : decode cX3_joins 24 = .ok (.bipush 8, 2) := ax_dec dX3_joins_q0_ok 12 (24, .bipush 8, 2) rfl
theorem dX3_joins_26 : decode cX3_joins 26 = .ok (.if_icmp .eq 28, 3) := ax_dec dX3_joins_q0_ok 13 (26, .if_icmp .eq 28, 3) rfl
theorem dX3_joins_29 : decode cX3_joins 29 = .ok (.aload_n 0, 1) := ax_dec dX3_joins_q0_ok 14 (29, .aload_n 0, 1) rfl
theorem dX3_joins_30 : decode cX3_joins 30 = .ok (.getfield 47, 3) := ax_dec dX3_joins_q0_ok 15 (30, .getfield 47, 3) rfl
theorem dX3_joins_33 : decode cX3_joins 33 = .ok (.bipush 9, 2) := ax_dec dX3_joins_q0_ok 16 (33, .bipush 9, 2) rfl
theorem dX3_joins_35 : decode cX3_joins 35 = .ok (.if_icmp .eq 19, 3) := ax_dec dX3_joins_q0_ok 17 (35, .if_icmp .eq 19, 3) rfl
theorem dX3_joins_38 : decode cX3_joins 38 = .ok (.aload_n 0, 1) := ax_dec dX3_joins_q0_ok 18 (38, .aload_n 0, 1) rfl
theorem dX3_joins_39 : decode cX3_joins 39 = .ok (.iload_n 2, 1) := ax_dec dX3_joins_q0_ok 19 (39, .iload_n 2, 1) rfl
theorem dX3_joins_40 : decode cX3_joins 40 = .ok (.aload_n 1, 1) := ax_dec dX3_joins_q0_ok 20 (40, .aload_n 1, 1) rfl
theorem dX3_joins_41 : decode cX3_joins 41 = .ok (.invokevirtual 79, 3) := ax_dec dX3_joins_q0_ok 21 (41, .invokevirtual 79, 3) rfl
theorem dX3_joins_44 : decode cX3_joins 44 = .ok (.aload_n 0, 1) := ax_dec dX3_joins_q0_ok 22 (44, .aload_n 0, 1) rfl
theorem dX3_joins_45 : decode cX3_joins 45 = .ok (.aload_n 0, 1) := ax_dec dX3_joins_q0_ok 23 (45, .aload_n 0, 1) rfl
theorem dX3_joins_46 : decode cX3_joins 46 = .ok (.getfield 47, 3) := ax_dec dX3_joins_q0_ok 24 (46, .getfield 47, 3) rfl
theorem dX3_joins_49 : decode cX3_joins 49 = .ok (.invokevirtual 96, 3) := ax_dec dX3_joins_q0_ok 25 (49, .invokevirtual 96, 3) rfl
theorem dX3_joins_52 : decode cX3_joins 52 = .ok (.iconst 1, 1) := ax_dec dX3_joins_q0_ok 26 (52, .iconst 1, 1) rfl
theorem dX3_joins_53 : decode cX3_joins 53 = .ok (.ireturn, 1) := ax_dec dX3_joins_q0_ok 27 (53, .ireturn, 1) rfl
theorem dX3_joins_54 : decode cX3_joins 54 = .ok (.aload_n 0, 1) := ax_dec dX3_joins_q0_ok 28 (54, .aload_n 0, 1) rfl
theorem dX3_joins_55 : decode cX3_joins 55 = .ok (.iload_n 2, 1) := ax_dec dX3_joins_q0_ok 29 (55, .iload_n 2, 1) rfl
theorem dX3_joins_56 : decode cX3_joins 56 = .ok (.iconst 1, 1) := ax_dec dX3_joins_q0_ok 30 (56, .iconst 1, 1) rfl
theorem dX3_joins_57 : decode cX3_joins 57 = .ok (.iadd, 1) := ax_dec dX3_joins_q0_ok 31 (57, .iadd, 1) rfl
def dX3_joins_q1 : List (Nat × (Instr × Nat)) := [(58, .aload_n 1, 1), (59, .invokevirtual 79, 3), (62, .aload_n 0, 1), (63, .invokevirtual 89, 3), (66, .invokestatic 92, 3), (69, .iload_n 2, 1), (70, .if_icmp .ne 5, 3), (73, .iconst 0, 1), (74, .ireturn, 1), (75, .aload_n 0, 1), (76, .aload_n 0, 1), (77, .getfield 47, 3), (80, .invokevirtual 96, 3), (83, .iconst 1, 1), (84, .ireturn, 1)]
set_option maxRecDepth 100000 in
theorem dX3_joins_q1_ok : ax_decs cX3_joins dX3_joins_q1 = true := by decide +kernel
theorem dX3_joins_58 : decode cX3_joins 58 = .ok (.aload_n 1, 1) := ax_dec dX3_joins_q1_ok 0 (58, .aload_n 1, 1) rfl
theorem dX3_joins_59 : decode cX3_joins 59 = .ok (.invokevirtual 79, 3) := ax_dec dX3_joins_q1_ok 1 (59, .invokevirtual 79, 3) rfl
theorem dX3_joins_62 : decode cX3_joins 62 = .ok (.aload_n 0, 1) := ax_dec dX3_joins_q1_ok 2 (62, .aload_n 0, 1) rfl
theorem dX3_joins_63 : decode cX3_joins 63 = .ok (.invokevirtual 89, 3) := ax_dec dX3_joins_q1_ok 3 (63, .invokevirtual 89, 3) rfl
theorem dX3_joins_66 : decode cX3_joins 66 = .ok (.invokestatic 92, 3) := ax_dec dX3_joins_q1_ok 4 (66, .invokestatic 92, 3) rfl
theorem dX3_joins_69 : decode cX3_joins 69 = .ok (.iload_n 2, 1) := ax_dec dX3_joins_q1_ok 5 (69, .iload_n 2, 1) rfl
theorem dX3_joins_70 : decode cX3_joins 70 = .ok (.if_icmp .ne 5, 3) := ax_dec dX3_joins_q1_ok 6 (70, .if_icmp .ne 5, 3) rfl
theorem dX3_joins_73 : decode cX3_joins 73 = .ok (.iconst 0, 1) := ax_dec dX3_joins_q1_ok 7 (73, .iconst 0, 1) rfl
theorem dX3_joins_74 : decode cX3_joins 74 = .ok (.ireturn, 1) := ax_dec dX3_joins_q1_ok 8 (74, .ireturn, 1) rfl
theorem dX3_joins_75 : decode cX3_joins 75 = .ok (.aload_n 0, 1) := ax_dec dX3_joins_q1_ok 9 (75, .aload_n 0, 1) rfl
theorem dX3_joins_76 : decode cX3_joins 76 = .ok (.aload_n 0, 1) := ax_dec dX3_joins_q1_ok 10 (76, .aload_n 0, 1) rfl
theorem dX3_joins_77 : decode cX3_joins 77 = .ok (.getfield 47, 3) := ax_dec dX3_joins_q1_ok 11 (77, .getfield 47, 3) rfl
theorem dX3_joins_80 : decode cX3_joins 80 = .ok (.invokevirtual 96, 3) := ax_dec dX3_joins_q1_ok 12 (80, .invokevirtual 96, 3) rfl
theorem dX3_joins_83 : decode cX3_joins 83 = .ok (.iconst 1, 1) := ax_dec dX3_joins_q1_ok 13 (83, .iconst 1, 1) rfl
theorem dX3_joins_84 : decode cX3_joins 84 = .ok (.ireturn, 1) := ax_dec dX3_joins_q1_ok 14 (84, .ireturn, 1) rfl
def dX3_settle_q0 : List (Nat × (Instr × Nat)) := [(0, .aload_n 0, 1), (1, .getfield 65, 3), (4, .istore_n 3, 1), (5, .iload_n 3, 1), (6, .ifCond .le 67, 3), (9, .aload_n 0, 1), (10, .invokevirtual 89, 3), (13, .invokestatic 92, 3), (16, .iload_n 1, 1), (17, .if_icmp .lt 56, 3), (20, .aload_n 0, 1), (21, .invokevirtual 89, 3), (24, .istore 4, 2), (26, .iload 4, 2), (28, .bipush 7, 2), (30, .if_icmp .eq 10, 3), (33, .iload 4, 2), (35, .bipush 13, 2), (37, .if_icmp .ne 13, 3), (40, .aload_n 0, 1), (41, .dup, 1), (42, .getfield 68, 3), (45, .iconst 1, 1), (46, .isub, 1), (47, .putfield 68, 3), (50, .aload_n 2, 1), (51, .iload 4, 2), (53, .iconst 0, 1), (54, .invokevirtual 71, 3), (57, .aload_n 0, 1), (58, .dup, 1), (59, .getfield 65, 3)]
set_option maxRecDepth 100000 in
theorem dX3_settle_q0_ok : ax_decs cX3_settle dX3_settle_q0 = true := by decide +kernel
theorem dX3_settle_0 : decode cX3_settle 0 = .ok (.aload_n 0, 1) := ax_dec dX3_settle_q0_ok 0 (0, .aload_n 0, 1) rfl
theorem dX3_settle_1 : decode cX3_settle 1 = .ok (.getfield 65, 3) := ax_dec dX3_settle_q0_ok 1 (1, .getfield 65, 3) rfl
theorem dX3_settle_4 : decode cX3_settle 4 = .ok (.istore_n 3, 1) := ax_dec dX3_settle_q0_ok 2 (4, .istore_n 3, 1) rfl
theorem dX3_settle_5 : decode cX3_settle 5 = .ok (.iload_n 3, 1) := ax_dec dX3_settle_q0_ok 3 (5, .iload_n 3, 1) rfl
theorem dX3_settle_6 : decode cX3_settle 6 = .ok (.ifCond .le 67, 3) := ax_dec dX3_settle_q0_ok 4 (6, .ifCond .le 67, 3) rfl
theorem dX3_settle_9 : decode cX3_settle 9 = .ok (.aload_n 0, 1) := ax_dec dX3_settle_q0_ok 5 (9, .aload_n 0, 1) rfl
theorem dX3_settle_10 : decode cX3_settle 10 = .ok (.invokevirtual 89, 3) := ax_dec dX3_settle_q0_ok 6 (10, .invokevirtual 89, 3) rfl
theorem dX3_settle_13 : decode cX3_settle 13 = .ok (.invokestatic 92, 3) := ax_dec dX3_settle_q0_ok 7 (13, .invokestatic 92, 3) rfl
theorem dX3_settle_16 : decode cX3_settle 16 = .ok (.iload_n 1, 1) := ax_dec dX3_settle_q0_ok 8 (16, .iload_n 1, 1) rfl
theorem dX3_settle_17 : decode cX3_settle 17 = .ok (.if_icmp .lt 56, 3) := ax_dec dX3_settle_q0_ok 9 (17, .if_icmp .lt 56, 3) rfl
theorem dX3_settle_20 : decode cX3_settle 20 = .ok (.aload_n 0, 1) := ax_dec dX3_settle_q0_ok 10 (20, .aload_n 0, 1) rfl
theorem dX3_settle_21 : decode cX3_settle 21 = .ok (.invokevirtual 89, 3) := ax_dec dX3_settle_q0_ok 11 (21, .invokevirtual 89, 3) rfl
theorem dX3_settle_24 : decode cX3_settle 24 = .ok (.istore 4, 2) := ax_dec dX3_settle_q0_ok 12 (24, .istore 4, 2) rfl
theorem dX3_settle_26 : decode cX3_settle 26 = .ok (.iload 4, 2) := ax_dec dX3_settle_q0_ok 13 (26, .iload 4, 2) rfl
theorem dX3_settle_28 : decode cX3_settle 28 = .ok (.bipush 7, 2) := ax_dec dX3_settle_q0_ok 14 (28, .bipush 7, 2) rfl
theorem dX3_settle_30 : decode cX3_settle 30 = .ok (.if_icmp .eq 10, 3) := ax_dec dX3_settle_q0_ok 15 (30, .if_icmp .eq 10, 3) rfl
theorem dX3_settle_33 : decode cX3_settle 33 = .ok (.iload 4, 2) := ax_dec dX3_settle_q0_ok 16 (33, .iload 4, 2) rfl
theorem dX3_settle_35 : decode cX3_settle 35 = .ok (.bipush 13, 2) := ax_dec dX3_settle_q0_ok 17 (35, .bipush 13, 2) rfl
theorem dX3_settle_37 : decode cX3_settle 37 = .ok (.if_icmp .ne 13, 3) := ax_dec dX3_settle_q0_ok 18 (37, .if_icmp .ne 13, 3) rfl
theorem dX3_settle_40 : decode cX3_settle 40 = .ok (.aload_n 0, 1) := ax_dec dX3_settle_q0_ok 19 (40, .aload_n 0, 1) rfl
theorem dX3_settle_41 : decode cX3_settle 41 = .ok (.dup, 1) := ax_dec dX3_settle_q0_ok 20 (41, .dup, 1) rfl
theorem dX3_settle_42 : decode cX3_settle 42 = .ok (.getfield 68, 3) := ax_dec dX3_settle_q0_ok 21 (42, .getfield 68, 3) rfl
theorem dX3_settle_45 : decode cX3_settle 45 = .ok (.iconst 1, 1) := ax_dec dX3_settle_q0_ok 22 (45, .iconst 1, 1) rfl
theorem dX3_settle_46 : decode cX3_settle 46 = .ok (.isub, 1) := ax_dec dX3_settle_q0_ok 23 (46, .isub, 1) rfl
theorem dX3_settle_47 : decode cX3_settle 47 = .ok (.putfield 68, 3) := ax_dec dX3_settle_q0_ok 24 (47, .putfield 68, 3) rfl
theorem dX3_settle_50 : decode cX3_settle 50 = .ok (.aload_n 2, 1) := ax_dec dX3_settle_q0_ok 25 (50, .aload_n 2, 1) rfl
theorem dX3_settle_51 : decode cX3_settle 51 = .ok (.iload 4, 2) := ax_dec dX3_settle_q0_ok 26 (51, .iload 4, 2) rfl
theorem dX3_settle_53 : decode cX3_settle 53 = .ok (.iconst 0, 1) := ax_dec dX3_settle_q0_ok 27 (53, .iconst 0, 1) rfl
theorem dX3_settle_54 : decode cX3_settle 54 = .ok (.invokevirtual 71, 3) := ax_dec dX3_settle_q0_ok 28 (54, .invokevirtual 71, 3) rfl
theorem dX3_settle_57 : decode cX3_settle 57 = .ok (.aload_n 0, 1) := ax_dec dX3_settle_q0_ok 29 (57, .aload_n 0, 1) rfl
theorem dX3_settle_58 : decode cX3_settle 58 = .ok (.dup, 1) := ax_dec dX3_settle_q0_ok 30 (58, .dup, 1) rfl
theorem dX3_settle_59 : decode cX3_settle 59 = .ok (.getfield 65, 3) := ax_dec dX3_settle_q0_ok 31 (59, .getfield 65, 3) rfl
def dX3_settle_q1 : List (Nat × (Instr × Nat)) := [(62, .iconst 1, 1), (63, .isub, 1), (64, .putfield 65, 3), (67, .iinc 3 (-1), 3), (70, .goto (-65), 3), (73, .return_, 1)]
set_option maxRecDepth 100000 in
theorem dX3_settle_q1_ok : ax_decs cX3_settle dX3_settle_q1 = true := by decide +kernel
theorem dX3_settle_62 : decode cX3_settle 62 = .ok (.iconst 1, 1) := ax_dec dX3_settle_q1_ok 0 (62, .iconst 1, 1) rfl
theorem dX3_settle_63 : decode cX3_settle 63 = .ok (.isub, 1) := ax_dec dX3_settle_q1_ok 1 (63, .isub, 1) rfl
theorem dX3_settle_64 : decode cX3_settle 64 = .ok (.putfield 65, 3) := ax_dec dX3_settle_q1_ok 2 (64, .putfield 65, 3) rfl
theorem dX3_settle_67 : decode cX3_settle 67 = .ok (.iinc 3 (-1), 3) := ax_dec dX3_settle_q1_ok 3 (67, .iinc 3 (-1), 3) rfl
theorem dX3_settle_70 : decode cX3_settle 70 = .ok (.goto (-65), 3) := ax_dec dX3_settle_q1_ok 4 (70, .goto (-65), 3) rfl
theorem dX3_settle_73 : decode cX3_settle 73 = .ok (.return_, 1) := ax_dec dX3_settle_q1_ok 5 (73, .return_, 1) rfl
def dX3_lastWaiting_q0 : List (Nat × (Instr × Nat)) := [(0, .aload_n 0, 1), (1, .getfield 65, 3), (4, .ifCond .le 29, 3), (7, .aload_n 0, 1), (8, .getfield 65, 3), (11, .aload_n 0, 1), (12, .getfield 15, 3), (15, .arraylength, 1), (16, .if_icmp .gt 17, 3), (19, .aload_n 0, 1), (20, .getfield 15, 3), (23, .aload_n 0, 1), (24, .getfield 65, 3), (27, .iconst 1, 1), (28, .isub, 1), (29, .iaload, 1), (30, .goto 4, 3), (33, .iconst 0, 1), (34, .ireturn, 1)]
set_option maxRecDepth 100000 in
theorem dX3_lastWaiting_q0_ok : ax_decs cX3_lastWaiting dX3_lastWaiting_q0 = true := by decide +kernel
theorem dX3_lastWaiting_0 : decode cX3_lastWaiting 0 = .ok (.aload_n 0, 1) := ax_dec dX3_lastWaiting_q0_ok 0 (0, .aload_n 0, 1) rfl
theorem dX3_lastWaiting_1 : decode cX3_lastWaiting 1 = .ok (.getfield 65, 3) := ax_dec dX3_lastWaiting_q0_ok 1 (1, .getfield 65, 3) rfl
theorem dX3_lastWaiting_4 : decode cX3_lastWaiting 4 = .ok (.ifCond .le 29, 3) := ax_dec dX3_lastWaiting_q0_ok 2 (4, .ifCond .le 29, 3) rfl
theorem dX3_lastWaiting_7 : decode cX3_lastWaiting 7 = .ok (.aload_n 0, 1) := ax_dec dX3_lastWaiting_q0_ok 3 (7, .aload_n 0, 1) rfl
theorem dX3_lastWaiting_8 : decode cX3_lastWaiting 8 = .ok (.getfield 65, 3) := ax_dec dX3_lastWaiting_q0_ok 4 (8, .getfield 65, 3) rfl
theorem dX3_lastWaiting_11 : decode cX3_lastWaiting 11 = .ok (.aload_n 0, 1) := ax_dec dX3_lastWaiting_q0_ok 5 (11, .aload_n 0, 1) rfl
theorem dX3_lastWaiting_12 : decode cX3_lastWaiting 12 = .ok (.getfield 15, 3) := ax_dec dX3_lastWaiting_q0_ok 6 (12, .getfield 15, 3) rfl
theorem dX3_lastWaiting_15 : decode cX3_lastWaiting 15 = .ok (.arraylength, 1) := ax_dec dX3_lastWaiting_q0_ok 7 (15, .arraylength, 1) rfl
theorem dX3_lastWaiting_16 : decode cX3_lastWaiting 16 = .ok (.if_icmp .gt 17, 3) := ax_dec dX3_lastWaiting_q0_ok 8 (16, .if_icmp .gt 17, 3) rfl
theorem dX3_lastWaiting_19 : decode cX3_lastWaiting 19 = .ok (.aload_n 0, 1) := ax_dec dX3_lastWaiting_q0_ok 9 (19, .aload_n 0, 1) rfl
theorem dX3_lastWaiting_20 : decode cX3_lastWaiting 20 = .ok (.getfield 15, 3) := ax_dec dX3_lastWaiting_q0_ok 10 (20, .getfield 15, 3) rfl
theorem dX3_lastWaiting_23 : decode cX3_lastWaiting 23 = .ok (.aload_n 0, 1) := ax_dec dX3_lastWaiting_q0_ok 11 (23, .aload_n 0, 1) rfl
theorem dX3_lastWaiting_24 : decode cX3_lastWaiting 24 = .ok (.getfield 65, 3) := ax_dec dX3_lastWaiting_q0_ok 12 (24, .getfield 65, 3) rfl
theorem dX3_lastWaiting_27 : decode cX3_lastWaiting 27 = .ok (.iconst 1, 1) := ax_dec dX3_lastWaiting_q0_ok 13 (27, .iconst 1, 1) rfl
theorem dX3_lastWaiting_28 : decode cX3_lastWaiting 28 = .ok (.isub, 1) := ax_dec dX3_lastWaiting_q0_ok 14 (28, .isub, 1) rfl
theorem dX3_lastWaiting_29 : decode cX3_lastWaiting 29 = .ok (.iaload, 1) := ax_dec dX3_lastWaiting_q0_ok 15 (29, .iaload, 1) rfl
theorem dX3_lastWaiting_30 : decode cX3_lastWaiting 30 = .ok (.goto 4, 3) := ax_dec dX3_lastWaiting_q0_ok 16 (30, .goto 4, 3) rfl
theorem dX3_lastWaiting_33 : decode cX3_lastWaiting 33 = .ok (.iconst 0, 1) := ax_dec dX3_lastWaiting_q0_ok 17 (33, .iconst 0, 1) rfl
theorem dX3_lastWaiting_34 : decode cX3_lastWaiting 34 = .ok (.ireturn, 1) := ax_dec dX3_lastWaiting_q0_ok 18 (34, .ireturn, 1) rfl
def dX3_await_q0 : List (Nat × (Instr × Nat)) := [(0, .aload_n 0, 1), (1, .getfield 65, 3), (4, .ifCond .lt 35, 3), (7, .aload_n 0, 1), (8, .getfield 65, 3), (11, .aload_n 0, 1), (12, .getfield 15, 3), (15, .arraylength, 1), (16, .if_icmp .ge 23, 3), (19, .aload_n 0, 1), (20, .getfield 15, 3), (23, .aload_n 0, 1), (24, .getfield 65, 3), (27, .iload_n 1, 1), (28, .iastore, 1), (29, .aload_n 0, 1), (30, .dup, 1), (31, .getfield 65, 3), (34, .iconst 1, 1), (35, .iadd, 1), (36, .putfield 65, 3), (39, .return_, 1)]
set_option maxRecDepth 100000 in
theorem dX3_await_q0_ok : ax_decs cX3_await dX3_await_q0 = true := by decide +kernel
theorem dX3_await_0 : decode cX3_await 0 = .ok (.aload_n 0, 1) := ax_dec dX3_await_q0_ok 0 (0, .aload_n 0, 1) rfl
theorem dX3_await_1 : decode cX3_await 1 = .ok (.getfield 65, 3) := ax_dec dX3_await_q0_ok 1 (1, .getfield 65, 3) rfl
theorem dX3_await_4 : decode cX3_await 4 = .ok (.ifCond .lt 35, 3) := ax_dec dX3_await_q0_ok 2 (4, .ifCond .lt 35, 3) rfl
theorem dX3_await_7 : decode cX3_await 7 = .ok (.aload_n 0, 1) := ax_dec dX3_await_q0_ok 3 (7, .aload_n 0, 1) rfl
theorem dX3_await_8 : decode cX3_await 8 = .ok (.getfield 65, 3) := ax_dec dX3_await_q0_ok 4 (8, .getfield 65, 3) rfl
theorem dX3_await_11 : decode cX3_await 11 = .ok (.aload_n 0, 1) := ax_dec dX3_await_q0_ok 5 (11, .aload_n 0, 1) rfl
theorem dX3_await_12 : decode cX3_await 12 = .ok (.getfield 15, 3) := ax_dec dX3_await_q0_ok 6 (12, .getfield 15, 3) rfl
theorem dX3_await_15 : decode cX3_await 15 = .ok (.arraylength, 1) := ax_dec dX3_await_q0_ok 7 (15, .arraylength, 1) rfl
theorem dX3_await_16 : decode cX3_await 16 = .ok (.if_icmp .ge 23, 3) := ax_dec dX3_await_q0_ok 8 (16, .if_icmp .ge 23, 3) rfl
theorem dX3_await_19 : decode cX3_await 19 = .ok (.aload_n 0, 1) := ax_dec dX3_await_q0_ok 9 (19, .aload_n 0, 1) rfl
theorem dX3_await_20 : decode cX3_await 20 = .ok (.getfield 15, 3) := ax_dec dX3_await_q0_ok 10 (20, .getfield 15, 3) rfl
theorem dX3_await_23 : decode cX3_await 23 = .ok (.aload_n 0, 1) := ax_dec dX3_await_q0_ok 11 (23, .aload_n 0, 1) rfl
theorem dX3_await_24 : decode cX3_await 24 = .ok (.getfield 65, 3) := ax_dec dX3_await_q0_ok 12 (24, .getfield 65, 3) rfl
theorem dX3_await_27 : decode cX3_await 27 = .ok (.iload_n 1, 1) := ax_dec dX3_await_q0_ok 13 (27, .iload_n 1, 1) rfl
theorem dX3_await_28 : decode cX3_await 28 = .ok (.iastore, 1) := ax_dec dX3_await_q0_ok 14 (28, .iastore, 1) rfl
theorem dX3_await_29 : decode cX3_await 29 = .ok (.aload_n 0, 1) := ax_dec dX3_await_q0_ok 15 (29, .aload_n 0, 1) rfl
theorem dX3_await_30 : decode cX3_await 30 = .ok (.dup, 1) := ax_dec dX3_await_q0_ok 16 (30, .dup, 1) rfl
theorem dX3_await_31 : decode cX3_await 31 = .ok (.getfield 65, 3) := ax_dec dX3_await_q0_ok 17 (31, .getfield 65, 3) rfl
theorem dX3_await_34 : decode cX3_await 34 = .ok (.iconst 1, 1) := ax_dec dX3_await_q0_ok 18 (34, .iconst 1, 1) rfl
theorem dX3_await_35 : decode cX3_await 35 = .ok (.iadd, 1) := ax_dec dX3_await_q0_ok 19 (35, .iadd, 1) rfl
theorem dX3_await_36 : decode cX3_await 36 = .ok (.putfield 65, 3) := ax_dec dX3_await_q0_ok 20 (36, .putfield 65, 3) rfl
theorem dX3_await_39 : decode cX3_await 39 = .ok (.return_, 1) := ax_dec dX3_await_q0_ok 21 (39, .return_, 1) rfl
def dX3_next_q0 : List (Nat × (Instr × Nat)) := [(0, .aload_n 0, 1), (1, .invokevirtual 103, 3), (4, .aload_n 0, 1), (5, .aload_n 0, 1), (6, .getfield 41, 3), (9, .putfield 62, 3), (12, .aload_n 0, 1), (13, .iconst 0, 1), (14, .putfield 52, 3), (17, .aload_n 0, 1), (18, .aload_n 0, 1), (19, .getfield 41, 3), (22, .invokevirtual 106, 3), (25, .istore_n 1, 1), (26, .iload_n 1, 1), (27, .ifCond .ge 11, 3), (30, .aload_n 0, 1), (31, .iconst 0, 1), (32, .putfield 47, 3), (35, .goto 49, 3), (38, .iload_n 1, 1), (39, .invokestatic 109, 3), (42, .ifCond .eq 10, 3), (45, .aload_n 0, 1), (46, .invokevirtual 112, 3), (49, .goto 35, 3), (52, .iload_n 1, 1), (53, .invokestatic 115, 3), (56, .ifCond .eq 10, 3), (59, .aload_n 0, 1), (60, .invokevirtual 118, 3), (63, .goto 21, 3)]
set_option maxRecDepth 100000 in
theorem dX3_next_q0_ok : ax_decs cX3_next dX3_next_q0 = true := by decide +kernel
theorem dX3_next_0 : decode cX3_next 0 = .ok (.aload_n 0, 1) := ax_dec dX3_next_q0_ok 0 (0, .aload_n 0, 1) rfl
theorem dX3_next_1 : decode cX3_next 1 = .ok (.invokevirtual 103, 3) := ax_dec dX3_next_q0_ok 1 (1, .invokevirtual 103, 3) rfl
theorem dX3_next_4 : decode cX3_next 4 = .ok (.aload_n 0, 1) := ax_dec dX3_next_q0_ok 2 (4, .aload_n 0, 1) rfl
theorem dX3_next_5 : decode cX3_next 5 = .ok (.aload_n 0, 1) := ax_dec dX3_next_q0_ok 3 (5, .aload_n 0, 1) rfl
theorem dX3_next_6 : decode cX3_next 6 = .ok (.getfield 41, 3) := ax_dec dX3_next_q0_ok 4 (6, .getfield 41, 3) rfl
theorem dX3_next_9 : decode cX3_next 9 = .ok (.putfield 62, 3) := ax_dec dX3_next_q0_ok 5 (9, .putfield 62, 3) rfl
theorem dX3_next_12 : decode cX3_next 12 = .ok (.aload_n 0, 1) := ax_dec dX3_next_q0_ok 6 (12, .aload_n 0, 1) rfl
theorem dX3_next_13 : decode cX3_next 13 = .ok (.iconst 0, 1) := ax_dec dX3_next_q0_ok 7 (13, .iconst 0, 1) rfl
theorem dX3_next_14 : decode cX3_next 14 = .ok (.putfield 52, 3) := ax_dec dX3_next_q0_ok 8 (14, .putfield 52, 3) rfl
theorem dX3_next_17 : decode cX3_next 17 = .ok (.aload_n 0, 1) := ax_dec dX3_next_q0_ok 9 (17, .aload_n 0, 1) rfl
theorem dX3_next_18 : decode cX3_next 18 = .ok (.aload_n 0, 1) := ax_dec dX3_next_q0_ok 10 (18, .aload_n 0, 1) rfl
theorem dX3_next_19 : decode cX3_next 19 = .ok (.getfield 41, 3) := ax_dec dX3_next_q0_ok 11 (19, .getfield 41, 3) rfl
theorem dX3_next_22 : decode cX3_next 22 = .ok (.invokevirtual 106, 3) := ax_dec dX3_next_q0_ok 12 (22, .invokevirtual 106, 3) rfl
theorem dX3_next_25 : decode cX3_next 25 = .ok (.istore_n 1, 1) := ax_dec dX3_next_q0_ok 13 (25, .istore_n 1, 1) rfl
theorem dX3_next_26 : decode cX3_next 26 = .ok (.iload_n 1, 1) := ax_dec dX3_next_q0_ok 14 (26, .iload_n 1, 1) rfl
theorem dX3_next_27 : decode cX3_next 27 = .ok (.ifCond .ge 11, 3) := ax_dec dX3_next_q0_ok 15 (27, .ifCond .ge 11, 3) rfl
theorem dX3_next_30 : decode cX3_next 30 = .ok (.aload_n 0, 1) := ax_dec dX3_next_q0_ok 16 (30, .aload_n 0, 1) rfl
theorem dX3_next_31 : decode cX3_next 31 = .ok (.iconst 0, 1) := ax_dec dX3_next_q0_ok 17 (31, .iconst 0, 1) rfl
theorem dX3_next_32 : decode cX3_next 32 = .ok (.putfield 47, 3) := ax_dec dX3_next_q0_ok 18 (32, .putfield 47, 3) rfl
theorem dX3_next_35 : decode cX3_next 35 = .ok (.goto 49, 3) := ax_dec dX3_next_q0_ok 19 (35, .goto 49, 3) rfl
theorem dX3_next_38 : decode cX3_next 38 = .ok (.iload_n 1, 1) := ax_dec dX3_next_q0_ok 20 (38, .iload_n 1, 1) rfl
theorem dX3_next_39 : decode cX3_next 39 = .ok (.invokestatic 109, 3) := ax_dec dX3_next_q0_ok 21 (39, .invokestatic 109, 3) rfl
theorem dX3_next_42 : decode cX3_next 42 = .ok (.ifCond .eq 10, 3) := ax_dec dX3_next_q0_ok 22 (42, .ifCond .eq 10, 3) rfl
theorem dX3_next_45 : decode cX3_next 45 = .ok (.aload_n 0, 1) := ax_dec dX3_next_q0_ok 23 (45, .aload_n 0, 1) rfl
theorem dX3_next_46 : decode cX3_next 46 = .ok (.invokevirtual 112, 3) := ax_dec dX3_next_q0_ok 24 (46, .invokevirtual 112, 3) rfl
theorem dX3_next_49 : decode cX3_next 49 = .ok (.goto 35, 3) := ax_dec dX3_next_q0_ok 25 (49, .goto 35, 3) rfl
theorem dX3_next_52 : decode cX3_next 52 = .ok (.iload_n 1, 1) := ax_dec dX3_next_q0_ok 26 (52, .iload_n 1, 1) rfl
theorem dX3_next_53 : decode cX3_next 53 = .ok (.invokestatic 115, 3) := ax_dec dX3_next_q0_ok 27 (53, .invokestatic 115, 3) rfl
theorem dX3_next_56 : decode cX3_next 56 = .ok (.ifCond .eq 10, 3) := ax_dec dX3_next_q0_ok 28 (56, .ifCond .eq 10, 3) rfl
theorem dX3_next_59 : decode cX3_next 59 = .ok (.aload_n 0, 1) := ax_dec dX3_next_q0_ok 29 (59, .aload_n 0, 1) rfl
theorem dX3_next_60 : decode cX3_next 60 = .ok (.invokevirtual 118, 3) := ax_dec dX3_next_q0_ok 30 (60, .invokevirtual 118, 3) rfl
theorem dX3_next_63 : decode cX3_next 63 = .ok (.goto 21, 3) := ax_dec dX3_next_q0_ok 31 (63, .goto 21, 3) rfl
def dX3_next_q1 : List (Nat × (Instr × Nat)) := [(66, .aload_n 0, 1), (67, .dup, 1), (68, .getfield 41, 3), (71, .iconst 1, 1), (72, .iadd, 1), (73, .putfield 41, 3), (76, .aload_n 0, 1), (77, .iload_n 1, 1), (78, .invokestatic 121, 3), (81, .putfield 47, 3), (84, .return_, 1)]
set_option maxRecDepth 100000 in
theorem dX3_next_q1_ok : ax_decs cX3_next dX3_next_q1 = true := by decide +kernel
theorem dX3_next_66 : decode cX3_next 66 = .ok (.aload_n 0, 1) := ax_dec dX3_next_q1_ok 0 (66, .aload_n 0, 1) rfl
theorem dX3_next_67 : decode cX3_next 67 = .ok (.dup, 1) := ax_dec dX3_next_q1_ok 1 (67, .dup, 1) rfl
theorem dX3_next_68 : decode cX3_next 68 = .ok (.getfield 41, 3) := ax_dec dX3_next_q1_ok 2 (68, .getfield 41, 3) rfl
theorem dX3_next_71 : decode cX3_next 71 = .ok (.iconst 1, 1) := ax_dec dX3_next_q1_ok 3 (71, .iconst 1, 1) rfl
theorem dX3_next_72 : decode cX3_next 72 = .ok (.iadd, 1) := ax_dec dX3_next_q1_ok 4 (72, .iadd, 1) rfl
theorem dX3_next_73 : decode cX3_next 73 = .ok (.putfield 41, 3) := ax_dec dX3_next_q1_ok 5 (73, .putfield 41, 3) rfl
theorem dX3_next_76 : decode cX3_next 76 = .ok (.aload_n 0, 1) := ax_dec dX3_next_q1_ok 6 (76, .aload_n 0, 1) rfl
theorem dX3_next_77 : decode cX3_next 77 = .ok (.iload_n 1, 1) := ax_dec dX3_next_q1_ok 7 (77, .iload_n 1, 1) rfl
theorem dX3_next_78 : decode cX3_next 78 = .ok (.invokestatic 121, 3) := ax_dec dX3_next_q1_ok 8 (78, .invokestatic 121, 3) rfl
theorem dX3_next_81 : decode cX3_next 81 = .ok (.putfield 47, 3) := ax_dec dX3_next_q1_ok 9 (81, .putfield 47, 3) rfl
theorem dX3_next_84 : decode cX3_next 84 = .ok (.return_, 1) := ax_dec dX3_next_q1_ok 10 (84, .return_, 1) rfl
def dX3_skipBlanks_q0 : List (Nat × (Instr × Nat)) := [(0, .iconst 0, 1), (1, .istore_n 1, 1), (2, .iload_n 1, 1), (3, .sipush 160, 3), (6, .if_icmp .ge 45, 3), (9, .aload_n 0, 1), (10, .aload_n 0, 1), (11, .getfield 41, 3), (14, .invokevirtual 106, 3), (17, .bipush 32, 2), (19, .if_icmp .eq 16, 3), (22, .aload_n 0, 1), (23, .aload_n 0, 1), (24, .getfield 41, 3), (27, .invokevirtual 106, 3), (30, .bipush 10, 2), (32, .if_icmp .ne 19, 3), (35, .aload_n 0, 1), (36, .dup, 1), (37, .getfield 41, 3), (40, .iconst 1, 1), (41, .iadd, 1), (42, .putfield 41, 3), (45, .iinc 1 1, 3), (48, .goto (-46), 3), (51, .return_, 1)]
set_option maxRecDepth 100000 in
theorem dX3_skipBlanks_q0_ok : ax_decs cX3_skipBlanks dX3_skipBlanks_q0 = true := by decide +kernel
theorem dX3_skipBlanks_0 : decode cX3_skipBlanks 0 = .ok (.iconst 0, 1) := ax_dec dX3_skipBlanks_q0_ok 0 (0, .iconst 0, 1) rfl
theorem dX3_skipBlanks_1 : decode cX3_skipBlanks 1 = .ok (.istore_n 1, 1) := ax_dec dX3_skipBlanks_q0_ok 1 (1, .istore_n 1, 1) rfl
theorem dX3_skipBlanks_2 : decode cX3_skipBlanks 2 = .ok (.iload_n 1, 1) := ax_dec dX3_skipBlanks_q0_ok 2 (2, .iload_n 1, 1) rfl
theorem dX3_skipBlanks_3 : decode cX3_skipBlanks 3 = .ok (.sipush 160, 3) := ax_dec dX3_skipBlanks_q0_ok 3 (3, .sipush 160, 3) rfl
theorem dX3_skipBlanks_6 : decode cX3_skipBlanks 6 = .ok (.if_icmp .ge 45, 3) := ax_dec dX3_skipBlanks_q0_ok 4 (6, .if_icmp .ge 45, 3) rfl
theorem dX3_skipBlanks_9 : decode cX3_skipBlanks 9 = .ok (.aload_n 0, 1) := ax_dec dX3_skipBlanks_q0_ok 5 (9, .aload_n 0, 1) rfl
theorem dX3_skipBlanks_10 : decode cX3_skipBlanks 10 = .ok (.aload_n 0, 1) := ax_dec dX3_skipBlanks_q0_ok 6 (10, .aload_n 0, 1) rfl
theorem dX3_skipBlanks_11 : decode cX3_skipBlanks 11 = .ok (.getfield 41, 3) := ax_dec dX3_skipBlanks_q0_ok 7 (11, .getfield 41, 3) rfl
theorem dX3_skipBlanks_14 : decode cX3_skipBlanks 14 = .ok (.invokevirtual 106, 3) := ax_dec dX3_skipBlanks_q0_ok 8 (14, .invokevirtual 106, 3) rfl
theorem dX3_skipBlanks_17 : decode cX3_skipBlanks 17 = .ok (.bipush 32, 2) := ax_dec dX3_skipBlanks_q0_ok 9 (17, .bipush 32, 2) rfl
theorem dX3_skipBlanks_19 : decode cX3_skipBlanks 19 = .ok (.if_icmp .eq 16, 3) := ax_dec dX3_skipBlanks_q0_ok 10 (19, .if_icmp .eq 16, 3) rfl
theorem dX3_skipBlanks_22 : decode cX3_skipBlanks 22 = .ok (.aload_n 0, 1) := ax_dec dX3_skipBlanks_q0_ok 11 (22, .aload_n 0, 1) rfl
theorem dX3_skipBlanks_23 : decode cX3_skipBlanks 23 = .ok (.aload_n 0, 1) := ax_dec dX3_skipBlanks_q0_ok 12 (23, .aload_n 0, 1) rfl
theorem dX3_skipBlanks_24 : decode cX3_skipBlanks 24 = .ok (.getfield 41, 3) := ax_dec dX3_skipBlanks_q0_ok 13 (24, .getfield 41, 3) rfl
theorem dX3_skipBlanks_27 : decode cX3_skipBlanks 27 = .ok (.invokevirtual 106, 3) := ax_dec dX3_skipBlanks_q0_ok 14 (27, .invokevirtual 106, 3) rfl
theorem dX3_skipBlanks_30 : decode cX3_skipBlanks 30 = .ok (.bipush 10, 2) := ax_dec dX3_skipBlanks_q0_ok 15 (30, .bipush 10, 2) rfl
theorem dX3_skipBlanks_32 : decode cX3_skipBlanks 32 = .ok (.if_icmp .ne 19, 3) := ax_dec dX3_skipBlanks_q0_ok 16 (32, .if_icmp .ne 19, 3) rfl
theorem dX3_skipBlanks_35 : decode cX3_skipBlanks 35 = .ok (.aload_n 0, 1) := ax_dec dX3_skipBlanks_q0_ok 17 (35, .aload_n 0, 1) rfl
theorem dX3_skipBlanks_36 : decode cX3_skipBlanks 36 = .ok (.dup, 1) := ax_dec dX3_skipBlanks_q0_ok 18 (36, .dup, 1) rfl
theorem dX3_skipBlanks_37 : decode cX3_skipBlanks 37 = .ok (.getfield 41, 3) := ax_dec dX3_skipBlanks_q0_ok 19 (37, .getfield 41, 3) rfl
theorem dX3_skipBlanks_40 : decode cX3_skipBlanks 40 = .ok (.iconst 1, 1) := ax_dec dX3_skipBlanks_q0_ok 20 (40, .iconst 1, 1) rfl
theorem dX3_skipBlanks_41 : decode cX3_skipBlanks 41 = .ok (.iadd, 1) := ax_dec dX3_skipBlanks_q0_ok 21 (41, .iadd, 1) rfl
theorem dX3_skipBlanks_42 : decode cX3_skipBlanks 42 = .ok (.putfield 41, 3) := ax_dec dX3_skipBlanks_q0_ok 22 (42, .putfield 41, 3) rfl
theorem dX3_skipBlanks_45 : decode cX3_skipBlanks 45 = .ok (.iinc 1 1, 3) := ax_dec dX3_skipBlanks_q0_ok 23 (45, .iinc 1 1, 3) rfl
theorem dX3_skipBlanks_48 : decode cX3_skipBlanks 48 = .ok (.goto (-46), 3) := ax_dec dX3_skipBlanks_q0_ok 24 (48, .goto (-46), 3) rfl
theorem dX3_skipBlanks_51 : decode cX3_skipBlanks 51 = .ok (.return_, 1) := ax_dec dX3_skipBlanks_q0_ok 25 (51, .return_, 1) rfl
def dX3_readNumber_q0 : List (Nat × (Instr × Nat)) := [(0, .iconst 0, 1), (1, .istore_n 1, 1), (2, .iload_n 1, 1), (3, .sipush 160, 3), (6, .if_icmp .ge 56, 3), (9, .aload_n 0, 1), (10, .aload_n 0, 1), (11, .getfield 41, 3), (14, .invokevirtual 106, 3), (17, .invokestatic 115, 3), (20, .ifCond .eq 42, 3), (23, .aload_n 0, 1), (24, .bipush 10, 2), (26, .aload_n 0, 1), (27, .getfield 52, 3), (30, .imul, 1), (31, .aload_n 0, 1), (32, .aload_n 0, 1), (33, .getfield 41, 3), (36, .invokevirtual 106, 3), (39, .iadd, 1), (40, .bipush 48, 2), (42, .isub, 1), (43, .putfield 52, 3), (46, .aload_n 0, 1), (47, .dup, 1), (48, .getfield 41, 3), (51, .iconst 1, 1), (52, .iadd, 1), (53, .putfield 41, 3), (56, .iinc 1 1, 3), (59, .goto (-57), 3)]
set_option maxRecDepth 100000 in
theorem dX3_readNumber_q0_ok : ax_decs cX3_readNumber dX3_readNumber_q0 = true := by decide +kernel
theorem dX3_readNumber_0 : decode cX3_readNumber 0 = .ok (.iconst 0, 1) := ax_dec dX3_readNumber_q0_ok 0 (0, .iconst 0, 1) rfl
theorem dX3_readNumber_1 : decode cX3_readNumber 1 = .ok (.istore_n 1, 1) := ax_dec dX3_readNumber_q0_ok 1 (1, .istore_n 1, 1) rfl
theorem dX3_readNumber_2 : decode cX3_readNumber 2 = .ok (.iload_n 1, 1) := ax_dec dX3_readNumber_q0_ok 2 (2, .iload_n 1, 1) rfl
theorem dX3_readNumber_3 : decode cX3_readNumber 3 = .ok (.sipush 160, 3) := ax_dec dX3_readNumber_q0_ok 3 (3, .sipush 160, 3) rfl
theorem dX3_readNumber_6 : decode cX3_readNumber 6 = .ok (.if_icmp .ge 56, 3) := ax_dec dX3_readNumber_q0_ok 4 (6, .if_icmp .ge 56, 3) rfl
theorem dX3_readNumber_9 : decode cX3_readNumber 9 = .ok (.aload_n 0, 1) := ax_dec dX3_readNumber_q0_ok 5 (9, .aload_n 0, 1) rfl
theorem dX3_readNumber_10 : decode cX3_readNumber 10 = .ok (.aload_n 0, 1) := ax_dec dX3_readNumber_q0_ok 6 (10, .aload_n 0, 1) rfl
theorem dX3_readNumber_11 : decode cX3_readNumber 11 = .ok (.getfield 41, 3) := ax_dec dX3_readNumber_q0_ok 7 (11, .getfield 41, 3) rfl
theorem dX3_readNumber_14 : decode cX3_readNumber 14 = .ok (.invokevirtual 106, 3) := ax_dec dX3_readNumber_q0_ok 8 (14, .invokevirtual 106, 3) rfl
theorem dX3_readNumber_17 : decode cX3_readNumber 17 = .ok (.invokestatic 115, 3) := ax_dec dX3_readNumber_q0_ok 9 (17, .invokestatic 115, 3) rfl
theorem dX3_readNumber_20 : decode cX3_readNumber 20 = .ok (.ifCond .eq 42, 3) := ax_dec dX3_readNumber_q0_ok 10 (20, .ifCond .eq 42, 3) rfl
theorem dX3_readNumber_23 : decode cX3_readNumber 23 = .ok (.aload_n 0, 1) := ax_dec dX3_readNumber_q0_ok 11 (23, .aload_n 0, 1) rfl
theorem dX3_readNumber_24 : decode cX3_readNumber 24 = .ok (.bipush 10, 2) := ax_dec dX3_readNumber_q0_ok 12 (24, .bipush 10, 2) rfl
theorem dX3_readNumber_26 : decode cX3_readNumber 26 = .ok (.aload_n 0, 1) := ax_dec dX3_readNumber_q0_ok 13 (26, .aload_n 0, 1) rfl
theorem dX3_readNumber_27 : decode cX3_readNumber 27 = .ok (.getfield 52, 3) := ax_dec dX3_readNumber_q0_ok 14 (27, .getfield 52, 3) rfl
theorem dX3_readNumber_30 : decode cX3_readNumber 30 = .ok (.imul, 1) := ax_dec dX3_readNumber_q0_ok 15 (30, .imul, 1) rfl
theorem dX3_readNumber_31 : decode cX3_readNumber 31 = .ok (.aload_n 0, 1) := ax_dec dX3_readNumber_q0_ok 16 (31, .aload_n 0, 1) rfl
theorem dX3_readNumber_32 : decode cX3_readNumber 32 = .ok (.aload_n 0, 1) := ax_dec dX3_readNumber_q0_ok 17 (32, .aload_n 0, 1) rfl
theorem dX3_readNumber_33 : decode cX3_readNumber 33 = .ok (.getfield 41, 3) := ax_dec dX3_readNumber_q0_ok 18 (33, .getfield 41, 3) rfl
theorem dX3_readNumber_36 : decode cX3_readNumber 36 = .ok (.invokevirtual 106, 3) := ax_dec dX3_readNumber_q0_ok 19 (36, .invokevirtual 106, 3) rfl
theorem dX3_readNumber_39 : decode cX3_readNumber 39 = .ok (.iadd, 1) := ax_dec dX3_readNumber_q0_ok 20 (39, .iadd, 1) rfl
theorem dX3_readNumber_40 : decode cX3_readNumber 40 = .ok (.bipush 48, 2) := ax_dec dX3_readNumber_q0_ok 21 (40, .bipush 48, 2) rfl
theorem dX3_readNumber_42 : decode cX3_readNumber 42 = .ok (.isub, 1) := ax_dec dX3_readNumber_q0_ok 22 (42, .isub, 1) rfl
theorem dX3_readNumber_43 : decode cX3_readNumber 43 = .ok (.putfield 52, 3) := ax_dec dX3_readNumber_q0_ok 23 (43, .putfield 52, 3) rfl
theorem dX3_readNumber_46 : decode cX3_readNumber 46 = .ok (.aload_n 0, 1) := ax_dec dX3_readNumber_q0_ok 24 (46, .aload_n 0, 1) rfl
theorem dX3_readNumber_47 : decode cX3_readNumber 47 = .ok (.dup, 1) := ax_dec dX3_readNumber_q0_ok 25 (47, .dup, 1) rfl
theorem dX3_readNumber_48 : decode cX3_readNumber 48 = .ok (.getfield 41, 3) := ax_dec dX3_readNumber_q0_ok 26 (48, .getfield 41, 3) rfl
theorem dX3_readNumber_51 : decode cX3_readNumber 51 = .ok (.iconst 1, 1) := ax_dec dX3_readNumber_q0_ok 27 (51, .iconst 1, 1) rfl
theorem dX3_readNumber_52 : decode cX3_readNumber 52 = .ok (.iadd, 1) := ax_dec dX3_readNumber_q0_ok 28 (52, .iadd, 1) rfl
theorem dX3_readNumber_53 : decode cX3_readNumber 53 = .ok (.putfield 41, 3) := ax_dec dX3_readNumber_q0_ok 29 (53, .putfield 41, 3) rfl
theorem dX3_readNumber_56 : decode cX3_readNumber 56 = .ok (.iinc 1 1, 3) := ax_dec dX3_readNumber_q0_ok 30 (56, .iinc 1 1, 3) rfl
theorem dX3_readNumber_59 : decode cX3_readNumber 59 = .ok (.goto (-57), 3) := ax_dec dX3_readNumber_q0_ok 31 (59, .goto (-57), 3) rfl
def dX3_readNumber_q1 : List (Nat × (Instr × Nat)) := [(62, .aload_n 0, 1), (63, .aload_n 0, 1), (64, .getfield 41, 3), (67, .aload_n 0, 1), (68, .getfield 62, 3), (71, .isub, 1), (72, .iconst 4, 1), (73, .if_icmp .le 7, 3), (76, .iconst 1, 1), (77, .goto 4, 3), (80, .iconst 2, 1), (81, .putfield 47, 3), (84, .return_, 1)]
set_option maxRecDepth 100000 in
theorem dX3_readNumber_q1_ok : ax_decs cX3_readNumber dX3_readNumber_q1 = true := by decide +kernel
theorem dX3_readNumber_62 : decode cX3_readNumber 62 = .ok (.aload_n 0, 1) := ax_dec dX3_readNumber_q1_ok 0 (62, .aload_n 0, 1) rfl
theorem dX3_readNumber_63 : decode cX3_readNumber 63 = .ok (.aload_n 0, 1) := ax_dec dX3_readNumber_q1_ok 1 (63, .aload_n 0, 1) rfl
theorem dX3_readNumber_64 : decode cX3_readNumber 64 = .ok (.getfield 41, 3) := ax_dec dX3_readNumber_q1_ok 2 (64, .getfield 41, 3) rfl
theorem dX3_readNumber_67 : decode cX3_readNumber 67 = .ok (.aload_n 0, 1) := ax_dec dX3_readNumber_q1_ok 3 (67, .aload_n 0, 1) rfl
theorem dX3_readNumber_68 : decode cX3_readNumber 68 = .ok (.getfield 62, 3) := ax_dec dX3_readNumber_q1_ok 4 (68, .getfield 62, 3) rfl
theorem dX3_readNumber_71 : decode cX3_readNumber 71 = .ok (.isub, 1) := ax_dec dX3_readNumber_q1_ok 5 (71, .isub, 1) rfl
theorem dX3_readNumber_72 : decode cX3_readNumber 72 = .ok (.iconst 4, 1) := ax_dec dX3_readNumber_q1_ok 6 (72, .iconst 4, 1) rfl
theorem dX3_readNumber_73 : decode cX3_readNumber 73 = .ok (.if_icmp .le 7, 3) := ax_dec dX3_readNumber_q1_ok 7 (73, .if_icmp .le 7, 3) rfl
theorem dX3_readNumber_76 : decode cX3_readNumber 76 = .ok (.iconst 1, 1) := ax_dec dX3_readNumber_q1_ok 8 (76, .iconst 1, 1) rfl
theorem dX3_readNumber_77 : decode cX3_readNumber 77 = .ok (.goto 4, 3) := ax_dec dX3_readNumber_q1_ok 9 (77, .goto 4, 3) rfl
theorem dX3_readNumber_80 : decode cX3_readNumber 80 = .ok (.iconst 2, 1) := ax_dec dX3_readNumber_q1_ok 10 (80, .iconst 2, 1) rfl
theorem dX3_readNumber_81 : decode cX3_readNumber 81 = .ok (.putfield 47, 3) := ax_dec dX3_readNumber_q1_ok 11 (81, .putfield 47, 3) rfl
theorem dX3_readNumber_84 : decode cX3_readNumber 84 = .ok (.return_, 1) := ax_dec dX3_readNumber_q1_ok 12 (84, .return_, 1) rfl
def dX3_readWord_q0 : List (Nat × (Instr × Nat)) := [(0, .iconst 0, 1), (1, .istore_n 1, 1), (2, .iload_n 1, 1), (3, .sipush 160, 3), (6, .if_icmp .ge 33, 3), (9, .aload_n 0, 1), (10, .aload_n 0, 1), (11, .getfield 41, 3), (14, .invokevirtual 106, 3), (17, .invokestatic 109, 3), (20, .ifCond .eq 19, 3), (23, .aload_n 0, 1), (24, .dup, 1), (25, .getfield 41, 3), (28, .iconst 1, 1), (29, .iadd, 1), (30, .putfield 41, 3), (33, .iinc 1 1, 3), (36, .goto (-34), 3), (39, .aload_n 0, 1), (40, .invokevirtual 124, 3), (43, .istore_n 1, 1), (44, .iload_n 1, 1), (45, .ifCond .ge 11, 3), (48, .aload_n 0, 1), (49, .iconst 1, 1), (50, .putfield 47, 3), (53, .goto 52, 3), (56, .iload_n 1, 1), (57, .iconst 3, 1), (58, .if_icmp .ge 16, 3), (61, .aload_n 0, 1)]
set_option maxRecDepth 100000 in
theorem dX3_readWord_q0_ok : ax_decs cX3_readWord dX3_readWord_q0 = true := by decide +kernel
theorem dX3_readWord_0 : decode cX3_readWord 0 = .ok (.iconst 0, 1) := ax_dec dX3_readWord_q0_ok 0 (0, .iconst 0, 1) rfl
theorem dX3_readWord_1 : decode cX3_readWord 1 = .ok (.istore_n 1, 1) := ax_dec dX3_readWord_q0_ok 1 (1, .istore_n 1, 1) rfl
theorem dX3_readWord_2 : decode cX3_readWord 2 = .ok (.iload_n 1, 1) := ax_dec dX3_readWord_q0_ok 2 (2, .iload_n 1, 1) rfl
theorem dX3_readWord_3 : decode cX3_readWord 3 = .ok (.sipush 160, 3) := ax_dec dX3_readWord_q0_ok 3 (3, .sipush 160, 3) rfl
theorem dX3_readWord_6 : decode cX3_readWord 6 = .ok (.if_icmp .ge 33, 3) := ax_dec dX3_readWord_q0_ok 4 (6, .if_icmp .ge 33, 3) rfl
theorem dX3_readWord_9 : decode cX3_readWord 9 = .ok (.aload_n 0, 1) := ax_dec dX3_readWord_q0_ok 5 (9, .aload_n 0, 1) rfl
theorem dX3_readWord_10 : decode cX3_readWord 10 = .ok (.aload_n 0, 1) := ax_dec dX3_readWord_q0_ok 6 (10, .aload_n 0, 1) rfl
theorem dX3_readWord_11 : decode cX3_readWord 11 = .ok (.getfield 41, 3) := ax_dec dX3_readWord_q0_ok 7 (11, .getfield 41, 3) rfl
theorem dX3_readWord_14 : decode cX3_readWord 14 = .ok (.invokevirtual 106, 3) := ax_dec dX3_readWord_q0_ok 8 (14, .invokevirtual 106, 3) rfl
theorem dX3_readWord_17 : decode cX3_readWord 17 = .ok (.invokestatic 109, 3) := ax_dec dX3_readWord_q0_ok 9 (17, .invokestatic 109, 3) rfl
theorem dX3_readWord_20 : decode cX3_readWord 20 = .ok (.ifCond .eq 19, 3) := ax_dec dX3_readWord_q0_ok 10 (20, .ifCond .eq 19, 3) rfl
theorem dX3_readWord_23 : decode cX3_readWord 23 = .ok (.aload_n 0, 1) := ax_dec dX3_readWord_q0_ok 11 (23, .aload_n 0, 1) rfl
theorem dX3_readWord_24 : decode cX3_readWord 24 = .ok (.dup, 1) := ax_dec dX3_readWord_q0_ok 12 (24, .dup, 1) rfl
theorem dX3_readWord_25 : decode cX3_readWord 25 = .ok (.getfield 41, 3) := ax_dec dX3_readWord_q0_ok 13 (25, .getfield 41, 3) rfl
theorem dX3_readWord_28 : decode cX3_readWord 28 = .ok (.iconst 1, 1) := ax_dec dX3_readWord_q0_ok 14 (28, .iconst 1, 1) rfl
theorem dX3_readWord_29 : decode cX3_readWord 29 = .ok (.iadd, 1) := ax_dec dX3_readWord_q0_ok 15 (29, .iadd, 1) rfl
theorem dX3_readWord_30 : decode cX3_readWord 30 = .ok (.putfield 41, 3) := ax_dec dX3_readWord_q0_ok 16 (30, .putfield 41, 3) rfl
theorem dX3_readWord_33 : decode cX3_readWord 33 = .ok (.iinc 1 1, 3) := ax_dec dX3_readWord_q0_ok 17 (33, .iinc 1 1, 3) rfl
theorem dX3_readWord_36 : decode cX3_readWord 36 = .ok (.goto (-34), 3) := ax_dec dX3_readWord_q0_ok 18 (36, .goto (-34), 3) rfl
theorem dX3_readWord_39 : decode cX3_readWord 39 = .ok (.aload_n 0, 1) := ax_dec dX3_readWord_q0_ok 19 (39, .aload_n 0, 1) rfl
theorem dX3_readWord_40 : decode cX3_readWord 40 = .ok (.invokevirtual 124, 3) := ax_dec dX3_readWord_q0_ok 20 (40, .invokevirtual 124, 3) rfl
theorem dX3_readWord_43 : decode cX3_readWord 43 = .ok (.istore_n 1, 1) := ax_dec dX3_readWord_q0_ok 21 (43, .istore_n 1, 1) rfl
theorem dX3_readWord_44 : decode cX3_readWord 44 = .ok (.iload_n 1, 1) := ax_dec dX3_readWord_q0_ok 22 (44, .iload_n 1, 1) rfl
theorem dX3_readWord_45 : decode cX3_readWord 45 = .ok (.ifCond .ge 11, 3) := ax_dec dX3_readWord_q0_ok 23 (45, .ifCond .ge 11, 3) rfl
theorem dX3_readWord_48 : decode cX3_readWord 48 = .ok (.aload_n 0, 1) := ax_dec dX3_readWord_q0_ok 24 (48, .aload_n 0, 1) rfl
theorem dX3_readWord_49 : decode cX3_readWord 49 = .ok (.iconst 1, 1) := ax_dec dX3_readWord_q0_ok 25 (49, .iconst 1, 1) rfl
theorem dX3_readWord_50 : decode cX3_readWord 50 = .ok (.putfield 47, 3) := ax_dec dX3_readWord_q0_ok 26 (50, .putfield 47, 3) rfl
theorem dX3_readWord_53 : decode cX3_readWord 53 = .ok (.goto 52, 3) := ax_dec dX3_readWord_q0_ok 27 (53, .goto 52, 3) rfl
theorem dX3_readWord_56 : decode cX3_readWord 56 = .ok (.iload_n 1, 1) := ax_dec dX3_readWord_q0_ok 28 (56, .iload_n 1, 1) rfl
theorem dX3_readWord_57 : decode cX3_readWord 57 = .ok (.iconst 3, 1) := ax_dec dX3_readWord_q0_ok 29 (57, .iconst 3, 1) rfl
theorem dX3_readWord_58 : decode cX3_readWord 58 = .ok (.if_icmp .ge 16, 3) := ax_dec dX3_readWord_q0_ok 30 (58, .if_icmp .ge 16, 3) rfl
theorem dX3_readWord_61 : decode cX3_readWord 61 = .ok (.aload_n 0, 1) := ax_dec dX3_readWord_q0_ok 31 (61, .aload_n 0, 1) rfl
def dX3_readWord_q1 : List (Nat × (Instr × Nat)) := [(62, .iconst 4, 1), (63, .putfield 47, 3), (66, .aload_n 0, 1), (67, .iload_n 1, 1), (68, .putfield 52, 3), (71, .goto 34, 3), (74, .iload_n 1, 1), (75, .bipush 6, 2), (77, .if_icmp .ge 15, 3), (80, .aload_n 0, 1), (81, .iconst 5, 1), (82, .iload_n 1, 1), (83, .iadd, 1), (84, .iconst 3, 1), (85, .isub, 1), (86, .putfield 47, 3), (89, .goto 16, 3), (92, .aload_n 0, 1), (93, .iconst 3, 1), (94, .putfield 47, 3), (97, .aload_n 0, 1), (98, .iload_n 1, 1), (99, .bipush 6, 2), (101, .isub, 1), (102, .putfield 52, 3), (105, .return_, 1)]
set_option maxRecDepth 100000 in
theorem dX3_readWord_q1_ok : ax_decs cX3_readWord dX3_readWord_q1 = true := by decide +kernel
theorem dX3_readWord_62 : decode cX3_readWord 62 = .ok (.iconst 4, 1) := ax_dec dX3_readWord_q1_ok 0 (62, .iconst 4, 1) rfl
theorem dX3_readWord_63 : decode cX3_readWord 63 = .ok (.putfield 47, 3) := ax_dec dX3_readWord_q1_ok 1 (63, .putfield 47, 3) rfl
theorem dX3_readWord_66 : decode cX3_readWord 66 = .ok (.aload_n 0, 1) := ax_dec dX3_readWord_q1_ok 2 (66, .aload_n 0, 1) rfl
theorem dX3_readWord_67 : decode cX3_readWord 67 = .ok (.iload_n 1, 1) := ax_dec dX3_readWord_q1_ok 3 (67, .iload_n 1, 1) rfl
theorem dX3_readWord_68 : decode cX3_readWord 68 = .ok (.putfield 52, 3) := ax_dec dX3_readWord_q1_ok 4 (68, .putfield 52, 3) rfl
theorem dX3_readWord_71 : decode cX3_readWord 71 = .ok (.goto 34, 3) := ax_dec dX3_readWord_q1_ok 5 (71, .goto 34, 3) rfl
theorem dX3_readWord_74 : decode cX3_readWord 74 = .ok (.iload_n 1, 1) := ax_dec dX3_readWord_q1_ok 6 (74, .iload_n 1, 1) rfl
theorem dX3_readWord_75 : decode cX3_readWord 75 = .ok (.bipush 6, 2) := ax_dec dX3_readWord_q1_ok 7 (75, .bipush 6, 2) rfl
theorem dX3_readWord_77 : decode cX3_readWord 77 = .ok (.if_icmp .ge 15, 3) := ax_dec dX3_readWord_q1_ok 8 (77, .if_icmp .ge 15, 3) rfl
theorem dX3_readWord_80 : decode cX3_readWord 80 = .ok (.aload_n 0, 1) := ax_dec dX3_readWord_q1_ok 9 (80, .aload_n 0, 1) rfl
theorem dX3_readWord_81 : decode cX3_readWord 81 = .ok (.iconst 5, 1) := ax_dec dX3_readWord_q1_ok 10 (81, .iconst 5, 1) rfl
theorem dX3_readWord_82 : decode cX3_readWord 82 = .ok (.iload_n 1, 1) := ax_dec dX3_readWord_q1_ok 11 (82, .iload_n 1, 1) rfl
theorem dX3_readWord_83 : decode cX3_readWord 83 = .ok (.iadd, 1) := ax_dec dX3_readWord_q1_ok 12 (83, .iadd, 1) rfl
theorem dX3_readWord_84 : decode cX3_readWord 84 = .ok (.iconst 3, 1) := ax_dec dX3_readWord_q1_ok 13 (84, .iconst 3, 1) rfl
theorem dX3_readWord_85 : decode cX3_readWord 85 = .ok (.isub, 1) := ax_dec dX3_readWord_q1_ok 14 (85, .isub, 1) rfl
theorem dX3_readWord_86 : decode cX3_readWord 86 = .ok (.putfield 47, 3) := ax_dec dX3_readWord_q1_ok 15 (86, .putfield 47, 3) rfl
theorem dX3_readWord_89 : decode cX3_readWord 89 = .ok (.goto 16, 3) := ax_dec dX3_readWord_q1_ok 16 (89, .goto 16, 3) rfl
theorem dX3_readWord_92 : decode cX3_readWord 92 = .ok (.aload_n 0, 1) := ax_dec dX3_readWord_q1_ok 17 (92, .aload_n 0, 1) rfl
theorem dX3_readWord_93 : decode cX3_readWord 93 = .ok (.iconst 3, 1) := ax_dec dX3_readWord_q1_ok 18 (93, .iconst 3, 1) rfl
theorem dX3_readWord_94 : decode cX3_readWord 94 = .ok (.putfield 47, 3) := ax_dec dX3_readWord_q1_ok 19 (94, .putfield 47, 3) rfl
theorem dX3_readWord_97 : decode cX3_readWord 97 = .ok (.aload_n 0, 1) := ax_dec dX3_readWord_q1_ok 20 (97, .aload_n 0, 1) rfl
theorem dX3_readWord_98 : decode cX3_readWord 98 = .ok (.iload_n 1, 1) := ax_dec dX3_readWord_q1_ok 21 (98, .iload_n 1, 1) rfl
theorem dX3_readWord_99 : decode cX3_readWord 99 = .ok (.bipush 6, 2) := ax_dec dX3_readWord_q1_ok 22 (99, .bipush 6, 2) rfl
theorem dX3_readWord_101 : decode cX3_readWord 101 = .ok (.isub, 1) := ax_dec dX3_readWord_q1_ok 23 (101, .isub, 1) rfl
theorem dX3_readWord_102 : decode cX3_readWord 102 = .ok (.putfield 52, 3) := ax_dec dX3_readWord_q1_ok 24 (102, .putfield 52, 3) rfl
theorem dX3_readWord_105 : decode cX3_readWord 105 = .ok (.return_, 1) := ax_dec dX3_readWord_q1_ok 25 (105, .return_, 1) rfl
def dX3_wordNumber_q0 : List (Nat × (Instr × Nat)) := [(0, .iconst 0, 1), (1, .istore_n 1, 1), (2, .iconst 0, 1), (3, .istore_n 2, 1), (4, .iconst 1, 1), (5, .istore_n 3, 1), (6, .iconst 0, 1), (7, .istore 4, 2), (9, .iload 4, 2), (11, .ldc 127, 2), (13, .invokevirtual 22, 3), (16, .if_icmp .ge 83, 3), (19, .ldc 127, 2), (21, .iload 4, 2), (23, .invokevirtual 28, 3), (26, .bipush 32, 2), (28, .if_icmp .eq 39, 3), (31, .iload_n 3, 1), (32, .ifCond .eq 27, 3), (35, .ldc 127, 2), (37, .iload 4, 2), (39, .invokevirtual 28, 3), (42, .aload_n 0, 1), (43, .aload_n 0, 1), (44, .getfield 62, 3), (47, .iload_n 2, 1), (48, .iadd, 1), (49, .invokevirtual 106, 3), (52, .if_icmp .ne 7, 3), (55, .iconst 1, 1), (56, .goto 4, 3), (59, .iconst 0, 1)]
set_option maxRecDepth 100000 in
theorem dX3_wordNumber_q0_ok : ax_decs cX3_wordNumber dX3_wordNumber_q0 = true := by decide +kernel
theorem dX3_wordNumber_0 : decode cX3_wordNumber 0 = .ok (.iconst 0, 1) := ax_dec dX3_wordNumber_q0_ok 0 (0, .iconst 0, 1) rfl
theorem dX3_wordNumber_1 : decode cX3_wordNumber 1 = .ok (.istore_n 1, 1) := ax_dec dX3_wordNumber_q0_ok 1 (1, .istore_n 1, 1) rfl
theorem dX3_wordNumber_2 : decode cX3_wordNumber 2 = .ok (.iconst 0, 1) := ax_dec dX3_wordNumber_q0_ok 2 (2, .iconst 0, 1) rfl
theorem dX3_wordNumber_3 : decode cX3_wordNumber 3 = .ok (.istore_n 2, 1) := ax_dec dX3_wordNumber_q0_ok 3 (3, .istore_n 2, 1) rfl
theorem dX3_wordNumber_4 : decode cX3_wordNumber 4 = .ok (.iconst 1, 1) := ax_dec dX3_wordNumber_q0_ok 4 (4, .iconst 1, 1) rfl
theorem dX3_wordNumber_5 : decode cX3_wordNumber 5 = .ok (.istore_n 3, 1) := ax_dec dX3_wordNumber_q0_ok 5 (5, .istore_n 3, 1) rfl
theorem dX3_wordNumber_6 : decode cX3_wordNumber 6 = .ok (.iconst 0, 1) := ax_dec dX3_wordNumber_q0_ok 6 (6, .iconst 0, 1) rfl
theorem dX3_wordNumber_7 : decode cX3_wordNumber 7 = .ok (.istore 4, 2) := ax_dec dX3_wordNumber_q0_ok 7 (7, .istore 4, 2) rfl
theorem dX3_wordNumber_9 : decode cX3_wordNumber 9 = .ok (.iload 4, 2) := ax_dec dX3_wordNumber_q0_ok 8 (9, .iload 4, 2) rfl
theorem dX3_wordNumber_11 : decode cX3_wordNumber 11 = .ok (.ldc 127, 2) := ax_dec dX3_wordNumber_q0_ok 9 (11, .ldc 127, 2) rfl
theorem dX3_wordNumber_13 : decode cX3_wordNumber 13 = .ok (.invokevirtual 22, 3) := ax_dec dX3_wordNumber_q0_ok 10 (13, .invokevirtual 22, 3) rfl
theorem dX3_wordNumber_16 : decode cX3_wordNumber 16 = .ok (.if_icmp .ge 83, 3) := ax_dec dX3_wordNumber_q0_ok 11 (16, .if_icmp .ge 83, 3) rfl
theorem dX3_wordNumber_19 : decode cX3_wordNumber 19 = .ok (.ldc 127, 2) := ax_dec dX3_wordNumber_q0_ok 12 (19, .ldc 127, 2) rfl
theorem dX3_wordNumber_21 : decode cX3_wordNumber 21 = .ok (.iload 4, 2) := ax_dec dX3_wordNumber_q0_ok 13 (21, .iload 4, 2) rfl
theorem dX3_wordNumber_23 : decode cX3_wordNumber 23 = .ok (.invokevirtual 28, 3) := ax_dec dX3_wordNumber_q0_ok 14 (23, .invokevirtual 28, 3) rfl
theorem dX3_wordNumber_26 : decode cX3_wordNumber 26 = .ok (.bipush 32, 2) := ax_dec dX3_wordNumber_q0_ok 15 (26, .bipush 32, 2) rfl
theorem dX3_wordNumber_28 : decode cX3_wordNumber 28 = .ok (.if_icmp .eq 39, 3) := ax_dec dX3_wordNumber_q0_ok 16 (28, .if_icmp .eq 39, 3) rfl
theorem dX3_wordNumber_31 : decode cX3_wordNumber 31 = .ok (.iload_n 3, 1) := ax_dec dX3_wordNumber_q0_ok 17 (31, .iload_n 3, 1) rfl
theorem dX3_wordNumber_32 : decode cX3_wordNumber 32 = .ok (.ifCond .eq 27, 3) := ax_dec dX3_wordNumber_q0_ok 18 (32, .ifCond .eq 27, 3) rfl
theorem dX3_wordNumber_35 : decode cX3_wordNumber 35 = .ok (.ldc 127, 2) := ax_dec dX3_wordNumber_q0_ok 19 (35, .ldc 127, 2) rfl
theorem dX3_wordNumber_37 : decode cX3_wordNumber 37 = .ok (.iload 4, 2) := ax_dec dX3_wordNumber_q0_ok 20 (37, .iload 4, 2) rfl
theorem dX3_wordNumber_39 : decode cX3_wordNumber 39 = .ok (.invokevirtual 28, 3) := ax_dec dX3_wordNumber_q0_ok 21 (39, .invokevirtual 28, 3) rfl
theorem dX3_wordNumber_42 : decode cX3_wordNumber 42 = .ok (.aload_n 0, 1) := ax_dec dX3_wordNumber_q0_ok 22 (42, .aload_n 0, 1) rfl
theorem dX3_wordNumber_43 : decode cX3_wordNumber 43 = .ok (.aload_n 0, 1) := ax_dec dX3_wordNumber_q0_ok 23 (43, .aload_n 0, 1) rfl
theorem dX3_wordNumber_44 : decode cX3_wordNumber 44 = .ok (.getfield 62, 3) := ax_dec dX3_wordNumber_q0_ok 24 (44, .getfield 62, 3) rfl
theorem dX3_wordNumber_47 : decode cX3_wordNumber 47 = .ok (.iload_n 2, 1) := ax_dec dX3_wordNumber_q0_ok 25 (47, .iload_n 2, 1) rfl
theorem dX3_wordNumber_48 : decode cX3_wordNumber 48 = .ok (.iadd, 1) := ax_dec dX3_wordNumber_q0_ok 26 (48, .iadd, 1) rfl
theorem dX3_wordNumber_49 : decode cX3_wordNumber 49 = .ok (.invokevirtual 106, 3) := ax_dec dX3_wordNumber_q0_ok 27 (49, .invokevirtual 106, 3) rfl
theorem dX3_wordNumber_52 : decode cX3_wordNumber 52 = .ok (.if_icmp .ne 7, 3) := ax_dec dX3_wordNumber_q0_ok 28 (52, .if_icmp .ne 7, 3) rfl
theorem dX3_wordNumber_55 : decode cX3_wordNumber 55 = .ok (.iconst 1, 1) := ax_dec dX3_wordNumber_q0_ok 29 (55, .iconst 1, 1) rfl
theorem dX3_wordNumber_56 : decode cX3_wordNumber 56 = .ok (.goto 4, 3) := ax_dec dX3_wordNumber_q0_ok 30 (56, .goto 4, 3) rfl
theorem dX3_wordNumber_59 : decode cX3_wordNumber 59 = .ok (.iconst 0, 1) := ax_dec dX3_wordNumber_q0_ok 31 (59, .iconst 0, 1) rfl
def dX3_wordNumber_q1 : List (Nat × (Instr × Nat)) := [(60, .istore_n 3, 1), (61, .iinc 2 1, 3), (64, .goto 29, 3), (67, .iload_n 3, 1), (68, .ifCond .eq 18, 3), (71, .iload_n 2, 1), (72, .aload_n 0, 1), (73, .getfield 41, 3), (76, .aload_n 0, 1), (77, .getfield 62, 3), (80, .isub, 1), (81, .if_icmp .ne 5, 3), (84, .iload_n 1, 1), (85, .ireturn, 1), (86, .iinc 1 1, 3), (89, .iconst 0, 1), (90, .istore_n 2, 1), (91, .iconst 1, 1), (92, .istore_n 3, 1), (93, .iinc 4 1, 3), (96, .goto (-87), 3), (99, .iconst (-1), 1), (100, .ireturn, 1)]
set_option maxRecDepth 100000 in
theorem dX3_wordNumber_q1_ok : ax_decs cX3_wordNumber dX3_wordNumber_q1 = true := by decide +kernel
theorem dX3_wordNumber_60 : decode cX3_wordNumber 60 = .ok (.istore_n 3, 1) := ax_dec dX3_wordNumber_q1_ok 0 (60, .istore_n 3, 1) rfl
theorem dX3_wordNumber_61 : decode cX3_wordNumber 61 = .ok (.iinc 2 1, 3) := ax_dec dX3_wordNumber_q1_ok 1 (61, .iinc 2 1, 3) rfl
theorem dX3_wordNumber_64 : decode cX3_wordNumber 64 = .ok (.goto 29, 3) := ax_dec dX3_wordNumber_q1_ok 2 (64, .goto 29, 3) rfl
theorem dX3_wordNumber_67 : decode cX3_wordNumber 67 = .ok (.iload_n 3, 1) := ax_dec dX3_wordNumber_q1_ok 3 (67, .iload_n 3, 1) rfl
theorem dX3_wordNumber_68 : decode cX3_wordNumber 68 = .ok (.ifCond .eq 18, 3) := ax_dec dX3_wordNumber_q1_ok 4 (68, .ifCond .eq 18, 3) rfl
theorem dX3_wordNumber_71 : decode cX3_wordNumber 71 = .ok (.iload_n 2, 1) := ax_dec dX3_wordNumber_q1_ok 5 (71, .iload_n 2, 1) rfl
theorem dX3_wordNumber_72 : decode cX3_wordNumber 72 = .ok (.aload_n 0, 1) := ax_dec dX3_wordNumber_q1_ok 6 (72, .aload_n 0, 1) rfl
theorem dX3_wordNumber_73 : decode cX3_wordNumber 73 = .ok (.getfield 41, 3) := ax_dec dX3_wordNumber_q1_ok 7 (73, .getfield 41, 3) rfl
theorem dX3_wordNumber_76 : decode cX3_wordNumber 76 = .ok (.aload_n 0, 1) := ax_dec dX3_wordNumber_q1_ok 8 (76, .aload_n 0, 1) rfl
theorem dX3_wordNumber_77 : decode cX3_wordNumber 77 = .ok (.getfield 62, 3) := ax_dec dX3_wordNumber_q1_ok 9 (77, .getfield 62, 3) rfl
theorem dX3_wordNumber_80 : decode cX3_wordNumber 80 = .ok (.isub, 1) := ax_dec dX3_wordNumber_q1_ok 10 (80, .isub, 1) rfl
theorem dX3_wordNumber_81 : decode cX3_wordNumber 81 = .ok (.if_icmp .ne 5, 3) := ax_dec dX3_wordNumber_q1_ok 11 (81, .if_icmp .ne 5, 3) rfl
theorem dX3_wordNumber_84 : decode cX3_wordNumber 84 = .ok (.iload_n 1, 1) := ax_dec dX3_wordNumber_q1_ok 12 (84, .iload_n 1, 1) rfl
theorem dX3_wordNumber_85 : decode cX3_wordNumber 85 = .ok (.ireturn, 1) := ax_dec dX3_wordNumber_q1_ok 13 (85, .ireturn, 1) rfl
theorem dX3_wordNumber_86 : decode cX3_wordNumber 86 = .ok (.iinc 1 1, 3) := ax_dec dX3_wordNumber_q1_ok 14 (86, .iinc 1 1, 3) rfl
theorem dX3_wordNumber_89 : decode cX3_wordNumber 89 = .ok (.iconst 0, 1) := ax_dec dX3_wordNumber_q1_ok 15 (89, .iconst 0, 1) rfl
theorem dX3_wordNumber_90 : decode cX3_wordNumber 90 = .ok (.istore_n 2, 1) := ax_dec dX3_wordNumber_q1_ok 16 (90, .istore_n 2, 1) rfl
theorem dX3_wordNumber_91 : decode cX3_wordNumber 91 = .ok (.iconst 1, 1) := ax_dec dX3_wordNumber_q1_ok 17 (91, .iconst 1, 1) rfl
theorem dX3_wordNumber_92 : decode cX3_wordNumber 92 = .ok (.istore_n 3, 1) := ax_dec dX3_wordNumber_q1_ok 18 (92, .istore_n 3, 1) rfl
theorem dX3_wordNumber_93 : decode cX3_wordNumber 93 = .ok (.iinc 4 1, 3) := ax_dec dX3_wordNumber_q1_ok 19 (93, .iinc 4 1, 3) rfl
theorem dX3_wordNumber_96 : decode cX3_wordNumber 96 = .ok (.goto (-87), 3) := ax_dec dX3_wordNumber_q1_ok 20 (96, .goto (-87), 3) rfl
theorem dX3_wordNumber_99 : decode cX3_wordNumber 99 = .ok (.iconst (-1), 1) := ax_dec dX3_wordNumber_q1_ok 21 (99, .iconst (-1), 1) rfl
theorem dX3_wordNumber_100 : decode cX3_wordNumber 100 = .ok (.ireturn, 1) := ax_dec dX3_wordNumber_q1_ok 22 (100, .ireturn, 1) rfl
def dX3_byteAt_q0 : List (Nat × (Instr × Nat)) := [(0, .iload_n 1, 1), (1, .ifCond .lt 29, 3), (4, .iload_n 1, 1), (5, .aload_n 0, 1), (6, .getfield 18, 3), (9, .if_icmp .ge 21, 3), (12, .iload_n 1, 1), (13, .aload_n 0, 1), (14, .getfield 9, 3), (17, .arraylength, 1), (18, .if_icmp .ge 12, 3), (21, .aload_n 0, 1), (22, .getfield 9, 3), (25, .iload_n 1, 1), (26, .iaload, 1), (27, .goto 4, 3), (30, .iconst (-1), 1), (31, .ireturn, 1)]
set_option maxRecDepth 100000 in
theorem dX3_byteAt_q0_ok : ax_decs cX3_byteAt dX3_byteAt_q0 = true := by decide +kernel
theorem dX3_byteAt_0 : decode cX3_byteAt 0 = .ok (.iload_n 1, 1) := ax_dec dX3_byteAt_q0_ok 0 (0, .iload_n 1, 1) rfl
theorem dX3_byteAt_1 : decode cX3_byteAt 1 = .ok (.ifCond .lt 29, 3) := ax_dec dX3_byteAt_q0_ok 1 (1, .ifCond .lt 29, 3) rfl
theorem dX3_byteAt_4 : decode cX3_byteAt 4 = .ok (.iload_n 1, 1) := ax_dec dX3_byteAt_q0_ok 2 (4, .iload_n 1, 1) rfl
theorem dX3_byteAt_5 : decode cX3_byteAt 5 = .ok (.aload_n 0, 1) := ax_dec dX3_byteAt_q0_ok 3 (5, .aload_n 0, 1) rfl
theorem dX3_byteAt_6 : decode cX3_byteAt 6 = .ok (.getfield 18, 3) := ax_dec dX3_byteAt_q0_ok 4 (6, .getfield 18, 3) rfl
theorem dX3_byteAt_9 : decode cX3_byteAt 9 = .ok (.if_icmp .ge 21, 3) := ax_dec dX3_byteAt_q0_ok 5 (9, .if_icmp .ge 21, 3) rfl
theorem dX3_byteAt_12 : decode cX3_byteAt 12 = .ok (.iload_n 1, 1) := ax_dec dX3_byteAt_q0_ok 6 (12, .iload_n 1, 1) rfl
theorem dX3_byteAt_13 : decode cX3_byteAt 13 = .ok (.aload_n 0, 1) := ax_dec dX3_byteAt_q0_ok 7 (13, .aload_n 0, 1) rfl
theorem dX3_byteAt_14 : decode cX3_byteAt 14 = .ok (.getfield 9, 3) := ax_dec dX3_byteAt_q0_ok 8 (14, .getfield 9, 3) rfl
theorem dX3_byteAt_17 : decode cX3_byteAt 17 = .ok (.arraylength, 1) := ax_dec dX3_byteAt_q0_ok 9 (17, .arraylength, 1) rfl
theorem dX3_byteAt_18 : decode cX3_byteAt 18 = .ok (.if_icmp .ge 12, 3) := ax_dec dX3_byteAt_q0_ok 10 (18, .if_icmp .ge 12, 3) rfl
theorem dX3_byteAt_21 : decode cX3_byteAt 21 = .ok (.aload_n 0, 1) := ax_dec dX3_byteAt_q0_ok 11 (21, .aload_n 0, 1) rfl
theorem dX3_byteAt_22 : decode cX3_byteAt 22 = .ok (.getfield 9, 3) := ax_dec dX3_byteAt_q0_ok 12 (22, .getfield 9, 3) rfl
theorem dX3_byteAt_25 : decode cX3_byteAt 25 = .ok (.iload_n 1, 1) := ax_dec dX3_byteAt_q0_ok 13 (25, .iload_n 1, 1) rfl
theorem dX3_byteAt_26 : decode cX3_byteAt 26 = .ok (.iaload, 1) := ax_dec dX3_byteAt_q0_ok 14 (26, .iaload, 1) rfl
theorem dX3_byteAt_27 : decode cX3_byteAt 27 = .ok (.goto 4, 3) := ax_dec dX3_byteAt_q0_ok 15 (27, .goto 4, 3) rfl
theorem dX3_byteAt_30 : decode cX3_byteAt 30 = .ok (.iconst (-1), 1) := ax_dec dX3_byteAt_q0_ok 16 (30, .iconst (-1), 1) rfl
theorem dX3_byteAt_31 : decode cX3_byteAt 31 = .ok (.ireturn, 1) := ax_dec dX3_byteAt_q0_ok 17 (31, .ireturn, 1) rfl
def dX3_isLetter_q0 : List (Nat × (Instr × Nat)) := [(0, .iload_n 0, 1), (1, .bipush 97, 2), (3, .if_icmp .lt 13, 3), (6, .iload_n 0, 1), (7, .bipush 122, 2), (9, .if_icmp .gt 7, 3), (12, .iconst 1, 1), (13, .goto 4, 3), (16, .iconst 0, 1), (17, .ireturn, 1)]
set_option maxRecDepth 100000 in
theorem dX3_isLetter_q0_ok : ax_decs cX3_isLetter dX3_isLetter_q0 = true := by decide +kernel
theorem dX3_isLetter_0 : decode cX3_isLetter 0 = .ok (.iload_n 0, 1) := ax_dec dX3_isLetter_q0_ok 0 (0, .iload_n 0, 1) rfl
theorem dX3_isLetter_1 : decode cX3_isLetter 1 = .ok (.bipush 97, 2) := ax_dec dX3_isLetter_q0_ok 1 (1, .bipush 97, 2) rfl
theorem dX3_isLetter_3 : decode cX3_isLetter 3 = .ok (.if_icmp .lt 13, 3) := ax_dec dX3_isLetter_q0_ok 2 (3, .if_icmp .lt 13, 3) rfl
theorem dX3_isLetter_6 : decode cX3_isLetter 6 = .ok (.iload_n 0, 1) := ax_dec dX3_isLetter_q0_ok 3 (6, .iload_n 0, 1) rfl
theorem dX3_isLetter_7 : decode cX3_isLetter 7 = .ok (.bipush 122, 2) := ax_dec dX3_isLetter_q0_ok 4 (7, .bipush 122, 2) rfl
theorem dX3_isLetter_9 : decode cX3_isLetter 9 = .ok (.if_icmp .gt 7, 3) := ax_dec dX3_isLetter_q0_ok 5 (9, .if_icmp .gt 7, 3) rfl
theorem dX3_isLetter_12 : decode cX3_isLetter 12 = .ok (.iconst 1, 1) := ax_dec dX3_isLetter_q0_ok 6 (12, .iconst 1, 1) rfl
theorem dX3_isLetter_13 : decode cX3_isLetter 13 = .ok (.goto 4, 3) := ax_dec dX3_isLetter_q0_ok 7 (13, .goto 4, 3) rfl
theorem dX3_isLetter_16 : decode cX3_isLetter 16 = .ok (.iconst 0, 1) := ax_dec dX3_isLetter_q0_ok 8 (16, .iconst 0, 1) rfl
theorem dX3_isLetter_17 : decode cX3_isLetter 17 = .ok (.ireturn, 1) := ax_dec dX3_isLetter_q0_ok 9 (17, .ireturn, 1) rfl
def dX3_isDigit_q0 : List (Nat × (Instr × Nat)) := [(0, .iload_n 0, 1), (1, .bipush 48, 2), (3, .if_icmp .lt 13, 3), (6, .iload_n 0, 1), (7, .bipush 57, 2), (9, .if_icmp .gt 7, 3), (12, .iconst 1, 1), (13, .goto 4, 3), (16, .iconst 0, 1), (17, .ireturn, 1)]
set_option maxRecDepth 100000 in
theorem dX3_isDigit_q0_ok : ax_decs cX3_isDigit dX3_isDigit_q0 = true := by decide +kernel
theorem dX3_isDigit_0 : decode cX3_isDigit 0 = .ok (.iload_n 0, 1) := ax_dec dX3_isDigit_q0_ok 0 (0, .iload_n 0, 1) rfl
theorem dX3_isDigit_1 : decode cX3_isDigit 1 = .ok (.bipush 48, 2) := ax_dec dX3_isDigit_q0_ok 1 (1, .bipush 48, 2) rfl
theorem dX3_isDigit_3 : decode cX3_isDigit 3 = .ok (.if_icmp .lt 13, 3) := ax_dec dX3_isDigit_q0_ok 2 (3, .if_icmp .lt 13, 3) rfl
theorem dX3_isDigit_6 : decode cX3_isDigit 6 = .ok (.iload_n 0, 1) := ax_dec dX3_isDigit_q0_ok 3 (6, .iload_n 0, 1) rfl
theorem dX3_isDigit_7 : decode cX3_isDigit 7 = .ok (.bipush 57, 2) := ax_dec dX3_isDigit_q0_ok 4 (7, .bipush 57, 2) rfl
theorem dX3_isDigit_9 : decode cX3_isDigit 9 = .ok (.if_icmp .gt 7, 3) := ax_dec dX3_isDigit_q0_ok 5 (9, .if_icmp .gt 7, 3) rfl
theorem dX3_isDigit_12 : decode cX3_isDigit 12 = .ok (.iconst 1, 1) := ax_dec dX3_isDigit_q0_ok 6 (12, .iconst 1, 1) rfl
theorem dX3_isDigit_13 : decode cX3_isDigit 13 = .ok (.goto 4, 3) := ax_dec dX3_isDigit_q0_ok 7 (13, .goto 4, 3) rfl
theorem dX3_isDigit_16 : decode cX3_isDigit 16 = .ok (.iconst 0, 1) := ax_dec dX3_isDigit_q0_ok 8 (16, .iconst 0, 1) rfl
theorem dX3_isDigit_17 : decode cX3_isDigit 17 = .ok (.ireturn, 1) := ax_dec dX3_isDigit_q0_ok 9 (17, .ireturn, 1) rfl
def dX4_init_q0 : List (Nat × (Instr × Nat)) := [(0, .aload_n 0, 1), (1, .invokespecial 3, 3), (4, .aload_n 0, 1), (5, .iconst (-1), 1), (6, .putfield 9, 3), (9, .aload_n 0, 1), (10, .bipush 40, 2), (12, .newarray .int, 2), (14, .putfield 15, 3), (17, .return_, 1)]
set_option maxRecDepth 100000 in
theorem dX4_init_q0_ok : ax_decs cX4_init dX4_init_q0 = true := by decide +kernel
theorem dX4_init_0 : decode cX4_init 0 = .ok (.aload_n 0, 1) := ax_dec dX4_init_q0_ok 0 (0, .aload_n 0, 1) rfl
theorem dX4_init_1 : decode cX4_init 1 = .ok (.invokespecial 3, 3) := ax_dec dX4_init_q0_ok 1 (1, .invokespecial 3, 3) rfl
theorem dX4_init_4 : decode cX4_init 4 = .ok (.aload_n 0, 1) := ax_dec dX4_init_q0_ok 2 (4, .aload_n 0, 1) rfl
theorem dX4_init_5 : decode cX4_init 5 = .ok (.iconst (-1), 1) := ax_dec dX4_init_q0_ok 3 (5, .iconst (-1), 1) rfl
theorem dX4_init_6 : decode cX4_init 6 = .ok (.putfield 9, 3) := ax_dec dX4_init_q0_ok 4 (6, .putfield 9, 3) rfl
theorem dX4_init_9 : decode cX4_init 9 = .ok (.aload_n 0, 1) := ax_dec dX4_init_q0_ok 5 (9, .aload_n 0, 1) rfl
theorem dX4_init_10 : decode cX4_init 10 = .ok (.bipush 40, 2) := ax_dec dX4_init_q0_ok 6 (10, .bipush 40, 2) rfl
theorem dX4_init_12 : decode cX4_init 12 = .ok (.newarray .int, 2) := ax_dec dX4_init_q0_ok 7 (12, .newarray .int, 2) rfl
theorem dX4_init_14 : decode cX4_init 14 = .ok (.putfield 15, 3) := ax_dec dX4_init_q0_ok 8 (14, .putfield 15, 3) rfl
theorem dX4_init_17 : decode cX4_init 17 = .ok (.return_, 1) := ax_dec dX4_init_q0_ok 9 (17, .return_, 1) rfl
def dX4_isMissing_q0 : List (Nat × (Instr × Nat)) := [(0, .aload_n 0, 1), (1, .getfield 9, 3), (4, .iconst (-1), 1), (5, .if_icmp .ne 7, 3), (8, .iconst 1, 1), (9, .goto 4, 3), (12, .iconst 0, 1), (13, .ireturn, 1)]
set_option maxRecDepth 100000 in
theorem dX4_isMissing_q0_ok : ax_decs cX4_isMissing dX4_isMissing_q0 = true := by decide +kernel
theorem dX4_isMissing_0 : decode cX4_isMissing 0 = .ok (.aload_n 0, 1) := ax_dec dX4_isMissing_q0_ok 0 (0, .aload_n 0, 1) rfl
theorem dX4_isMissing_1 : decode cX4_isMissing 1 = .ok (.getfield 9, 3) := ax_dec dX4_isMissing_q0_ok 1 (1, .getfield 9, 3) rfl
theorem dX4_isMissing_4 : decode cX4_isMissing 4 = .ok (.iconst (-1), 1) := ax_dec dX4_isMissing_q0_ok 2 (4, .iconst (-1), 1) rfl
theorem dX4_isMissing_5 : decode cX4_isMissing 5 = .ok (.if_icmp .ne 7, 3) := ax_dec dX4_isMissing_q0_ok 3 (5, .if_icmp .ne 7, 3) rfl
theorem dX4_isMissing_8 : decode cX4_isMissing 8 = .ok (.iconst 1, 1) := ax_dec dX4_isMissing_q0_ok 4 (8, .iconst 1, 1) rfl
theorem dX4_isMissing_9 : decode cX4_isMissing 9 = .ok (.goto 4, 3) := ax_dec dX4_isMissing_q0_ok 5 (9, .goto 4, 3) rfl
theorem dX4_isMissing_12 : decode cX4_isMissing 12 = .ok (.iconst 0, 1) := ax_dec dX4_isMissing_q0_ok 6 (12, .iconst 0, 1) rfl
theorem dX4_isMissing_13 : decode cX4_isMissing 13 = .ok (.ireturn, 1) := ax_dec dX4_isMissing_q0_ok 7 (13, .ireturn, 1) rfl
def dX4_has_q0 : List (Nat × (Instr × Nat)) := [(0, .iload_n 1, 1), (1, .ifCond .lt 24, 3), (4, .iload_n 1, 1), (5, .aload_n 0, 1), (6, .getfield 19, 3), (9, .if_icmp .ge 16, 3), (12, .iload_n 1, 1), (13, .aload_n 0, 1), (14, .getfield 15, 3), (17, .arraylength, 1), (18, .if_icmp .ge 7, 3), (21, .iconst 1, 1), (22, .goto 4, 3), (25, .iconst 0, 1), (26, .ireturn, 1)]
set_option maxRecDepth 100000 in
theorem dX4_has_q0_ok : ax_decs cX4_has dX4_has_q0 = true := by decide +kernel
theorem dX4_has_0 : decode cX4_has 0 = .ok (.iload_n 1, 1) := ax_dec dX4_has_q0_ok 0 (0, .iload_n 1, 1) rfl
theorem dX4_has_1 : decode cX4_has 1 = .ok (.ifCond .lt 24, 3) := ax_dec dX4_has_q0_ok 1 (1, .ifCond .lt 24, 3) rfl
theorem dX4_has_4 : decode cX4_has 4 = .ok (.iload_n 1, 1) := ax_dec dX4_has_q0_ok 2 (4, .iload_n 1, 1) rfl
theorem dX4_has_5 : decode cX4_has 5 = .ok (.aload_n 0, 1) := ax_dec dX4_has_q0_ok 3 (5, .aload_n 0, 1) rfl
theorem dX4_has_6 : decode cX4_has 6 = .ok (.getfield 19, 3) := ax_dec dX4_has_q0_ok 4 (6, .getfield 19, 3) rfl
theorem dX4_has_9 : decode cX4_has 9 = .ok (.if_icmp .ge 16, 3) := ax_dec dX4_has_q0_ok 5 (9, .if_icmp .ge 16, 3) rfl
theorem dX4_has_12 : decode cX4_has 12 = .ok (.iload_n 1, 1) := ax_dec dX4_has_q0_ok 6 (12, .iload_n 1, 1) rfl
theorem dX4_has_13 : decode cX4_has 13 = .ok (.aload_n 0, 1) := ax_dec dX4_has_q0_ok 7 (13, .aload_n 0, 1) rfl
theorem dX4_has_14 : decode cX4_has 14 = .ok (.getfield 15, 3) := ax_dec dX4_has_q0_ok 8 (14, .getfield 15, 3) rfl
theorem dX4_has_17 : decode cX4_has 17 = .ok (.arraylength, 1) := ax_dec dX4_has_q0_ok 9 (17, .arraylength, 1) rfl
theorem dX4_has_18 : decode cX4_has 18 = .ok (.if_icmp .ge 7, 3) := ax_dec dX4_has_q0_ok 10 (18, .if_icmp .ge 7, 3) rfl
theorem dX4_has_21 : decode cX4_has 21 = .ok (.iconst 1, 1) := ax_dec dX4_has_q0_ok 11 (21, .iconst 1, 1) rfl
theorem dX4_has_22 : decode cX4_has 22 = .ok (.goto 4, 3) := ax_dec dX4_has_q0_ok 12 (22, .goto 4, 3) rfl
theorem dX4_has_25 : decode cX4_has 25 = .ok (.iconst 0, 1) := ax_dec dX4_has_q0_ok 13 (25, .iconst 0, 1) rfl
theorem dX4_has_26 : decode cX4_has 26 = .ok (.ireturn, 1) := ax_dec dX4_has_q0_ok 14 (26, .ireturn, 1) rfl
def dX4_hasRun_q0 : List (Nat × (Instr × Nat)) := [(0, .iload_n 1, 1), (1, .ifCond .lt 29, 3), (4, .iload_n 2, 1), (5, .ifCond .lt 25, 3), (8, .iload_n 1, 1), (9, .aload_n 0, 1), (10, .getfield 19, 3), (13, .if_icmp .gt 17, 3), (16, .iload_n 2, 1), (17, .aload_n 0, 1), (18, .getfield 19, 3), (21, .iload_n 1, 1), (22, .isub, 1), (23, .if_icmp .gt 7, 3), (26, .iconst 1, 1), (27, .goto 4, 3), (30, .iconst 0, 1), (31, .ireturn, 1)]
set_option maxRecDepth 100000 in
theorem dX4_hasRun_q0_ok : ax_decs cX4_hasRun dX4_hasRun_q0 = true := by decide +kernel
theorem dX4_hasRun_0 : decode cX4_hasRun 0 = .ok (.iload_n 1, 1) := ax_dec dX4_hasRun_q0_ok 0 (0, .iload_n 1, 1) rfl
theorem dX4_hasRun_1 : decode cX4_hasRun 1 = .ok (.ifCond .lt 29, 3) := ax_dec dX4_hasRun_q0_ok 1 (1, .ifCond .lt 29, 3) rfl
theorem dX4_hasRun_4 : decode cX4_hasRun 4 = .ok (.iload_n 2, 1) := ax_dec dX4_hasRun_q0_ok 2 (4, .iload_n 2, 1) rfl
theorem dX4_hasRun_5 : decode cX4_hasRun 5 = .ok (.ifCond .lt 25, 3) := ax_dec dX4_hasRun_q0_ok 3 (5, .ifCond .lt 25, 3) rfl
theorem dX4_hasRun_8 : decode cX4_hasRun 8 = .ok (.iload_n 1, 1) := ax_dec dX4_hasRun_q0_ok 4 (8, .iload_n 1, 1) rfl
theorem dX4_hasRun_9 : decode cX4_hasRun 9 = .ok (.aload_n 0, 1) := ax_dec dX4_hasRun_q0_ok 5 (9, .aload_n 0, 1) rfl
theorem dX4_hasRun_10 : decode cX4_hasRun 10 = .ok (.getfield 19, 3) := ax_dec dX4_hasRun_q0_ok 6 (10, .getfield 19, 3) rfl
theorem dX4_hasRun_13 : decode cX4_hasRun 13 = .ok (.if_icmp .gt 17, 3) := ax_dec dX4_hasRun_q0_ok 7 (13, .if_icmp .gt 17, 3) rfl
theorem dX4_hasRun_16 : decode cX4_hasRun 16 = .ok (.iload_n 2, 1) := ax_dec dX4_hasRun_q0_ok 8 (16, .iload_n 2, 1) rfl
theorem dX4_hasRun_17 : decode cX4_hasRun 17 = .ok (.aload_n 0, 1) := ax_dec dX4_hasRun_q0_ok 9 (17, .aload_n 0, 1) rfl
theorem dX4_hasRun_18 : decode cX4_hasRun 18 = .ok (.getfield 19, 3) := ax_dec dX4_hasRun_q0_ok 10 (18, .getfield 19, 3) rfl
theorem dX4_hasRun_21 : decode cX4_hasRun 21 = .ok (.iload_n 1, 1) := ax_dec dX4_hasRun_q0_ok 11 (21, .iload_n 1, 1) rfl
theorem dX4_hasRun_22 : decode cX4_hasRun 22 = .ok (.isub, 1) := ax_dec dX4_hasRun_q0_ok 12 (22, .isub, 1) rfl
theorem dX4_hasRun_23 : decode cX4_hasRun 23 = .ok (.if_icmp .gt 7, 3) := ax_dec dX4_hasRun_q0_ok 13 (23, .if_icmp .gt 7, 3) rfl
theorem dX4_hasRun_26 : decode cX4_hasRun 26 = .ok (.iconst 1, 1) := ax_dec dX4_hasRun_q0_ok 14 (26, .iconst 1, 1) rfl
theorem dX4_hasRun_27 : decode cX4_hasRun 27 = .ok (.goto 4, 3) := ax_dec dX4_hasRun_q0_ok 15 (27, .goto 4, 3) rfl
theorem dX4_hasRun_30 : decode cX4_hasRun 30 = .ok (.iconst 0, 1) := ax_dec dX4_hasRun_q0_ok 16 (30, .iconst 0, 1) rfl
theorem dX4_hasRun_31 : decode cX4_hasRun 31 = .ok (.ireturn, 1) := ax_dec dX4_hasRun_q0_ok 17 (31, .ireturn, 1) rfl
def dX4_become_q0 : List (Nat × (Instr × Nat)) := [(0, .aload_n 0, 1), (1, .iload_n 1, 1), (2, .putfield 9, 3), (5, .aload_n 0, 1), (6, .iconst 0, 1), (7, .iload_n 2, 1), (8, .aload_n 0, 1), (9, .getfield 15, 3), (12, .arraylength, 1), (13, .invokestatic 22, 3), (16, .invokestatic 28, 3), (19, .putfield 19, 3), (22, .iconst 0, 1), (23, .istore_n 3, 1), (24, .iload_n 3, 1), (25, .aload_n 0, 1), (26, .getfield 15, 3), (29, .arraylength, 1), (30, .if_icmp .ge 16, 3), (33, .aload_n 0, 1), (34, .getfield 15, 3), (37, .iload_n 3, 1), (38, .iconst 0, 1), (39, .iastore, 1), (40, .iinc 3 1, 3), (43, .goto (-19), 3), (46, .return_, 1)]
set_option maxRecDepth 100000 in
theorem dX4_become_q0_ok : ax_decs cX4_become dX4_become_q0 = true := by decide +kernel
theorem dX4_become_0 : decode cX4_become 0 = .ok (.aload_n 0, 1) := ax_dec dX4_become_q0_ok 0 (0, .aload_n 0, 1) rfl
theorem dX4_become_1 : decode cX4_become 1 = .ok (.iload_n 1, 1) := ax_dec dX4_become_q0_ok 1 (1, .iload_n 1, 1) rfl
theorem dX4_become_2 : decode cX4_become 2 = .ok (.putfield 9, 3) := ax_dec dX4_become_q0_ok 2 (2, .putfield 9, 3) rfl
theorem dX4_become_5 : decode cX4_become 5 = .ok (.aload_n 0, 1) := ax_dec dX4_become_q0_ok 3 (5, .aload_n 0, 1) rfl
theorem dX4_become_6 : decode cX4_become 6 = .ok (.iconst 0, 1) := ax_dec dX4_become_q0_ok 4 (6, .iconst 0, 1) rfl
theorem dX4_become_7 : decode cX4_become 7 = .ok (.iload_n 2, 1) := ax_dec dX4_become_q0_ok 5 (7, .iload_n 2, 1) rfl
theorem dX4_become_8 : decode cX4_become 8 = .ok (.aload_n 0, 1) := ax_dec dX4_become_q0_ok 6 (8, .aload_n 0, 1) rfl
theorem dX4_become_9 : decode cX4_become 9 = .ok (.getfield 15, 3) := ax_dec dX4_become_q0_ok 7 (9, .getfield 15, 3) rfl
theorem dX4_become_12 : decode cX4_become 12 = .ok (.arraylength, 1) := ax_dec dX4_become_q0_ok 8 (12, .arraylength, 1) rfl
theorem dX4_become_13 : decode cX4_become 13 = .ok (.invokestatic 22, 3) := ax_dec dX4_become_q0_ok 9 (13, .invokestatic 22, 3) rfl
theorem dX4_become_16 : decode cX4_become 16 = .ok (.invokestatic 28, 3) := ax_dec dX4_become_q0_ok 10 (16, .invokestatic 28, 3) rfl
theorem dX4_become_19 : decode cX4_become 19 = .ok (.putfield 19, 3) := ax_dec dX4_become_q0_ok 11 (19, .putfield 19, 3) rfl
theorem dX4_become_22 : decode cX4_become 22 = .ok (.iconst 0, 1) := ax_dec dX4_become_q0_ok 12 (22, .iconst 0, 1) rfl
theorem dX4_become_23 : decode cX4_become 23 = .ok (.istore_n 3, 1) := ax_dec dX4_become_q0_ok 13 (23, .istore_n 3, 1) rfl
theorem dX4_become_24 : decode cX4_become 24 = .ok (.iload_n 3, 1) := ax_dec dX4_become_q0_ok 14 (24, .iload_n 3, 1) rfl
theorem dX4_become_25 : decode cX4_become 25 = .ok (.aload_n 0, 1) := ax_dec dX4_become_q0_ok 15 (25, .aload_n 0, 1) rfl
theorem dX4_become_26 : decode cX4_become 26 = .ok (.getfield 15, 3) := ax_dec dX4_become_q0_ok 16 (26, .getfield 15, 3) rfl
theorem dX4_become_29 : decode cX4_become 29 = .ok (.arraylength, 1) := ax_dec dX4_become_q0_ok 17 (29, .arraylength, 1) rfl
theorem dX4_become_30 : decode cX4_become 30 = .ok (.if_icmp .ge 16, 3) := ax_dec dX4_become_q0_ok 18 (30, .if_icmp .ge 16, 3) rfl
theorem dX4_become_33 : decode cX4_become 33 = .ok (.aload_n 0, 1) := ax_dec dX4_become_q0_ok 19 (33, .aload_n 0, 1) rfl
theorem dX4_become_34 : decode cX4_become 34 = .ok (.getfield 15, 3) := ax_dec dX4_become_q0_ok 20 (34, .getfield 15, 3) rfl
theorem dX4_become_37 : decode cX4_become 37 = .ok (.iload_n 3, 1) := ax_dec dX4_become_q0_ok 21 (37, .iload_n 3, 1) rfl
theorem dX4_become_38 : decode cX4_become 38 = .ok (.iconst 0, 1) := ax_dec dX4_become_q0_ok 22 (38, .iconst 0, 1) rfl
theorem dX4_become_39 : decode cX4_become 39 = .ok (.iastore, 1) := ax_dec dX4_become_q0_ok 23 (39, .iastore, 1) rfl
theorem dX4_become_40 : decode cX4_become 40 = .ok (.iinc 3 1, 3) := ax_dec dX4_become_q0_ok 24 (40, .iinc 3 1, 3) rfl
theorem dX4_become_43 : decode cX4_become 43 = .ok (.goto (-19), 3) := ax_dec dX4_become_q0_ok 25 (43, .goto (-19), 3) rfl
theorem dX4_become_46 : decode cX4_become 46 = .ok (.return_, 1) := ax_dec dX4_become_q0_ok 26 (46, .return_, 1) rfl
def dX4_get_q0 : List (Nat × (Instr × Nat)) := [(0, .aload_n 0, 1), (1, .iload_n 1, 1), (2, .invokevirtual 31, 3), (5, .ifCond .eq 12, 3), (8, .aload_n 0, 1), (9, .getfield 15, 3), (12, .iload_n 1, 1), (13, .iaload, 1), (14, .goto 4, 3), (17, .iconst 0, 1), (18, .ireturn, 1)]
set_option maxRecDepth 100000 in
theorem dX4_get_q0_ok : ax_decs cX4_get dX4_get_q0 = true := by decide +kernel
theorem dX4_get_0 : decode cX4_get 0 = .ok (.aload_n 0, 1) := ax_dec dX4_get_q0_ok 0 (0, .aload_n 0, 1) rfl
theorem dX4_get_1 : decode cX4_get 1 = .ok (.iload_n 1, 1) := ax_dec dX4_get_q0_ok 1 (1, .iload_n 1, 1) rfl
theorem dX4_get_2 : decode cX4_get 2 = .ok (.invokevirtual 31, 3) := ax_dec dX4_get_q0_ok 2 (2, .invokevirtual 31, 3) rfl
theorem dX4_get_5 : decode cX4_get 5 = .ok (.ifCond .eq 12, 3) := ax_dec dX4_get_q0_ok 3 (5, .ifCond .eq 12, 3) rfl
theorem dX4_get_8 : decode cX4_get 8 = .ok (.aload_n 0, 1) := ax_dec dX4_get_q0_ok 4 (8, .aload_n 0, 1) rfl
theorem dX4_get_9 : decode cX4_get 9 = .ok (.getfield 15, 3) := ax_dec dX4_get_q0_ok 5 (9, .getfield 15, 3) rfl
theorem dX4_get_12 : decode cX4_get 12 = .ok (.iload_n 1, 1) := ax_dec dX4_get_q0_ok 6 (12, .iload_n 1, 1) rfl
theorem dX4_get_13 : decode cX4_get 13 = .ok (.iaload, 1) := ax_dec dX4_get_q0_ok 7 (13, .iaload, 1) rfl
theorem dX4_get_14 : decode cX4_get 14 = .ok (.goto 4, 3) := ax_dec dX4_get_q0_ok 8 (14, .goto 4, 3) rfl
theorem dX4_get_17 : decode cX4_get 17 = .ok (.iconst 0, 1) := ax_dec dX4_get_q0_ok 9 (17, .iconst 0, 1) rfl
theorem dX4_get_18 : decode cX4_get 18 = .ok (.ireturn, 1) := ax_dec dX4_get_q0_ok 10 (18, .ireturn, 1) rfl
def dX4_put_q0 : List (Nat × (Instr × Nat)) := [(0, .aload_n 0, 1), (1, .iload_n 1, 1), (2, .invokevirtual 31, 3), (5, .ifCond .eq 35, 3), (8, .aload_n 0, 1), (9, .getfield 15, 3), (12, .iload_n 1, 1), (13, .aload_n 0, 1), (14, .getfield 9, 3), (17, .ifCond .ne 8, 3), (20, .iload_n 2, 1), (21, .i2b, 1), (22, .goto 17, 3), (25, .aload_n 0, 1), (26, .getfield 9, 3), (29, .iconst 1, 1), (30, .if_icmp .ne 8, 3), (33, .iload_n 2, 1), (34, .i2s, 1), (35, .goto 4, 3), (38, .iload_n 2, 1), (39, .iastore, 1), (40, .return_, 1)]
set_option maxRecDepth 100000 in
theorem dX4_put_q0_ok : ax_decs cX4_put dX4_put_q0 = true := by decide +kernel
theorem dX4_put_0 : decode cX4_put 0 = .ok (.aload_n 0, 1) := ax_dec dX4_put_q0_ok 0 (0, .aload_n 0, 1) rfl
theorem dX4_put_1 : decode cX4_put 1 = .ok (.iload_n 1, 1) := ax_dec dX4_put_q0_ok 1 (1, .iload_n 1, 1) rfl
theorem dX4_put_2 : decode cX4_put 2 = .ok (.invokevirtual 31, 3) := ax_dec dX4_put_q0_ok 2 (2, .invokevirtual 31, 3) rfl
theorem dX4_put_5 : decode cX4_put 5 = .ok (.ifCond .eq 35, 3) := ax_dec dX4_put_q0_ok 3 (5, .ifCond .eq 35, 3) rfl
theorem dX4_put_8 : decode cX4_put 8 = .ok (.aload_n 0, 1) := ax_dec dX4_put_q0_ok 4 (8, .aload_n 0, 1) rfl
theorem dX4_put_9 : decode cX4_put 9 = .ok (.getfield 15, 3) := ax_dec dX4_put_q0_ok 5 (9, .getfield 15, 3) rfl
theorem dX4_put_12 : decode cX4_put 12 = .ok (.iload_n 1, 1) := ax_dec dX4_put_q0_ok 6 (12, .iload_n 1, 1) rfl
theorem dX4_put_13 : decode cX4_put 13 = .ok (.aload_n 0, 1) := ax_dec dX4_put_q0_ok 7 (13, .aload_n 0, 1) rfl
theorem dX4_put_14 : decode cX4_put 14 = .ok (.getfield 9, 3) := ax_dec dX4_put_q0_ok 8 (14, .getfield 9, 3) rfl
theorem dX4_put_17 : decode cX4_put 17 = .ok (.ifCond .ne 8, 3) := ax_dec dX4_put_q0_ok 9 (17, .ifCond .ne 8, 3) rfl
theorem dX4_put_20 : decode cX4_put 20 = .ok (.iload_n 2, 1) := ax_dec dX4_put_q0_ok 10 (20, .iload_n 2, 1) rfl
theorem dX4_put_21 : decode cX4_put 21 = .ok (.i2b, 1) := ax_dec dX4_put_q0_ok 11 (21, .i2b, 1) rfl
theorem dX4_put_22 : decode cX4_put 22 = .ok (.goto 17, 3) := ax_dec dX4_put_q0_ok 12 (22, .goto 17, 3) rfl
theorem dX4_put_25 : decode cX4_put 25 = .ok (.aload_n 0, 1) := ax_dec dX4_put_q0_ok 13 (25, .aload_n 0, 1) rfl
theorem dX4_put_26 : decode cX4_put 26 = .ok (.getfield 9, 3) := ax_dec dX4_put_q0_ok 14 (26, .getfield 9, 3) rfl
theorem dX4_put_29 : decode cX4_put 29 = .ok (.iconst 1, 1) := ax_dec dX4_put_q0_ok 15 (29, .iconst 1, 1) rfl
theorem dX4_put_30 : decode cX4_put 30 = .ok (.if_icmp .ne 8, 3) := ax_dec dX4_put_q0_ok 16 (30, .if_icmp .ne 8, 3) rfl
theorem dX4_put_33 : decode cX4_put 33 = .ok (.iload_n 2, 1) := ax_dec dX4_put_q0_ok 17 (33, .iload_n 2, 1) rfl
theorem dX4_put_34 : decode cX4_put 34 = .ok (.i2s, 1) := ax_dec dX4_put_q0_ok 18 (34, .i2s, 1) rfl
theorem dX4_put_35 : decode cX4_put 35 = .ok (.goto 4, 3) := ax_dec dX4_put_q0_ok 19 (35, .goto 4, 3) rfl
theorem dX4_put_38 : decode cX4_put 38 = .ok (.iload_n 2, 1) := ax_dec dX4_put_q0_ok 20 (38, .iload_n 2, 1) rfl
theorem dX4_put_39 : decode cX4_put 39 = .ok (.iastore, 1) := ax_dec dX4_put_q0_ok 21 (39, .iastore, 1) rfl
theorem dX4_put_40 : decode cX4_put 40 = .ok (.return_, 1) := ax_dec dX4_put_q0_ok 22 (40, .return_, 1) rfl
def dX4_otherwise_q0 : List (Nat × (Instr × Nat)) := [(0, .iconst 0, 1), (1, .istore_n 3, 1), (2, .iload_n 3, 1), (3, .aload_n 0, 1), (4, .getfield 19, 3), (7, .if_icmp .ge 29, 3), (10, .aload_n 0, 1), (11, .iload_n 3, 1), (12, .invokevirtual 35, 3), (15, .aload_n 2, 1), (16, .iload_n 3, 1), (17, .iconst 1, 1), (18, .iadd, 1), (19, .aload_n 1, 1), (20, .invokevirtual 39, 3), (23, .if_icmp .eq 7, 3), (26, .iload_n 3, 1), (27, .iconst 1, 1), (28, .iadd, 1), (29, .ireturn, 1), (30, .iinc 3 1, 3), (33, .goto (-31), 3), (36, .iconst (-1), 1), (37, .ireturn, 1)]
set_option maxRecDepth 100000 in
theorem dX4_otherwise_q0_ok : ax_decs cX4_otherwise dX4_otherwise_q0 = true := by decide +kernel
theorem dX4_otherwise_0 : decode cX4_otherwise 0 = .ok (.iconst 0, 1) := ax_dec dX4_otherwise_q0_ok 0 (0, .iconst 0, 1) rfl
theorem dX4_otherwise_1 : decode cX4_otherwise 1 = .ok (.istore_n 3, 1) := ax_dec dX4_otherwise_q0_ok 1 (1, .istore_n 3, 1) rfl
theorem dX4_otherwise_2 : decode cX4_otherwise 2 = .ok (.iload_n 3, 1) := ax_dec dX4_otherwise_q0_ok 2 (2, .iload_n 3, 1) rfl
theorem dX4_otherwise_3 : decode cX4_otherwise 3 = .ok (.aload_n 0, 1) := ax_dec dX4_otherwise_q0_ok 3 (3, .aload_n 0, 1) rfl
theorem dX4_otherwise_4 : decode cX4_otherwise 4 = .ok (.getfield 19, 3) := ax_dec dX4_otherwise_q0_ok 4 (4, .getfield 19, 3) rfl
theorem dX4_otherwise_7 : decode cX4_otherwise 7 = .ok (.if_icmp .ge 29, 3) := ax_dec dX4_otherwise_q0_ok 5 (7, .if_icmp .ge 29, 3) rfl
theorem dX4_otherwise_10 : decode cX4_otherwise 10 = .ok (.aload_n 0, 1) := ax_dec dX4_otherwise_q0_ok 6 (10, .aload_n 0, 1) rfl
theorem dX4_otherwise_11 : decode cX4_otherwise 11 = .ok (.iload_n 3, 1) := ax_dec dX4_otherwise_q0_ok 7 (11, .iload_n 3, 1) rfl
theorem dX4_otherwise_12 : decode cX4_otherwise 12 = .ok (.invokevirtual 35, 3) := ax_dec dX4_otherwise_q0_ok 8 (12, .invokevirtual 35, 3) rfl
theorem dX4_otherwise_15 : decode cX4_otherwise 15 = .ok (.aload_n 2, 1) := ax_dec dX4_otherwise_q0_ok 9 (15, .aload_n 2, 1) rfl
theorem dX4_otherwise_16 : decode cX4_otherwise 16 = .ok (.iload_n 3, 1) := ax_dec dX4_otherwise_q0_ok 10 (16, .iload_n 3, 1) rfl
theorem dX4_otherwise_17 : decode cX4_otherwise 17 = .ok (.iconst 1, 1) := ax_dec dX4_otherwise_q0_ok 11 (17, .iconst 1, 1) rfl
theorem dX4_otherwise_18 : decode cX4_otherwise 18 = .ok (.iadd, 1) := ax_dec dX4_otherwise_q0_ok 12 (18, .iadd, 1) rfl
theorem dX4_otherwise_19 : decode cX4_otherwise 19 = .ok (.aload_n 1, 1) := ax_dec dX4_otherwise_q0_ok 13 (19, .aload_n 1, 1) rfl
theorem dX4_otherwise_20 : decode cX4_otherwise 20 = .ok (.invokevirtual 39, 3) := ax_dec dX4_otherwise_q0_ok 14 (20, .invokevirtual 39, 3) rfl
theorem dX4_otherwise_23 : decode cX4_otherwise 23 = .ok (.if_icmp .eq 7, 3) := ax_dec dX4_otherwise_q0_ok 15 (23, .if_icmp .eq 7, 3) rfl
theorem dX4_otherwise_26 : decode cX4_otherwise 26 = .ok (.iload_n 3, 1) := ax_dec dX4_otherwise_q0_ok 16 (26, .iload_n 3, 1) rfl
theorem dX4_otherwise_27 : decode cX4_otherwise 27 = .ok (.iconst 1, 1) := ax_dec dX4_otherwise_q0_ok 17 (27, .iconst 1, 1) rfl
theorem dX4_otherwise_28 : decode cX4_otherwise 28 = .ok (.iadd, 1) := ax_dec dX4_otherwise_q0_ok 18 (28, .iadd, 1) rfl
theorem dX4_otherwise_29 : decode cX4_otherwise 29 = .ok (.ireturn, 1) := ax_dec dX4_otherwise_q0_ok 19 (29, .ireturn, 1) rfl
theorem dX4_otherwise_30 : decode cX4_otherwise 30 = .ok (.iinc 3 1, 3) := ax_dec dX4_otherwise_q0_ok 20 (30, .iinc 3 1, 3) rfl
theorem dX4_otherwise_33 : decode cX4_otherwise 33 = .ok (.goto (-31), 3) := ax_dec dX4_otherwise_q0_ok 21 (33, .goto (-31), 3) rfl
theorem dX4_otherwise_36 : decode cX4_otherwise 36 = .ok (.iconst (-1), 1) := ax_dec dX4_otherwise_q0_ok 22 (36, .iconst (-1), 1) rfl
theorem dX4_otherwise_37 : decode cX4_otherwise 37 = .ok (.ireturn, 1) := ax_dec dX4_otherwise_q0_ok 23 (37, .ireturn, 1) rfl
def dX4_tellsBlocked_q0 : List (Nat × (Instr × Nat)) := [(0, .aload_n 1, 1), (1, .getfield 45, 3), (4, .istore 5, 2), (6, .aload_n 1, 1), (7, .getfield 50, 3), (10, .istore 6, 2), (12, .aload_n 1, 1), (13, .iconst 2, 1), (14, .putfield 45, 3), (17, .aload_n 1, 1), (18, .iload_n 2, 1), (19, .putfield 50, 3), (22, .aload_n 0, 1), (23, .aload_n 3, 1), (24, .aload 4, 2), (26, .invokevirtual 53, 3), (29, .iconst (-1), 1), (30, .if_icmp .ne 7, 3), (33, .iconst 1, 1), (34, .goto 4, 3), (37, .iconst 0, 1), (38, .istore 7, 2), (40, .aload_n 1, 1), (41, .iload 5, 2), (43, .putfield 45, 3), (46, .aload_n 1, 1), (47, .iload 6, 2), (49, .putfield 50, 3), (52, .iload 7, 2), (54, .ireturn, 1)]
set_option maxRecDepth 100000 in
theorem dX4_tellsBlocked_q0_ok : ax_decs cX4_tellsBlocked dX4_tellsBlocked_q0 = true := by decide +kernel
theorem dX4_tellsBlocked_0 : decode cX4_tellsBlocked 0 = .ok (.aload_n 1, 1) := ax_dec dX4_tellsBlocked_q0_ok 0 (0, .aload_n 1, 1) rfl
theorem dX4_tellsBlocked_1 : decode cX4_tellsBlocked 1 = .ok (.getfield 45, 3) := ax_dec dX4_tellsBlocked_q0_ok 1 (1, .getfield 45, 3) rfl
theorem dX4_tellsBlocked_4 : decode cX4_tellsBlocked 4 = .ok (.istore 5, 2) := ax_dec dX4_tellsBlocked_q0_ok 2 (4, .istore 5, 2) rfl
theorem dX4_tellsBlocked_6 : decode cX4_tellsBlocked 6 = .ok (.aload_n 1, 1) := ax_dec dX4_tellsBlocked_q0_ok 3 (6, .aload_n 1, 1) rfl
theorem dX4_tellsBlocked_7 : decode cX4_tellsBlocked 7 = .ok (.getfield 50, 3) := ax_dec dX4_tellsBlocked_q0_ok 4 (7, .getfield 50, 3) rfl
theorem dX4_tellsBlocked_10 : decode cX4_tellsBlocked 10 = .ok (.istore 6, 2) := ax_dec dX4_tellsBlocked_q0_ok 5 (10, .istore 6, 2) rfl
theorem dX4_tellsBlocked_12 : decode cX4_tellsBlocked 12 = .ok (.aload_n 1, 1) := ax_dec dX4_tellsBlocked_q0_ok 6 (12, .aload_n 1, 1) rfl
theorem dX4_tellsBlocked_13 : decode cX4_tellsBlocked 13 = .ok (.iconst 2, 1) := ax_dec dX4_tellsBlocked_q0_ok 7 (13, .iconst 2, 1) rfl
theorem dX4_tellsBlocked_14 : decode cX4_tellsBlocked 14 = .ok (.putfield 45, 3) := ax_dec dX4_tellsBlocked_q0_ok 8 (14, .putfield 45, 3) rfl
theorem dX4_tellsBlocked_17 : decode cX4_tellsBlocked 17 = .ok (.aload_n 1, 1) := ax_dec dX4_tellsBlocked_q0_ok 9 (17, .aload_n 1, 1) rfl
theorem dX4_tellsBlocked_18 : decode cX4_tellsBlocked 18 = .ok (.iload_n 2, 1) := ax_dec dX4_tellsBlocked_q0_ok 10 (18, .iload_n 2, 1) rfl
theorem dX4_tellsBlocked_19 : decode cX4_tellsBlocked 19 = .ok (.putfield 50, 3) := ax_dec dX4_tellsBlocked_q0_ok 11 (19, .putfield 50, 3) rfl
theorem dX4_tellsBlocked_22 : decode cX4_tellsBlocked 22 = .ok (.aload_n 0, 1) := ax_dec dX4_tellsBlocked_q0_ok 12 (22, .aload_n 0, 1) rfl
theorem dX4_tellsBlocked_23 : decode cX4_tellsBlocked 23 = .ok (.aload_n 3, 1) := ax_dec dX4_tellsBlocked_q0_ok 13 (23, .aload_n 3, 1) rfl
theorem dX4_tellsBlocked_24 : decode cX4_tellsBlocked 24 = .ok (.aload 4, 2) := ax_dec dX4_tellsBlocked_q0_ok 14 (24, .aload 4, 2) rfl
theorem dX4_tellsBlocked_26 : decode cX4_tellsBlocked 26 = .ok (.invokevirtual 53, 3) := ax_dec dX4_tellsBlocked_q0_ok 15 (26, .invokevirtual 53, 3) rfl
theorem dX4_tellsBlocked_29 : decode cX4_tellsBlocked 29 = .ok (.iconst (-1), 1) := ax_dec dX4_tellsBlocked_q0_ok 16 (29, .iconst (-1), 1) rfl
theorem dX4_tellsBlocked_30 : decode cX4_tellsBlocked 30 = .ok (.if_icmp .ne 7, 3) := ax_dec dX4_tellsBlocked_q0_ok 17 (30, .if_icmp .ne 7, 3) rfl
theorem dX4_tellsBlocked_33 : decode cX4_tellsBlocked 33 = .ok (.iconst 1, 1) := ax_dec dX4_tellsBlocked_q0_ok 18 (33, .iconst 1, 1) rfl
theorem dX4_tellsBlocked_34 : decode cX4_tellsBlocked 34 = .ok (.goto 4, 3) := ax_dec dX4_tellsBlocked_q0_ok 19 (34, .goto 4, 3) rfl
theorem dX4_tellsBlocked_37 : decode cX4_tellsBlocked 37 = .ok (.iconst 0, 1) := ax_dec dX4_tellsBlocked_q0_ok 20 (37, .iconst 0, 1) rfl
theorem dX4_tellsBlocked_38 : decode cX4_tellsBlocked 38 = .ok (.istore 7, 2) := ax_dec dX4_tellsBlocked_q0_ok 21 (38, .istore 7, 2) rfl
theorem dX4_tellsBlocked_40 : decode cX4_tellsBlocked 40 = .ok (.aload_n 1, 1) := ax_dec dX4_tellsBlocked_q0_ok 22 (40, .aload_n 1, 1) rfl
theorem dX4_tellsBlocked_41 : decode cX4_tellsBlocked 41 = .ok (.iload 5, 2) := ax_dec dX4_tellsBlocked_q0_ok 23 (41, .iload 5, 2) rfl
theorem dX4_tellsBlocked_43 : decode cX4_tellsBlocked 43 = .ok (.putfield 45, 3) := ax_dec dX4_tellsBlocked_q0_ok 24 (43, .putfield 45, 3) rfl
theorem dX4_tellsBlocked_46 : decode cX4_tellsBlocked 46 = .ok (.aload_n 1, 1) := ax_dec dX4_tellsBlocked_q0_ok 25 (46, .aload_n 1, 1) rfl
theorem dX4_tellsBlocked_47 : decode cX4_tellsBlocked 47 = .ok (.iload 6, 2) := ax_dec dX4_tellsBlocked_q0_ok 26 (47, .iload 6, 2) rfl
theorem dX4_tellsBlocked_49 : decode cX4_tellsBlocked 49 = .ok (.putfield 50, 3) := ax_dec dX4_tellsBlocked_q0_ok 27 (49, .putfield 50, 3) rfl
theorem dX4_tellsBlocked_52 : decode cX4_tellsBlocked 52 = .ok (.iload 7, 2) := ax_dec dX4_tellsBlocked_q0_ok 28 (52, .iload 7, 2) rfl
theorem dX4_tellsBlocked_54 : decode cX4_tellsBlocked 54 = .ok (.ireturn, 1) := ax_dec dX4_tellsBlocked_q0_ok 29 (54, .ireturn, 1) rfl
def dX5_binds_q0 : List (Nat × (Instr × Nat)) := [(0, .iload_n 0, 1), (1, .tableswitch 67 5 13 #[51, 53, 55, 57, 57, 59, 59, 61, 64], 51), (52, .iconst 1, 1), (53, .ireturn, 1), (54, .iconst 2, 1), (55, .ireturn, 1), (56, .iconst 3, 1), (57, .ireturn, 1), (58, .iconst 4, 1), (59, .ireturn, 1), (60, .iconst 5, 1), (61, .ireturn, 1), (62, .bipush 6, 2), (64, .ireturn, 1), (65, .bipush 7, 2), (67, .ireturn, 1), (68, .iconst 0, 1), (69, .ireturn, 1)]
set_option maxRecDepth 100000 in
theorem dX5_binds_q0_ok : ax_decs cX5_binds dX5_binds_q0 = true := by decide +kernel
theorem dX5_binds_0 : decode cX5_binds 0 = .ok (.iload_n 0, 1) := ax_dec dX5_binds_q0_ok 0 (0, .iload_n 0, 1) rfl
theorem dX5_binds_1 : decode cX5_binds 1 = .ok (.tableswitch 67 5 13 #[51, 53, 55, 57, 57, 59, 59, 61, 64], 51) := ax_dec dX5_binds_q0_ok 1 (1, .tableswitch 67 5 13 #[51, 53, 55, 57, 57, 59, 59, 61, 64], 51) rfl
theorem dX5_binds_52 : decode cX5_binds 52 = .ok (.iconst 1, 1) := ax_dec dX5_binds_q0_ok 2 (52, .iconst 1, 1) rfl
theorem dX5_binds_53 : decode cX5_binds 53 = .ok (.ireturn, 1) := ax_dec dX5_binds_q0_ok 3 (53, .ireturn, 1) rfl
theorem dX5_binds_54 : decode cX5_binds 54 = .ok (.iconst 2, 1) := ax_dec dX5_binds_q0_ok 4 (54, .iconst 2, 1) rfl
theorem dX5_binds_55 : decode cX5_binds 55 = .ok (.ireturn, 1) := ax_dec dX5_binds_q0_ok 5 (55, .ireturn, 1) rfl
theorem dX5_binds_56 : decode cX5_binds 56 = .ok (.iconst 3, 1) := ax_dec dX5_binds_q0_ok 6 (56, .iconst 3, 1) rfl
theorem dX5_binds_57 : decode cX5_binds 57 = .ok (.ireturn, 1) := ax_dec dX5_binds_q0_ok 7 (57, .ireturn, 1) rfl
theorem dX5_binds_58 : decode cX5_binds 58 = .ok (.iconst 4, 1) := ax_dec dX5_binds_q0_ok 8 (58, .iconst 4, 1) rfl
theorem dX5_binds_59 : decode cX5_binds 59 = .ok (.ireturn, 1) := ax_dec dX5_binds_q0_ok 9 (59, .ireturn, 1) rfl
theorem dX5_binds_60 : decode cX5_binds 60 = .ok (.iconst 5, 1) := ax_dec dX5_binds_q0_ok 10 (60, .iconst 5, 1) rfl
theorem dX5_binds_61 : decode cX5_binds 61 = .ok (.ireturn, 1) := ax_dec dX5_binds_q0_ok 11 (61, .ireturn, 1) rfl
theorem dX5_binds_62 : decode cX5_binds 62 = .ok (.bipush 6, 2) := ax_dec dX5_binds_q0_ok 12 (62, .bipush 6, 2) rfl
theorem dX5_binds_64 : decode cX5_binds 64 = .ok (.ireturn, 1) := ax_dec dX5_binds_q0_ok 13 (64, .ireturn, 1) rfl
theorem dX5_binds_65 : decode cX5_binds 65 = .ok (.bipush 7, 2) := ax_dec dX5_binds_q0_ok 14 (65, .bipush 7, 2) rfl
theorem dX5_binds_67 : decode cX5_binds 67 = .ok (.ireturn, 1) := ax_dec dX5_binds_q0_ok 15 (67, .ireturn, 1) rfl
theorem dX5_binds_68 : decode cX5_binds 68 = .ok (.iconst 0, 1) := ax_dec dX5_binds_q0_ok 16 (68, .iconst 0, 1) rfl
theorem dX5_binds_69 : decode cX5_binds 69 = .ok (.ireturn, 1) := ax_dec dX5_binds_q0_ok 17 (69, .ireturn, 1) rfl
def dX5_joinsTwo_q0 : List (Nat × (Instr × Nat)) := [(0, .iload_n 0, 1), (1, .iconst 5, 1), (2, .if_icmp .eq 21, 3), (5, .iload_n 0, 1), (6, .bipush 6, 2), (8, .if_icmp .eq 15, 3), (11, .iload_n 0, 1), (12, .bipush 8, 2), (14, .if_icmp .lt 13, 3), (17, .iload_n 0, 1), (18, .bipush 12, 2), (20, .if_icmp .gt 7, 3), (23, .iconst 1, 1), (24, .goto 4, 3), (27, .iconst 0, 1), (28, .ireturn, 1)]
set_option maxRecDepth 100000 in
theorem dX5_joinsTwo_q0_ok : ax_decs cX5_joinsTwo dX5_joinsTwo_q0 = true := by decide +kernel
theorem dX5_joinsTwo_0 : decode cX5_joinsTwo 0 = .ok (.iload_n 0, 1) := ax_dec dX5_joinsTwo_q0_ok 0 (0, .iload_n 0, 1) rfl
theorem dX5_joinsTwo_1 : decode cX5_joinsTwo 1 = .ok (.iconst 5, 1) := ax_dec dX5_joinsTwo_q0_ok 1 (1, .iconst 5, 1) rfl
theorem dX5_joinsTwo_2 : decode cX5_joinsTwo 2 = .ok (.if_icmp .eq 21, 3) := ax_dec dX5_joinsTwo_q0_ok 2 (2, .if_icmp .eq 21, 3) rfl
theorem dX5_joinsTwo_5 : decode cX5_joinsTwo 5 = .ok (.iload_n 0, 1) := ax_dec dX5_joinsTwo_q0_ok 3 (5, .iload_n 0, 1) rfl
theorem dX5_joinsTwo_6 : decode cX5_joinsTwo 6 = .ok (.bipush 6, 2) := ax_dec dX5_joinsTwo_q0_ok 4 (6, .bipush 6, 2) rfl
theorem dX5_joinsTwo_8 : decode cX5_joinsTwo 8 = .ok (.if_icmp .eq 15, 3) := ax_dec dX5_joinsTwo_q0_ok 5 (8, .if_icmp .eq 15, 3) rfl
theorem dX5_joinsTwo_11 : decode cX5_joinsTwo 11 = .ok (.iload_n 0, 1) := ax_dec dX5_joinsTwo_q0_ok 6 (11, .iload_n 0, 1) rfl
theorem dX5_joinsTwo_12 : decode cX5_joinsTwo 12 = .ok (.bipush 8, 2) := ax_dec dX5_joinsTwo_q0_ok 7 (12, .bipush 8, 2) rfl
theorem dX5_joinsTwo_14 : decode cX5_joinsTwo 14 = .ok (.if_icmp .lt 13, 3) := ax_dec dX5_joinsTwo_q0_ok 8 (14, .if_icmp .lt 13, 3) rfl
theorem dX5_joinsTwo_17 : decode cX5_joinsTwo 17 = .ok (.iload_n 0, 1) := ax_dec dX5_joinsTwo_q0_ok 9 (17, .iload_n 0, 1) rfl
theorem dX5_joinsTwo_18 : decode cX5_joinsTwo 18 = .ok (.bipush 12, 2) := ax_dec dX5_joinsTwo_q0_ok 10 (18, .bipush 12, 2) rfl
theorem dX5_joinsTwo_20 : decode cX5_joinsTwo 20 = .ok (.if_icmp .gt 7, 3) := ax_dec dX5_joinsTwo_q0_ok 11 (20, .if_icmp .gt 7, 3) rfl
theorem dX5_joinsTwo_23 : decode cX5_joinsTwo 23 = .ok (.iconst 1, 1) := ax_dec dX5_joinsTwo_q0_ok 12 (23, .iconst 1, 1) rfl
theorem dX5_joinsTwo_24 : decode cX5_joinsTwo 24 = .ok (.goto 4, 3) := ax_dec dX5_joinsTwo_q0_ok 13 (24, .goto 4, 3) rfl
theorem dX5_joinsTwo_27 : decode cX5_joinsTwo 27 = .ok (.iconst 0, 1) := ax_dec dX5_joinsTwo_q0_ok 14 (27, .iconst 0, 1) rfl
theorem dX5_joinsTwo_28 : decode cX5_joinsTwo 28 = .ok (.ireturn, 1) := ax_dec dX5_joinsTwo_q0_ok 15 (28, .ireturn, 1) rfl
def dX5_ofByte_q0 : List (Nat × (Instr × Nat)) := [(0, .iload_n 0, 1), (1, .tableswitch 127 40 61 #[103, 106, 118, 112, 127, 115, 127, 127, 127, 127, 127, 127, 127, 127, 127, 127, 127, 127, 127, 109, 121, 124], 103), (104, .bipush 14, 2), (106, .ireturn, 1), (107, .bipush 15, 2), (109, .ireturn, 1), (110, .bipush 16, 2), (112, .ireturn, 1), (113, .bipush 10, 2), (115, .ireturn, 1), (116, .bipush 11, 2), (118, .ireturn, 1), (119, .bipush 12, 2), (121, .ireturn, 1), (122, .bipush 8, 2), (124, .ireturn, 1), (125, .bipush 9, 2), (127, .ireturn, 1), (128, .iconst 1, 1), (129, .ireturn, 1)]
set_option maxRecDepth 100000 in
theorem dX5_ofByte_q0_ok : ax_decs cX5_ofByte dX5_ofByte_q0 = true := by decide +kernel
theorem dX5_ofByte_0 : decode cX5_ofByte 0 = .ok (.iload_n 0, 1) := ax_dec dX5_ofByte_q0_ok 0 (0, .iload_n 0, 1) rfl
theorem dX5_ofByte_1 : decode cX5_ofByte 1 = .ok (.tableswitch 127 40 61 #[103, 106, 118, 112, 127, 115, 127, 127, 127, 127, 127, 127, 127, 127, 127, 127, 127, 127, 127, 109, 121, 124], 103) := ax_dec dX5_ofByte_q0_ok 1 (1, .tableswitch 127 40 61 #[103, 106, 118, 112, 127, 115, 127, 127, 127, 127, 127, 127, 127, 127, 127, 127, 127, 127, 127, 109, 121, 124], 103) rfl
theorem dX5_ofByte_104 : decode cX5_ofByte 104 = .ok (.bipush 14, 2) := ax_dec dX5_ofByte_q0_ok 2 (104, .bipush 14, 2) rfl
theorem dX5_ofByte_106 : decode cX5_ofByte 106 = .ok (.ireturn, 1) := ax_dec dX5_ofByte_q0_ok 3 (106, .ireturn, 1) rfl
theorem dX5_ofByte_107 : decode cX5_ofByte 107 = .ok (.bipush 15, 2) := ax_dec dX5_ofByte_q0_ok 4 (107, .bipush 15, 2) rfl
theorem dX5_ofByte_109 : decode cX5_ofByte 109 = .ok (.ireturn, 1) := ax_dec dX5_ofByte_q0_ok 5 (109, .ireturn, 1) rfl
theorem dX5_ofByte_110 : decode cX5_ofByte 110 = .ok (.bipush 16, 2) := ax_dec dX5_ofByte_q0_ok 6 (110, .bipush 16, 2) rfl
theorem dX5_ofByte_112 : decode cX5_ofByte 112 = .ok (.ireturn, 1) := ax_dec dX5_ofByte_q0_ok 7 (112, .ireturn, 1) rfl
theorem dX5_ofByte_113 : decode cX5_ofByte 113 = .ok (.bipush 10, 2) := ax_dec dX5_ofByte_q0_ok 8 (113, .bipush 10, 2) rfl
theorem dX5_ofByte_115 : decode cX5_ofByte 115 = .ok (.ireturn, 1) := ax_dec dX5_ofByte_q0_ok 9 (115, .ireturn, 1) rfl
theorem dX5_ofByte_116 : decode cX5_ofByte 116 = .ok (.bipush 11, 2) := ax_dec dX5_ofByte_q0_ok 10 (116, .bipush 11, 2) rfl
theorem dX5_ofByte_118 : decode cX5_ofByte 118 = .ok (.ireturn, 1) := ax_dec dX5_ofByte_q0_ok 11 (118, .ireturn, 1) rfl
theorem dX5_ofByte_119 : decode cX5_ofByte 119 = .ok (.bipush 12, 2) := ax_dec dX5_ofByte_q0_ok 12 (119, .bipush 12, 2) rfl
theorem dX5_ofByte_121 : decode cX5_ofByte 121 = .ok (.ireturn, 1) := ax_dec dX5_ofByte_q0_ok 13 (121, .ireturn, 1) rfl
theorem dX5_ofByte_122 : decode cX5_ofByte 122 = .ok (.bipush 8, 2) := ax_dec dX5_ofByte_q0_ok 14 (122, .bipush 8, 2) rfl
theorem dX5_ofByte_124 : decode cX5_ofByte 124 = .ok (.ireturn, 1) := ax_dec dX5_ofByte_q0_ok 15 (124, .ireturn, 1) rfl
theorem dX5_ofByte_125 : decode cX5_ofByte 125 = .ok (.bipush 9, 2) := ax_dec dX5_ofByte_q0_ok 16 (125, .bipush 9, 2) rfl
theorem dX5_ofByte_127 : decode cX5_ofByte 127 = .ok (.ireturn, 1) := ax_dec dX5_ofByte_q0_ok 17 (127, .ireturn, 1) rfl
theorem dX5_ofByte_128 : decode cX5_ofByte 128 = .ok (.iconst 1, 1) := ax_dec dX5_ofByte_q0_ok 18 (128, .iconst 1, 1) rfl
theorem dX5_ofByte_129 : decode cX5_ofByte 129 = .ok (.ireturn, 1) := ax_dec dX5_ofByte_q0_ok 19 (129, .ireturn, 1) rfl
def dX6_init_q0 : List (Nat × (Instr × Nat)) := [(0, .aload_n 0, 1), (1, .invokespecial 1, 3), (4, .aload_n 0, 1), (5, .new 7, 3), (8, .dup, 1), (9, .invokespecial 9, 3), (12, .putfield 10, 3), (15, .aload_n 0, 1), (16, .bipush 6, 2), (18, .anewarray 16, 3), (21, .putfield 18, 3), (24, .aload_n 0, 1), (25, .iconst 4, 1), (26, .anewarray 22, 3), (29, .putfield 24, 3), (32, .aload_n 0, 1), (33, .iconst 1, 1), (34, .putfield 28, 3), (37, .aload_n 0, 1), (38, .iconst 0, 1), (39, .putfield 32, 3), (42, .aload_n 0, 1), (43, .iconst (-1), 1), (44, .putfield 35, 3), (47, .iconst 0, 1), (48, .istore_n 1, 1), (49, .iload_n 1, 1), (50, .aload_n 0, 1), (51, .getfield 18, 3), (54, .arraylength, 1), (55, .if_icmp .ge 22, 3), (58, .aload_n 0, 1)]
set_option maxRecDepth 100000 in
theorem dX6_init_q0_ok : ax_decs cX6_init dX6_init_q0 = true := by decide +kernel
theorem dX6_init_0 : decode cX6_init 0 = .ok (.aload_n 0, 1) := ax_dec dX6_init_q0_ok 0 (0, .aload_n 0, 1) rfl
theorem dX6_init_1 : decode cX6_init 1 = .ok (.invokespecial 1, 3) := ax_dec dX6_init_q0_ok 1 (1, .invokespecial 1, 3) rfl
theorem dX6_init_4 : decode cX6_init 4 = .ok (.aload_n 0, 1) := ax_dec dX6_init_q0_ok 2 (4, .aload_n 0, 1) rfl
theorem dX6_init_5 : decode cX6_init 5 = .ok (.new 7, 3) := ax_dec dX6_init_q0_ok 3 (5, .new 7, 3) rfl
theorem dX6_init_8 : decode cX6_init 8 = .ok (.dup, 1) := ax_dec dX6_init_q0_ok 4 (8, .dup, 1) rfl
theorem dX6_init_9 : decode cX6_init 9 = .ok (.invokespecial 9, 3) := ax_dec dX6_init_q0_ok 5 (9, .invokespecial 9, 3) rfl
theorem dX6_init_12 : decode cX6_init 12 = .ok (.putfield 10, 3) := ax_dec dX6_init_q0_ok 6 (12, .putfield 10, 3) rfl
theorem dX6_init_15 : decode cX6_init 15 = .ok (.aload_n 0, 1) := ax_dec dX6_init_q0_ok 7 (15, .aload_n 0, 1) rfl
theorem dX6_init_16 : decode cX6_init 16 = .ok (.bipush 6, 2) := ax_dec dX6_init_q0_ok 8 (16, .bipush 6, 2) rfl
theorem dX6_init_18 : decode cX6_init 18 = .ok (.anewarray 16, 3) := ax_dec dX6_init_q0_ok 9 (18, .anewarray 16, 3) rfl
theorem dX6_init_21 : decode cX6_init 21 = .ok (.putfield 18, 3) := ax_dec dX6_init_q0_ok 10 (21, .putfield 18, 3) rfl
theorem dX6_init_24 : decode cX6_init 24 = .ok (.aload_n 0, 1) := ax_dec dX6_init_q0_ok 11 (24, .aload_n 0, 1) rfl
theorem dX6_init_25 : decode cX6_init 25 = .ok (.iconst 4, 1) := ax_dec dX6_init_q0_ok 12 (25, .iconst 4, 1) rfl
theorem dX6_init_26 : decode cX6_init 26 = .ok (.anewarray 22, 3) := ax_dec dX6_init_q0_ok 13 (26, .anewarray 22, 3) rfl
theorem dX6_init_29 : decode cX6_init 29 = .ok (.putfield 24, 3) := ax_dec dX6_init_q0_ok 14 (29, .putfield 24, 3) rfl
theorem dX6_init_32 : decode cX6_init 32 = .ok (.aload_n 0, 1) := ax_dec dX6_init_q0_ok 15 (32, .aload_n 0, 1) rfl
theorem dX6_init_33 : decode cX6_init 33 = .ok (.iconst 1, 1) := ax_dec dX6_init_q0_ok 16 (33, .iconst 1, 1) rfl
theorem dX6_init_34 : decode cX6_init 34 = .ok (.putfield 28, 3) := ax_dec dX6_init_q0_ok 17 (34, .putfield 28, 3) rfl
theorem dX6_init_37 : decode cX6_init 37 = .ok (.aload_n 0, 1) := ax_dec dX6_init_q0_ok 18 (37, .aload_n 0, 1) rfl
theorem dX6_init_38 : decode cX6_init 38 = .ok (.iconst 0, 1) := ax_dec dX6_init_q0_ok 19 (38, .iconst 0, 1) rfl
theorem dX6_init_39 : decode cX6_init 39 = .ok (.putfield 32, 3) := ax_dec dX6_init_q0_ok 20 (39, .putfield 32, 3) rfl
theorem dX6_init_42 : decode cX6_init 42 = .ok (.aload_n 0, 1) := ax_dec dX6_init_q0_ok 21 (42, .aload_n 0, 1) rfl
theorem dX6_init_43 : decode cX6_init 43 = .ok (.iconst (-1), 1) := ax_dec dX6_init_q0_ok 22 (43, .iconst (-1), 1) rfl
theorem dX6_init_44 : decode cX6_init 44 = .ok (.putfield 35, 3) := ax_dec dX6_init_q0_ok 23 (44, .putfield 35, 3) rfl
theorem dX6_init_47 : decode cX6_init 47 = .ok (.iconst 0, 1) := ax_dec dX6_init_q0_ok 24 (47, .iconst 0, 1) rfl
theorem dX6_init_48 : decode cX6_init 48 = .ok (.istore_n 1, 1) := ax_dec dX6_init_q0_ok 25 (48, .istore_n 1, 1) rfl
theorem dX6_init_49 : decode cX6_init 49 = .ok (.iload_n 1, 1) := ax_dec dX6_init_q0_ok 26 (49, .iload_n 1, 1) rfl
theorem dX6_init_50 : decode cX6_init 50 = .ok (.aload_n 0, 1) := ax_dec dX6_init_q0_ok 27 (50, .aload_n 0, 1) rfl
theorem dX6_init_51 : decode cX6_init 51 = .ok (.getfield 18, 3) := ax_dec dX6_init_q0_ok 28 (51, .getfield 18, 3) rfl
theorem dX6_init_54 : decode cX6_init 54 = .ok (.arraylength, 1) := ax_dec dX6_init_q0_ok 29 (54, .arraylength, 1) rfl
theorem dX6_init_55 : decode cX6_init 55 = .ok (.if_icmp .ge 22, 3) := ax_dec dX6_init_q0_ok 30 (55, .if_icmp .ge 22, 3) rfl
theorem dX6_init_58 : decode cX6_init 58 = .ok (.aload_n 0, 1) := ax_dec dX6_init_q0_ok 31 (58, .aload_n 0, 1) rfl
def dX6_init_q1 : List (Nat × (Instr × Nat)) := [(59, .getfield 18, 3), (62, .iload_n 1, 1), (63, .new 16, 3), (66, .dup, 1), (67, .invokespecial 38, 3), (70, .aastore, 1), (71, .iinc 1 1, 3), (74, .goto (-25), 3), (77, .iconst 0, 1), (78, .istore_n 1, 1), (79, .iload_n 1, 1), (80, .aload_n 0, 1), (81, .getfield 24, 3), (84, .arraylength, 1), (85, .if_icmp .ge 22, 3), (88, .aload_n 0, 1), (89, .getfield 24, 3), (92, .iload_n 1, 1), (93, .new 22, 3), (96, .dup, 1), (97, .invokespecial 39, 3), (100, .aastore, 1), (101, .iinc 1 1, 3), (104, .goto (-25), 3), (107, .aload_n 0, 1), (108, .getfield 10, 3), (111, .ldc 40, 2), (113, .invokevirtual 42, 3), (116, .aload_n 0, 1), (117, .getfield 10, 3), (120, .aload_n 0, 1), (121, .getfield 18, 3)]
set_option maxRecDepth 100000 in
theorem dX6_init_q1_ok : ax_decs cX6_init dX6_init_q1 = true := by decide +kernel
theorem dX6_init_59 : decode cX6_init 59 = .ok (.getfield 18, 3) := ax_dec dX6_init_q1_ok 0 (59, .getfield 18, 3) rfl
theorem dX6_init_62 : decode cX6_init 62 = .ok (.iload_n 1, 1) := ax_dec dX6_init_q1_ok 1 (62, .iload_n 1, 1) rfl
theorem dX6_init_63 : decode cX6_init 63 = .ok (.new 16, 3) := ax_dec dX6_init_q1_ok 2 (63, .new 16, 3) rfl
theorem dX6_init_66 : decode cX6_init 66 = .ok (.dup, 1) := ax_dec dX6_init_q1_ok 3 (66, .dup, 1) rfl
theorem dX6_init_67 : decode cX6_init 67 = .ok (.invokespecial 38, 3) := ax_dec dX6_init_q1_ok 4 (67, .invokespecial 38, 3) rfl
theorem dX6_init_70 : decode cX6_init 70 = .ok (.aastore, 1) := ax_dec dX6_init_q1_ok 5 (70, .aastore, 1) rfl
theorem dX6_init_71 : decode cX6_init 71 = .ok (.iinc 1 1, 3) := ax_dec dX6_init_q1_ok 6 (71, .iinc 1 1, 3) rfl
theorem dX6_init_74 : decode cX6_init 74 = .ok (.goto (-25), 3) := ax_dec dX6_init_q1_ok 7 (74, .goto (-25), 3) rfl
theorem dX6_init_77 : decode cX6_init 77 = .ok (.iconst 0, 1) := ax_dec dX6_init_q1_ok 8 (77, .iconst 0, 1) rfl
theorem dX6_init_78 : decode cX6_init 78 = .ok (.istore_n 1, 1) := ax_dec dX6_init_q1_ok 9 (78, .istore_n 1, 1) rfl
theorem dX6_init_79 : decode cX6_init 79 = .ok (.iload_n 1, 1) := ax_dec dX6_init_q1_ok 10 (79, .iload_n 1, 1) rfl
theorem dX6_init_80 : decode cX6_init 80 = .ok (.aload_n 0, 1) := ax_dec dX6_init_q1_ok 11 (80, .aload_n 0, 1) rfl
theorem dX6_init_81 : decode cX6_init 81 = .ok (.getfield 24, 3) := ax_dec dX6_init_q1_ok 12 (81, .getfield 24, 3) rfl
theorem dX6_init_84 : decode cX6_init 84 = .ok (.arraylength, 1) := ax_dec dX6_init_q1_ok 13 (84, .arraylength, 1) rfl
theorem dX6_init_85 : decode cX6_init 85 = .ok (.if_icmp .ge 22, 3) := ax_dec dX6_init_q1_ok 14 (85, .if_icmp .ge 22, 3) rfl
theorem dX6_init_88 : decode cX6_init 88 = .ok (.aload_n 0, 1) := ax_dec dX6_init_q1_ok 15 (88, .aload_n 0, 1) rfl
theorem dX6_init_89 : decode cX6_init 89 = .ok (.getfield 24, 3) := ax_dec dX6_init_q1_ok 16 (89, .getfield 24, 3) rfl
theorem dX6_init_92 : decode cX6_init 92 = .ok (.iload_n 1, 1) := ax_dec dX6_init_q1_ok 17 (92, .iload_n 1, 1) rfl
theorem dX6_init_93 : decode cX6_init 93 = .ok (.new 22, 3) := ax_dec dX6_init_q1_ok 18 (93, .new 22, 3) rfl
theorem dX6_init_96 : decode cX6_init 96 = .ok (.dup, 1) := ax_dec dX6_init_q1_ok 19 (96, .dup, 1) rfl
theorem dX6_init_97 : decode cX6_init 97 = .ok (.invokespecial 39, 3) := ax_dec dX6_init_q1_ok 20 (97, .invokespecial 39, 3) rfl
theorem dX6_init_100 : decode cX6_init 100 = .ok (.aastore, 1) := ax_dec dX6_init_q1_ok 21 (100, .aastore, 1) rfl
theorem dX6_init_101 : decode cX6_init 101 = .ok (.iinc 1 1, 3) := ax_dec dX6_init_q1_ok 22 (101, .iinc 1 1, 3) rfl
theorem dX6_init_104 : decode cX6_init 104 = .ok (.goto (-25), 3) := ax_dec dX6_init_q1_ok 23 (104, .goto (-25), 3) rfl
theorem dX6_init_107 : decode cX6_init 107 = .ok (.aload_n 0, 1) := ax_dec dX6_init_q1_ok 24 (107, .aload_n 0, 1) rfl
theorem dX6_init_108 : decode cX6_init 108 = .ok (.getfield 10, 3) := ax_dec dX6_init_q1_ok 25 (108, .getfield 10, 3) rfl
theorem dX6_init_111 : decode cX6_init 111 = .ok (.ldc 40, 2) := ax_dec dX6_init_q1_ok 26 (111, .ldc 40, 2) rfl
theorem dX6_init_113 : decode cX6_init 113 = .ok (.invokevirtual 42, 3) := ax_dec dX6_init_q1_ok 27 (113, .invokevirtual 42, 3) rfl
theorem dX6_init_116 : decode cX6_init 116 = .ok (.aload_n 0, 1) := ax_dec dX6_init_q1_ok 28 (116, .aload_n 0, 1) rfl
theorem dX6_init_117 : decode cX6_init 117 = .ok (.getfield 10, 3) := ax_dec dX6_init_q1_ok 29 (117, .getfield 10, 3) rfl
theorem dX6_init_120 : decode cX6_init 120 = .ok (.aload_n 0, 1) := ax_dec dX6_init_q1_ok 30 (120, .aload_n 0, 1) rfl
theorem dX6_init_121 : decode cX6_init 121 = .ok (.getfield 18, 3) := ax_dec dX6_init_q1_ok 31 (121, .getfield 18, 3) rfl
def dX6_init_q2 : List (Nat × (Instr × Nat)) := [(124, .iconst 0, 1), (125, .aaload, 1), (126, .invokevirtual 46, 3), (129, .pop, 1), (130, .aload_n 0, 1), (131, .new 50, 3), (134, .dup, 1), (135, .aload_n 0, 1), (136, .getfield 18, 3), (139, .iconst 0, 1), (140, .aaload, 1), (141, .invokespecial 52, 3), (144, .putfield 55, 3), (147, .return_, 1)]
set_option maxRecDepth 100000 in
theorem dX6_init_q2_ok : ax_decs cX6_init dX6_init_q2 = true := by decide +kernel
theorem dX6_init_124 : decode cX6_init 124 = .ok (.iconst 0, 1) := ax_dec dX6_init_q2_ok 0 (124, .iconst 0, 1) rfl
theorem dX6_init_125 : decode cX6_init 125 = .ok (.aaload, 1) := ax_dec dX6_init_q2_ok 1 (125, .aaload, 1) rfl
theorem dX6_init_126 : decode cX6_init 126 = .ok (.invokevirtual 46, 3) := ax_dec dX6_init_q2_ok 2 (126, .invokevirtual 46, 3) rfl
theorem dX6_init_129 : decode cX6_init 129 = .ok (.pop, 1) := ax_dec dX6_init_q2_ok 3 (129, .pop, 1) rfl
theorem dX6_init_130 : decode cX6_init 130 = .ok (.aload_n 0, 1) := ax_dec dX6_init_q2_ok 4 (130, .aload_n 0, 1) rfl
theorem dX6_init_131 : decode cX6_init 131 = .ok (.new 50, 3) := ax_dec dX6_init_q2_ok 5 (131, .new 50, 3) rfl
theorem dX6_init_134 : decode cX6_init 134 = .ok (.dup, 1) := ax_dec dX6_init_q2_ok 6 (134, .dup, 1) rfl
theorem dX6_init_135 : decode cX6_init 135 = .ok (.aload_n 0, 1) := ax_dec dX6_init_q2_ok 7 (135, .aload_n 0, 1) rfl
theorem dX6_init_136 : decode cX6_init 136 = .ok (.getfield 18, 3) := ax_dec dX6_init_q2_ok 8 (136, .getfield 18, 3) rfl
theorem dX6_init_139 : decode cX6_init 139 = .ok (.iconst 0, 1) := ax_dec dX6_init_q2_ok 9 (139, .iconst 0, 1) rfl
theorem dX6_init_140 : decode cX6_init 140 = .ok (.aaload, 1) := ax_dec dX6_init_q2_ok 10 (140, .aaload, 1) rfl
theorem dX6_init_141 : decode cX6_init 141 = .ok (.invokespecial 52, 3) := ax_dec dX6_init_q2_ok 11 (141, .invokespecial 52, 3) rfl
theorem dX6_init_144 : decode cX6_init 144 = .ok (.putfield 55, 3) := ax_dec dX6_init_q2_ok 12 (144, .putfield 55, 3) rfl
theorem dX6_init_147 : decode cX6_init 147 = .ok (.return_, 1) := ax_dec dX6_init_q2_ok 13 (147, .return_, 1) rfl
def dX6_count_q0 : List (Nat × (Instr × Nat)) := [(0, .iload_n 1, 1), (1, .tableswitch 87 0 5 #[39, 47, 58, 69, 74, 79], 39), (40, .aload_n 0, 1), (41, .getfield 55, 3), (44, .getfield 59, 3), (47, .ireturn, 1), (48, .aload_n 0, 1), (49, .getfield 55, 3), (52, .invokevirtual 62, 3), (55, .invokestatic 66, 3), (58, .ireturn, 1), (59, .aload_n 0, 1), (60, .getfield 55, 3), (63, .invokevirtual 72, 3), (66, .invokestatic 66, 3), (69, .ireturn, 1), (70, .aload_n 0, 1), (71, .getfield 28, 3), (74, .ireturn, 1), (75, .aload_n 0, 1), (76, .getfield 32, 3), (79, .ireturn, 1), (80, .aload_n 0, 1), (81, .getfield 10, 3), (84, .getfield 75, 3), (87, .ireturn, 1), (88, .bipush (-2), 2), (90, .ireturn, 1)]
set_option maxRecDepth 100000 in
theorem dX6_count_q0_ok : ax_decs cX6_count dX6_count_q0 = true := by decide +kernel
theorem dX6_count_0 : decode cX6_count 0 = .ok (.iload_n 1, 1) := ax_dec dX6_count_q0_ok 0 (0, .iload_n 1, 1) rfl
theorem dX6_count_1 : decode cX6_count 1 = .ok (.tableswitch 87 0 5 #[39, 47, 58, 69, 74, 79], 39) := ax_dec dX6_count_q0_ok 1 (1, .tableswitch 87 0 5 #[39, 47, 58, 69, 74, 79], 39) rfl
theorem dX6_count_40 : decode cX6_count 40 = .ok (.aload_n 0, 1) := ax_dec dX6_count_q0_ok 2 (40, .aload_n 0, 1) rfl
theorem dX6_count_41 : decode cX6_count 41 = .ok (.getfield 55, 3) := ax_dec dX6_count_q0_ok 3 (41, .getfield 55, 3) rfl
theorem dX6_count_44 : decode cX6_count 44 = .ok (.getfield 59, 3) := ax_dec dX6_count_q0_ok 4 (44, .getfield 59, 3) rfl
theorem dX6_count_47 : decode cX6_count 47 = .ok (.ireturn, 1) := ax_dec dX6_count_q0_ok 5 (47, .ireturn, 1) rfl
theorem dX6_count_48 : decode cX6_count 48 = .ok (.aload_n 0, 1) := ax_dec dX6_count_q0_ok 6 (48, .aload_n 0, 1) rfl
theorem dX6_count_49 : decode cX6_count 49 = .ok (.getfield 55, 3) := ax_dec dX6_count_q0_ok 7 (49, .getfield 55, 3) rfl
theorem dX6_count_52 : decode cX6_count 52 = .ok (.invokevirtual 62, 3) := ax_dec dX6_count_q0_ok 8 (52, .invokevirtual 62, 3) rfl
theorem dX6_count_55 : decode cX6_count 55 = .ok (.invokestatic 66, 3) := ax_dec dX6_count_q0_ok 9 (55, .invokestatic 66, 3) rfl
theorem dX6_count_58 : decode cX6_count 58 = .ok (.ireturn, 1) := ax_dec dX6_count_q0_ok 10 (58, .ireturn, 1) rfl
theorem dX6_count_59 : decode cX6_count 59 = .ok (.aload_n 0, 1) := ax_dec dX6_count_q0_ok 11 (59, .aload_n 0, 1) rfl
theorem dX6_count_60 : decode cX6_count 60 = .ok (.getfield 55, 3) := ax_dec dX6_count_q0_ok 12 (60, .getfield 55, 3) rfl
theorem dX6_count_63 : decode cX6_count 63 = .ok (.invokevirtual 72, 3) := ax_dec dX6_count_q0_ok 13 (63, .invokevirtual 72, 3) rfl
theorem dX6_count_66 : decode cX6_count 66 = .ok (.invokestatic 66, 3) := ax_dec dX6_count_q0_ok 14 (66, .invokestatic 66, 3) rfl
theorem dX6_count_69 : decode cX6_count 69 = .ok (.ireturn, 1) := ax_dec dX6_count_q0_ok 15 (69, .ireturn, 1) rfl
theorem dX6_count_70 : decode cX6_count 70 = .ok (.aload_n 0, 1) := ax_dec dX6_count_q0_ok 16 (70, .aload_n 0, 1) rfl
theorem dX6_count_71 : decode cX6_count 71 = .ok (.getfield 28, 3) := ax_dec dX6_count_q0_ok 17 (71, .getfield 28, 3) rfl
theorem dX6_count_74 : decode cX6_count 74 = .ok (.ireturn, 1) := ax_dec dX6_count_q0_ok 18 (74, .ireturn, 1) rfl
theorem dX6_count_75 : decode cX6_count 75 = .ok (.aload_n 0, 1) := ax_dec dX6_count_q0_ok 19 (75, .aload_n 0, 1) rfl
theorem dX6_count_76 : decode cX6_count 76 = .ok (.getfield 32, 3) := ax_dec dX6_count_q0_ok 20 (76, .getfield 32, 3) rfl
theorem dX6_count_79 : decode cX6_count 79 = .ok (.ireturn, 1) := ax_dec dX6_count_q0_ok 21 (79, .ireturn, 1) rfl
theorem dX6_count_80 : decode cX6_count 80 = .ok (.aload_n 0, 1) := ax_dec dX6_count_q0_ok 22 (80, .aload_n 0, 1) rfl
theorem dX6_count_81 : decode cX6_count 81 = .ok (.getfield 10, 3) := ax_dec dX6_count_q0_ok 23 (81, .getfield 10, 3) rfl
theorem dX6_count_84 : decode cX6_count 84 = .ok (.getfield 75, 3) := ax_dec dX6_count_q0_ok 24 (84, .getfield 75, 3) rfl
theorem dX6_count_87 : decode cX6_count 87 = .ok (.ireturn, 1) := ax_dec dX6_count_q0_ok 25 (87, .ireturn, 1) rfl
theorem dX6_count_88 : decode cX6_count 88 = .ok (.bipush (-2), 2) := ax_dec dX6_count_q0_ok 26 (88, .bipush (-2), 2) rfl
theorem dX6_count_90 : decode cX6_count 90 = .ok (.ireturn, 1) := ax_dec dX6_count_q0_ok 27 (90, .ireturn, 1) rfl
def dX6_feed_q0 : List (Nat × (Instr × Nat)) := [(0, .iload_n 1, 1), (1, .iconst 1, 1), (2, .iconst 5, 1), (3, .invokestatic 76, 3), (6, .ifCond .eq 41, 3), (9, .iload_n 2, 1), (10, .invokestatic 80, 3), (13, .ifCond .eq 34, 3), (16, .iload_n 3, 1), (17, .invokestatic 80, 3), (20, .ifCond .eq 27, 3), (23, .iload 4, 2), (25, .invokestatic 80, 3), (28, .ifCond .eq 19, 3), (31, .iload 5, 2), (33, .invokestatic 80, 3), (36, .ifCond .eq 11, 3), (39, .iload 6, 2), (41, .invokestatic 80, 3), (44, .ifCond .ne 6, 3), (47, .bipush (-2), 2), (49, .ireturn, 1), (50, .iload_n 1, 1), (51, .sipush 160, 3), (54, .aload_n 0, 1), (55, .getfield 10, 3), (58, .getfield 75, 3), (61, .isub, 1), (62, .if_icmp .le 6, 3), (65, .bipush (-4), 2), (67, .ireturn, 1), (68, .iconst 0, 1)]
set_option maxRecDepth 100000 in
theorem dX6_feed_q0_ok : ax_decs cX6_feed dX6_feed_q0 = true := by decide +kernel
theorem dX6_feed_0 : decode cX6_feed 0 = .ok (.iload_n 1, 1) := ax_dec dX6_feed_q0_ok 0 (0, .iload_n 1, 1) rfl
theorem dX6_feed_1 : decode cX6_feed 1 = .ok (.iconst 1, 1) := ax_dec dX6_feed_q0_ok 1 (1, .iconst 1, 1) rfl
theorem dX6_feed_2 : decode cX6_feed 2 = .ok (.iconst 5, 1) := ax_dec dX6_feed_q0_ok 2 (2, .iconst 5, 1) rfl
theorem dX6_feed_3 : decode cX6_feed 3 = .ok (.invokestatic 76, 3) := ax_dec dX6_feed_q0_ok 3 (3, .invokestatic 76, 3) rfl
theorem dX6_feed_6 : decode cX6_feed 6 = .ok (.ifCond .eq 41, 3) := ax_dec dX6_feed_q0_ok 4 (6, .ifCond .eq 41, 3) rfl
theorem dX6_feed_9 : decode cX6_feed 9 = .ok (.iload_n 2, 1) := ax_dec dX6_feed_q0_ok 5 (9, .iload_n 2, 1) rfl
theorem dX6_feed_10 : decode cX6_feed 10 = .ok (.invokestatic 80, 3) := ax_dec dX6_feed_q0_ok 6 (10, .invokestatic 80, 3) rfl
theorem dX6_feed_13 : decode cX6_feed 13 = .ok (.ifCond .eq 34, 3) := ax_dec dX6_feed_q0_ok 7 (13, .ifCond .eq 34, 3) rfl
theorem dX6_feed_16 : decode cX6_feed 16 = .ok (.iload_n 3, 1) := ax_dec dX6_feed_q0_ok 8 (16, .iload_n 3, 1) rfl
theorem dX6_feed_17 : decode cX6_feed 17 = .ok (.invokestatic 80, 3) := ax_dec dX6_feed_q0_ok 9 (17, .invokestatic 80, 3) rfl
theorem dX6_feed_20 : decode cX6_feed 20 = .ok (.ifCond .eq 27, 3) := ax_dec dX6_feed_q0_ok 10 (20, .ifCond .eq 27, 3) rfl
theorem dX6_feed_23 : decode cX6_feed 23 = .ok (.iload 4, 2) := ax_dec dX6_feed_q0_ok 11 (23, .iload 4, 2) rfl
theorem dX6_feed_25 : decode cX6_feed 25 = .ok (.invokestatic 80, 3) := ax_dec dX6_feed_q0_ok 12 (25, .invokestatic 80, 3) rfl
theorem dX6_feed_28 : decode cX6_feed 28 = .ok (.ifCond .eq 19, 3) := ax_dec dX6_feed_q0_ok 13 (28, .ifCond .eq 19, 3) rfl
theorem dX6_feed_31 : decode cX6_feed 31 = .ok (.iload 5, 2) := ax_dec dX6_feed_q0_ok 14 (31, .iload 5, 2) rfl
theorem dX6_feed_33 : decode cX6_feed 33 = .ok (.invokestatic 80, 3) := ax_dec dX6_feed_q0_ok 15 (33, .invokestatic 80, 3) rfl
theorem dX6_feed_36 : decode cX6_feed 36 = .ok (.ifCond .eq 11, 3) := ax_dec dX6_feed_q0_ok 16 (36, .ifCond .eq 11, 3) rfl
theorem dX6_feed_39 : decode cX6_feed 39 = .ok (.iload 6, 2) := ax_dec dX6_feed_q0_ok 17 (39, .iload 6, 2) rfl
theorem dX6_feed_41 : decode cX6_feed 41 = .ok (.invokestatic 80, 3) := ax_dec dX6_feed_q0_ok 18 (41, .invokestatic 80, 3) rfl
theorem dX6_feed_44 : decode cX6_feed 44 = .ok (.ifCond .ne 6, 3) := ax_dec dX6_feed_q0_ok 19 (44, .ifCond .ne 6, 3) rfl
theorem dX6_feed_47 : decode cX6_feed 47 = .ok (.bipush (-2), 2) := ax_dec dX6_feed_q0_ok 20 (47, .bipush (-2), 2) rfl
theorem dX6_feed_49 : decode cX6_feed 49 = .ok (.ireturn, 1) := ax_dec dX6_feed_q0_ok 21 (49, .ireturn, 1) rfl
theorem dX6_feed_50 : decode cX6_feed 50 = .ok (.iload_n 1, 1) := ax_dec dX6_feed_q0_ok 22 (50, .iload_n 1, 1) rfl
theorem dX6_feed_51 : decode cX6_feed 51 = .ok (.sipush 160, 3) := ax_dec dX6_feed_q0_ok 23 (51, .sipush 160, 3) rfl
theorem dX6_feed_54 : decode cX6_feed 54 = .ok (.aload_n 0, 1) := ax_dec dX6_feed_q0_ok 24 (54, .aload_n 0, 1) rfl
theorem dX6_feed_55 : decode cX6_feed 55 = .ok (.getfield 10, 3) := ax_dec dX6_feed_q0_ok 25 (55, .getfield 10, 3) rfl
theorem dX6_feed_58 : decode cX6_feed 58 = .ok (.getfield 75, 3) := ax_dec dX6_feed_q0_ok 26 (58, .getfield 75, 3) rfl
theorem dX6_feed_61 : decode cX6_feed 61 = .ok (.isub, 1) := ax_dec dX6_feed_q0_ok 27 (61, .isub, 1) rfl
theorem dX6_feed_62 : decode cX6_feed 62 = .ok (.if_icmp .le 6, 3) := ax_dec dX6_feed_q0_ok 28 (62, .if_icmp .le 6, 3) rfl
theorem dX6_feed_65 : decode cX6_feed 65 = .ok (.bipush (-4), 2) := ax_dec dX6_feed_q0_ok 29 (65, .bipush (-4), 2) rfl
theorem dX6_feed_67 : decode cX6_feed 67 = .ok (.ireturn, 1) := ax_dec dX6_feed_q0_ok 30 (67, .ireturn, 1) rfl
theorem dX6_feed_68 : decode cX6_feed 68 = .ok (.iconst 0, 1) := ax_dec dX6_feed_q0_ok 31 (68, .iconst 0, 1) rfl
def dX6_feed_q1 : List (Nat × (Instr × Nat)) := [(69, .istore 7, 2), (71, .iload 7, 2), (73, .iload_n 1, 1), (74, .if_icmp .ge 59, 3), (77, .aload_n 0, 1), (78, .getfield 10, 3), (81, .iload 7, 2), (83, .ifCond .ne 7, 3), (86, .iload_n 2, 1), (87, .goto 37, 3), (90, .iload 7, 2), (92, .iconst 1, 1), (93, .if_icmp .ne 7, 3), (96, .iload_n 3, 1), (97, .goto 27, 3), (100, .iload 7, 2), (102, .iconst 2, 1), (103, .if_icmp .ne 8, 3), (106, .iload 4, 2), (108, .goto 16, 3), (111, .iload 7, 2), (113, .iconst 3, 1), (114, .if_icmp .ne 8, 3), (117, .iload 5, 2), (119, .goto 5, 3), (122, .iload 6, 2), (124, .invokevirtual 84, 3), (127, .iinc 7 1, 3), (130, .goto (-59), 3), (133, .aload_n 0, 1), (134, .getfield 10, 3), (137, .getfield 75, 3)]
set_option maxRecDepth 100000 in
theorem dX6_feed_q1_ok : ax_decs cX6_feed dX6_feed_q1 = true := by decide +kernel
theorem dX6_feed_69 : decode cX6_feed 69 = .ok (.istore 7, 2) := ax_dec dX6_feed_q1_ok 0 (69, .istore 7, 2) rfl
theorem dX6_feed_71 : decode cX6_feed 71 = .ok (.iload 7, 2) := ax_dec dX6_feed_q1_ok 1 (71, .iload 7, 2) rfl
theorem dX6_feed_73 : decode cX6_feed 73 = .ok (.iload_n 1, 1) := ax_dec dX6_feed_q1_ok 2 (73, .iload_n 1, 1) rfl
theorem dX6_feed_74 : decode cX6_feed 74 = .ok (.if_icmp .ge 59, 3) := ax_dec dX6_feed_q1_ok 3 (74, .if_icmp .ge 59, 3) rfl
theorem dX6_feed_77 : decode cX6_feed 77 = .ok (.aload_n 0, 1) := ax_dec dX6_feed_q1_ok 4 (77, .aload_n 0, 1) rfl
theorem dX6_feed_78 : decode cX6_feed 78 = .ok (.getfield 10, 3) := ax_dec dX6_feed_q1_ok 5 (78, .getfield 10, 3) rfl
theorem dX6_feed_81 : decode cX6_feed 81 = .ok (.iload 7, 2) := ax_dec dX6_feed_q1_ok 6 (81, .iload 7, 2) rfl
theorem dX6_feed_83 : decode cX6_feed 83 = .ok (.ifCond .ne 7, 3) := ax_dec dX6_feed_q1_ok 7 (83, .ifCond .ne 7, 3) rfl
theorem dX6_feed_86 : decode cX6_feed 86 = .ok (.iload_n 2, 1) := ax_dec dX6_feed_q1_ok 8 (86, .iload_n 2, 1) rfl
theorem dX6_feed_87 : decode cX6_feed 87 = .ok (.goto 37, 3) := ax_dec dX6_feed_q1_ok 9 (87, .goto 37, 3) rfl
theorem dX6_feed_90 : decode cX6_feed 90 = .ok (.iload 7, 2) := ax_dec dX6_feed_q1_ok 10 (90, .iload 7, 2) rfl
theorem dX6_feed_92 : decode cX6_feed 92 = .ok (.iconst 1, 1) := ax_dec dX6_feed_q1_ok 11 (92, .iconst 1, 1) rfl
theorem dX6_feed_93 : decode cX6_feed 93 = .ok (.if_icmp .ne 7, 3) := ax_dec dX6_feed_q1_ok 12 (93, .if_icmp .ne 7, 3) rfl
theorem dX6_feed_96 : decode cX6_feed 96 = .ok (.iload_n 3, 1) := ax_dec dX6_feed_q1_ok 13 (96, .iload_n 3, 1) rfl
theorem dX6_feed_97 : decode cX6_feed 97 = .ok (.goto 27, 3) := ax_dec dX6_feed_q1_ok 14 (97, .goto 27, 3) rfl
theorem dX6_feed_100 : decode cX6_feed 100 = .ok (.iload 7, 2) := ax_dec dX6_feed_q1_ok 15 (100, .iload 7, 2) rfl
theorem dX6_feed_102 : decode cX6_feed 102 = .ok (.iconst 2, 1) := ax_dec dX6_feed_q1_ok 16 (102, .iconst 2, 1) rfl
theorem dX6_feed_103 : decode cX6_feed 103 = .ok (.if_icmp .ne 8, 3) := ax_dec dX6_feed_q1_ok 17 (103, .if_icmp .ne 8, 3) rfl
theorem dX6_feed_106 : decode cX6_feed 106 = .ok (.iload 4, 2) := ax_dec dX6_feed_q1_ok 18 (106, .iload 4, 2) rfl
theorem dX6_feed_108 : decode cX6_feed 108 = .ok (.goto 16, 3) := ax_dec dX6_feed_q1_ok 19 (108, .goto 16, 3) rfl
theorem dX6_feed_111 : decode cX6_feed 111 = .ok (.iload 7, 2) := ax_dec dX6_feed_q1_ok 20 (111, .iload 7, 2) rfl
theorem dX6_feed_113 : decode cX6_feed 113 = .ok (.iconst 3, 1) := ax_dec dX6_feed_q1_ok 21 (113, .iconst 3, 1) rfl
theorem dX6_feed_114 : decode cX6_feed 114 = .ok (.if_icmp .ne 8, 3) := ax_dec dX6_feed_q1_ok 22 (114, .if_icmp .ne 8, 3) rfl
theorem dX6_feed_117 : decode cX6_feed 117 = .ok (.iload 5, 2) := ax_dec dX6_feed_q1_ok 23 (117, .iload 5, 2) rfl
theorem dX6_feed_119 : decode cX6_feed 119 = .ok (.goto 5, 3) := ax_dec dX6_feed_q1_ok 24 (119, .goto 5, 3) rfl
theorem dX6_feed_122 : decode cX6_feed 122 = .ok (.iload 6, 2) := ax_dec dX6_feed_q1_ok 25 (122, .iload 6, 2) rfl
theorem dX6_feed_124 : decode cX6_feed 124 = .ok (.invokevirtual 84, 3) := ax_dec dX6_feed_q1_ok 26 (124, .invokevirtual 84, 3) rfl
theorem dX6_feed_127 : decode cX6_feed 127 = .ok (.iinc 7 1, 3) := ax_dec dX6_feed_q1_ok 27 (127, .iinc 7 1, 3) rfl
theorem dX6_feed_130 : decode cX6_feed 130 = .ok (.goto (-59), 3) := ax_dec dX6_feed_q1_ok 28 (130, .goto (-59), 3) rfl
theorem dX6_feed_133 : decode cX6_feed 133 = .ok (.aload_n 0, 1) := ax_dec dX6_feed_q1_ok 29 (133, .aload_n 0, 1) rfl
theorem dX6_feed_134 : decode cX6_feed 134 = .ok (.getfield 10, 3) := ax_dec dX6_feed_q1_ok 30 (134, .getfield 10, 3) rfl
theorem dX6_feed_137 : decode cX6_feed 137 = .ok (.getfield 75, 3) := ax_dec dX6_feed_q1_ok 31 (137, .getfield 75, 3) rfl
def dX6_feed_q2 : List (Nat × (Instr × Nat)) := [(140, .ireturn, 1)]
set_option maxRecDepth 100000 in
theorem dX6_feed_q2_ok : ax_decs cX6_feed dX6_feed_q2 = true := by decide +kernel
theorem dX6_feed_140 : decode cX6_feed 140 = .ok (.ireturn, 1) := ax_dec dX6_feed_q2_ok 0 (140, .ireturn, 1) rfl
def dX6_text_q0 : List (Nat × (Instr × Nat)) := [(0, .aload_n 0, 1), (1, .aload_n 0, 1), (2, .getfield 28, 3), (5, .bipush 6, 2), (7, .invokevirtual 88, 3), (10, .astore_n 1, 1), (11, .aload_n 1, 1), (12, .ifnonnull 6, 3), (15, .bipush (-4), 2), (17, .ireturn, 1), (18, .aload_n 0, 1), (19, .getfield 10, 3), (22, .aload_n 1, 1), (23, .invokevirtual 46, 3), (26, .istore_n 2, 1), (27, .iload_n 2, 1), (28, .iconst (-1), 1), (29, .if_icmp .eq 8, 3), (32, .bipush (-100), 2), (34, .iload_n 2, 1), (35, .isub, 1), (36, .ireturn, 1), (37, .aload_n 0, 1), (38, .dup, 1), (39, .getfield 28, 3), (42, .iconst 1, 1), (43, .iadd, 1), (44, .putfield 28, 3), (47, .aload_n 0, 1), (48, .getfield 28, 3), (51, .iconst 1, 1), (52, .isub, 1)]
set_option maxRecDepth 100000 in
theorem dX6_text_q0_ok : ax_decs cX6_text dX6_text_q0 = true := by decide +kernel
theorem dX6_text_0 : decode cX6_text 0 = .ok (.aload_n 0, 1) := ax_dec dX6_text_q0_ok 0 (0, .aload_n 0, 1) rfl
theorem dX6_text_1 : decode cX6_text 1 = .ok (.aload_n 0, 1) := ax_dec dX6_text_q0_ok 1 (1, .aload_n 0, 1) rfl
theorem dX6_text_2 : decode cX6_text 2 = .ok (.getfield 28, 3) := ax_dec dX6_text_q0_ok 2 (2, .getfield 28, 3) rfl
theorem dX6_text_5 : decode cX6_text 5 = .ok (.bipush 6, 2) := ax_dec dX6_text_q0_ok 3 (5, .bipush 6, 2) rfl
theorem dX6_text_7 : decode cX6_text 7 = .ok (.invokevirtual 88, 3) := ax_dec dX6_text_q0_ok 4 (7, .invokevirtual 88, 3) rfl
theorem dX6_text_10 : decode cX6_text 10 = .ok (.astore_n 1, 1) := ax_dec dX6_text_q0_ok 5 (10, .astore_n 1, 1) rfl
theorem dX6_text_11 : decode cX6_text 11 = .ok (.aload_n 1, 1) := ax_dec dX6_text_q0_ok 6 (11, .aload_n 1, 1) rfl
theorem dX6_text_12 : decode cX6_text 12 = .ok (.ifnonnull 6, 3) := ax_dec dX6_text_q0_ok 7 (12, .ifnonnull 6, 3) rfl
theorem dX6_text_15 : decode cX6_text 15 = .ok (.bipush (-4), 2) := ax_dec dX6_text_q0_ok 8 (15, .bipush (-4), 2) rfl
theorem dX6_text_17 : decode cX6_text 17 = .ok (.ireturn, 1) := ax_dec dX6_text_q0_ok 9 (17, .ireturn, 1) rfl
theorem dX6_text_18 : decode cX6_text 18 = .ok (.aload_n 0, 1) := ax_dec dX6_text_q0_ok 10 (18, .aload_n 0, 1) rfl
theorem dX6_text_19 : decode cX6_text 19 = .ok (.getfield 10, 3) := ax_dec dX6_text_q0_ok 11 (19, .getfield 10, 3) rfl
theorem dX6_text_22 : decode cX6_text 22 = .ok (.aload_n 1, 1) := ax_dec dX6_text_q0_ok 12 (22, .aload_n 1, 1) rfl
theorem dX6_text_23 : decode cX6_text 23 = .ok (.invokevirtual 46, 3) := ax_dec dX6_text_q0_ok 13 (23, .invokevirtual 46, 3) rfl
theorem dX6_text_26 : decode cX6_text 26 = .ok (.istore_n 2, 1) := ax_dec dX6_text_q0_ok 14 (26, .istore_n 2, 1) rfl
theorem dX6_text_27 : decode cX6_text 27 = .ok (.iload_n 2, 1) := ax_dec dX6_text_q0_ok 15 (27, .iload_n 2, 1) rfl
theorem dX6_text_28 : decode cX6_text 28 = .ok (.iconst (-1), 1) := ax_dec dX6_text_q0_ok 16 (28, .iconst (-1), 1) rfl
theorem dX6_text_29 : decode cX6_text 29 = .ok (.if_icmp .eq 8, 3) := ax_dec dX6_text_q0_ok 17 (29, .if_icmp .eq 8, 3) rfl
theorem dX6_text_32 : decode cX6_text 32 = .ok (.bipush (-100), 2) := ax_dec dX6_text_q0_ok 18 (32, .bipush (-100), 2) rfl
theorem dX6_text_34 : decode cX6_text 34 = .ok (.iload_n 2, 1) := ax_dec dX6_text_q0_ok 19 (34, .iload_n 2, 1) rfl
theorem dX6_text_35 : decode cX6_text 35 = .ok (.isub, 1) := ax_dec dX6_text_q0_ok 20 (35, .isub, 1) rfl
theorem dX6_text_36 : decode cX6_text 36 = .ok (.ireturn, 1) := ax_dec dX6_text_q0_ok 21 (36, .ireturn, 1) rfl
theorem dX6_text_37 : decode cX6_text 37 = .ok (.aload_n 0, 1) := ax_dec dX6_text_q0_ok 22 (37, .aload_n 0, 1) rfl
theorem dX6_text_38 : decode cX6_text 38 = .ok (.dup, 1) := ax_dec dX6_text_q0_ok 23 (38, .dup, 1) rfl
theorem dX6_text_39 : decode cX6_text 39 = .ok (.getfield 28, 3) := ax_dec dX6_text_q0_ok 24 (39, .getfield 28, 3) rfl
theorem dX6_text_42 : decode cX6_text 42 = .ok (.iconst 1, 1) := ax_dec dX6_text_q0_ok 25 (42, .iconst 1, 1) rfl
theorem dX6_text_43 : decode cX6_text 43 = .ok (.iadd, 1) := ax_dec dX6_text_q0_ok 26 (43, .iadd, 1) rfl
theorem dX6_text_44 : decode cX6_text 44 = .ok (.putfield 28, 3) := ax_dec dX6_text_q0_ok 27 (44, .putfield 28, 3) rfl
theorem dX6_text_47 : decode cX6_text 47 = .ok (.aload_n 0, 1) := ax_dec dX6_text_q0_ok 28 (47, .aload_n 0, 1) rfl
theorem dX6_text_48 : decode cX6_text 48 = .ok (.getfield 28, 3) := ax_dec dX6_text_q0_ok 29 (48, .getfield 28, 3) rfl
theorem dX6_text_51 : decode cX6_text 51 = .ok (.iconst 1, 1) := ax_dec dX6_text_q0_ok 30 (51, .iconst 1, 1) rfl
theorem dX6_text_52 : decode cX6_text 52 = .ok (.isub, 1) := ax_dec dX6_text_q0_ok 31 (52, .isub, 1) rfl
def dX6_text_q1 : List (Nat × (Instr × Nat)) := [(53, .ireturn, 1)]
set_option maxRecDepth 100000 in
theorem dX6_text_q1_ok : ax_decs cX6_text dX6_text_q1 = true := by decide +kernel
theorem dX6_text_53 : decode cX6_text 53 = .ok (.ireturn, 1) := ax_dec dX6_text_q1_ok 0 (53, .ireturn, 1) rfl
def dX6_force_q0 : List (Nat × (Instr × Nat)) := [(0, .aload_n 0, 1), (1, .iload_n 1, 1), (2, .aload_n 0, 1), (3, .getfield 28, 3), (6, .invokevirtual 88, 3), (9, .astore_n 2, 1), (10, .aload_n 2, 1), (11, .ifnonnull 6, 3), (14, .bipush (-2), 2), (16, .ireturn, 1), (17, .aload_n 0, 1), (18, .getfield 32, 3), (21, .istore_n 3, 1), (22, .aload_n 0, 1), (23, .iload_n 1, 1), (24, .putfield 32, 3), (27, .aload_n 0, 1), (28, .getfield 55, 3), (31, .aload_n 2, 1), (32, .putfield 92, 3), (35, .iload_n 3, 1), (36, .ireturn, 1)]
set_option maxRecDepth 100000 in
theorem dX6_force_q0_ok : ax_decs cX6_force dX6_force_q0 = true := by decide +kernel
theorem dX6_force_0 : decode cX6_force 0 = .ok (.aload_n 0, 1) := ax_dec dX6_force_q0_ok 0 (0, .aload_n 0, 1) rfl
theorem dX6_force_1 : decode cX6_force 1 = .ok (.iload_n 1, 1) := ax_dec dX6_force_q0_ok 1 (1, .iload_n 1, 1) rfl
theorem dX6_force_2 : decode cX6_force 2 = .ok (.aload_n 0, 1) := ax_dec dX6_force_q0_ok 2 (2, .aload_n 0, 1) rfl
theorem dX6_force_3 : decode cX6_force 3 = .ok (.getfield 28, 3) := ax_dec dX6_force_q0_ok 3 (3, .getfield 28, 3) rfl
theorem dX6_force_6 : decode cX6_force 6 = .ok (.invokevirtual 88, 3) := ax_dec dX6_force_q0_ok 4 (6, .invokevirtual 88, 3) rfl
theorem dX6_force_9 : decode cX6_force 9 = .ok (.astore_n 2, 1) := ax_dec dX6_force_q0_ok 5 (9, .astore_n 2, 1) rfl
theorem dX6_force_10 : decode cX6_force 10 = .ok (.aload_n 2, 1) := ax_dec dX6_force_q0_ok 6 (10, .aload_n 2, 1) rfl
theorem dX6_force_11 : decode cX6_force 11 = .ok (.ifnonnull 6, 3) := ax_dec dX6_force_q0_ok 7 (11, .ifnonnull 6, 3) rfl
theorem dX6_force_14 : decode cX6_force 14 = .ok (.bipush (-2), 2) := ax_dec dX6_force_q0_ok 8 (14, .bipush (-2), 2) rfl
theorem dX6_force_16 : decode cX6_force 16 = .ok (.ireturn, 1) := ax_dec dX6_force_q0_ok 9 (16, .ireturn, 1) rfl
theorem dX6_force_17 : decode cX6_force 17 = .ok (.aload_n 0, 1) := ax_dec dX6_force_q0_ok 10 (17, .aload_n 0, 1) rfl
theorem dX6_force_18 : decode cX6_force 18 = .ok (.getfield 32, 3) := ax_dec dX6_force_q0_ok 11 (18, .getfield 32, 3) rfl
theorem dX6_force_21 : decode cX6_force 21 = .ok (.istore_n 3, 1) := ax_dec dX6_force_q0_ok 12 (21, .istore_n 3, 1) rfl
theorem dX6_force_22 : decode cX6_force 22 = .ok (.aload_n 0, 1) := ax_dec dX6_force_q0_ok 13 (22, .aload_n 0, 1) rfl
theorem dX6_force_23 : decode cX6_force 23 = .ok (.iload_n 1, 1) := ax_dec dX6_force_q0_ok 14 (23, .iload_n 1, 1) rfl
theorem dX6_force_24 : decode cX6_force 24 = .ok (.putfield 32, 3) := ax_dec dX6_force_q0_ok 15 (24, .putfield 32, 3) rfl
theorem dX6_force_27 : decode cX6_force 27 = .ok (.aload_n 0, 1) := ax_dec dX6_force_q0_ok 16 (27, .aload_n 0, 1) rfl
theorem dX6_force_28 : decode cX6_force 28 = .ok (.getfield 55, 3) := ax_dec dX6_force_q0_ok 17 (28, .getfield 55, 3) rfl
theorem dX6_force_31 : decode cX6_force 31 = .ok (.aload_n 2, 1) := ax_dec dX6_force_q0_ok 18 (31, .aload_n 2, 1) rfl
theorem dX6_force_32 : decode cX6_force 32 = .ok (.putfield 92, 3) := ax_dec dX6_force_q0_ok 19 (32, .putfield 92, 3) rfl
theorem dX6_force_35 : decode cX6_force 35 = .ok (.iload_n 3, 1) := ax_dec dX6_force_q0_ok 20 (35, .iload_n 3, 1) rfl
theorem dX6_force_36 : decode cX6_force 36 = .ok (.ireturn, 1) := ax_dec dX6_force_q0_ok 21 (36, .ireturn, 1) rfl
def dX6_asks_q0 : List (Nat × (Instr × Nat)) := [(0, .aload_n 0, 1), (1, .getfield 55, 3), (4, .iload_n 2, 1), (5, .invokevirtual 96, 3), (8, .astore 5, 2), (10, .aload 5, 2), (12, .ifnonnull 6, 3), (15, .bipush (-5), 2), (17, .ireturn, 1), (18, .iload_n 1, 1), (19, .iconst 0, 1), (20, .iconst 2, 1), (21, .invokestatic 76, 3), (24, .ifCond .eq 24, 3), (27, .iload_n 3, 1), (28, .iconst 0, 1), (29, .bipush 9, 2), (31, .invokestatic 76, 3), (34, .ifCond .eq 14, 3), (37, .iload 4, 2), (39, .iconst 0, 1), (40, .bipush 9, 2), (42, .invokestatic 76, 3), (45, .ifCond .ne 6, 3), (48, .bipush (-7), 2), (50, .ireturn, 1), (51, .aload_n 0, 1), (52, .getfield 55, 3), (55, .getfield 92, 3), (58, .iload_n 1, 1), (59, .aload 5, 2), (61, .bipush 10, 2)]
set_option maxRecDepth 100000 in
theorem dX6_asks_q0_ok : ax_decs cX6_asks dX6_asks_q0 = true := by decide +kernel
theorem dX6_asks_0 : decode cX6_asks 0 = .ok (.aload_n 0, 1) := ax_dec dX6_asks_q0_ok 0 (0, .aload_n 0, 1) rfl
theorem dX6_asks_1 : decode cX6_asks 1 = .ok (.getfield 55, 3) := ax_dec dX6_asks_q0_ok 1 (1, .getfield 55, 3) rfl
theorem dX6_asks_4 : decode cX6_asks 4 = .ok (.iload_n 2, 1) := ax_dec dX6_asks_q0_ok 2 (4, .iload_n 2, 1) rfl
theorem dX6_asks_5 : decode cX6_asks 5 = .ok (.invokevirtual 96, 3) := ax_dec dX6_asks_q0_ok 3 (5, .invokevirtual 96, 3) rfl
theorem dX6_asks_8 : decode cX6_asks 8 = .ok (.astore 5, 2) := ax_dec dX6_asks_q0_ok 4 (8, .astore 5, 2) rfl
theorem dX6_asks_10 : decode cX6_asks 10 = .ok (.aload 5, 2) := ax_dec dX6_asks_q0_ok 5 (10, .aload 5, 2) rfl
theorem dX6_asks_12 : decode cX6_asks 12 = .ok (.ifnonnull 6, 3) := ax_dec dX6_asks_q0_ok 6 (12, .ifnonnull 6, 3) rfl
theorem dX6_asks_15 : decode cX6_asks 15 = .ok (.bipush (-5), 2) := ax_dec dX6_asks_q0_ok 7 (15, .bipush (-5), 2) rfl
theorem dX6_asks_17 : decode cX6_asks 17 = .ok (.ireturn, 1) := ax_dec dX6_asks_q0_ok 8 (17, .ireturn, 1) rfl
theorem dX6_asks_18 : decode cX6_asks 18 = .ok (.iload_n 1, 1) := ax_dec dX6_asks_q0_ok 9 (18, .iload_n 1, 1) rfl
theorem dX6_asks_19 : decode cX6_asks 19 = .ok (.iconst 0, 1) := ax_dec dX6_asks_q0_ok 10 (19, .iconst 0, 1) rfl
theorem dX6_asks_20 : decode cX6_asks 20 = .ok (.iconst 2, 1) := ax_dec dX6_asks_q0_ok 11 (20, .iconst 2, 1) rfl
theorem dX6_asks_21 : decode cX6_asks 21 = .ok (.invokestatic 76, 3) := ax_dec dX6_asks_q0_ok 12 (21, .invokestatic 76, 3) rfl
theorem dX6_asks_24 : decode cX6_asks 24 = .ok (.ifCond .eq 24, 3) := ax_dec dX6_asks_q0_ok 13 (24, .ifCond .eq 24, 3) rfl
theorem dX6_asks_27 : decode cX6_asks 27 = .ok (.iload_n 3, 1) := ax_dec dX6_asks_q0_ok 14 (27, .iload_n 3, 1) rfl
theorem dX6_asks_28 : decode cX6_asks 28 = .ok (.iconst 0, 1) := ax_dec dX6_asks_q0_ok 15 (28, .iconst 0, 1) rfl
theorem dX6_asks_29 : decode cX6_asks 29 = .ok (.bipush 9, 2) := ax_dec dX6_asks_q0_ok 16 (29, .bipush 9, 2) rfl
theorem dX6_asks_31 : decode cX6_asks 31 = .ok (.invokestatic 76, 3) := ax_dec dX6_asks_q0_ok 17 (31, .invokestatic 76, 3) rfl
theorem dX6_asks_34 : decode cX6_asks 34 = .ok (.ifCond .eq 14, 3) := ax_dec dX6_asks_q0_ok 18 (34, .ifCond .eq 14, 3) rfl
theorem dX6_asks_37 : decode cX6_asks 37 = .ok (.iload 4, 2) := ax_dec dX6_asks_q0_ok 19 (37, .iload 4, 2) rfl
theorem dX6_asks_39 : decode cX6_asks 39 = .ok (.iconst 0, 1) := ax_dec dX6_asks_q0_ok 20 (39, .iconst 0, 1) rfl
theorem dX6_asks_40 : decode cX6_asks 40 = .ok (.bipush 9, 2) := ax_dec dX6_asks_q0_ok 21 (40, .bipush 9, 2) rfl
theorem dX6_asks_42 : decode cX6_asks 42 = .ok (.invokestatic 76, 3) := ax_dec dX6_asks_q0_ok 22 (42, .invokestatic 76, 3) rfl
theorem dX6_asks_45 : decode cX6_asks 45 = .ok (.ifCond .ne 6, 3) := ax_dec dX6_asks_q0_ok 23 (45, .ifCond .ne 6, 3) rfl
theorem dX6_asks_48 : decode cX6_asks 48 = .ok (.bipush (-7), 2) := ax_dec dX6_asks_q0_ok 24 (48, .bipush (-7), 2) rfl
theorem dX6_asks_50 : decode cX6_asks 50 = .ok (.ireturn, 1) := ax_dec dX6_asks_q0_ok 25 (50, .ireturn, 1) rfl
theorem dX6_asks_51 : decode cX6_asks 51 = .ok (.aload_n 0, 1) := ax_dec dX6_asks_q0_ok 26 (51, .aload_n 0, 1) rfl
theorem dX6_asks_52 : decode cX6_asks 52 = .ok (.getfield 55, 3) := ax_dec dX6_asks_q0_ok 27 (52, .getfield 55, 3) rfl
theorem dX6_asks_55 : decode cX6_asks 55 = .ok (.getfield 92, 3) := ax_dec dX6_asks_q0_ok 28 (55, .getfield 92, 3) rfl
theorem dX6_asks_58 : decode cX6_asks 58 = .ok (.iload_n 1, 1) := ax_dec dX6_asks_q0_ok 29 (58, .iload_n 1, 1) rfl
theorem dX6_asks_59 : decode cX6_asks 59 = .ok (.aload 5, 2) := ax_dec dX6_asks_q0_ok 30 (59, .aload 5, 2) rfl
theorem dX6_asks_61 : decode cX6_asks 61 = .ok (.bipush 10, 2) := ax_dec dX6_asks_q0_ok 31 (61, .bipush 10, 2) rfl
def dX6_asks_q1 : List (Nat × (Instr × Nat)) := [(63, .iload_n 3, 1), (64, .imul, 1), (65, .iload 4, 2), (67, .iadd, 1), (68, .invokevirtual 100, 3), (71, .ireturn, 1)]
set_option maxRecDepth 100000 in
theorem dX6_asks_q1_ok : ax_decs cX6_asks dX6_asks_q1 = true := by decide +kernel
theorem dX6_asks_63 : decode cX6_asks 63 = .ok (.iload_n 3, 1) := ax_dec dX6_asks_q1_ok 0 (63, .iload_n 3, 1) rfl
theorem dX6_asks_64 : decode cX6_asks 64 = .ok (.imul, 1) := ax_dec dX6_asks_q1_ok 1 (64, .imul, 1) rfl
theorem dX6_asks_65 : decode cX6_asks 65 = .ok (.iload 4, 2) := ax_dec dX6_asks_q1_ok 2 (65, .iload 4, 2) rfl
theorem dX6_asks_67 : decode cX6_asks 67 = .ok (.iadd, 1) := ax_dec dX6_asks_q1_ok 3 (67, .iadd, 1) rfl
theorem dX6_asks_68 : decode cX6_asks 68 = .ok (.invokevirtual 100, 3) := ax_dec dX6_asks_q1_ok 4 (68, .invokevirtual 100, 3) rfl
theorem dX6_asks_71 : decode cX6_asks 71 = .ok (.ireturn, 1) := ax_dec dX6_asks_q1_ok 5 (71, .ireturn, 1) rfl
def dX6_bit_q0 : List (Nat × (Instr × Nat)) := [(0, .iload_n 1, 1), (1, .iconst (-1), 1), (2, .if_icmp .eq 17, 3), (5, .aload_n 0, 1), (6, .getfield 55, 3), (9, .iload_n 1, 1), (10, .invokevirtual 96, 3), (13, .ifnonnull 6, 3), (16, .bipush (-2), 2), (18, .ireturn, 1), (19, .iload_n 2, 1), (20, .iconst 0, 1), (21, .iconst 5, 1), (22, .invokestatic 76, 3), (25, .ifCond .eq 25, 3), (28, .iload_n 3, 1), (29, .bipush 10, 2), (31, .bipush 69, 2), (33, .invokestatic 76, 3), (36, .ifCond .eq 14, 3), (39, .iload 4, 2), (41, .iconst 0, 1), (42, .bipush 49, 2), (44, .invokestatic 76, 3), (47, .ifCond .ne 6, 3), (50, .bipush (-2), 2), (52, .ireturn, 1), (53, .aload_n 0, 1), (54, .getfield 55, 3), (57, .invokevirtual 104, 3), (60, .ifCond .eq 6, 3), (63, .bipush (-4), 2)]
set_option maxRecDepth 100000 in
theorem dX6_bit_q0_ok : ax_decs cX6_bit dX6_bit_q0 = true := by decide +kernel
theorem dX6_bit_0 : decode cX6_bit 0 = .ok (.iload_n 1, 1) := ax_dec dX6_bit_q0_ok 0 (0, .iload_n 1, 1) rfl
theorem dX6_bit_1 : decode cX6_bit 1 = .ok (.iconst (-1), 1) := ax_dec dX6_bit_q0_ok 1 (1, .iconst (-1), 1) rfl
theorem dX6_bit_2 : decode cX6_bit 2 = .ok (.if_icmp .eq 17, 3) := ax_dec dX6_bit_q0_ok 2 (2, .if_icmp .eq 17, 3) rfl
theorem dX6_bit_5 : decode cX6_bit 5 = .ok (.aload_n 0, 1) := ax_dec dX6_bit_q0_ok 3 (5, .aload_n 0, 1) rfl
theorem dX6_bit_6 : decode cX6_bit 6 = .ok (.getfield 55, 3) := ax_dec dX6_bit_q0_ok 4 (6, .getfield 55, 3) rfl
theorem dX6_bit_9 : decode cX6_bit 9 = .ok (.iload_n 1, 1) := ax_dec dX6_bit_q0_ok 5 (9, .iload_n 1, 1) rfl
theorem dX6_bit_10 : decode cX6_bit 10 = .ok (.invokevirtual 96, 3) := ax_dec dX6_bit_q0_ok 6 (10, .invokevirtual 96, 3) rfl
theorem dX6_bit_13 : decode cX6_bit 13 = .ok (.ifnonnull 6, 3) := ax_dec dX6_bit_q0_ok 7 (13, .ifnonnull 6, 3) rfl
theorem dX6_bit_16 : decode cX6_bit 16 = .ok (.bipush (-2), 2) := ax_dec dX6_bit_q0_ok 8 (16, .bipush (-2), 2) rfl
theorem dX6_bit_18 : decode cX6_bit 18 = .ok (.ireturn, 1) := ax_dec dX6_bit_q0_ok 9 (18, .ireturn, 1) rfl
theorem dX6_bit_19 : decode cX6_bit 19 = .ok (.iload_n 2, 1) := ax_dec dX6_bit_q0_ok 10 (19, .iload_n 2, 1) rfl
theorem dX6_bit_20 : decode cX6_bit 20 = .ok (.iconst 0, 1) := ax_dec dX6_bit_q0_ok 11 (20, .iconst 0, 1) rfl
theorem dX6_bit_21 : decode cX6_bit 21 = .ok (.iconst 5, 1) := ax_dec dX6_bit_q0_ok 12 (21, .iconst 5, 1) rfl
theorem dX6_bit_22 : decode cX6_bit 22 = .ok (.invokestatic 76, 3) := ax_dec dX6_bit_q0_ok 13 (22, .invokestatic 76, 3) rfl
theorem dX6_bit_25 : decode cX6_bit 25 = .ok (.ifCond .eq 25, 3) := ax_dec dX6_bit_q0_ok 14 (25, .ifCond .eq 25, 3) rfl
theorem dX6_bit_28 : decode cX6_bit 28 = .ok (.iload_n 3, 1) := ax_dec dX6_bit_q0_ok 15 (28, .iload_n 3, 1) rfl
theorem dX6_bit_29 : decode cX6_bit 29 = .ok (.bipush 10, 2) := ax_dec dX6_bit_q0_ok 16 (29, .bipush 10, 2) rfl
theorem dX6_bit_31 : decode cX6_bit 31 = .ok (.bipush 69, 2) := ax_dec dX6_bit_q0_ok 17 (31, .bipush 69, 2) rfl
theorem dX6_bit_33 : decode cX6_bit 33 = .ok (.invokestatic 76, 3) := ax_dec dX6_bit_q0_ok 18 (33, .invokestatic 76, 3) rfl
theorem dX6_bit_36 : decode cX6_bit 36 = .ok (.ifCond .eq 14, 3) := ax_dec dX6_bit_q0_ok 19 (36, .ifCond .eq 14, 3) rfl
theorem dX6_bit_39 : decode cX6_bit 39 = .ok (.iload 4, 2) := ax_dec dX6_bit_q0_ok 20 (39, .iload 4, 2) rfl
theorem dX6_bit_41 : decode cX6_bit 41 = .ok (.iconst 0, 1) := ax_dec dX6_bit_q0_ok 21 (41, .iconst 0, 1) rfl
theorem dX6_bit_42 : decode cX6_bit 42 = .ok (.bipush 49, 2) := ax_dec dX6_bit_q0_ok 22 (42, .bipush 49, 2) rfl
theorem dX6_bit_44 : decode cX6_bit 44 = .ok (.invokestatic 76, 3) := ax_dec dX6_bit_q0_ok 23 (44, .invokestatic 76, 3) rfl
theorem dX6_bit_47 : decode cX6_bit 47 = .ok (.ifCond .ne 6, 3) := ax_dec dX6_bit_q0_ok 24 (47, .ifCond .ne 6, 3) rfl
theorem dX6_bit_50 : decode cX6_bit 50 = .ok (.bipush (-2), 2) := ax_dec dX6_bit_q0_ok 25 (50, .bipush (-2), 2) rfl
theorem dX6_bit_52 : decode cX6_bit 52 = .ok (.ireturn, 1) := ax_dec dX6_bit_q0_ok 26 (52, .ireturn, 1) rfl
theorem dX6_bit_53 : decode cX6_bit 53 = .ok (.aload_n 0, 1) := ax_dec dX6_bit_q0_ok 27 (53, .aload_n 0, 1) rfl
theorem dX6_bit_54 : decode cX6_bit 54 = .ok (.getfield 55, 3) := ax_dec dX6_bit_q0_ok 28 (54, .getfield 55, 3) rfl
theorem dX6_bit_57 : decode cX6_bit 57 = .ok (.invokevirtual 104, 3) := ax_dec dX6_bit_q0_ok 29 (57, .invokevirtual 104, 3) rfl
theorem dX6_bit_60 : decode cX6_bit 60 = .ok (.ifCond .eq 6, 3) := ax_dec dX6_bit_q0_ok 30 (60, .ifCond .eq 6, 3) rfl
theorem dX6_bit_63 : decode cX6_bit 63 = .ok (.bipush (-4), 2) := ax_dec dX6_bit_q0_ok 31 (63, .bipush (-4), 2) rfl
def dX6_bit_q1 : List (Nat × (Instr × Nat)) := [(65, .ireturn, 1), (66, .aload_n 0, 1), (67, .getfield 55, 3), (70, .new 108, 3), (73, .dup, 1), (74, .aload_n 0, 1), (75, .getfield 55, 3), (78, .getfield 59, 3), (81, .aload_n 0, 1), (82, .getfield 55, 3), (85, .iload_n 1, 1), (86, .invokevirtual 96, 3), (89, .iload_n 2, 1), (90, .iload_n 3, 1), (91, .iload 4, 2), (93, .invokespecial 110, 3), (96, .invokevirtual 113, 3), (99, .ireturn, 1)]
set_option maxRecDepth 100000 in
theorem dX6_bit_q1_ok : ax_decs cX6_bit dX6_bit_q1 = true := by decide +kernel
theorem dX6_bit_65 : decode cX6_bit 65 = .ok (.ireturn, 1) := ax_dec dX6_bit_q1_ok 0 (65, .ireturn, 1) rfl
theorem dX6_bit_66 : decode cX6_bit 66 = .ok (.aload_n 0, 1) := ax_dec dX6_bit_q1_ok 1 (66, .aload_n 0, 1) rfl
theorem dX6_bit_67 : decode cX6_bit 67 = .ok (.getfield 55, 3) := ax_dec dX6_bit_q1_ok 2 (67, .getfield 55, 3) rfl
theorem dX6_bit_70 : decode cX6_bit 70 = .ok (.new 108, 3) := ax_dec dX6_bit_q1_ok 3 (70, .new 108, 3) rfl
theorem dX6_bit_73 : decode cX6_bit 73 = .ok (.dup, 1) := ax_dec dX6_bit_q1_ok 4 (73, .dup, 1) rfl
theorem dX6_bit_74 : decode cX6_bit 74 = .ok (.aload_n 0, 1) := ax_dec dX6_bit_q1_ok 5 (74, .aload_n 0, 1) rfl
theorem dX6_bit_75 : decode cX6_bit 75 = .ok (.getfield 55, 3) := ax_dec dX6_bit_q1_ok 6 (75, .getfield 55, 3) rfl
theorem dX6_bit_78 : decode cX6_bit 78 = .ok (.getfield 59, 3) := ax_dec dX6_bit_q1_ok 7 (78, .getfield 59, 3) rfl
theorem dX6_bit_81 : decode cX6_bit 81 = .ok (.aload_n 0, 1) := ax_dec dX6_bit_q1_ok 8 (81, .aload_n 0, 1) rfl
theorem dX6_bit_82 : decode cX6_bit 82 = .ok (.getfield 55, 3) := ax_dec dX6_bit_q1_ok 9 (82, .getfield 55, 3) rfl
theorem dX6_bit_85 : decode cX6_bit 85 = .ok (.iload_n 1, 1) := ax_dec dX6_bit_q1_ok 10 (85, .iload_n 1, 1) rfl
theorem dX6_bit_86 : decode cX6_bit 86 = .ok (.invokevirtual 96, 3) := ax_dec dX6_bit_q1_ok 11 (86, .invokevirtual 96, 3) rfl
theorem dX6_bit_89 : decode cX6_bit 89 = .ok (.iload_n 2, 1) := ax_dec dX6_bit_q1_ok 12 (89, .iload_n 2, 1) rfl
theorem dX6_bit_90 : decode cX6_bit 90 = .ok (.iload_n 3, 1) := ax_dec dX6_bit_q1_ok 13 (90, .iload_n 3, 1) rfl
theorem dX6_bit_91 : decode cX6_bit 91 = .ok (.iload 4, 2) := ax_dec dX6_bit_q1_ok 14 (91, .iload 4, 2) rfl
theorem dX6_bit_93 : decode cX6_bit 93 = .ok (.invokespecial 110, 3) := ax_dec dX6_bit_q1_ok 15 (93, .invokespecial 110, 3) rfl
theorem dX6_bit_96 : decode cX6_bit 96 = .ok (.invokevirtual 113, 3) := ax_dec dX6_bit_q1_ok 16 (96, .invokevirtual 113, 3) rfl
theorem dX6_bit_99 : decode cX6_bit 99 = .ok (.ireturn, 1) := ax_dec dX6_bit_q1_ok 17 (99, .ireturn, 1) rfl
def dX6_mend_q0 : List (Nat × (Instr × Nat)) := [(0, .aload_n 0, 1), (1, .getfield 55, 3), (4, .iload_n 1, 1), (5, .invokevirtual 96, 3), (8, .astore 4, 2), (10, .aload 4, 2), (12, .ifnonnull 6, 3), (15, .bipush (-5), 2), (17, .ireturn, 1), (18, .iload_n 2, 1), (19, .iconst 0, 1), (20, .iconst 5, 1), (21, .invokestatic 76, 3), (24, .ifCond .eq 13, 3), (27, .iload_n 3, 1), (28, .iconst 0, 1), (29, .bipush 9, 2), (31, .invokestatic 76, 3), (34, .ifCond .ne 6, 3), (37, .bipush (-7), 2), (39, .ireturn, 1), (40, .aload 4, 2), (42, .getfield 117, 3), (45, .istore 5, 2), (47, .aload 4, 2), (49, .iload_n 2, 1), (50, .putfield 117, 3), (53, .aload 4, 2), (55, .iload_n 3, 1), (56, .putfield 120, 3), (59, .iload 5, 2), (61, .ireturn, 1)]
set_option maxRecDepth 100000 in
theorem dX6_mend_q0_ok : ax_decs cX6_mend dX6_mend_q0 = true := by decide +kernel
theorem dX6_mend_0 : decode cX6_mend 0 = .ok (.aload_n 0, 1) := ax_dec dX6_mend_q0_ok 0 (0, .aload_n 0, 1) rfl
theorem dX6_mend_1 : decode cX6_mend 1 = .ok (.getfield 55, 3) := ax_dec dX6_mend_q0_ok 1 (1, .getfield 55, 3) rfl
theorem dX6_mend_4 : decode cX6_mend 4 = .ok (.iload_n 1, 1) := ax_dec dX6_mend_q0_ok 2 (4, .iload_n 1, 1) rfl
theorem dX6_mend_5 : decode cX6_mend 5 = .ok (.invokevirtual 96, 3) := ax_dec dX6_mend_q0_ok 3 (5, .invokevirtual 96, 3) rfl
theorem dX6_mend_8 : decode cX6_mend 8 = .ok (.astore 4, 2) := ax_dec dX6_mend_q0_ok 4 (8, .astore 4, 2) rfl
theorem dX6_mend_10 : decode cX6_mend 10 = .ok (.aload 4, 2) := ax_dec dX6_mend_q0_ok 5 (10, .aload 4, 2) rfl
theorem dX6_mend_12 : decode cX6_mend 12 = .ok (.ifnonnull 6, 3) := ax_dec dX6_mend_q0_ok 6 (12, .ifnonnull 6, 3) rfl
theorem dX6_mend_15 : decode cX6_mend 15 = .ok (.bipush (-5), 2) := ax_dec dX6_mend_q0_ok 7 (15, .bipush (-5), 2) rfl
theorem dX6_mend_17 : decode cX6_mend 17 = .ok (.ireturn, 1) := ax_dec dX6_mend_q0_ok 8 (17, .ireturn, 1) rfl
theorem dX6_mend_18 : decode cX6_mend 18 = .ok (.iload_n 2, 1) := ax_dec dX6_mend_q0_ok 9 (18, .iload_n 2, 1) rfl
theorem dX6_mend_19 : decode cX6_mend 19 = .ok (.iconst 0, 1) := ax_dec dX6_mend_q0_ok 10 (19, .iconst 0, 1) rfl
theorem dX6_mend_20 : decode cX6_mend 20 = .ok (.iconst 5, 1) := ax_dec dX6_mend_q0_ok 11 (20, .iconst 5, 1) rfl
theorem dX6_mend_21 : decode cX6_mend 21 = .ok (.invokestatic 76, 3) := ax_dec dX6_mend_q0_ok 12 (21, .invokestatic 76, 3) rfl
theorem dX6_mend_24 : decode cX6_mend 24 = .ok (.ifCond .eq 13, 3) := ax_dec dX6_mend_q0_ok 13 (24, .ifCond .eq 13, 3) rfl
theorem dX6_mend_27 : decode cX6_mend 27 = .ok (.iload_n 3, 1) := ax_dec dX6_mend_q0_ok 14 (27, .iload_n 3, 1) rfl
theorem dX6_mend_28 : decode cX6_mend 28 = .ok (.iconst 0, 1) := ax_dec dX6_mend_q0_ok 15 (28, .iconst 0, 1) rfl
theorem dX6_mend_29 : decode cX6_mend 29 = .ok (.bipush 9, 2) := ax_dec dX6_mend_q0_ok 16 (29, .bipush 9, 2) rfl
theorem dX6_mend_31 : decode cX6_mend 31 = .ok (.invokestatic 76, 3) := ax_dec dX6_mend_q0_ok 17 (31, .invokestatic 76, 3) rfl
theorem dX6_mend_34 : decode cX6_mend 34 = .ok (.ifCond .ne 6, 3) := ax_dec dX6_mend_q0_ok 18 (34, .ifCond .ne 6, 3) rfl
theorem dX6_mend_37 : decode cX6_mend 37 = .ok (.bipush (-7), 2) := ax_dec dX6_mend_q0_ok 19 (37, .bipush (-7), 2) rfl
theorem dX6_mend_39 : decode cX6_mend 39 = .ok (.ireturn, 1) := ax_dec dX6_mend_q0_ok 20 (39, .ireturn, 1) rfl
theorem dX6_mend_40 : decode cX6_mend 40 = .ok (.aload 4, 2) := ax_dec dX6_mend_q0_ok 21 (40, .aload 4, 2) rfl
theorem dX6_mend_42 : decode cX6_mend 42 = .ok (.getfield 117, 3) := ax_dec dX6_mend_q0_ok 22 (42, .getfield 117, 3) rfl
theorem dX6_mend_45 : decode cX6_mend 45 = .ok (.istore 5, 2) := ax_dec dX6_mend_q0_ok 23 (45, .istore 5, 2) rfl
theorem dX6_mend_47 : decode cX6_mend 47 = .ok (.aload 4, 2) := ax_dec dX6_mend_q0_ok 24 (47, .aload 4, 2) rfl
theorem dX6_mend_49 : decode cX6_mend 49 = .ok (.iload_n 2, 1) := ax_dec dX6_mend_q0_ok 25 (49, .iload_n 2, 1) rfl
theorem dX6_mend_50 : decode cX6_mend 50 = .ok (.putfield 117, 3) := ax_dec dX6_mend_q0_ok 26 (50, .putfield 117, 3) rfl
theorem dX6_mend_53 : decode cX6_mend 53 = .ok (.aload 4, 2) := ax_dec dX6_mend_q0_ok 27 (53, .aload 4, 2) rfl
theorem dX6_mend_55 : decode cX6_mend 55 = .ok (.iload_n 3, 1) := ax_dec dX6_mend_q0_ok 28 (55, .iload_n 3, 1) rfl
theorem dX6_mend_56 : decode cX6_mend 56 = .ok (.putfield 120, 3) := ax_dec dX6_mend_q0_ok 29 (56, .putfield 120, 3) rfl
theorem dX6_mend_59 : decode cX6_mend 59 = .ok (.iload 5, 2) := ax_dec dX6_mend_q0_ok 30 (59, .iload 5, 2) rfl
theorem dX6_mend_61 : decode cX6_mend 61 = .ok (.ireturn, 1) := ax_dec dX6_mend_q0_ok 31 (61, .ireturn, 1) rfl
def dX6_lay_q0 : List (Nat × (Instr × Nat)) := [(0, .aload_n 0, 1), (1, .getfield 55, 3), (4, .iload_n 1, 1), (5, .invokevirtual 96, 3), (8, .astore_n 3, 1), (9, .aload_n 3, 1), (10, .ifnonnull 6, 3), (13, .bipush (-5), 2), (15, .ireturn, 1), (16, .iload_n 2, 1), (17, .iconst 0, 1), (18, .bipush 99, 2), (20, .invokestatic 76, 3), (23, .ifCond .ne 6, 3), (26, .bipush (-7), 2), (28, .ireturn, 1), (29, .aload_n 3, 1), (30, .getfield 123, 3), (33, .istore 4, 2), (35, .aload_n 3, 1), (36, .iload_n 2, 1), (37, .putfield 123, 3), (40, .iload 4, 2), (42, .ireturn, 1)]
set_option maxRecDepth 100000 in
theorem dX6_lay_q0_ok : ax_decs cX6_lay dX6_lay_q0 = true := by decide +kernel
theorem dX6_lay_0 : decode cX6_lay 0 = .ok (.aload_n 0, 1) := ax_dec dX6_lay_q0_ok 0 (0, .aload_n 0, 1) rfl
theorem dX6_lay_1 : decode cX6_lay 1 = .ok (.getfield 55, 3) := ax_dec dX6_lay_q0_ok 1 (1, .getfield 55, 3) rfl
theorem dX6_lay_4 : decode cX6_lay 4 = .ok (.iload_n 1, 1) := ax_dec dX6_lay_q0_ok 2 (4, .iload_n 1, 1) rfl
theorem dX6_lay_5 : decode cX6_lay 5 = .ok (.invokevirtual 96, 3) := ax_dec dX6_lay_q0_ok 3 (5, .invokevirtual 96, 3) rfl
theorem dX6_lay_8 : decode cX6_lay 8 = .ok (.astore_n 3, 1) := ax_dec dX6_lay_q0_ok 4 (8, .astore_n 3, 1) rfl
theorem dX6_lay_9 : decode cX6_lay 9 = .ok (.aload_n 3, 1) := ax_dec dX6_lay_q0_ok 5 (9, .aload_n 3, 1) rfl
theorem dX6_lay_10 : decode cX6_lay 10 = .ok (.ifnonnull 6, 3) := ax_dec dX6_lay_q0_ok 6 (10, .ifnonnull 6, 3) rfl
theorem dX6_lay_13 : decode cX6_lay 13 = .ok (.bipush (-5), 2) := ax_dec dX6_lay_q0_ok 7 (13, .bipush (-5), 2) rfl
theorem dX6_lay_15 : decode cX6_lay 15 = .ok (.ireturn, 1) := ax_dec dX6_lay_q0_ok 8 (15, .ireturn, 1) rfl
theorem dX6_lay_16 : decode cX6_lay 16 = .ok (.iload_n 2, 1) := ax_dec dX6_lay_q0_ok 9 (16, .iload_n 2, 1) rfl
theorem dX6_lay_17 : decode cX6_lay 17 = .ok (.iconst 0, 1) := ax_dec dX6_lay_q0_ok 10 (17, .iconst 0, 1) rfl
theorem dX6_lay_18 : decode cX6_lay 18 = .ok (.bipush 99, 2) := ax_dec dX6_lay_q0_ok 11 (18, .bipush 99, 2) rfl
theorem dX6_lay_20 : decode cX6_lay 20 = .ok (.invokestatic 76, 3) := ax_dec dX6_lay_q0_ok 12 (20, .invokestatic 76, 3) rfl
theorem dX6_lay_23 : decode cX6_lay 23 = .ok (.ifCond .ne 6, 3) := ax_dec dX6_lay_q0_ok 13 (23, .ifCond .ne 6, 3) rfl
theorem dX6_lay_26 : decode cX6_lay 26 = .ok (.bipush (-7), 2) := ax_dec dX6_lay_q0_ok 14 (26, .bipush (-7), 2) rfl
theorem dX6_lay_28 : decode cX6_lay 28 = .ok (.ireturn, 1) := ax_dec dX6_lay_q0_ok 15 (28, .ireturn, 1) rfl
theorem dX6_lay_29 : decode cX6_lay 29 = .ok (.aload_n 3, 1) := ax_dec dX6_lay_q0_ok 16 (29, .aload_n 3, 1) rfl
theorem dX6_lay_30 : decode cX6_lay 30 = .ok (.getfield 123, 3) := ax_dec dX6_lay_q0_ok 17 (30, .getfield 123, 3) rfl
theorem dX6_lay_33 : decode cX6_lay 33 = .ok (.istore 4, 2) := ax_dec dX6_lay_q0_ok 18 (33, .istore 4, 2) rfl
theorem dX6_lay_35 : decode cX6_lay 35 = .ok (.aload_n 3, 1) := ax_dec dX6_lay_q0_ok 19 (35, .aload_n 3, 1) rfl
theorem dX6_lay_36 : decode cX6_lay 36 = .ok (.iload_n 2, 1) := ax_dec dX6_lay_q0_ok 20 (36, .iload_n 2, 1) rfl
theorem dX6_lay_37 : decode cX6_lay 37 = .ok (.putfield 123, 3) := ax_dec dX6_lay_q0_ok 21 (37, .putfield 123, 3) rfl
theorem dX6_lay_40 : decode cX6_lay 40 = .ok (.iload 4, 2) := ax_dec dX6_lay_q0_ok 22 (40, .iload 4, 2) rfl
theorem dX6_lay_42 : decode cX6_lay 42 = .ok (.ireturn, 1) := ax_dec dX6_lay_q0_ok 23 (42, .ireturn, 1) rfl
def dX6_told_q0 : List (Nat × (Instr × Nat)) := [(0, .aload_n 0, 1), (1, .getfield 55, 3), (4, .iload_n 1, 1), (5, .invokevirtual 96, 3), (8, .astore_n 3, 1), (9, .aload_n 3, 1), (10, .ifnonnull 6, 3), (13, .bipush (-5), 2), (15, .ireturn, 1), (16, .iload_n 2, 1), (17, .tableswitch 99 0 8 #[51, 56, 64, 69, 74, 79, 84, 89, 94], 51), (68, .aload_n 3, 1), (69, .getfield 117, 3), (72, .ireturn, 1), (73, .aload_n 3, 1), (74, .getfield 126, 3), (77, .invokestatic 130, 3), (80, .ireturn, 1), (81, .aload_n 3, 1), (82, .getfield 133, 3), (85, .ireturn, 1), (86, .aload_n 3, 1), (87, .getfield 136, 3), (90, .ireturn, 1), (91, .aload_n 3, 1), (92, .getfield 139, 3), (95, .ireturn, 1), (96, .aload_n 3, 1), (97, .getfield 120, 3), (100, .ireturn, 1), (101, .aload_n 3, 1), (102, .getfield 123, 3)]
set_option maxRecDepth 100000 in
theorem dX6_told_q0_ok : ax_decs cX6_told dX6_told_q0 = true := by decide +kernel
theorem dX6_told_0 : decode cX6_told 0 = .ok (.aload_n 0, 1) := ax_dec dX6_told_q0_ok 0 (0, .aload_n 0, 1) rfl
theorem dX6_told_1 : decode cX6_told 1 = .ok (.getfield 55, 3) := ax_dec dX6_told_q0_ok 1 (1, .getfield 55, 3) rfl
theorem dX6_told_4 : decode cX6_told 4 = .ok (.iload_n 1, 1) := ax_dec dX6_told_q0_ok 2 (4, .iload_n 1, 1) rfl
theorem dX6_told_5 : decode cX6_told 5 = .ok (.invokevirtual 96, 3) := ax_dec dX6_told_q0_ok 3 (5, .invokevirtual 96, 3) rfl
theorem dX6_told_8 : decode cX6_told 8 = .ok (.astore_n 3, 1) := ax_dec dX6_told_q0_ok 4 (8, .astore_n 3, 1) rfl
theorem dX6_told_9 : decode cX6_told 9 = .ok (.aload_n 3, 1) := ax_dec dX6_told_q0_ok 5 (9, .aload_n 3, 1) rfl
theorem dX6_told_10 : decode cX6_told 10 = .ok (.ifnonnull 6, 3) := ax_dec dX6_told_q0_ok 6 (10, .ifnonnull 6, 3) rfl
theorem dX6_told_13 : decode cX6_told 13 = .ok (.bipush (-5), 2) := ax_dec dX6_told_q0_ok 7 (13, .bipush (-5), 2) rfl
theorem dX6_told_15 : decode cX6_told 15 = .ok (.ireturn, 1) := ax_dec dX6_told_q0_ok 8 (15, .ireturn, 1) rfl
theorem dX6_told_16 : decode cX6_told 16 = .ok (.iload_n 2, 1) := ax_dec dX6_told_q0_ok 9 (16, .iload_n 2, 1) rfl
theorem dX6_told_17 : decode cX6_told 17 = .ok (.tableswitch 99 0 8 #[51, 56, 64, 69, 74, 79, 84, 89, 94], 51) := ax_dec dX6_told_q0_ok 10 (17, .tableswitch 99 0 8 #[51, 56, 64, 69, 74, 79, 84, 89, 94], 51) rfl
theorem dX6_told_68 : decode cX6_told 68 = .ok (.aload_n 3, 1) := ax_dec dX6_told_q0_ok 11 (68, .aload_n 3, 1) rfl
theorem dX6_told_69 : decode cX6_told 69 = .ok (.getfield 117, 3) := ax_dec dX6_told_q0_ok 12 (69, .getfield 117, 3) rfl
theorem dX6_told_72 : decode cX6_told 72 = .ok (.ireturn, 1) := ax_dec dX6_told_q0_ok 13 (72, .ireturn, 1) rfl
theorem dX6_told_73 : decode cX6_told 73 = .ok (.aload_n 3, 1) := ax_dec dX6_told_q0_ok 14 (73, .aload_n 3, 1) rfl
theorem dX6_told_74 : decode cX6_told 74 = .ok (.getfield 126, 3) := ax_dec dX6_told_q0_ok 15 (74, .getfield 126, 3) rfl
theorem dX6_told_77 : decode cX6_told 77 = .ok (.invokestatic 130, 3) := ax_dec dX6_told_q0_ok 16 (77, .invokestatic 130, 3) rfl
theorem dX6_told_80 : decode cX6_told 80 = .ok (.ireturn, 1) := ax_dec dX6_told_q0_ok 17 (80, .ireturn, 1) rfl
theorem dX6_told_81 : decode cX6_told 81 = .ok (.aload_n 3, 1) := ax_dec dX6_told_q0_ok 18 (81, .aload_n 3, 1) rfl
theorem dX6_told_82 : decode cX6_told 82 = .ok (.getfield 133, 3) := ax_dec dX6_told_q0_ok 19 (82, .getfield 133, 3) rfl
theorem dX6_told_85 : decode cX6_told 85 = .ok (.ireturn, 1) := ax_dec dX6_told_q0_ok 20 (85, .ireturn, 1) rfl
theorem dX6_told_86 : decode cX6_told 86 = .ok (.aload_n 3, 1) := ax_dec dX6_told_q0_ok 21 (86, .aload_n 3, 1) rfl
theorem dX6_told_87 : decode cX6_told 87 = .ok (.getfield 136, 3) := ax_dec dX6_told_q0_ok 22 (87, .getfield 136, 3) rfl
theorem dX6_told_90 : decode cX6_told 90 = .ok (.ireturn, 1) := ax_dec dX6_told_q0_ok 23 (90, .ireturn, 1) rfl
theorem dX6_told_91 : decode cX6_told 91 = .ok (.aload_n 3, 1) := ax_dec dX6_told_q0_ok 24 (91, .aload_n 3, 1) rfl
theorem dX6_told_92 : decode cX6_told 92 = .ok (.getfield 139, 3) := ax_dec dX6_told_q0_ok 25 (92, .getfield 139, 3) rfl
theorem dX6_told_95 : decode cX6_told 95 = .ok (.ireturn, 1) := ax_dec dX6_told_q0_ok 26 (95, .ireturn, 1) rfl
theorem dX6_told_96 : decode cX6_told 96 = .ok (.aload_n 3, 1) := ax_dec dX6_told_q0_ok 27 (96, .aload_n 3, 1) rfl
theorem dX6_told_97 : decode cX6_told 97 = .ok (.getfield 120, 3) := ax_dec dX6_told_q0_ok 28 (97, .getfield 120, 3) rfl
theorem dX6_told_100 : decode cX6_told 100 = .ok (.ireturn, 1) := ax_dec dX6_told_q0_ok 29 (100, .ireturn, 1) rfl
theorem dX6_told_101 : decode cX6_told 101 = .ok (.aload_n 3, 1) := ax_dec dX6_told_q0_ok 30 (101, .aload_n 3, 1) rfl
theorem dX6_told_102 : decode cX6_told 102 = .ok (.getfield 123, 3) := ax_dec dX6_told_q0_ok 31 (102, .getfield 123, 3) rfl
def dX6_told_q1 : List (Nat × (Instr × Nat)) := [(105, .ireturn, 1), (106, .aload_n 3, 1), (107, .invokevirtual 142, 3), (110, .ireturn, 1), (111, .aload_n 3, 1), (112, .invokevirtual 145, 3), (115, .ireturn, 1), (116, .bipush (-7), 2), (118, .ireturn, 1)]
set_option maxRecDepth 100000 in
theorem dX6_told_q1_ok : ax_decs cX6_told dX6_told_q1 = true := by decide +kernel
theorem dX6_told_105 : decode cX6_told 105 = .ok (.ireturn, 1) := ax_dec dX6_told_q1_ok 0 (105, .ireturn, 1) rfl
theorem dX6_told_106 : decode cX6_told 106 = .ok (.aload_n 3, 1) := ax_dec dX6_told_q1_ok 1 (106, .aload_n 3, 1) rfl
theorem dX6_told_107 : decode cX6_told 107 = .ok (.invokevirtual 142, 3) := ax_dec dX6_told_q1_ok 2 (107, .invokevirtual 142, 3) rfl
theorem dX6_told_110 : decode cX6_told 110 = .ok (.ireturn, 1) := ax_dec dX6_told_q1_ok 3 (110, .ireturn, 1) rfl
theorem dX6_told_111 : decode cX6_told 111 = .ok (.aload_n 3, 1) := ax_dec dX6_told_q1_ok 4 (111, .aload_n 3, 1) rfl
theorem dX6_told_112 : decode cX6_told 112 = .ok (.invokevirtual 145, 3) := ax_dec dX6_told_q1_ok 5 (112, .invokevirtual 145, 3) rfl
theorem dX6_told_115 : decode cX6_told 115 = .ok (.ireturn, 1) := ax_dec dX6_told_q1_ok 6 (115, .ireturn, 1) rfl
theorem dX6_told_116 : decode cX6_told 116 = .ok (.bipush (-7), 2) := ax_dec dX6_told_q1_ok 7 (116, .bipush (-7), 2) rfl
theorem dX6_told_118 : decode cX6_told 118 = .ok (.ireturn, 1) := ax_dec dX6_told_q1_ok 8 (118, .ireturn, 1) rfl
def dX6_all_q0 : List (Nat × (Instr × Nat)) := [(0, .iload_n 1, 1), (1, .lookupswitch 43 #[(0, 27), (1, 35)], 27), (28, .aload_n 0, 1), (29, .getfield 55, 3), (32, .invokevirtual 62, 3), (35, .ireturn, 1), (36, .aload_n 0, 1), (37, .getfield 55, 3), (40, .invokevirtual 72, 3), (43, .ireturn, 1), (44, .bipush (-2), 2), (46, .ireturn, 1)]
set_option maxRecDepth 100000 in
theorem dX6_all_q0_ok : ax_decs cX6_all dX6_all_q0 = true := by decide +kernel
theorem dX6_all_0 : decode cX6_all 0 = .ok (.iload_n 1, 1) := ax_dec dX6_all_q0_ok 0 (0, .iload_n 1, 1) rfl
theorem dX6_all_1 : decode cX6_all 1 = .ok (.lookupswitch 43 #[(0, 27), (1, 35)], 27) := ax_dec dX6_all_q0_ok 1 (1, .lookupswitch 43 #[(0, 27), (1, 35)], 27) rfl
theorem dX6_all_28 : decode cX6_all 28 = .ok (.aload_n 0, 1) := ax_dec dX6_all_q0_ok 2 (28, .aload_n 0, 1) rfl
theorem dX6_all_29 : decode cX6_all 29 = .ok (.getfield 55, 3) := ax_dec dX6_all_q0_ok 3 (29, .getfield 55, 3) rfl
theorem dX6_all_32 : decode cX6_all 32 = .ok (.invokevirtual 62, 3) := ax_dec dX6_all_q0_ok 4 (32, .invokevirtual 62, 3) rfl
theorem dX6_all_35 : decode cX6_all 35 = .ok (.ireturn, 1) := ax_dec dX6_all_q0_ok 5 (35, .ireturn, 1) rfl
theorem dX6_all_36 : decode cX6_all 36 = .ok (.aload_n 0, 1) := ax_dec dX6_all_q0_ok 6 (36, .aload_n 0, 1) rfl
theorem dX6_all_37 : decode cX6_all 37 = .ok (.getfield 55, 3) := ax_dec dX6_all_q0_ok 7 (37, .getfield 55, 3) rfl
theorem dX6_all_40 : decode cX6_all 40 = .ok (.invokevirtual 72, 3) := ax_dec dX6_all_q0_ok 8 (40, .invokevirtual 72, 3) rfl
theorem dX6_all_43 : decode cX6_all 43 = .ok (.ireturn, 1) := ax_dec dX6_all_q0_ok 9 (43, .ireturn, 1) rfl
theorem dX6_all_44 : decode cX6_all 44 = .ok (.bipush (-2), 2) := ax_dec dX6_all_q0_ok 10 (44, .bipush (-2), 2) rfl
theorem dX6_all_46 : decode cX6_all 46 = .ok (.ireturn, 1) := ax_dec dX6_all_q0_ok 11 (46, .ireturn, 1) rfl
def dX6_flue_q0 : List (Nat × (Instr × Nat)) := [(0, .aload_n 0, 1), (1, .getfield 55, 3), (4, .iload_n 1, 1), (5, .invokevirtual 96, 3), (8, .astore_n 3, 1), (9, .aload_n 3, 1), (10, .ifnonnull 6, 3), (13, .bipush (-5), 2), (15, .ireturn, 1), (16, .iload_n 2, 1), (17, .tableswitch 59 0 3 #[31, 39, 44, 53], 31), (48, .aload_n 3, 1), (49, .invokevirtual 148, 3), (52, .invokestatic 130, 3), (55, .ireturn, 1), (56, .aload_n 3, 1), (57, .invokevirtual 152, 3), (60, .ireturn, 1), (61, .aload_n 0, 1), (62, .getfield 55, 3), (65, .aload_n 3, 1), (66, .invokevirtual 155, 3), (69, .ireturn, 1), (70, .aload_n 3, 1), (71, .aconst_null, 1), (72, .invokevirtual 158, 3), (75, .ireturn, 1), (76, .bipush (-7), 2), (78, .ireturn, 1)]
set_option maxRecDepth 100000 in
theorem dX6_flue_q0_ok : ax_decs cX6_flue dX6_flue_q0 = true := by decide +kernel
theorem dX6_flue_0 : decode cX6_flue 0 = .ok (.aload_n 0, 1) := ax_dec dX6_flue_q0_ok 0 (0, .aload_n 0, 1) rfl
theorem dX6_flue_1 : decode cX6_flue 1 = .ok (.getfield 55, 3) := ax_dec dX6_flue_q0_ok 1 (1, .getfield 55, 3) rfl
theorem dX6_flue_4 : decode cX6_flue 4 = .ok (.iload_n 1, 1) := ax_dec dX6_flue_q0_ok 2 (4, .iload_n 1, 1) rfl
theorem dX6_flue_5 : decode cX6_flue 5 = .ok (.invokevirtual 96, 3) := ax_dec dX6_flue_q0_ok 3 (5, .invokevirtual 96, 3) rfl
theorem dX6_flue_8 : decode cX6_flue 8 = .ok (.astore_n 3, 1) := ax_dec dX6_flue_q0_ok 4 (8, .astore_n 3, 1) rfl
theorem dX6_flue_9 : decode cX6_flue 9 = .ok (.aload_n 3, 1) := ax_dec dX6_flue_q0_ok 5 (9, .aload_n 3, 1) rfl
theorem dX6_flue_10 : decode cX6_flue 10 = .ok (.ifnonnull 6, 3) := ax_dec dX6_flue_q0_ok 6 (10, .ifnonnull 6, 3) rfl
theorem dX6_flue_13 : decode cX6_flue 13 = .ok (.bipush (-5), 2) := ax_dec dX6_flue_q0_ok 7 (13, .bipush (-5), 2) rfl
theorem dX6_flue_15 : decode cX6_flue 15 = .ok (.ireturn, 1) := ax_dec dX6_flue_q0_ok 8 (15, .ireturn, 1) rfl
theorem dX6_flue_16 : decode cX6_flue 16 = .ok (.iload_n 2, 1) := ax_dec dX6_flue_q0_ok 9 (16, .iload_n 2, 1) rfl
theorem dX6_flue_17 : decode cX6_flue 17 = .ok (.tableswitch 59 0 3 #[31, 39, 44, 53], 31) := ax_dec dX6_flue_q0_ok 10 (17, .tableswitch 59 0 3 #[31, 39, 44, 53], 31) rfl
theorem dX6_flue_48 : decode cX6_flue 48 = .ok (.aload_n 3, 1) := ax_dec dX6_flue_q0_ok 11 (48, .aload_n 3, 1) rfl
theorem dX6_flue_49 : decode cX6_flue 49 = .ok (.invokevirtual 148, 3) := ax_dec dX6_flue_q0_ok 12 (49, .invokevirtual 148, 3) rfl
theorem dX6_flue_52 : decode cX6_flue 52 = .ok (.invokestatic 130, 3) := ax_dec dX6_flue_q0_ok 13 (52, .invokestatic 130, 3) rfl
theorem dX6_flue_55 : decode cX6_flue 55 = .ok (.ireturn, 1) := ax_dec dX6_flue_q0_ok 14 (55, .ireturn, 1) rfl
theorem dX6_flue_56 : decode cX6_flue 56 = .ok (.aload_n 3, 1) := ax_dec dX6_flue_q0_ok 15 (56, .aload_n 3, 1) rfl
theorem dX6_flue_57 : decode cX6_flue 57 = .ok (.invokevirtual 152, 3) := ax_dec dX6_flue_q0_ok 16 (57, .invokevirtual 152, 3) rfl
theorem dX6_flue_60 : decode cX6_flue 60 = .ok (.ireturn, 1) := ax_dec dX6_flue_q0_ok 17 (60, .ireturn, 1) rfl
theorem dX6_flue_61 : decode cX6_flue 61 = .ok (.aload_n 0, 1) := ax_dec dX6_flue_q0_ok 18 (61, .aload_n 0, 1) rfl
theorem dX6_flue_62 : decode cX6_flue 62 = .ok (.getfield 55, 3) := ax_dec dX6_flue_q0_ok 19 (62, .getfield 55, 3) rfl
theorem dX6_flue_65 : decode cX6_flue 65 = .ok (.aload_n 3, 1) := ax_dec dX6_flue_q0_ok 20 (65, .aload_n 3, 1) rfl
theorem dX6_flue_66 : decode cX6_flue 66 = .ok (.invokevirtual 155, 3) := ax_dec dX6_flue_q0_ok 21 (66, .invokevirtual 155, 3) rfl
theorem dX6_flue_69 : decode cX6_flue 69 = .ok (.ireturn, 1) := ax_dec dX6_flue_q0_ok 22 (69, .ireturn, 1) rfl
theorem dX6_flue_70 : decode cX6_flue 70 = .ok (.aload_n 3, 1) := ax_dec dX6_flue_q0_ok 23 (70, .aload_n 3, 1) rfl
theorem dX6_flue_71 : decode cX6_flue 71 = .ok (.aconst_null, 1) := ax_dec dX6_flue_q0_ok 24 (71, .aconst_null, 1) rfl
theorem dX6_flue_72 : decode cX6_flue 72 = .ok (.invokevirtual 158, 3) := ax_dec dX6_flue_q0_ok 25 (72, .invokevirtual 158, 3) rfl
theorem dX6_flue_75 : decode cX6_flue 75 = .ok (.ireturn, 1) := ax_dec dX6_flue_q0_ok 26 (75, .ireturn, 1) rfl
theorem dX6_flue_76 : decode cX6_flue 76 = .ok (.bipush (-7), 2) := ax_dec dX6_flue_q0_ok 27 (76, .bipush (-7), 2) rfl
theorem dX6_flue_78 : decode cX6_flue 78 = .ok (.ireturn, 1) := ax_dec dX6_flue_q0_ok 28 (78, .ireturn, 1) rfl
def dX6_join_q0 : List (Nat × (Instr × Nat)) := [(0, .aload_n 0, 1), (1, .getfield 55, 3), (4, .iload_n 1, 1), (5, .invokevirtual 96, 3), (8, .astore_n 3, 1), (9, .aload_n 0, 1), (10, .getfield 55, 3), (13, .iload_n 2, 1), (14, .invokevirtual 96, 3), (17, .astore 4, 2), (19, .aload_n 3, 1), (20, .ifnull 8, 3), (23, .aload 4, 2), (25, .ifnonnull 6, 3), (28, .bipush (-5), 2), (30, .ireturn, 1), (31, .aload_n 3, 1), (32, .aload 4, 2), (34, .invokevirtual 152, 3), (37, .invokevirtual 161, 3), (40, .invokestatic 130, 3), (43, .ireturn, 1)]
set_option maxRecDepth 100000 in
theorem dX6_join_q0_ok : ax_decs cX6_join dX6_join_q0 = true := by decide +kernel
theorem dX6_join_0 : decode cX6_join 0 = .ok (.aload_n 0, 1) := ax_dec dX6_join_q0_ok 0 (0, .aload_n 0, 1) rfl
theorem dX6_join_1 : decode cX6_join 1 = .ok (.getfield 55, 3) := ax_dec dX6_join_q0_ok 1 (1, .getfield 55, 3) rfl
theorem dX6_join_4 : decode cX6_join 4 = .ok (.iload_n 1, 1) := ax_dec dX6_join_q0_ok 2 (4, .iload_n 1, 1) rfl
theorem dX6_join_5 : decode cX6_join 5 = .ok (.invokevirtual 96, 3) := ax_dec dX6_join_q0_ok 3 (5, .invokevirtual 96, 3) rfl
theorem dX6_join_8 : decode cX6_join 8 = .ok (.astore_n 3, 1) := ax_dec dX6_join_q0_ok 4 (8, .astore_n 3, 1) rfl
theorem dX6_join_9 : decode cX6_join 9 = .ok (.aload_n 0, 1) := ax_dec dX6_join_q0_ok 5 (9, .aload_n 0, 1) rfl
theorem dX6_join_10 : decode cX6_join 10 = .ok (.getfield 55, 3) := ax_dec dX6_join_q0_ok 6 (10, .getfield 55, 3) rfl
theorem dX6_join_13 : decode cX6_join 13 = .ok (.iload_n 2, 1) := ax_dec dX6_join_q0_ok 7 (13, .iload_n 2, 1) rfl
theorem dX6_join_14 : decode cX6_join 14 = .ok (.invokevirtual 96, 3) := ax_dec dX6_join_q0_ok 8 (14, .invokevirtual 96, 3) rfl
theorem dX6_join_17 : decode cX6_join 17 = .ok (.astore 4, 2) := ax_dec dX6_join_q0_ok 9 (17, .astore 4, 2) rfl
theorem dX6_join_19 : decode cX6_join 19 = .ok (.aload_n 3, 1) := ax_dec dX6_join_q0_ok 10 (19, .aload_n 3, 1) rfl
theorem dX6_join_20 : decode cX6_join 20 = .ok (.ifnull 8, 3) := ax_dec dX6_join_q0_ok 11 (20, .ifnull 8, 3) rfl
theorem dX6_join_23 : decode cX6_join 23 = .ok (.aload 4, 2) := ax_dec dX6_join_q0_ok 12 (23, .aload 4, 2) rfl
theorem dX6_join_25 : decode cX6_join 25 = .ok (.ifnonnull 6, 3) := ax_dec dX6_join_q0_ok 13 (25, .ifnonnull 6, 3) rfl
theorem dX6_join_28 : decode cX6_join 28 = .ok (.bipush (-5), 2) := ax_dec dX6_join_q0_ok 14 (28, .bipush (-5), 2) rfl
theorem dX6_join_30 : decode cX6_join 30 = .ok (.ireturn, 1) := ax_dec dX6_join_q0_ok 15 (30, .ireturn, 1) rfl
theorem dX6_join_31 : decode cX6_join 31 = .ok (.aload_n 3, 1) := ax_dec dX6_join_q0_ok 16 (31, .aload_n 3, 1) rfl
theorem dX6_join_32 : decode cX6_join 32 = .ok (.aload 4, 2) := ax_dec dX6_join_q0_ok 17 (32, .aload 4, 2) rfl
theorem dX6_join_34 : decode cX6_join 34 = .ok (.invokevirtual 152, 3) := ax_dec dX6_join_q0_ok 18 (34, .invokevirtual 152, 3) rfl
theorem dX6_join_37 : decode cX6_join 37 = .ok (.invokevirtual 161, 3) := ax_dec dX6_join_q0_ok 19 (37, .invokevirtual 161, 3) rfl
theorem dX6_join_40 : decode cX6_join 40 = .ok (.invokestatic 130, 3) := ax_dec dX6_join_q0_ok 20 (40, .invokestatic 130, 3) rfl
theorem dX6_join_43 : decode cX6_join 43 = .ok (.ireturn, 1) := ax_dec dX6_join_q0_ok 21 (43, .ireturn, 1) rfl
def dX6_rod_q0 : List (Nat × (Instr × Nat)) := [(0, .aload_n 0, 1), (1, .getfield 55, 3), (4, .iload_n 1, 1), (5, .invokevirtual 164, 3), (8, .astore 4, 2), (10, .aload 4, 2), (12, .ifnonnull 6, 3), (15, .bipush (-5), 2), (17, .ireturn, 1), (18, .iload_n 2, 1), (19, .iconst 1, 1), (20, .bipush 60, 2), (22, .invokestatic 76, 3), (25, .ifCond .eq 12, 3), (28, .iload_n 3, 1), (29, .iconst 0, 1), (30, .iconst 1, 1), (31, .invokestatic 76, 3), (34, .ifCond .ne 6, 3), (37, .bipush (-7), 2), (39, .ireturn, 1), (40, .iload_n 3, 1), (41, .ifCond .ne 15, 3), (44, .aload 4, 2), (46, .iload_n 2, 1), (47, .invokevirtual 167, 3), (50, .invokestatic 130, 3), (53, .goto 16, 3), (56, .aload_n 0, 1), (57, .getfield 55, 3), (60, .getfield 92, 3), (63, .iload_n 2, 1)]
set_option maxRecDepth 100000 in
theorem dX6_rod_q0_ok : ax_decs cX6_rod dX6_rod_q0 = true := by decide +kernel
theorem dX6_rod_0 : decode cX6_rod 0 = .ok (.aload_n 0, 1) := ax_dec dX6_rod_q0_ok 0 (0, .aload_n 0, 1) rfl
theorem dX6_rod_1 : decode cX6_rod 1 = .ok (.getfield 55, 3) := ax_dec dX6_rod_q0_ok 1 (1, .getfield 55, 3) rfl
theorem dX6_rod_4 : decode cX6_rod 4 = .ok (.iload_n 1, 1) := ax_dec dX6_rod_q0_ok 2 (4, .iload_n 1, 1) rfl
theorem dX6_rod_5 : decode cX6_rod 5 = .ok (.invokevirtual 164, 3) := ax_dec dX6_rod_q0_ok 3 (5, .invokevirtual 164, 3) rfl
theorem dX6_rod_8 : decode cX6_rod 8 = .ok (.astore 4, 2) := ax_dec dX6_rod_q0_ok 4 (8, .astore 4, 2) rfl
theorem dX6_rod_10 : decode cX6_rod 10 = .ok (.aload 4, 2) := ax_dec dX6_rod_q0_ok 5 (10, .aload 4, 2) rfl
theorem dX6_rod_12 : decode cX6_rod 12 = .ok (.ifnonnull 6, 3) := ax_dec dX6_rod_q0_ok 6 (12, .ifnonnull 6, 3) rfl
theorem dX6_rod_15 : decode cX6_rod 15 = .ok (.bipush (-5), 2) := ax_dec dX6_rod_q0_ok 7 (15, .bipush (-5), 2) rfl
theorem dX6_rod_17 : decode cX6_rod 17 = .ok (.ireturn, 1) := ax_dec dX6_rod_q0_ok 8 (17, .ireturn, 1) rfl
theorem dX6_rod_18 : decode cX6_rod 18 = .ok (.iload_n 2, 1) := ax_dec dX6_rod_q0_ok 9 (18, .iload_n 2, 1) rfl
theorem dX6_rod_19 : decode cX6_rod 19 = .ok (.iconst 1, 1) := ax_dec dX6_rod_q0_ok 10 (19, .iconst 1, 1) rfl
theorem dX6_rod_20 : decode cX6_rod 20 = .ok (.bipush 60, 2) := ax_dec dX6_rod_q0_ok 11 (20, .bipush 60, 2) rfl
theorem dX6_rod_22 : decode cX6_rod 22 = .ok (.invokestatic 76, 3) := ax_dec dX6_rod_q0_ok 12 (22, .invokestatic 76, 3) rfl
theorem dX6_rod_25 : decode cX6_rod 25 = .ok (.ifCond .eq 12, 3) := ax_dec dX6_rod_q0_ok 13 (25, .ifCond .eq 12, 3) rfl
theorem dX6_rod_28 : decode cX6_rod 28 = .ok (.iload_n 3, 1) := ax_dec dX6_rod_q0_ok 14 (28, .iload_n 3, 1) rfl
theorem dX6_rod_29 : decode cX6_rod 29 = .ok (.iconst 0, 1) := ax_dec dX6_rod_q0_ok 15 (29, .iconst 0, 1) rfl
theorem dX6_rod_30 : decode cX6_rod 30 = .ok (.iconst 1, 1) := ax_dec dX6_rod_q0_ok 16 (30, .iconst 1, 1) rfl
theorem dX6_rod_31 : decode cX6_rod 31 = .ok (.invokestatic 76, 3) := ax_dec dX6_rod_q0_ok 17 (31, .invokestatic 76, 3) rfl
theorem dX6_rod_34 : decode cX6_rod 34 = .ok (.ifCond .ne 6, 3) := ax_dec dX6_rod_q0_ok 18 (34, .ifCond .ne 6, 3) rfl
theorem dX6_rod_37 : decode cX6_rod 37 = .ok (.bipush (-7), 2) := ax_dec dX6_rod_q0_ok 19 (37, .bipush (-7), 2) rfl
theorem dX6_rod_39 : decode cX6_rod 39 = .ok (.ireturn, 1) := ax_dec dX6_rod_q0_ok 20 (39, .ireturn, 1) rfl
theorem dX6_rod_40 : decode cX6_rod 40 = .ok (.iload_n 3, 1) := ax_dec dX6_rod_q0_ok 21 (40, .iload_n 3, 1) rfl
theorem dX6_rod_41 : decode cX6_rod 41 = .ok (.ifCond .ne 15, 3) := ax_dec dX6_rod_q0_ok 22 (41, .ifCond .ne 15, 3) rfl
theorem dX6_rod_44 : decode cX6_rod 44 = .ok (.aload 4, 2) := ax_dec dX6_rod_q0_ok 23 (44, .aload 4, 2) rfl
theorem dX6_rod_46 : decode cX6_rod 46 = .ok (.iload_n 2, 1) := ax_dec dX6_rod_q0_ok 24 (46, .iload_n 2, 1) rfl
theorem dX6_rod_47 : decode cX6_rod 47 = .ok (.invokevirtual 167, 3) := ax_dec dX6_rod_q0_ok 25 (47, .invokevirtual 167, 3) rfl
theorem dX6_rod_50 : decode cX6_rod 50 = .ok (.invokestatic 130, 3) := ax_dec dX6_rod_q0_ok 26 (50, .invokestatic 130, 3) rfl
theorem dX6_rod_53 : decode cX6_rod 53 = .ok (.goto 16, 3) := ax_dec dX6_rod_q0_ok 27 (53, .goto 16, 3) rfl
theorem dX6_rod_56 : decode cX6_rod 56 = .ok (.aload_n 0, 1) := ax_dec dX6_rod_q0_ok 28 (56, .aload_n 0, 1) rfl
theorem dX6_rod_57 : decode cX6_rod 57 = .ok (.getfield 55, 3) := ax_dec dX6_rod_q0_ok 29 (57, .getfield 55, 3) rfl
theorem dX6_rod_60 : decode cX6_rod 60 = .ok (.getfield 92, 3) := ax_dec dX6_rod_q0_ok 30 (60, .getfield 92, 3) rfl
theorem dX6_rod_63 : decode cX6_rod 63 = .ok (.iload_n 2, 1) := ax_dec dX6_rod_q0_ok 31 (63, .iload_n 2, 1) rfl
def dX6_rod_q1 : List (Nat × (Instr × Nat)) := [(64, .aload 4, 2), (66, .invokevirtual 170, 3), (69, .ireturn, 1)]
set_option maxRecDepth 100000 in
theorem dX6_rod_q1_ok : ax_decs cX6_rod dX6_rod_q1 = true := by decide +kernel
theorem dX6_rod_64 : decode cX6_rod 64 = .ok (.aload 4, 2) := ax_dec dX6_rod_q1_ok 0 (64, .aload 4, 2) rfl
theorem dX6_rod_66 : decode cX6_rod 66 = .ok (.invokevirtual 170, 3) := ax_dec dX6_rod_q1_ok 1 (66, .invokevirtual 170, 3) rfl
theorem dX6_rod_69 : decode cX6_rod 69 = .ok (.ireturn, 1) := ax_dec dX6_rod_q1_ok 2 (69, .ireturn, 1) rfl
def dX6_push_q0 : List (Nat × (Instr × Nat)) := [(0, .aload_n 0, 1), (1, .getfield 55, 3), (4, .iload_n 1, 1), (5, .invokevirtual 164, 3), (8, .astore 4, 2), (10, .aload 4, 2), (12, .ifnonnull 6, 3), (15, .bipush (-5), 2), (17, .ireturn, 1), (18, .iload_n 2, 1), (19, .iconst 0, 1), (20, .bipush 99, 2), (22, .invokestatic 76, 3), (25, .ifCond .eq 12, 3), (28, .iload_n 3, 1), (29, .iconst 0, 1), (30, .iconst 1, 1), (31, .invokestatic 76, 3), (34, .ifCond .ne 6, 3), (37, .bipush (-7), 2), (39, .ireturn, 1), (40, .aload_n 0, 1), (41, .getfield 55, 3), (44, .aload 4, 2), (46, .iload_n 2, 1), (47, .invokevirtual 174, 3), (50, .astore 5, 2), (52, .iload_n 3, 1), (53, .ifCond .ne 11, 3), (56, .aload 5, 2), (58, .invokestatic 130, 3), (61, .goto 10, 3)]
set_option maxRecDepth 100000 in
theorem dX6_push_q0_ok : ax_decs cX6_push dX6_push_q0 = true := by decide +kernel
theorem dX6_push_0 : decode cX6_push 0 = .ok (.aload_n 0, 1) := ax_dec dX6_push_q0_ok 0 (0, .aload_n 0, 1) rfl
theorem dX6_push_1 : decode cX6_push 1 = .ok (.getfield 55, 3) := ax_dec dX6_push_q0_ok 1 (1, .getfield 55, 3) rfl
theorem dX6_push_4 : decode cX6_push 4 = .ok (.iload_n 1, 1) := ax_dec dX6_push_q0_ok 2 (4, .iload_n 1, 1) rfl
theorem dX6_push_5 : decode cX6_push 5 = .ok (.invokevirtual 164, 3) := ax_dec dX6_push_q0_ok 3 (5, .invokevirtual 164, 3) rfl
theorem dX6_push_8 : decode cX6_push 8 = .ok (.astore 4, 2) := ax_dec dX6_push_q0_ok 4 (8, .astore 4, 2) rfl
theorem dX6_push_10 : decode cX6_push 10 = .ok (.aload 4, 2) := ax_dec dX6_push_q0_ok 5 (10, .aload 4, 2) rfl
theorem dX6_push_12 : decode cX6_push 12 = .ok (.ifnonnull 6, 3) := ax_dec dX6_push_q0_ok 6 (12, .ifnonnull 6, 3) rfl
theorem dX6_push_15 : decode cX6_push 15 = .ok (.bipush (-5), 2) := ax_dec dX6_push_q0_ok 7 (15, .bipush (-5), 2) rfl
theorem dX6_push_17 : decode cX6_push 17 = .ok (.ireturn, 1) := ax_dec dX6_push_q0_ok 8 (17, .ireturn, 1) rfl
theorem dX6_push_18 : decode cX6_push 18 = .ok (.iload_n 2, 1) := ax_dec dX6_push_q0_ok 9 (18, .iload_n 2, 1) rfl
theorem dX6_push_19 : decode cX6_push 19 = .ok (.iconst 0, 1) := ax_dec dX6_push_q0_ok 10 (19, .iconst 0, 1) rfl
theorem dX6_push_20 : decode cX6_push 20 = .ok (.bipush 99, 2) := ax_dec dX6_push_q0_ok 11 (20, .bipush 99, 2) rfl
theorem dX6_push_22 : decode cX6_push 22 = .ok (.invokestatic 76, 3) := ax_dec dX6_push_q0_ok 12 (22, .invokestatic 76, 3) rfl
theorem dX6_push_25 : decode cX6_push 25 = .ok (.ifCond .eq 12, 3) := ax_dec dX6_push_q0_ok 13 (25, .ifCond .eq 12, 3) rfl
theorem dX6_push_28 : decode cX6_push 28 = .ok (.iload_n 3, 1) := ax_dec dX6_push_q0_ok 14 (28, .iload_n 3, 1) rfl
theorem dX6_push_29 : decode cX6_push 29 = .ok (.iconst 0, 1) := ax_dec dX6_push_q0_ok 15 (29, .iconst 0, 1) rfl
theorem dX6_push_30 : decode cX6_push 30 = .ok (.iconst 1, 1) := ax_dec dX6_push_q0_ok 16 (30, .iconst 1, 1) rfl
theorem dX6_push_31 : decode cX6_push 31 = .ok (.invokestatic 76, 3) := ax_dec dX6_push_q0_ok 17 (31, .invokestatic 76, 3) rfl
theorem dX6_push_34 : decode cX6_push 34 = .ok (.ifCond .ne 6, 3) := ax_dec dX6_push_q0_ok 18 (34, .ifCond .ne 6, 3) rfl
theorem dX6_push_37 : decode cX6_push 37 = .ok (.bipush (-7), 2) := ax_dec dX6_push_q0_ok 19 (37, .bipush (-7), 2) rfl
theorem dX6_push_39 : decode cX6_push 39 = .ok (.ireturn, 1) := ax_dec dX6_push_q0_ok 20 (39, .ireturn, 1) rfl
theorem dX6_push_40 : decode cX6_push 40 = .ok (.aload_n 0, 1) := ax_dec dX6_push_q0_ok 21 (40, .aload_n 0, 1) rfl
theorem dX6_push_41 : decode cX6_push 41 = .ok (.getfield 55, 3) := ax_dec dX6_push_q0_ok 22 (41, .getfield 55, 3) rfl
theorem dX6_push_44 : decode cX6_push 44 = .ok (.aload 4, 2) := ax_dec dX6_push_q0_ok 23 (44, .aload 4, 2) rfl
theorem dX6_push_46 : decode cX6_push 46 = .ok (.iload_n 2, 1) := ax_dec dX6_push_q0_ok 24 (46, .iload_n 2, 1) rfl
theorem dX6_push_47 : decode cX6_push 47 = .ok (.invokevirtual 174, 3) := ax_dec dX6_push_q0_ok 25 (47, .invokevirtual 174, 3) rfl
theorem dX6_push_50 : decode cX6_push 50 = .ok (.astore 5, 2) := ax_dec dX6_push_q0_ok 26 (50, .astore 5, 2) rfl
theorem dX6_push_52 : decode cX6_push 52 = .ok (.iload_n 3, 1) := ax_dec dX6_push_q0_ok 27 (52, .iload_n 3, 1) rfl
theorem dX6_push_53 : decode cX6_push 53 = .ok (.ifCond .ne 11, 3) := ax_dec dX6_push_q0_ok 28 (53, .ifCond .ne 11, 3) rfl
theorem dX6_push_56 : decode cX6_push 56 = .ok (.aload 5, 2) := ax_dec dX6_push_q0_ok 29 (56, .aload 5, 2) rfl
theorem dX6_push_58 : decode cX6_push 58 = .ok (.invokestatic 130, 3) := ax_dec dX6_push_q0_ok 30 (58, .invokestatic 130, 3) rfl
theorem dX6_push_61 : decode cX6_push 61 = .ok (.goto 10, 3) := ax_dec dX6_push_q0_ok 31 (61, .goto 10, 3) rfl
def dX6_push_q1 : List (Nat × (Instr × Nat)) := [(64, .aload 4, 2), (66, .aload 5, 2), (68, .invokevirtual 158, 3), (71, .ireturn, 1)]
set_option maxRecDepth 100000 in
theorem dX6_push_q1_ok : ax_decs cX6_push dX6_push_q1 = true := by decide +kernel
theorem dX6_push_64 : decode cX6_push 64 = .ok (.aload 4, 2) := ax_dec dX6_push_q1_ok 0 (64, .aload 4, 2) rfl
theorem dX6_push_66 : decode cX6_push 66 = .ok (.aload 5, 2) := ax_dec dX6_push_q1_ok 1 (66, .aload 5, 2) rfl
theorem dX6_push_68 : decode cX6_push 68 = .ok (.invokevirtual 158, 3) := ax_dec dX6_push_q1_ok 2 (68, .invokevirtual 158, 3) rfl
theorem dX6_push_71 : decode cX6_push 71 = .ok (.ireturn, 1) := ax_dec dX6_push_q1_ok 3 (71, .ireturn, 1) rfl
def dX6_sweep_q0 : List (Nat × (Instr × Nat)) := [(0, .aload_n 0, 1), (1, .getfield 55, 3), (4, .iload_n 1, 1), (5, .invokevirtual 164, 3), (8, .astore_n 3, 1), (9, .aload_n 3, 1), (10, .ifnonnull 6, 3), (13, .bipush (-5), 2), (15, .ireturn, 1), (16, .iload_n 2, 1), (17, .iconst 0, 1), (18, .bipush 99, 2), (20, .invokestatic 76, 3), (23, .ifCond .ne 6, 3), (26, .bipush (-7), 2), (28, .ireturn, 1), (29, .aload_n 0, 1), (30, .getfield 55, 3), (33, .aload_n 3, 1), (34, .iload_n 2, 1), (35, .invokevirtual 178, 3), (38, .ireturn, 1)]
set_option maxRecDepth 100000 in
theorem dX6_sweep_q0_ok : ax_decs cX6_sweep dX6_sweep_q0 = true := by decide +kernel
theorem dX6_sweep_0 : decode cX6_sweep 0 = .ok (.aload_n 0, 1) := ax_dec dX6_sweep_q0_ok 0 (0, .aload_n 0, 1) rfl
theorem dX6_sweep_1 : decode cX6_sweep 1 = .ok (.getfield 55, 3) := ax_dec dX6_sweep_q0_ok 1 (1, .getfield 55, 3) rfl
theorem dX6_sweep_4 : decode cX6_sweep 4 = .ok (.iload_n 1, 1) := ax_dec dX6_sweep_q0_ok 2 (4, .iload_n 1, 1) rfl
theorem dX6_sweep_5 : decode cX6_sweep 5 = .ok (.invokevirtual 164, 3) := ax_dec dX6_sweep_q0_ok 3 (5, .invokevirtual 164, 3) rfl
theorem dX6_sweep_8 : decode cX6_sweep 8 = .ok (.astore_n 3, 1) := ax_dec dX6_sweep_q0_ok 4 (8, .astore_n 3, 1) rfl
theorem dX6_sweep_9 : decode cX6_sweep 9 = .ok (.aload_n 3, 1) := ax_dec dX6_sweep_q0_ok 5 (9, .aload_n 3, 1) rfl
theorem dX6_sweep_10 : decode cX6_sweep 10 = .ok (.ifnonnull 6, 3) := ax_dec dX6_sweep_q0_ok 6 (10, .ifnonnull 6, 3) rfl
theorem dX6_sweep_13 : decode cX6_sweep 13 = .ok (.bipush (-5), 2) := ax_dec dX6_sweep_q0_ok 7 (13, .bipush (-5), 2) rfl
theorem dX6_sweep_15 : decode cX6_sweep 15 = .ok (.ireturn, 1) := ax_dec dX6_sweep_q0_ok 8 (15, .ireturn, 1) rfl
theorem dX6_sweep_16 : decode cX6_sweep 16 = .ok (.iload_n 2, 1) := ax_dec dX6_sweep_q0_ok 9 (16, .iload_n 2, 1) rfl
theorem dX6_sweep_17 : decode cX6_sweep 17 = .ok (.iconst 0, 1) := ax_dec dX6_sweep_q0_ok 10 (17, .iconst 0, 1) rfl
theorem dX6_sweep_18 : decode cX6_sweep 18 = .ok (.bipush 99, 2) := ax_dec dX6_sweep_q0_ok 11 (18, .bipush 99, 2) rfl
theorem dX6_sweep_20 : decode cX6_sweep 20 = .ok (.invokestatic 76, 3) := ax_dec dX6_sweep_q0_ok 12 (20, .invokestatic 76, 3) rfl
theorem dX6_sweep_23 : decode cX6_sweep 23 = .ok (.ifCond .ne 6, 3) := ax_dec dX6_sweep_q0_ok 13 (23, .ifCond .ne 6, 3) rfl
theorem dX6_sweep_26 : decode cX6_sweep 26 = .ok (.bipush (-7), 2) := ax_dec dX6_sweep_q0_ok 14 (26, .bipush (-7), 2) rfl
theorem dX6_sweep_28 : decode cX6_sweep 28 = .ok (.ireturn, 1) := ax_dec dX6_sweep_q0_ok 15 (28, .ireturn, 1) rfl
theorem dX6_sweep_29 : decode cX6_sweep 29 = .ok (.aload_n 0, 1) := ax_dec dX6_sweep_q0_ok 16 (29, .aload_n 0, 1) rfl
theorem dX6_sweep_30 : decode cX6_sweep 30 = .ok (.getfield 55, 3) := ax_dec dX6_sweep_q0_ok 17 (30, .getfield 55, 3) rfl
theorem dX6_sweep_33 : decode cX6_sweep 33 = .ok (.aload_n 3, 1) := ax_dec dX6_sweep_q0_ok 18 (33, .aload_n 3, 1) rfl
theorem dX6_sweep_34 : decode cX6_sweep 34 = .ok (.iload_n 2, 1) := ax_dec dX6_sweep_q0_ok 19 (34, .iload_n 2, 1) rfl
theorem dX6_sweep_35 : decode cX6_sweep 35 = .ok (.invokevirtual 178, 3) := ax_dec dX6_sweep_q0_ok 20 (35, .invokevirtual 178, 3) rfl
theorem dX6_sweep_38 : decode cX6_sweep 38 = .ok (.ireturn, 1) := ax_dec dX6_sweep_q0_ok 21 (38, .ireturn, 1) rfl
def dX6_needs_q0 : List (Nat × (Instr × Nat)) := [(0, .aload_n 0, 1), (1, .getfield 55, 3), (4, .iload_n 1, 1), (5, .invokevirtual 164, 3), (8, .astore_n 2, 1), (9, .aload_n 2, 1), (10, .ifnonnull 6, 3), (13, .bipush (-5), 2), (15, .ireturn, 1), (16, .iconst 0, 1), (17, .istore_n 3, 1), (18, .aload_n 2, 1), (19, .astore 4, 2), (21, .aload 4, 2), (23, .ifnull 42, 3), (26, .aload 4, 2), (28, .invokevirtual 142, 3), (31, .ifCond .ne 5, 3), (34, .iconst (-1), 1), (35, .ireturn, 1), (36, .iload_n 3, 1), (37, .aload_n 0, 1), (38, .getfield 55, 3), (41, .getfield 92, 3), (44, .iconst 1, 1), (45, .aload 4, 2), (47, .iconst 0, 1), (48, .invokevirtual 100, 3), (51, .invokestatic 182, 3), (54, .istore_n 3, 1), (55, .aload 4, 2), (57, .getfield 126, 3)]
set_option maxRecDepth 100000 in
theorem dX6_needs_q0_ok : ax_decs cX6_needs dX6_needs_q0 = true := by decide +kernel
theorem dX6_needs_0 : decode cX6_needs 0 = .ok (.aload_n 0, 1) := ax_dec dX6_needs_q0_ok 0 (0, .aload_n 0, 1) rfl
theorem dX6_needs_1 : decode cX6_needs 1 = .ok (.getfield 55, 3) := ax_dec dX6_needs_q0_ok 1 (1, .getfield 55, 3) rfl
theorem dX6_needs_4 : decode cX6_needs 4 = .ok (.iload_n 1, 1) := ax_dec dX6_needs_q0_ok 2 (4, .iload_n 1, 1) rfl
theorem dX6_needs_5 : decode cX6_needs 5 = .ok (.invokevirtual 164, 3) := ax_dec dX6_needs_q0_ok 3 (5, .invokevirtual 164, 3) rfl
theorem dX6_needs_8 : decode cX6_needs 8 = .ok (.astore_n 2, 1) := ax_dec dX6_needs_q0_ok 4 (8, .astore_n 2, 1) rfl
theorem dX6_needs_9 : decode cX6_needs 9 = .ok (.aload_n 2, 1) := ax_dec dX6_needs_q0_ok 5 (9, .aload_n 2, 1) rfl
theorem dX6_needs_10 : decode cX6_needs 10 = .ok (.ifnonnull 6, 3) := ax_dec dX6_needs_q0_ok 6 (10, .ifnonnull 6, 3) rfl
theorem dX6_needs_13 : decode cX6_needs 13 = .ok (.bipush (-5), 2) := ax_dec dX6_needs_q0_ok 7 (13, .bipush (-5), 2) rfl
theorem dX6_needs_15 : decode cX6_needs 15 = .ok (.ireturn, 1) := ax_dec dX6_needs_q0_ok 8 (15, .ireturn, 1) rfl
theorem dX6_needs_16 : decode cX6_needs 16 = .ok (.iconst 0, 1) := ax_dec dX6_needs_q0_ok 9 (16, .iconst 0, 1) rfl
theorem dX6_needs_17 : decode cX6_needs 17 = .ok (.istore_n 3, 1) := ax_dec dX6_needs_q0_ok 10 (17, .istore_n 3, 1) rfl
theorem dX6_needs_18 : decode cX6_needs 18 = .ok (.aload_n 2, 1) := ax_dec dX6_needs_q0_ok 11 (18, .aload_n 2, 1) rfl
theorem dX6_needs_19 : decode cX6_needs 19 = .ok (.astore 4, 2) := ax_dec dX6_needs_q0_ok 12 (19, .astore 4, 2) rfl
theorem dX6_needs_21 : decode cX6_needs 21 = .ok (.aload 4, 2) := ax_dec dX6_needs_q0_ok 13 (21, .aload 4, 2) rfl
theorem dX6_needs_23 : decode cX6_needs 23 = .ok (.ifnull 42, 3) := ax_dec dX6_needs_q0_ok 14 (23, .ifnull 42, 3) rfl
theorem dX6_needs_26 : decode cX6_needs 26 = .ok (.aload 4, 2) := ax_dec dX6_needs_q0_ok 15 (26, .aload 4, 2) rfl
theorem dX6_needs_28 : decode cX6_needs 28 = .ok (.invokevirtual 142, 3) := ax_dec dX6_needs_q0_ok 16 (28, .invokevirtual 142, 3) rfl
theorem dX6_needs_31 : decode cX6_needs 31 = .ok (.ifCond .ne 5, 3) := ax_dec dX6_needs_q0_ok 17 (31, .ifCond .ne 5, 3) rfl
theorem dX6_needs_34 : decode cX6_needs 34 = .ok (.iconst (-1), 1) := ax_dec dX6_needs_q0_ok 18 (34, .iconst (-1), 1) rfl
theorem dX6_needs_35 : decode cX6_needs 35 = .ok (.ireturn, 1) := ax_dec dX6_needs_q0_ok 19 (35, .ireturn, 1) rfl
theorem dX6_needs_36 : decode cX6_needs 36 = .ok (.iload_n 3, 1) := ax_dec dX6_needs_q0_ok 20 (36, .iload_n 3, 1) rfl
theorem dX6_needs_37 : decode cX6_needs 37 = .ok (.aload_n 0, 1) := ax_dec dX6_needs_q0_ok 21 (37, .aload_n 0, 1) rfl
theorem dX6_needs_38 : decode cX6_needs 38 = .ok (.getfield 55, 3) := ax_dec dX6_needs_q0_ok 22 (38, .getfield 55, 3) rfl
theorem dX6_needs_41 : decode cX6_needs 41 = .ok (.getfield 92, 3) := ax_dec dX6_needs_q0_ok 23 (41, .getfield 92, 3) rfl
theorem dX6_needs_44 : decode cX6_needs 44 = .ok (.iconst 1, 1) := ax_dec dX6_needs_q0_ok 24 (44, .iconst 1, 1) rfl
theorem dX6_needs_45 : decode cX6_needs 45 = .ok (.aload 4, 2) := ax_dec dX6_needs_q0_ok 25 (45, .aload 4, 2) rfl
theorem dX6_needs_47 : decode cX6_needs 47 = .ok (.iconst 0, 1) := ax_dec dX6_needs_q0_ok 26 (47, .iconst 0, 1) rfl
theorem dX6_needs_48 : decode cX6_needs 48 = .ok (.invokevirtual 100, 3) := ax_dec dX6_needs_q0_ok 27 (48, .invokevirtual 100, 3) rfl
theorem dX6_needs_51 : decode cX6_needs 51 = .ok (.invokestatic 182, 3) := ax_dec dX6_needs_q0_ok 28 (51, .invokestatic 182, 3) rfl
theorem dX6_needs_54 : decode cX6_needs 54 = .ok (.istore_n 3, 1) := ax_dec dX6_needs_q0_ok 29 (54, .istore_n 3, 1) rfl
theorem dX6_needs_55 : decode cX6_needs 55 = .ok (.aload 4, 2) := ax_dec dX6_needs_q0_ok 30 (55, .aload 4, 2) rfl
theorem dX6_needs_57 : decode cX6_needs 57 = .ok (.getfield 126, 3) := ax_dec dX6_needs_q0_ok 31 (57, .getfield 126, 3) rfl
def dX6_needs_q1 : List (Nat × (Instr × Nat)) := [(60, .astore 4, 2), (62, .goto (-41), 3), (65, .iload_n 3, 1), (66, .ireturn, 1)]
set_option maxRecDepth 100000 in
theorem dX6_needs_q1_ok : ax_decs cX6_needs dX6_needs_q1 = true := by decide +kernel
theorem dX6_needs_60 : decode cX6_needs 60 = .ok (.astore 4, 2) := ax_dec dX6_needs_q1_ok 0 (60, .astore 4, 2) rfl
theorem dX6_needs_62 : decode cX6_needs 62 = .ok (.goto (-41), 3) := ax_dec dX6_needs_q1_ok 1 (62, .goto (-41), 3) rfl
theorem dX6_needs_65 : decode cX6_needs 65 = .ok (.iload_n 3, 1) := ax_dec dX6_needs_q1_ok 2 (65, .iload_n 3, 1) rfl
theorem dX6_needs_66 : decode cX6_needs 66 = .ok (.ireturn, 1) := ax_dec dX6_needs_q1_ok 3 (66, .ireturn, 1) rfl
def dX6_fire_q0 : List (Nat × (Instr × Nat)) := [(0, .aload_n 0, 1), (1, .getfield 55, 3), (4, .iload_n 1, 1), (5, .invokevirtual 164, 3), (8, .astore 4, 2), (10, .aload 4, 2), (12, .ifnonnull 6, 3), (15, .bipush (-5), 2), (17, .ireturn, 1), (18, .iload_n 2, 1), (19, .iconst 1, 1), (20, .bipush 20, 2), (22, .invokestatic 76, 3), (25, .ifCond .eq 13, 3), (28, .iload_n 3, 1), (29, .iconst 0, 1), (30, .bipush 99, 2), (32, .invokestatic 76, 3), (35, .ifCond .ne 6, 3), (38, .bipush (-7), 2), (40, .ireturn, 1), (41, .iconst 0, 1), (42, .istore 5, 2), (44, .iload 5, 2), (46, .iload_n 2, 1), (47, .if_icmp .ge 19, 3), (50, .aload_n 0, 1), (51, .getfield 55, 3), (54, .aload 4, 2), (56, .iload_n 3, 1), (57, .invokevirtual 188, 3), (60, .iinc 5 1, 3)]
set_option maxRecDepth 100000 in
theorem dX6_fire_q0_ok : ax_decs cX6_fire dX6_fire_q0 = true := by decide +kernel
theorem dX6_fire_0 : decode cX6_fire 0 = .ok (.aload_n 0, 1) := ax_dec dX6_fire_q0_ok 0 (0, .aload_n 0, 1) rfl
theorem dX6_fire_1 : decode cX6_fire 1 = .ok (.getfield 55, 3) := ax_dec dX6_fire_q0_ok 1 (1, .getfield 55, 3) rfl
theorem dX6_fire_4 : decode cX6_fire 4 = .ok (.iload_n 1, 1) := ax_dec dX6_fire_q0_ok 2 (4, .iload_n 1, 1) rfl
theorem dX6_fire_5 : decode cX6_fire 5 = .ok (.invokevirtual 164, 3) := ax_dec dX6_fire_q0_ok 3 (5, .invokevirtual 164, 3) rfl
theorem dX6_fire_8 : decode cX6_fire 8 = .ok (.astore 4, 2) := ax_dec dX6_fire_q0_ok 4 (8, .astore 4, 2) rfl
theorem dX6_fire_10 : decode cX6_fire 10 = .ok (.aload 4, 2) := ax_dec dX6_fire_q0_ok 5 (10, .aload 4, 2) rfl
theorem dX6_fire_12 : decode cX6_fire 12 = .ok (.ifnonnull 6, 3) := ax_dec dX6_fire_q0_ok 6 (12, .ifnonnull 6, 3) rfl
theorem dX6_fire_15 : decode cX6_fire 15 = .ok (.bipush (-5), 2) := ax_dec dX6_fire_q0_ok 7 (15, .bipush (-5), 2) rfl
theorem dX6_fire_17 : decode cX6_fire 17 = .ok (.ireturn, 1) := ax_dec dX6_fire_q0_ok 8 (17, .ireturn, 1) rfl
theorem dX6_fire_18 : decode cX6_fire 18 = .ok (.iload_n 2, 1) := ax_dec dX6_fire_q0_ok 9 (18, .iload_n 2, 1) rfl
theorem dX6_fire_19 : decode cX6_fire 19 = .ok (.iconst 1, 1) := ax_dec dX6_fire_q0_ok 10 (19, .iconst 1, 1) rfl
theorem dX6_fire_20 : decode cX6_fire 20 = .ok (.bipush 20, 2) := ax_dec dX6_fire_q0_ok 11 (20, .bipush 20, 2) rfl
theorem dX6_fire_22 : decode cX6_fire 22 = .ok (.invokestatic 76, 3) := ax_dec dX6_fire_q0_ok 12 (22, .invokestatic 76, 3) rfl
theorem dX6_fire_25 : decode cX6_fire 25 = .ok (.ifCond .eq 13, 3) := ax_dec dX6_fire_q0_ok 13 (25, .ifCond .eq 13, 3) rfl
theorem dX6_fire_28 : decode cX6_fire 28 = .ok (.iload_n 3, 1) := ax_dec dX6_fire_q0_ok 14 (28, .iload_n 3, 1) rfl
theorem dX6_fire_29 : decode cX6_fire 29 = .ok (.iconst 0, 1) := ax_dec dX6_fire_q0_ok 15 (29, .iconst 0, 1) rfl
theorem dX6_fire_30 : decode cX6_fire 30 = .ok (.bipush 99, 2) := ax_dec dX6_fire_q0_ok 16 (30, .bipush 99, 2) rfl
theorem dX6_fire_32 : decode cX6_fire 32 = .ok (.invokestatic 76, 3) := ax_dec dX6_fire_q0_ok 17 (32, .invokestatic 76, 3) rfl
theorem dX6_fire_35 : decode cX6_fire 35 = .ok (.ifCond .ne 6, 3) := ax_dec dX6_fire_q0_ok 18 (35, .ifCond .ne 6, 3) rfl
theorem dX6_fire_38 : decode cX6_fire 38 = .ok (.bipush (-7), 2) := ax_dec dX6_fire_q0_ok 19 (38, .bipush (-7), 2) rfl
theorem dX6_fire_40 : decode cX6_fire 40 = .ok (.ireturn, 1) := ax_dec dX6_fire_q0_ok 20 (40, .ireturn, 1) rfl
theorem dX6_fire_41 : decode cX6_fire 41 = .ok (.iconst 0, 1) := ax_dec dX6_fire_q0_ok 21 (41, .iconst 0, 1) rfl
theorem dX6_fire_42 : decode cX6_fire 42 = .ok (.istore 5, 2) := ax_dec dX6_fire_q0_ok 22 (42, .istore 5, 2) rfl
theorem dX6_fire_44 : decode cX6_fire 44 = .ok (.iload 5, 2) := ax_dec dX6_fire_q0_ok 23 (44, .iload 5, 2) rfl
theorem dX6_fire_46 : decode cX6_fire 46 = .ok (.iload_n 2, 1) := ax_dec dX6_fire_q0_ok 24 (46, .iload_n 2, 1) rfl
theorem dX6_fire_47 : decode cX6_fire 47 = .ok (.if_icmp .ge 19, 3) := ax_dec dX6_fire_q0_ok 25 (47, .if_icmp .ge 19, 3) rfl
theorem dX6_fire_50 : decode cX6_fire 50 = .ok (.aload_n 0, 1) := ax_dec dX6_fire_q0_ok 26 (50, .aload_n 0, 1) rfl
theorem dX6_fire_51 : decode cX6_fire 51 = .ok (.getfield 55, 3) := ax_dec dX6_fire_q0_ok 27 (51, .getfield 55, 3) rfl
theorem dX6_fire_54 : decode cX6_fire 54 = .ok (.aload 4, 2) := ax_dec dX6_fire_q0_ok 28 (54, .aload 4, 2) rfl
theorem dX6_fire_56 : decode cX6_fire 56 = .ok (.iload_n 3, 1) := ax_dec dX6_fire_q0_ok 29 (56, .iload_n 3, 1) rfl
theorem dX6_fire_57 : decode cX6_fire 57 = .ok (.invokevirtual 188, 3) := ax_dec dX6_fire_q0_ok 30 (57, .invokevirtual 188, 3) rfl
theorem dX6_fire_60 : decode cX6_fire 60 = .ok (.iinc 5 1, 3) := ax_dec dX6_fire_q0_ok 31 (60, .iinc 5 1, 3) rfl
def dX6_fire_q1 : List (Nat × (Instr × Nat)) := [(63, .goto (-19), 3), (66, .aload 4, 2), (68, .invokevirtual 192, 3), (71, .ireturn, 1)]
set_option maxRecDepth 100000 in
theorem dX6_fire_q1_ok : ax_decs cX6_fire dX6_fire_q1 = true := by decide +kernel
theorem dX6_fire_63 : decode cX6_fire 63 = .ok (.goto (-19), 3) := ax_dec dX6_fire_q1_ok 0 (63, .goto (-19), 3) rfl
theorem dX6_fire_66 : decode cX6_fire 66 = .ok (.aload 4, 2) := ax_dec dX6_fire_q1_ok 1 (66, .aload 4, 2) rfl
theorem dX6_fire_68 : decode cX6_fire 68 = .ok (.invokevirtual 192, 3) := ax_dec dX6_fire_q1_ok 2 (68, .invokevirtual 192, 3) rfl
theorem dX6_fire_71 : decode cX6_fire 71 = .ok (.ireturn, 1) := ax_dec dX6_fire_q1_ok 3 (71, .ireturn, 1) rfl
def dX6_smoke_q0 : List (Nat × (Instr × Nat)) := [(0, .aload_n 0, 1), (1, .getfield 55, 3), (4, .iload_n 1, 1), (5, .invokevirtual 164, 3), (8, .astore 4, 2), (10, .aload_n 0, 1), (11, .getfield 55, 3), (14, .iload_n 2, 1), (15, .invokevirtual 96, 3), (18, .astore 5, 2), (20, .aload 4, 2), (22, .ifnull 8, 3), (25, .aload 5, 2), (27, .ifnonnull 6, 3), (30, .bipush (-5), 2), (32, .ireturn, 1), (33, .iload_n 3, 1), (34, .iconst 0, 1), (35, .iconst 1, 1), (36, .invokestatic 76, 3), (39, .ifCond .ne 6, 3), (42, .bipush (-7), 2), (44, .ireturn, 1), (45, .sipush 1000, 3), (48, .istore 6, 2), (50, .iconst 0, 1), (51, .istore 7, 2), (53, .aload 4, 2), (55, .astore 8, 2), (57, .aload 8, 2), (59, .ifnull 44, 3), (62, .iload 6, 2)]
set_option maxRecDepth 100000 in
theorem dX6_smoke_q0_ok : ax_decs cX6_smoke dX6_smoke_q0 = true := by decide +kernel
theorem dX6_smoke_0 : decode cX6_smoke 0 = .ok (.aload_n 0, 1) := ax_dec dX6_smoke_q0_ok 0 (0, .aload_n 0, 1) rfl
theorem dX6_smoke_1 : decode cX6_smoke 1 = .ok (.getfield 55, 3) := ax_dec dX6_smoke_q0_ok 1 (1, .getfield 55, 3) rfl
theorem dX6_smoke_4 : decode cX6_smoke 4 = .ok (.iload_n 1, 1) := ax_dec dX6_smoke_q0_ok 2 (4, .iload_n 1, 1) rfl
theorem dX6_smoke_5 : decode cX6_smoke 5 = .ok (.invokevirtual 164, 3) := ax_dec dX6_smoke_q0_ok 3 (5, .invokevirtual 164, 3) rfl
theorem dX6_smoke_8 : decode cX6_smoke 8 = .ok (.astore 4, 2) := ax_dec dX6_smoke_q0_ok 4 (8, .astore 4, 2) rfl
theorem dX6_smoke_10 : decode cX6_smoke 10 = .ok (.aload_n 0, 1) := ax_dec dX6_smoke_q0_ok 5 (10, .aload_n 0, 1) rfl
theorem dX6_smoke_11 : decode cX6_smoke 11 = .ok (.getfield 55, 3) := ax_dec dX6_smoke_q0_ok 6 (11, .getfield 55, 3) rfl
theorem dX6_smoke_14 : decode cX6_smoke 14 = .ok (.iload_n 2, 1) := ax_dec dX6_smoke_q0_ok 7 (14, .iload_n 2, 1) rfl
theorem dX6_smoke_15 : decode cX6_smoke 15 = .ok (.invokevirtual 96, 3) := ax_dec dX6_smoke_q0_ok 8 (15, .invokevirtual 96, 3) rfl
theorem dX6_smoke_18 : decode cX6_smoke 18 = .ok (.astore 5, 2) := ax_dec dX6_smoke_q0_ok 9 (18, .astore 5, 2) rfl
theorem dX6_smoke_20 : decode cX6_smoke 20 = .ok (.aload 4, 2) := ax_dec dX6_smoke_q0_ok 10 (20, .aload 4, 2) rfl
theorem dX6_smoke_22 : decode cX6_smoke 22 = .ok (.ifnull 8, 3) := ax_dec dX6_smoke_q0_ok 11 (22, .ifnull 8, 3) rfl
theorem dX6_smoke_25 : decode cX6_smoke 25 = .ok (.aload 5, 2) := ax_dec dX6_smoke_q0_ok 12 (25, .aload 5, 2) rfl
theorem dX6_smoke_27 : decode cX6_smoke 27 = .ok (.ifnonnull 6, 3) := ax_dec dX6_smoke_q0_ok 13 (27, .ifnonnull 6, 3) rfl
theorem dX6_smoke_30 : decode cX6_smoke 30 = .ok (.bipush (-5), 2) := ax_dec dX6_smoke_q0_ok 14 (30, .bipush (-5), 2) rfl
theorem dX6_smoke_32 : decode cX6_smoke 32 = .ok (.ireturn, 1) := ax_dec dX6_smoke_q0_ok 15 (32, .ireturn, 1) rfl
theorem dX6_smoke_33 : decode cX6_smoke 33 = .ok (.iload_n 3, 1) := ax_dec dX6_smoke_q0_ok 16 (33, .iload_n 3, 1) rfl
theorem dX6_smoke_34 : decode cX6_smoke 34 = .ok (.iconst 0, 1) := ax_dec dX6_smoke_q0_ok 17 (34, .iconst 0, 1) rfl
theorem dX6_smoke_35 : decode cX6_smoke 35 = .ok (.iconst 1, 1) := ax_dec dX6_smoke_q0_ok 18 (35, .iconst 1, 1) rfl
theorem dX6_smoke_36 : decode cX6_smoke 36 = .ok (.invokestatic 76, 3) := ax_dec dX6_smoke_q0_ok 19 (36, .invokestatic 76, 3) rfl
theorem dX6_smoke_39 : decode cX6_smoke 39 = .ok (.ifCond .ne 6, 3) := ax_dec dX6_smoke_q0_ok 20 (39, .ifCond .ne 6, 3) rfl
theorem dX6_smoke_42 : decode cX6_smoke 42 = .ok (.bipush (-7), 2) := ax_dec dX6_smoke_q0_ok 21 (42, .bipush (-7), 2) rfl
theorem dX6_smoke_44 : decode cX6_smoke 44 = .ok (.ireturn, 1) := ax_dec dX6_smoke_q0_ok 22 (44, .ireturn, 1) rfl
theorem dX6_smoke_45 : decode cX6_smoke 45 = .ok (.sipush 1000, 3) := ax_dec dX6_smoke_q0_ok 23 (45, .sipush 1000, 3) rfl
theorem dX6_smoke_48 : decode cX6_smoke 48 = .ok (.istore 6, 2) := ax_dec dX6_smoke_q0_ok 24 (48, .istore 6, 2) rfl
theorem dX6_smoke_50 : decode cX6_smoke 50 = .ok (.iconst 0, 1) := ax_dec dX6_smoke_q0_ok 25 (50, .iconst 0, 1) rfl
theorem dX6_smoke_51 : decode cX6_smoke 51 = .ok (.istore 7, 2) := ax_dec dX6_smoke_q0_ok 26 (51, .istore 7, 2) rfl
theorem dX6_smoke_53 : decode cX6_smoke 53 = .ok (.aload 4, 2) := ax_dec dX6_smoke_q0_ok 27 (53, .aload 4, 2) rfl
theorem dX6_smoke_55 : decode cX6_smoke 55 = .ok (.astore 8, 2) := ax_dec dX6_smoke_q0_ok 28 (55, .astore 8, 2) rfl
theorem dX6_smoke_57 : decode cX6_smoke 57 = .ok (.aload 8, 2) := ax_dec dX6_smoke_q0_ok 29 (57, .aload 8, 2) rfl
theorem dX6_smoke_59 : decode cX6_smoke 59 = .ok (.ifnull 44, 3) := ax_dec dX6_smoke_q0_ok 30 (59, .ifnull 44, 3) rfl
theorem dX6_smoke_62 : decode cX6_smoke 62 = .ok (.iload 6, 2) := ax_dec dX6_smoke_q0_ok 31 (62, .iload 6, 2) rfl
def dX6_smoke_q1 : List (Nat × (Instr × Nat)) := [(64, .aload 8, 2), (66, .invokevirtual 145, 3), (69, .imul, 1), (70, .bipush 100, 2), (72, .idiv, 1), (73, .istore 9, 2), (75, .iload 6, 2), (77, .iload 9, 2), (79, .isub, 1), (80, .istore 6, 2), (82, .aload 8, 2), (84, .aload 5, 2), (86, .if_acmp .ne 7, 3), (89, .iload 9, 2), (91, .istore 7, 2), (93, .aload 8, 2), (95, .getfield 126, 3), (98, .astore 8, 2), (100, .goto (-43), 3), (103, .iload_n 3, 1), (104, .ifCond .ne 8, 3), (107, .iload 7, 2), (109, .goto 5, 3), (112, .iload 6, 2), (114, .ireturn, 1)]
set_option maxRecDepth 100000 in
theorem dX6_smoke_q1_ok : ax_decs cX6_smoke dX6_smoke_q1 = true := by decide +kernel
theorem dX6_smoke_64 : decode cX6_smoke 64 = .ok (.aload 8, 2) := ax_dec dX6_smoke_q1_ok 0 (64, .aload 8, 2) rfl
theorem dX6_smoke_66 : decode cX6_smoke 66 = .ok (.invokevirtual 145, 3) := ax_dec dX6_smoke_q1_ok 1 (66, .invokevirtual 145, 3) rfl
theorem dX6_smoke_69 : decode cX6_smoke 69 = .ok (.imul, 1) := ax_dec dX6_smoke_q1_ok 2 (69, .imul, 1) rfl
theorem dX6_smoke_70 : decode cX6_smoke 70 = .ok (.bipush 100, 2) := ax_dec dX6_smoke_q1_ok 3 (70, .bipush 100, 2) rfl
theorem dX6_smoke_72 : decode cX6_smoke 72 = .ok (.idiv, 1) := ax_dec dX6_smoke_q1_ok 4 (72, .idiv, 1) rfl
theorem dX6_smoke_73 : decode cX6_smoke 73 = .ok (.istore 9, 2) := ax_dec dX6_smoke_q1_ok 5 (73, .istore 9, 2) rfl
theorem dX6_smoke_75 : decode cX6_smoke 75 = .ok (.iload 6, 2) := ax_dec dX6_smoke_q1_ok 6 (75, .iload 6, 2) rfl
theorem dX6_smoke_77 : decode cX6_smoke 77 = .ok (.iload 9, 2) := ax_dec dX6_smoke_q1_ok 7 (77, .iload 9, 2) rfl
theorem dX6_smoke_79 : decode cX6_smoke 79 = .ok (.isub, 1) := ax_dec dX6_smoke_q1_ok 8 (79, .isub, 1) rfl
theorem dX6_smoke_80 : decode cX6_smoke 80 = .ok (.istore 6, 2) := ax_dec dX6_smoke_q1_ok 9 (80, .istore 6, 2) rfl
theorem dX6_smoke_82 : decode cX6_smoke 82 = .ok (.aload 8, 2) := ax_dec dX6_smoke_q1_ok 10 (82, .aload 8, 2) rfl
theorem dX6_smoke_84 : decode cX6_smoke 84 = .ok (.aload 5, 2) := ax_dec dX6_smoke_q1_ok 11 (84, .aload 5, 2) rfl
theorem dX6_smoke_86 : decode cX6_smoke 86 = .ok (.if_acmp .ne 7, 3) := ax_dec dX6_smoke_q1_ok 12 (86, .if_acmp .ne 7, 3) rfl
theorem dX6_smoke_89 : decode cX6_smoke 89 = .ok (.iload 9, 2) := ax_dec dX6_smoke_q1_ok 13 (89, .iload 9, 2) rfl
theorem dX6_smoke_91 : decode cX6_smoke 91 = .ok (.istore 7, 2) := ax_dec dX6_smoke_q1_ok 14 (91, .istore 7, 2) rfl
theorem dX6_smoke_93 : decode cX6_smoke 93 = .ok (.aload 8, 2) := ax_dec dX6_smoke_q1_ok 15 (93, .aload 8, 2) rfl
theorem dX6_smoke_95 : decode cX6_smoke 95 = .ok (.getfield 126, 3) := ax_dec dX6_smoke_q1_ok 16 (95, .getfield 126, 3) rfl
theorem dX6_smoke_98 : decode cX6_smoke 98 = .ok (.astore 8, 2) := ax_dec dX6_smoke_q1_ok 17 (98, .astore 8, 2) rfl
theorem dX6_smoke_100 : decode cX6_smoke 100 = .ok (.goto (-43), 3) := ax_dec dX6_smoke_q1_ok 18 (100, .goto (-43), 3) rfl
theorem dX6_smoke_103 : decode cX6_smoke 103 = .ok (.iload_n 3, 1) := ax_dec dX6_smoke_q1_ok 19 (103, .iload_n 3, 1) rfl
theorem dX6_smoke_104 : decode cX6_smoke 104 = .ok (.ifCond .ne 8, 3) := ax_dec dX6_smoke_q1_ok 20 (104, .ifCond .ne 8, 3) rfl
theorem dX6_smoke_107 : decode cX6_smoke 107 = .ok (.iload 7, 2) := ax_dec dX6_smoke_q1_ok 21 (107, .iload 7, 2) rfl
theorem dX6_smoke_109 : decode cX6_smoke 109 = .ok (.goto 5, 3) := ax_dec dX6_smoke_q1_ok 22 (109, .goto 5, 3) rfl
theorem dX6_smoke_112 : decode cX6_smoke 112 = .ok (.iload 6, 2) := ax_dec dX6_smoke_q1_ok 23 (112, .iload 6, 2) rfl
theorem dX6_smoke_114 : decode cX6_smoke 114 = .ok (.ireturn, 1) := ax_dec dX6_smoke_q1_ok 24 (114, .ireturn, 1) rfl
def dX6_draw_q0 : List (Nat × (Instr × Nat)) := [(0, .aload_n 0, 1), (1, .getfield 55, 3), (4, .iload_n 1, 1), (5, .invokevirtual 164, 3), (8, .astore_n 3, 1), (9, .aload_n 3, 1), (10, .ifnull 13, 3), (13, .iload_n 2, 1), (14, .iconst 0, 1), (15, .bipush 99, 2), (17, .invokestatic 76, 3), (20, .ifCond .ne 6, 3), (23, .ldc 195, 2), (25, .ireturn, 1), (26, .aload_n 3, 1), (27, .invokevirtual 196, 3), (30, .iload_n 2, 1), (31, .isub, 1), (32, .ireturn, 1)]
set_option maxRecDepth 100000 in
theorem dX6_draw_q0_ok : ax_decs cX6_draw dX6_draw_q0 = true := by decide +kernel
theorem dX6_draw_0 : decode cX6_draw 0 = .ok (.aload_n 0, 1) := ax_dec dX6_draw_q0_ok 0 (0, .aload_n 0, 1) rfl
theorem dX6_draw_1 : decode cX6_draw 1 = .ok (.getfield 55, 3) := ax_dec dX6_draw_q0_ok 1 (1, .getfield 55, 3) rfl
theorem dX6_draw_4 : decode cX6_draw 4 = .ok (.iload_n 1, 1) := ax_dec dX6_draw_q0_ok 2 (4, .iload_n 1, 1) rfl
theorem dX6_draw_5 : decode cX6_draw 5 = .ok (.invokevirtual 164, 3) := ax_dec dX6_draw_q0_ok 3 (5, .invokevirtual 164, 3) rfl
theorem dX6_draw_8 : decode cX6_draw 8 = .ok (.astore_n 3, 1) := ax_dec dX6_draw_q0_ok 4 (8, .astore_n 3, 1) rfl
theorem dX6_draw_9 : decode cX6_draw 9 = .ok (.aload_n 3, 1) := ax_dec dX6_draw_q0_ok 5 (9, .aload_n 3, 1) rfl
theorem dX6_draw_10 : decode cX6_draw 10 = .ok (.ifnull 13, 3) := ax_dec dX6_draw_q0_ok 6 (10, .ifnull 13, 3) rfl
theorem dX6_draw_13 : decode cX6_draw 13 = .ok (.iload_n 2, 1) := ax_dec dX6_draw_q0_ok 7 (13, .iload_n 2, 1) rfl
theorem dX6_draw_14 : decode cX6_draw 14 = .ok (.iconst 0, 1) := ax_dec dX6_draw_q0_ok 8 (14, .iconst 0, 1) rfl
theorem dX6_draw_15 : decode cX6_draw 15 = .ok (.bipush 99, 2) := ax_dec dX6_draw_q0_ok 9 (15, .bipush 99, 2) rfl
theorem dX6_draw_17 : decode cX6_draw 17 = .ok (.invokestatic 76, 3) := ax_dec dX6_draw_q0_ok 10 (17, .invokestatic 76, 3) rfl
theorem dX6_draw_20 : decode cX6_draw 20 = .ok (.ifCond .ne 6, 3) := ax_dec dX6_draw_q0_ok 11 (20, .ifCond .ne 6, 3) rfl
theorem dX6_draw_23 : decode cX6_draw 23 = .ok (.ldc 195, 2) := ax_dec dX6_draw_q0_ok 12 (23, .ldc 195, 2) rfl
theorem dX6_draw_25 : decode cX6_draw 25 = .ok (.ireturn, 1) := ax_dec dX6_draw_q0_ok 13 (25, .ireturn, 1) rfl
theorem dX6_draw_26 : decode cX6_draw 26 = .ok (.aload_n 3, 1) := ax_dec dX6_draw_q0_ok 14 (26, .aload_n 3, 1) rfl
theorem dX6_draw_27 : decode cX6_draw 27 = .ok (.invokevirtual 196, 3) := ax_dec dX6_draw_q0_ok 15 (27, .invokevirtual 196, 3) rfl
theorem dX6_draw_30 : decode cX6_draw 30 = .ok (.iload_n 2, 1) := ax_dec dX6_draw_q0_ok 16 (30, .iload_n 2, 1) rfl
theorem dX6_draw_31 : decode cX6_draw 31 = .ok (.isub, 1) := ax_dec dX6_draw_q0_ok 17 (31, .isub, 1) rfl
theorem dX6_draw_32 : decode cX6_draw 32 = .ok (.ireturn, 1) := ax_dec dX6_draw_q0_ok 18 (32, .ireturn, 1) rfl
def dX6_smokes_q0 : List (Nat × (Instr × Nat)) := [(0, .iload_n 1, 1), (1, .iconst 0, 1), (2, .bipush 99, 2), (4, .invokestatic 76, 3), (7, .ifCond .ne 6, 3), (10, .bipush (-2), 2), (12, .ireturn, 1), (13, .iconst 0, 1), (14, .istore_n 2, 1), (15, .iconst 0, 1), (16, .istore_n 3, 1), (17, .iload_n 3, 1), (18, .bipush 10, 2), (20, .if_icmp .ge 39, 3), (23, .aload_n 0, 1), (24, .getfield 55, 3), (27, .iload_n 3, 1), (28, .invokevirtual 164, 3), (31, .astore 4, 2), (33, .aload 4, 2), (35, .ifnull 18, 3), (38, .aload 4, 2), (40, .invokevirtual 196, 3), (43, .iload_n 1, 1), (44, .if_icmp .ge 9, 3), (47, .iload_n 2, 1), (48, .iconst 1, 1), (49, .iload_n 3, 1), (50, .ishl, 1), (51, .ior, 1), (52, .istore_n 2, 1), (53, .iinc 3 1, 3)]
set_option maxRecDepth 100000 in
theorem dX6_smokes_q0_ok : ax_decs cX6_smokes dX6_smokes_q0 = true := by decide +kernel
theorem dX6_smokes_0 : decode cX6_smokes 0 = .ok (.iload_n 1, 1) := ax_dec dX6_smokes_q0_ok 0 (0, .iload_n 1, 1) rfl
theorem dX6_smokes_1 : decode cX6_smokes 1 = .ok (.iconst 0, 1) := ax_dec dX6_smokes_q0_ok 1 (1, .iconst 0, 1) rfl
theorem dX6_smokes_2 : decode cX6_smokes 2 = .ok (.bipush 99, 2) := ax_dec dX6_smokes_q0_ok 2 (2, .bipush 99, 2) rfl
theorem dX6_smokes_4 : decode cX6_smokes 4 = .ok (.invokestatic 76, 3) := ax_dec dX6_smokes_q0_ok 3 (4, .invokestatic 76, 3) rfl
theorem dX6_smokes_7 : decode cX6_smokes 7 = .ok (.ifCond .ne 6, 3) := ax_dec dX6_smokes_q0_ok 4 (7, .ifCond .ne 6, 3) rfl
theorem dX6_smokes_10 : decode cX6_smokes 10 = .ok (.bipush (-2), 2) := ax_dec dX6_smokes_q0_ok 5 (10, .bipush (-2), 2) rfl
theorem dX6_smokes_12 : decode cX6_smokes 12 = .ok (.ireturn, 1) := ax_dec dX6_smokes_q0_ok 6 (12, .ireturn, 1) rfl
theorem dX6_smokes_13 : decode cX6_smokes 13 = .ok (.iconst 0, 1) := ax_dec dX6_smokes_q0_ok 7 (13, .iconst 0, 1) rfl
theorem dX6_smokes_14 : decode cX6_smokes 14 = .ok (.istore_n 2, 1) := ax_dec dX6_smokes_q0_ok 8 (14, .istore_n 2, 1) rfl
theorem dX6_smokes_15 : decode cX6_smokes 15 = .ok (.iconst 0, 1) := ax_dec dX6_smokes_q0_ok 9 (15, .iconst 0, 1) rfl
theorem dX6_smokes_16 : decode cX6_smokes 16 = .ok (.istore_n 3, 1) := ax_dec dX6_smokes_q0_ok 10 (16, .istore_n 3, 1) rfl
theorem dX6_smokes_17 : decode cX6_smokes 17 = .ok (.iload_n 3, 1) := ax_dec dX6_smokes_q0_ok 11 (17, .iload_n 3, 1) rfl
theorem dX6_smokes_18 : decode cX6_smokes 18 = .ok (.bipush 10, 2) := ax_dec dX6_smokes_q0_ok 12 (18, .bipush 10, 2) rfl
theorem dX6_smokes_20 : decode cX6_smokes 20 = .ok (.if_icmp .ge 39, 3) := ax_dec dX6_smokes_q0_ok 13 (20, .if_icmp .ge 39, 3) rfl
theorem dX6_smokes_23 : decode cX6_smokes 23 = .ok (.aload_n 0, 1) := ax_dec dX6_smokes_q0_ok 14 (23, .aload_n 0, 1) rfl
theorem dX6_smokes_24 : decode cX6_smokes 24 = .ok (.getfield 55, 3) := ax_dec dX6_smokes_q0_ok 15 (24, .getfield 55, 3) rfl
theorem dX6_smokes_27 : decode cX6_smokes 27 = .ok (.iload_n 3, 1) := ax_dec dX6_smokes_q0_ok 16 (27, .iload_n 3, 1) rfl
theorem dX6_smokes_28 : decode cX6_smokes 28 = .ok (.invokevirtual 164, 3) := ax_dec dX6_smokes_q0_ok 17 (28, .invokevirtual 164, 3) rfl
theorem dX6_smokes_31 : decode cX6_smokes 31 = .ok (.astore 4, 2) := ax_dec dX6_smokes_q0_ok 18 (31, .astore 4, 2) rfl
theorem dX6_smokes_33 : decode cX6_smokes 33 = .ok (.aload 4, 2) := ax_dec dX6_smokes_q0_ok 19 (33, .aload 4, 2) rfl
theorem dX6_smokes_35 : decode cX6_smokes 35 = .ok (.ifnull 18, 3) := ax_dec dX6_smokes_q0_ok 20 (35, .ifnull 18, 3) rfl
theorem dX6_smokes_38 : decode cX6_smokes 38 = .ok (.aload 4, 2) := ax_dec dX6_smokes_q0_ok 21 (38, .aload 4, 2) rfl
theorem dX6_smokes_40 : decode cX6_smokes 40 = .ok (.invokevirtual 196, 3) := ax_dec dX6_smokes_q0_ok 22 (40, .invokevirtual 196, 3) rfl
theorem dX6_smokes_43 : decode cX6_smokes 43 = .ok (.iload_n 1, 1) := ax_dec dX6_smokes_q0_ok 23 (43, .iload_n 1, 1) rfl
theorem dX6_smokes_44 : decode cX6_smokes 44 = .ok (.if_icmp .ge 9, 3) := ax_dec dX6_smokes_q0_ok 24 (44, .if_icmp .ge 9, 3) rfl
theorem dX6_smokes_47 : decode cX6_smokes 47 = .ok (.iload_n 2, 1) := ax_dec dX6_smokes_q0_ok 25 (47, .iload_n 2, 1) rfl
theorem dX6_smokes_48 : decode cX6_smokes 48 = .ok (.iconst 1, 1) := ax_dec dX6_smokes_q0_ok 26 (48, .iconst 1, 1) rfl
theorem dX6_smokes_49 : decode cX6_smokes 49 = .ok (.iload_n 3, 1) := ax_dec dX6_smokes_q0_ok 27 (49, .iload_n 3, 1) rfl
theorem dX6_smokes_50 : decode cX6_smokes 50 = .ok (.ishl, 1) := ax_dec dX6_smokes_q0_ok 28 (50, .ishl, 1) rfl
theorem dX6_smokes_51 : decode cX6_smokes 51 = .ok (.ior, 1) := ax_dec dX6_smokes_q0_ok 29 (51, .ior, 1) rfl
theorem dX6_smokes_52 : decode cX6_smokes 52 = .ok (.istore_n 2, 1) := ax_dec dX6_smokes_q0_ok 30 (52, .istore_n 2, 1) rfl
theorem dX6_smokes_53 : decode cX6_smokes 53 = .ok (.iinc 3 1, 3) := ax_dec dX6_smokes_q0_ok 31 (53, .iinc 3 1, 3) rfl
def dX6_smokes_q1 : List (Nat × (Instr × Nat)) := [(56, .goto (-39), 3), (59, .iload_n 2, 1), (60, .ireturn, 1)]
set_option maxRecDepth 100000 in
theorem dX6_smokes_q1_ok : ax_decs cX6_smokes dX6_smokes_q1 = true := by decide +kernel
theorem dX6_smokes_56 : decode cX6_smokes 56 = .ok (.goto (-39), 3) := ax_dec dX6_smokes_q1_ok 0 (56, .goto (-39), 3) rfl
theorem dX6_smokes_59 : decode cX6_smokes 59 = .ok (.iload_n 2, 1) := ax_dec dX6_smokes_q1_ok 1 (59, .iload_n 2, 1) rfl
theorem dX6_smokes_60 : decode cX6_smokes 60 = .ok (.ireturn, 1) := ax_dec dX6_smokes_q1_ok 2 (60, .ireturn, 1) rfl
def dX6_fine_q0 : List (Nat × (Instr × Nat)) := [(0, .aload_n 0, 1), (1, .getfield 55, 3), (4, .iload_n 1, 1), (5, .invokevirtual 164, 3), (8, .astore 4, 2), (10, .aload 4, 2), (12, .ifnull 23, 3), (15, .iload_n 2, 1), (16, .iconst 0, 1), (17, .bipush 40, 2), (19, .invokestatic 76, 3), (22, .ifCond .eq 13, 3), (25, .iload_n 3, 1), (26, .iconst 0, 1), (27, .bipush 99, 2), (29, .invokestatic 76, 3), (32, .ifCond .ne 7, 3), (35, .ldc2_w 199, 3), (38, .lreturn, 1), (39, .ldc2_w 201, 3), (42, .lstore 5, 2), (44, .aload_n 0, 1), (45, .getfield 55, 3), (48, .invokevirtual 203, 3), (51, .iconst 0, 1), (52, .istore 7, 2), (54, .iload 7, 2), (56, .iload_n 2, 1), (57, .if_icmp .ge 23, 3), (60, .aload_n 0, 1), (61, .getfield 55, 3), (64, .lload 5, 2)]
set_option maxRecDepth 100000 in
theorem dX6_fine_q0_ok : ax_decs cX6_fine dX6_fine_q0 = true := by decide +kernel
theorem dX6_fine_0 : decode cX6_fine 0 = .ok (.aload_n 0, 1) := ax_dec dX6_fine_q0_ok 0 (0, .aload_n 0, 1) rfl
theorem dX6_fine_1 : decode cX6_fine 1 = .ok (.getfield 55, 3) := ax_dec dX6_fine_q0_ok 1 (1, .getfield 55, 3) rfl
theorem dX6_fine_4 : decode cX6_fine 4 = .ok (.iload_n 1, 1) := ax_dec dX6_fine_q0_ok 2 (4, .iload_n 1, 1) rfl
theorem dX6_fine_5 : decode cX6_fine 5 = .ok (.invokevirtual 164, 3) := ax_dec dX6_fine_q0_ok 3 (5, .invokevirtual 164, 3) rfl
theorem dX6_fine_8 : decode cX6_fine 8 = .ok (.astore 4, 2) := ax_dec dX6_fine_q0_ok 4 (8, .astore 4, 2) rfl
theorem dX6_fine_10 : decode cX6_fine 10 = .ok (.aload 4, 2) := ax_dec dX6_fine_q0_ok 5 (10, .aload 4, 2) rfl
theorem dX6_fine_12 : decode cX6_fine 12 = .ok (.ifnull 23, 3) := ax_dec dX6_fine_q0_ok 6 (12, .ifnull 23, 3) rfl
theorem dX6_fine_15 : decode cX6_fine 15 = .ok (.iload_n 2, 1) := ax_dec dX6_fine_q0_ok 7 (15, .iload_n 2, 1) rfl
theorem dX6_fine_16 : decode cX6_fine 16 = .ok (.iconst 0, 1) := ax_dec dX6_fine_q0_ok 8 (16, .iconst 0, 1) rfl
theorem dX6_fine_17 : decode cX6_fine 17 = .ok (.bipush 40, 2) := ax_dec dX6_fine_q0_ok 9 (17, .bipush 40, 2) rfl
theorem dX6_fine_19 : decode cX6_fine 19 = .ok (.invokestatic 76, 3) := ax_dec dX6_fine_q0_ok 10 (19, .invokestatic 76, 3) rfl
theorem dX6_fine_22 : decode cX6_fine 22 = .ok (.ifCond .eq 13, 3) := ax_dec dX6_fine_q0_ok 11 (22, .ifCond .eq 13, 3) rfl
theorem dX6_fine_25 : decode cX6_fine 25 = .ok (.iload_n 3, 1) := ax_dec dX6_fine_q0_ok 12 (25, .iload_n 3, 1) rfl
theorem dX6_fine_26 : decode cX6_fine 26 = .ok (.iconst 0, 1) := ax_dec dX6_fine_q0_ok 13 (26, .iconst 0, 1) rfl
theorem dX6_fine_27 : decode cX6_fine 27 = .ok (.bipush 99, 2) := ax_dec dX6_fine_q0_ok 14 (27, .bipush 99, 2) rfl
theorem dX6_fine_29 : decode cX6_fine 29 = .ok (.invokestatic 76, 3) := ax_dec dX6_fine_q0_ok 15 (29, .invokestatic 76, 3) rfl
theorem dX6_fine_32 : decode cX6_fine 32 = .ok (.ifCond .ne 7, 3) := ax_dec dX6_fine_q0_ok 16 (32, .ifCond .ne 7, 3) rfl
theorem dX6_fine_35 : decode cX6_fine 35 = .ok (.ldc2_w 199, 3) := ax_dec dX6_fine_q0_ok 17 (35, .ldc2_w 199, 3) rfl
theorem dX6_fine_38 : decode cX6_fine 38 = .ok (.lreturn, 1) := ax_dec dX6_fine_q0_ok 18 (38, .lreturn, 1) rfl
theorem dX6_fine_39 : decode cX6_fine 39 = .ok (.ldc2_w 201, 3) := ax_dec dX6_fine_q0_ok 19 (39, .ldc2_w 201, 3) rfl
theorem dX6_fine_42 : decode cX6_fine 42 = .ok (.lstore 5, 2) := ax_dec dX6_fine_q0_ok 20 (42, .lstore 5, 2) rfl
theorem dX6_fine_44 : decode cX6_fine 44 = .ok (.aload_n 0, 1) := ax_dec dX6_fine_q0_ok 21 (44, .aload_n 0, 1) rfl
theorem dX6_fine_45 : decode cX6_fine 45 = .ok (.getfield 55, 3) := ax_dec dX6_fine_q0_ok 22 (45, .getfield 55, 3) rfl
theorem dX6_fine_48 : decode cX6_fine 48 = .ok (.invokevirtual 203, 3) := ax_dec dX6_fine_q0_ok 23 (48, .invokevirtual 203, 3) rfl
theorem dX6_fine_51 : decode cX6_fine 51 = .ok (.iconst 0, 1) := ax_dec dX6_fine_q0_ok 24 (51, .iconst 0, 1) rfl
theorem dX6_fine_52 : decode cX6_fine 52 = .ok (.istore 7, 2) := ax_dec dX6_fine_q0_ok 25 (52, .istore 7, 2) rfl
theorem dX6_fine_54 : decode cX6_fine 54 = .ok (.iload 7, 2) := ax_dec dX6_fine_q0_ok 26 (54, .iload 7, 2) rfl
theorem dX6_fine_56 : decode cX6_fine 56 = .ok (.iload_n 2, 1) := ax_dec dX6_fine_q0_ok 27 (56, .iload_n 2, 1) rfl
theorem dX6_fine_57 : decode cX6_fine 57 = .ok (.if_icmp .ge 23, 3) := ax_dec dX6_fine_q0_ok 28 (57, .if_icmp .ge 23, 3) rfl
theorem dX6_fine_60 : decode cX6_fine 60 = .ok (.aload_n 0, 1) := ax_dec dX6_fine_q0_ok 29 (60, .aload_n 0, 1) rfl
theorem dX6_fine_61 : decode cX6_fine 61 = .ok (.getfield 55, 3) := ax_dec dX6_fine_q0_ok 30 (61, .getfield 55, 3) rfl
theorem dX6_fine_64 : decode cX6_fine 64 = .ok (.lload 5, 2) := ax_dec dX6_fine_q0_ok 31 (64, .lload 5, 2) rfl
def dX6_fine_q1 : List (Nat × (Instr × Nat)) := [(66, .aload 4, 2), (68, .iload_n 3, 1), (69, .invokevirtual 206, 3), (72, .lstore 5, 2), (74, .iinc 7 1, 3), (77, .goto (-23), 3), (80, .aload_n 0, 1), (81, .getfield 55, 3), (84, .invokevirtual 210, 3), (87, .lload 5, 2), (89, .lreturn, 1)]
set_option maxRecDepth 100000 in
theorem dX6_fine_q1_ok : ax_decs cX6_fine dX6_fine_q1 = true := by decide +kernel
theorem dX6_fine_66 : decode cX6_fine 66 = .ok (.aload 4, 2) := ax_dec dX6_fine_q1_ok 0 (66, .aload 4, 2) rfl
theorem dX6_fine_68 : decode cX6_fine 68 = .ok (.iload_n 3, 1) := ax_dec dX6_fine_q1_ok 1 (68, .iload_n 3, 1) rfl
theorem dX6_fine_69 : decode cX6_fine 69 = .ok (.invokevirtual 206, 3) := ax_dec dX6_fine_q1_ok 2 (69, .invokevirtual 206, 3) rfl
theorem dX6_fine_72 : decode cX6_fine 72 = .ok (.lstore 5, 2) := ax_dec dX6_fine_q1_ok 3 (72, .lstore 5, 2) rfl
theorem dX6_fine_74 : decode cX6_fine 74 = .ok (.iinc 7 1, 3) := ax_dec dX6_fine_q1_ok 4 (74, .iinc 7 1, 3) rfl
theorem dX6_fine_77 : decode cX6_fine 77 = .ok (.goto (-23), 3) := ax_dec dX6_fine_q1_ok 5 (77, .goto (-23), 3) rfl
theorem dX6_fine_80 : decode cX6_fine 80 = .ok (.aload_n 0, 1) := ax_dec dX6_fine_q1_ok 6 (80, .aload_n 0, 1) rfl
theorem dX6_fine_81 : decode cX6_fine 81 = .ok (.getfield 55, 3) := ax_dec dX6_fine_q1_ok 7 (81, .getfield 55, 3) rfl
theorem dX6_fine_84 : decode cX6_fine 84 = .ok (.invokevirtual 210, 3) := ax_dec dX6_fine_q1_ok 8 (84, .invokevirtual 210, 3) rfl
theorem dX6_fine_87 : decode cX6_fine 87 = .ok (.lload 5, 2) := ax_dec dX6_fine_q1_ok 9 (87, .lload 5, 2) rfl
theorem dX6_fine_89 : decode cX6_fine 89 = .ok (.lreturn, 1) := ax_dec dX6_fine_q1_ok 10 (89, .lreturn, 1) rfl
def dX6_when_q0 : List (Nat × (Instr × Nat)) := [(0, .aload_n 0, 1), (1, .getfield 55, 3), (4, .iload_n 1, 1), (5, .invokevirtual 164, 3), (8, .astore 4, 2), (10, .aload 4, 2), (12, .ifnonnull 6, 3), (15, .bipush (-5), 2), (17, .ireturn, 1), (18, .iload_n 2, 1), (19, .iconst 0, 1), (20, .bipush 99, 2), (22, .invokestatic 76, 3), (25, .ifCond .eq 13, 3), (28, .iload_n 3, 1), (29, .iconst 0, 1), (30, .bipush 99, 2), (32, .invokestatic 76, 3), (35, .ifCond .ne 6, 3), (38, .bipush (-7), 2), (40, .ireturn, 1), (41, .bipush 100, 2), (43, .iload_n 3, 1), (44, .isub, 1), (45, .i2l, 1), (46, .ldc2_w 213, 3), (49, .lmul, 1), (50, .lstore 5, 2), (52, .ldc2_w 201, 3), (55, .lstore 7, 2), (57, .iconst (-1), 1), (58, .istore 9, 2)]
set_option maxRecDepth 100000 in
theorem dX6_when_q0_ok : ax_decs cX6_when dX6_when_q0 = true := by decide +kernel
theorem dX6_when_0 : decode cX6_when 0 = .ok (.aload_n 0, 1) := ax_dec dX6_when_q0_ok 0 (0, .aload_n 0, 1) rfl
theorem dX6_when_1 : decode cX6_when 1 = .ok (.getfield 55, 3) := ax_dec dX6_when_q0_ok 1 (1, .getfield 55, 3) rfl
theorem dX6_when_4 : decode cX6_when 4 = .ok (.iload_n 1, 1) := ax_dec dX6_when_q0_ok 2 (4, .iload_n 1, 1) rfl
theorem dX6_when_5 : decode cX6_when 5 = .ok (.invokevirtual 164, 3) := ax_dec dX6_when_q0_ok 3 (5, .invokevirtual 164, 3) rfl
theorem dX6_when_8 : decode cX6_when 8 = .ok (.astore 4, 2) := ax_dec dX6_when_q0_ok 4 (8, .astore 4, 2) rfl
theorem dX6_when_10 : decode cX6_when 10 = .ok (.aload 4, 2) := ax_dec dX6_when_q0_ok 5 (10, .aload 4, 2) rfl
theorem dX6_when_12 : decode cX6_when 12 = .ok (.ifnonnull 6, 3) := ax_dec dX6_when_q0_ok 6 (12, .ifnonnull 6, 3) rfl
theorem dX6_when_15 : decode cX6_when 15 = .ok (.bipush (-5), 2) := ax_dec dX6_when_q0_ok 7 (15, .bipush (-5), 2) rfl
theorem dX6_when_17 : decode cX6_when 17 = .ok (.ireturn, 1) := ax_dec dX6_when_q0_ok 8 (17, .ireturn, 1) rfl
theorem dX6_when_18 : decode cX6_when 18 = .ok (.iload_n 2, 1) := ax_dec dX6_when_q0_ok 9 (18, .iload_n 2, 1) rfl
theorem dX6_when_19 : decode cX6_when 19 = .ok (.iconst 0, 1) := ax_dec dX6_when_q0_ok 10 (19, .iconst 0, 1) rfl
theorem dX6_when_20 : decode cX6_when 20 = .ok (.bipush 99, 2) := ax_dec dX6_when_q0_ok 11 (20, .bipush 99, 2) rfl
theorem dX6_when_22 : decode cX6_when 22 = .ok (.invokestatic 76, 3) := ax_dec dX6_when_q0_ok 12 (22, .invokestatic 76, 3) rfl
theorem dX6_when_25 : decode cX6_when 25 = .ok (.ifCond .eq 13, 3) := ax_dec dX6_when_q0_ok 13 (25, .ifCond .eq 13, 3) rfl
theorem dX6_when_28 : decode cX6_when 28 = .ok (.iload_n 3, 1) := ax_dec dX6_when_q0_ok 14 (28, .iload_n 3, 1) rfl
theorem dX6_when_29 : decode cX6_when 29 = .ok (.iconst 0, 1) := ax_dec dX6_when_q0_ok 15 (29, .iconst 0, 1) rfl
theorem dX6_when_30 : decode cX6_when 30 = .ok (.bipush 99, 2) := ax_dec dX6_when_q0_ok 16 (30, .bipush 99, 2) rfl
theorem dX6_when_32 : decode cX6_when 32 = .ok (.invokestatic 76, 3) := ax_dec dX6_when_q0_ok 17 (32, .invokestatic 76, 3) rfl
theorem dX6_when_35 : decode cX6_when 35 = .ok (.ifCond .ne 6, 3) := ax_dec dX6_when_q0_ok 18 (35, .ifCond .ne 6, 3) rfl
theorem dX6_when_38 : decode cX6_when 38 = .ok (.bipush (-7), 2) := ax_dec dX6_when_q0_ok 19 (38, .bipush (-7), 2) rfl
theorem dX6_when_40 : decode cX6_when 40 = .ok (.ireturn, 1) := ax_dec dX6_when_q0_ok 20 (40, .ireturn, 1) rfl
theorem dX6_when_41 : decode cX6_when 41 = .ok (.bipush 100, 2) := ax_dec dX6_when_q0_ok 21 (41, .bipush 100, 2) rfl
theorem dX6_when_43 : decode cX6_when 43 = .ok (.iload_n 3, 1) := ax_dec dX6_when_q0_ok 22 (43, .iload_n 3, 1) rfl
theorem dX6_when_44 : decode cX6_when 44 = .ok (.isub, 1) := ax_dec dX6_when_q0_ok 23 (44, .isub, 1) rfl
theorem dX6_when_45 : decode cX6_when 45 = .ok (.i2l, 1) := ax_dec dX6_when_q0_ok 24 (45, .i2l, 1) rfl
theorem dX6_when_46 : decode cX6_when 46 = .ok (.ldc2_w 213, 3) := ax_dec dX6_when_q0_ok 25 (46, .ldc2_w 213, 3) rfl
theorem dX6_when_49 : decode cX6_when 49 = .ok (.lmul, 1) := ax_dec dX6_when_q0_ok 26 (49, .lmul, 1) rfl
theorem dX6_when_50 : decode cX6_when 50 = .ok (.lstore 5, 2) := ax_dec dX6_when_q0_ok 27 (50, .lstore 5, 2) rfl
theorem dX6_when_52 : decode cX6_when 52 = .ok (.ldc2_w 201, 3) := ax_dec dX6_when_q0_ok 28 (52, .ldc2_w 201, 3) rfl
theorem dX6_when_55 : decode cX6_when 55 = .ok (.lstore 7, 2) := ax_dec dX6_when_q0_ok 29 (55, .lstore 7, 2) rfl
theorem dX6_when_57 : decode cX6_when 57 = .ok (.iconst (-1), 1) := ax_dec dX6_when_q0_ok 30 (57, .iconst (-1), 1) rfl
theorem dX6_when_58 : decode cX6_when 58 = .ok (.istore 9, 2) := ax_dec dX6_when_q0_ok 31 (58, .istore 9, 2) rfl
def dX6_when_q1 : List (Nat × (Instr × Nat)) := [(60, .aload_n 0, 1), (61, .getfield 55, 3), (64, .invokevirtual 203, 3), (67, .iconst 1, 1), (68, .istore 10, 2), (70, .iload 10, 2), (72, .bipush 40, 2), (74, .if_icmp .gt 41, 3), (77, .iload 9, 2), (79, .iconst (-1), 1), (80, .if_icmp .ne 35, 3), (83, .aload_n 0, 1), (84, .getfield 55, 3), (87, .lload 7, 2), (89, .aload 4, 2), (91, .iload_n 2, 1), (92, .invokevirtual 206, 3), (95, .lstore 7, 2), (97, .lload 7, 2), (99, .lload 5, 2), (101, .lcmp, 1), (102, .ifCond .ge 7, 3), (105, .iload 10, 2), (107, .istore 9, 2), (109, .iinc 10 1, 3), (112, .goto (-42), 3), (115, .aload_n 0, 1), (116, .getfield 55, 3), (119, .invokevirtual 210, 3), (122, .iload 9, 2), (124, .ireturn, 1)]
set_option maxRecDepth 100000 in
theorem dX6_when_q1_ok : ax_decs cX6_when dX6_when_q1 = true := by decide +kernel
theorem dX6_when_60 : decode cX6_when 60 = .ok (.aload_n 0, 1) := ax_dec dX6_when_q1_ok 0 (60, .aload_n 0, 1) rfl
theorem dX6_when_61 : decode cX6_when 61 = .ok (.getfield 55, 3) := ax_dec dX6_when_q1_ok 1 (61, .getfield 55, 3) rfl
theorem dX6_when_64 : decode cX6_when 64 = .ok (.invokevirtual 203, 3) := ax_dec dX6_when_q1_ok 2 (64, .invokevirtual 203, 3) rfl
theorem dX6_when_67 : decode cX6_when 67 = .ok (.iconst 1, 1) := ax_dec dX6_when_q1_ok 3 (67, .iconst 1, 1) rfl
theorem dX6_when_68 : decode cX6_when 68 = .ok (.istore 10, 2) := ax_dec dX6_when_q1_ok 4 (68, .istore 10, 2) rfl
theorem dX6_when_70 : decode cX6_when 70 = .ok (.iload 10, 2) := ax_dec dX6_when_q1_ok 5 (70, .iload 10, 2) rfl
theorem dX6_when_72 : decode cX6_when 72 = .ok (.bipush 40, 2) := ax_dec dX6_when_q1_ok 6 (72, .bipush 40, 2) rfl
theorem dX6_when_74 : decode cX6_when 74 = .ok (.if_icmp .gt 41, 3) := ax_dec dX6_when_q1_ok 7 (74, .if_icmp .gt 41, 3) rfl
theorem dX6_when_77 : decode cX6_when 77 = .ok (.iload 9, 2) := ax_dec dX6_when_q1_ok 8 (77, .iload 9, 2) rfl
theorem dX6_when_79 : decode cX6_when 79 = .ok (.iconst (-1), 1) := ax_dec dX6_when_q1_ok 9 (79, .iconst (-1), 1) rfl
theorem dX6_when_80 : decode cX6_when 80 = .ok (.if_icmp .ne 35, 3) := ax_dec dX6_when_q1_ok 10 (80, .if_icmp .ne 35, 3) rfl
theorem dX6_when_83 : decode cX6_when 83 = .ok (.aload_n 0, 1) := ax_dec dX6_when_q1_ok 11 (83, .aload_n 0, 1) rfl
theorem dX6_when_84 : decode cX6_when 84 = .ok (.getfield 55, 3) := ax_dec dX6_when_q1_ok 12 (84, .getfield 55, 3) rfl
theorem dX6_when_87 : decode cX6_when 87 = .ok (.lload 7, 2) := ax_dec dX6_when_q1_ok 13 (87, .lload 7, 2) rfl
theorem dX6_when_89 : decode cX6_when 89 = .ok (.aload 4, 2) := ax_dec dX6_when_q1_ok 14 (89, .aload 4, 2) rfl
theorem dX6_when_91 : decode cX6_when 91 = .ok (.iload_n 2, 1) := ax_dec dX6_when_q1_ok 15 (91, .iload_n 2, 1) rfl
theorem dX6_when_92 : decode cX6_when 92 = .ok (.invokevirtual 206, 3) := ax_dec dX6_when_q1_ok 16 (92, .invokevirtual 206, 3) rfl
theorem dX6_when_95 : decode cX6_when 95 = .ok (.lstore 7, 2) := ax_dec dX6_when_q1_ok 17 (95, .lstore 7, 2) rfl
theorem dX6_when_97 : decode cX6_when 97 = .ok (.lload 7, 2) := ax_dec dX6_when_q1_ok 18 (97, .lload 7, 2) rfl
theorem dX6_when_99 : decode cX6_when 99 = .ok (.lload 5, 2) := ax_dec dX6_when_q1_ok 19 (99, .lload 5, 2) rfl
theorem dX6_when_101 : decode cX6_when 101 = .ok (.lcmp, 1) := ax_dec dX6_when_q1_ok 20 (101, .lcmp, 1) rfl
theorem dX6_when_102 : decode cX6_when 102 = .ok (.ifCond .ge 7, 3) := ax_dec dX6_when_q1_ok 21 (102, .ifCond .ge 7, 3) rfl
theorem dX6_when_105 : decode cX6_when 105 = .ok (.iload 10, 2) := ax_dec dX6_when_q1_ok 22 (105, .iload 10, 2) rfl
theorem dX6_when_107 : decode cX6_when 107 = .ok (.istore 9, 2) := ax_dec dX6_when_q1_ok 23 (107, .istore 9, 2) rfl
theorem dX6_when_109 : decode cX6_when 109 = .ok (.iinc 10 1, 3) := ax_dec dX6_when_q1_ok 24 (109, .iinc 10 1, 3) rfl
theorem dX6_when_112 : decode cX6_when 112 = .ok (.goto (-42), 3) := ax_dec dX6_when_q1_ok 25 (112, .goto (-42), 3) rfl
theorem dX6_when_115 : decode cX6_when 115 = .ok (.aload_n 0, 1) := ax_dec dX6_when_q1_ok 26 (115, .aload_n 0, 1) rfl
theorem dX6_when_116 : decode cX6_when 116 = .ok (.getfield 55, 3) := ax_dec dX6_when_q1_ok 27 (116, .getfield 55, 3) rfl
theorem dX6_when_119 : decode cX6_when 119 = .ok (.invokevirtual 210, 3) := ax_dec dX6_when_q1_ok 28 (119, .invokevirtual 210, 3) rfl
theorem dX6_when_122 : decode cX6_when 122 = .ok (.iload 9, 2) := ax_dec dX6_when_q1_ok 29 (122, .iload 9, 2) rfl
theorem dX6_when_124 : decode cX6_when 124 = .ok (.ireturn, 1) := ax_dec dX6_when_q1_ok 30 (124, .ireturn, 1) rfl
def dX6_often_q0 : List (Nat × (Instr × Nat)) := [(0, .aload_n 0, 1), (1, .getfield 55, 3), (4, .iload_n 1, 1), (5, .invokevirtual 164, 3), (8, .astore 5, 2), (10, .aload 5, 2), (12, .ifnonnull 6, 3), (15, .bipush (-5), 2), (17, .ireturn, 1), (18, .iload_n 2, 1), (19, .iconst 0, 1), (20, .bipush 99, 2), (22, .invokestatic 76, 3), (25, .ifCond .eq 24, 3), (28, .iload_n 3, 1), (29, .iconst 0, 1), (30, .bipush 99, 2), (32, .invokestatic 76, 3), (35, .ifCond .eq 14, 3), (38, .iload 4, 2), (40, .iconst 0, 1), (41, .bipush 99, 2), (43, .invokestatic 76, 3), (46, .ifCond .ne 6, 3), (49, .bipush (-7), 2), (51, .ireturn, 1), (52, .bipush 24, 2), (54, .istore 6, 2), (56, .iload 6, 2), (58, .iconst 1, 1), (59, .if_icmp .lt 48, 3), (62, .aload_n 0, 1)]
set_option maxRecDepth 100000 in
theorem dX6_often_q0_ok : ax_decs cX6_often dX6_often_q0 = true := by decide +kernel
theorem dX6_often_0 : decode cX6_often 0 = .ok (.aload_n 0, 1) := ax_dec dX6_often_q0_ok 0 (0, .aload_n 0, 1) rfl
theorem dX6_often_1 : decode cX6_often 1 = .ok (.getfield 55, 3) := ax_dec dX6_often_q0_ok 1 (1, .getfield 55, 3) rfl
theorem dX6_often_4 : decode cX6_often 4 = .ok (.iload_n 1, 1) := ax_dec dX6_often_q0_ok 2 (4, .iload_n 1, 1) rfl
theorem dX6_often_5 : decode cX6_often 5 = .ok (.invokevirtual 164, 3) := ax_dec dX6_often_q0_ok 3 (5, .invokevirtual 164, 3) rfl
theorem dX6_often_8 : decode cX6_often 8 = .ok (.astore 5, 2) := ax_dec dX6_often_q0_ok 4 (8, .astore 5, 2) rfl
theorem dX6_often_10 : decode cX6_often 10 = .ok (.aload 5, 2) := ax_dec dX6_often_q0_ok 5 (10, .aload 5, 2) rfl
theorem dX6_often_12 : decode cX6_often 12 = .ok (.ifnonnull 6, 3) := ax_dec dX6_often_q0_ok 6 (12, .ifnonnull 6, 3) rfl
theorem dX6_often_15 : decode cX6_often 15 = .ok (.bipush (-5), 2) := ax_dec dX6_often_q0_ok 7 (15, .bipush (-5), 2) rfl
theorem dX6_often_17 : decode cX6_often 17 = .ok (.ireturn, 1) := ax_dec dX6_often_q0_ok 8 (17, .ireturn, 1) rfl
theorem dX6_often_18 : decode cX6_often 18 = .ok (.iload_n 2, 1) := ax_dec dX6_often_q0_ok 9 (18, .iload_n 2, 1) rfl
theorem dX6_often_19 : decode cX6_often 19 = .ok (.iconst 0, 1) := ax_dec dX6_often_q0_ok 10 (19, .iconst 0, 1) rfl
theorem dX6_often_20 : decode cX6_often 20 = .ok (.bipush 99, 2) := ax_dec dX6_often_q0_ok 11 (20, .bipush 99, 2) rfl
theorem dX6_often_22 : decode cX6_often 22 = .ok (.invokestatic 76, 3) := ax_dec dX6_often_q0_ok 12 (22, .invokestatic 76, 3) rfl
theorem dX6_often_25 : decode cX6_often 25 = .ok (.ifCond .eq 24, 3) := ax_dec dX6_often_q0_ok 13 (25, .ifCond .eq 24, 3) rfl
theorem dX6_often_28 : decode cX6_often 28 = .ok (.iload_n 3, 1) := ax_dec dX6_often_q0_ok 14 (28, .iload_n 3, 1) rfl
theorem dX6_often_29 : decode cX6_often 29 = .ok (.iconst 0, 1) := ax_dec dX6_often_q0_ok 15 (29, .iconst 0, 1) rfl
theorem dX6_often_30 : decode cX6_often 30 = .ok (.bipush 99, 2) := ax_dec dX6_often_q0_ok 16 (30, .bipush 99, 2) rfl
theorem dX6_often_32 : decode cX6_often 32 = .ok (.invokestatic 76, 3) := ax_dec dX6_often_q0_ok 17 (32, .invokestatic 76, 3) rfl
theorem dX6_often_35 : decode cX6_often 35 = .ok (.ifCond .eq 14, 3) := ax_dec dX6_often_q0_ok 18 (35, .ifCond .eq 14, 3) rfl
theorem dX6_often_38 : decode cX6_often 38 = .ok (.iload 4, 2) := ax_dec dX6_often_q0_ok 19 (38, .iload 4, 2) rfl
theorem dX6_often_40 : decode cX6_often 40 = .ok (.iconst 0, 1) := ax_dec dX6_often_q0_ok 20 (40, .iconst 0, 1) rfl
theorem dX6_often_41 : decode cX6_often 41 = .ok (.bipush 99, 2) := ax_dec dX6_often_q0_ok 21 (41, .bipush 99, 2) rfl
theorem dX6_often_43 : decode cX6_often 43 = .ok (.invokestatic 76, 3) := ax_dec dX6_often_q0_ok 22 (43, .invokestatic 76, 3) rfl
theorem dX6_often_46 : decode cX6_often 46 = .ok (.ifCond .ne 6, 3) := ax_dec dX6_often_q0_ok 23 (46, .ifCond .ne 6, 3) rfl
theorem dX6_often_49 : decode cX6_often 49 = .ok (.bipush (-7), 2) := ax_dec dX6_often_q0_ok 24 (49, .bipush (-7), 2) rfl
theorem dX6_often_51 : decode cX6_often 51 = .ok (.ireturn, 1) := ax_dec dX6_often_q0_ok 25 (51, .ireturn, 1) rfl
theorem dX6_often_52 : decode cX6_often 52 = .ok (.bipush 24, 2) := ax_dec dX6_often_q0_ok 26 (52, .bipush 24, 2) rfl
theorem dX6_often_54 : decode cX6_often 54 = .ok (.istore 6, 2) := ax_dec dX6_often_q0_ok 27 (54, .istore 6, 2) rfl
theorem dX6_often_56 : decode cX6_often 56 = .ok (.iload 6, 2) := ax_dec dX6_often_q0_ok 28 (56, .iload 6, 2) rfl
theorem dX6_often_58 : decode cX6_often 58 = .ok (.iconst 1, 1) := ax_dec dX6_often_q0_ok 29 (58, .iconst 1, 1) rfl
theorem dX6_often_59 : decode cX6_often 59 = .ok (.if_icmp .lt 48, 3) := ax_dec dX6_often_q0_ok 30 (59, .if_icmp .lt 48, 3) rfl
theorem dX6_often_62 : decode cX6_often 62 = .ok (.aload_n 0, 1) := ax_dec dX6_often_q0_ok 31 (62, .aload_n 0, 1) rfl
def dX6_often_q1 : List (Nat × (Instr × Nat)) := [(63, .getfield 55, 3), (66, .invokevirtual 203, 3), (69, .aload_n 0, 1), (70, .getfield 55, 3), (73, .iload 4, 2), (75, .iload 6, 2), (77, .aload 5, 2), (79, .iload_n 2, 1), (80, .iload_n 3, 1), (81, .invokevirtual 215, 3), (84, .istore 7, 2), (86, .aload_n 0, 1), (87, .getfield 55, 3), (90, .invokevirtual 210, 3), (93, .iload 7, 2), (95, .ifCond .eq 6, 3), (98, .iload 6, 2), (100, .ireturn, 1), (101, .iinc 6 (-1), 3), (104, .goto (-48), 3), (107, .iconst (-1), 1), (108, .ireturn, 1)]
set_option maxRecDepth 100000 in
theorem dX6_often_q1_ok : ax_decs cX6_often dX6_often_q1 = true := by decide +kernel
theorem dX6_often_63 : decode cX6_often 63 = .ok (.getfield 55, 3) := ax_dec dX6_often_q1_ok 0 (63, .getfield 55, 3) rfl
theorem dX6_often_66 : decode cX6_often 66 = .ok (.invokevirtual 203, 3) := ax_dec dX6_often_q1_ok 1 (66, .invokevirtual 203, 3) rfl
theorem dX6_often_69 : decode cX6_often 69 = .ok (.aload_n 0, 1) := ax_dec dX6_often_q1_ok 2 (69, .aload_n 0, 1) rfl
theorem dX6_often_70 : decode cX6_often 70 = .ok (.getfield 55, 3) := ax_dec dX6_often_q1_ok 3 (70, .getfield 55, 3) rfl
theorem dX6_often_73 : decode cX6_often 73 = .ok (.iload 4, 2) := ax_dec dX6_often_q1_ok 4 (73, .iload 4, 2) rfl
theorem dX6_often_75 : decode cX6_often 75 = .ok (.iload 6, 2) := ax_dec dX6_often_q1_ok 5 (75, .iload 6, 2) rfl
theorem dX6_often_77 : decode cX6_often 77 = .ok (.aload 5, 2) := ax_dec dX6_often_q1_ok 6 (77, .aload 5, 2) rfl
theorem dX6_often_79 : decode cX6_often 79 = .ok (.iload_n 2, 1) := ax_dec dX6_often_q1_ok 7 (79, .iload_n 2, 1) rfl
theorem dX6_often_80 : decode cX6_often 80 = .ok (.iload_n 3, 1) := ax_dec dX6_often_q1_ok 8 (80, .iload_n 3, 1) rfl
theorem dX6_often_81 : decode cX6_often 81 = .ok (.invokevirtual 215, 3) := ax_dec dX6_often_q1_ok 9 (81, .invokevirtual 215, 3) rfl
theorem dX6_often_84 : decode cX6_often 84 = .ok (.istore 7, 2) := ax_dec dX6_often_q1_ok 10 (84, .istore 7, 2) rfl
theorem dX6_often_86 : decode cX6_often 86 = .ok (.aload_n 0, 1) := ax_dec dX6_often_q1_ok 11 (86, .aload_n 0, 1) rfl
theorem dX6_often_87 : decode cX6_often 87 = .ok (.getfield 55, 3) := ax_dec dX6_often_q1_ok 12 (87, .getfield 55, 3) rfl
theorem dX6_often_90 : decode cX6_often 90 = .ok (.invokevirtual 210, 3) := ax_dec dX6_often_q1_ok 13 (90, .invokevirtual 210, 3) rfl
theorem dX6_often_93 : decode cX6_often 93 = .ok (.iload 7, 2) := ax_dec dX6_often_q1_ok 14 (93, .iload 7, 2) rfl
theorem dX6_often_95 : decode cX6_often 95 = .ok (.ifCond .eq 6, 3) := ax_dec dX6_often_q1_ok 15 (95, .ifCond .eq 6, 3) rfl
theorem dX6_often_98 : decode cX6_often 98 = .ok (.iload 6, 2) := ax_dec dX6_often_q1_ok 16 (98, .iload 6, 2) rfl
theorem dX6_often_100 : decode cX6_often 100 = .ok (.ireturn, 1) := ax_dec dX6_often_q1_ok 17 (100, .ireturn, 1) rfl
theorem dX6_often_101 : decode cX6_often 101 = .ok (.iinc 6 (-1), 3) := ax_dec dX6_often_q1_ok 18 (101, .iinc 6 (-1), 3) rfl
theorem dX6_often_104 : decode cX6_often 104 = .ok (.goto (-48), 3) := ax_dec dX6_often_q1_ok 19 (104, .goto (-48), 3) rfl
theorem dX6_often_107 : decode cX6_often 107 = .ok (.iconst (-1), 1) := ax_dec dX6_often_q1_ok 20 (107, .iconst (-1), 1) rfl
theorem dX6_often_108 : decode cX6_often 108 = .ok (.ireturn, 1) := ax_dec dX6_often_q1_ok 21 (108, .ireturn, 1) rfl
def dX6_round_q0 : List (Nat × (Instr × Nat)) := [(0, .iload_n 1, 1), (1, .iconst 0, 1), (2, .bipush 99, 2), (4, .invokestatic 76, 3), (7, .ifCond .eq 22, 3), (10, .iload_n 2, 1), (11, .iconst 0, 1), (12, .bipush 99, 2), (14, .invokestatic 76, 3), (17, .ifCond .eq 12, 3), (20, .iload_n 3, 1), (21, .iconst 0, 1), (22, .iconst 1, 1), (23, .invokestatic 76, 3), (26, .ifCond .ne 6, 3), (29, .bipush (-2), 2), (31, .ireturn, 1), (32, .aload_n 0, 1), (33, .getfield 55, 3), (36, .iload_n 1, 1), (37, .iload_n 2, 1), (38, .invokevirtual 219, 3), (41, .istore 4, 2), (43, .iload_n 3, 1), (44, .ifCond .ne 12, 3), (47, .iload 4, 2), (49, .sipush 10000, 3), (52, .irem, 1), (53, .goto 9, 3), (56, .iload 4, 2), (58, .sipush 10000, 3), (61, .idiv, 1)]
set_option maxRecDepth 100000 in
theorem dX6_round_q0_ok : ax_decs cX6_round dX6_round_q0 = true := by decide +kernel
theorem dX6_round_0 : decode cX6_round 0 = .ok (.iload_n 1, 1) := ax_dec dX6_round_q0_ok 0 (0, .iload_n 1, 1) rfl
theorem dX6_round_1 : decode cX6_round 1 = .ok (.iconst 0, 1) := ax_dec dX6_round_q0_ok 1 (1, .iconst 0, 1) rfl
theorem dX6_round_2 : decode cX6_round 2 = .ok (.bipush 99, 2) := ax_dec dX6_round_q0_ok 2 (2, .bipush 99, 2) rfl
theorem dX6_round_4 : decode cX6_round 4 = .ok (.invokestatic 76, 3) := ax_dec dX6_round_q0_ok 3 (4, .invokestatic 76, 3) rfl
theorem dX6_round_7 : decode cX6_round 7 = .ok (.ifCond .eq 22, 3) := ax_dec dX6_round_q0_ok 4 (7, .ifCond .eq 22, 3) rfl
theorem dX6_round_10 : decode cX6_round 10 = .ok (.iload_n 2, 1) := ax_dec dX6_round_q0_ok 5 (10, .iload_n 2, 1) rfl
theorem dX6_round_11 : decode cX6_round 11 = .ok (.iconst 0, 1) := ax_dec dX6_round_q0_ok 6 (11, .iconst 0, 1) rfl
theorem dX6_round_12 : decode cX6_round 12 = .ok (.bipush 99, 2) := ax_dec dX6_round_q0_ok 7 (12, .bipush 99, 2) rfl
theorem dX6_round_14 : decode cX6_round 14 = .ok (.invokestatic 76, 3) := ax_dec dX6_round_q0_ok 8 (14, .invokestatic 76, 3) rfl
theorem dX6_round_17 : decode cX6_round 17 = .ok (.ifCond .eq 12, 3) := ax_dec dX6_round_q0_ok 9 (17, .ifCond .eq 12, 3) rfl
theorem dX6_round_20 : decode cX6_round 20 = .ok (.iload_n 3, 1) := ax_dec dX6_round_q0_ok 10 (20, .iload_n 3, 1) rfl
theorem dX6_round_21 : decode cX6_round 21 = .ok (.iconst 0, 1) := ax_dec dX6_round_q0_ok 11 (21, .iconst 0, 1) rfl
theorem dX6_round_22 : decode cX6_round 22 = .ok (.iconst 1, 1) := ax_dec dX6_round_q0_ok 12 (22, .iconst 1, 1) rfl
theorem dX6_round_23 : decode cX6_round 23 = .ok (.invokestatic 76, 3) := ax_dec dX6_round_q0_ok 13 (23, .invokestatic 76, 3) rfl
theorem dX6_round_26 : decode cX6_round 26 = .ok (.ifCond .ne 6, 3) := ax_dec dX6_round_q0_ok 14 (26, .ifCond .ne 6, 3) rfl
theorem dX6_round_29 : decode cX6_round 29 = .ok (.bipush (-2), 2) := ax_dec dX6_round_q0_ok 15 (29, .bipush (-2), 2) rfl
theorem dX6_round_31 : decode cX6_round 31 = .ok (.ireturn, 1) := ax_dec dX6_round_q0_ok 16 (31, .ireturn, 1) rfl
theorem dX6_round_32 : decode cX6_round 32 = .ok (.aload_n 0, 1) := ax_dec dX6_round_q0_ok 17 (32, .aload_n 0, 1) rfl
theorem dX6_round_33 : decode cX6_round 33 = .ok (.getfield 55, 3) := ax_dec dX6_round_q0_ok 18 (33, .getfield 55, 3) rfl
theorem dX6_round_36 : decode cX6_round 36 = .ok (.iload_n 1, 1) := ax_dec dX6_round_q0_ok 19 (36, .iload_n 1, 1) rfl
theorem dX6_round_37 : decode cX6_round 37 = .ok (.iload_n 2, 1) := ax_dec dX6_round_q0_ok 20 (37, .iload_n 2, 1) rfl
theorem dX6_round_38 : decode cX6_round 38 = .ok (.invokevirtual 219, 3) := ax_dec dX6_round_q0_ok 21 (38, .invokevirtual 219, 3) rfl
theorem dX6_round_41 : decode cX6_round 41 = .ok (.istore 4, 2) := ax_dec dX6_round_q0_ok 22 (41, .istore 4, 2) rfl
theorem dX6_round_43 : decode cX6_round 43 = .ok (.iload_n 3, 1) := ax_dec dX6_round_q0_ok 23 (43, .iload_n 3, 1) rfl
theorem dX6_round_44 : decode cX6_round 44 = .ok (.ifCond .ne 12, 3) := ax_dec dX6_round_q0_ok 24 (44, .ifCond .ne 12, 3) rfl
theorem dX6_round_47 : decode cX6_round 47 = .ok (.iload 4, 2) := ax_dec dX6_round_q0_ok 25 (47, .iload 4, 2) rfl
theorem dX6_round_49 : decode cX6_round 49 = .ok (.sipush 10000, 3) := ax_dec dX6_round_q0_ok 26 (49, .sipush 10000, 3) rfl
theorem dX6_round_52 : decode cX6_round 52 = .ok (.irem, 1) := ax_dec dX6_round_q0_ok 27 (52, .irem, 1) rfl
theorem dX6_round_53 : decode cX6_round 53 = .ok (.goto 9, 3) := ax_dec dX6_round_q0_ok 28 (53, .goto 9, 3) rfl
theorem dX6_round_56 : decode cX6_round 56 = .ok (.iload 4, 2) := ax_dec dX6_round_q0_ok 29 (56, .iload 4, 2) rfl
theorem dX6_round_58 : decode cX6_round 58 = .ok (.sipush 10000, 3) := ax_dec dX6_round_q0_ok 30 (58, .sipush 10000, 3) rfl
theorem dX6_round_61 : decode cX6_round 61 = .ok (.idiv, 1) := ax_dec dX6_round_q0_ok 31 (61, .idiv, 1) rfl
def dX6_round_q1 : List (Nat × (Instr × Nat)) := [(62, .ireturn, 1)]
set_option maxRecDepth 100000 in
theorem dX6_round_q1_ok : ax_decs cX6_round dX6_round_q1 = true := by decide +kernel
theorem dX6_round_62 : decode cX6_round 62 = .ok (.ireturn, 1) := ax_dec dX6_round_q1_ok 0 (62, .ireturn, 1) rfl
def dX6_ball_q0 : List (Nat × (Instr × Nat)) := [(0, .aload_n 0, 1), (1, .getfield 55, 3), (4, .iload_n 1, 1), (5, .invokevirtual 96, 3), (8, .astore 4, 2), (10, .aload 4, 2), (12, .ifnull 11, 3), (15, .aload 4, 2), (17, .getfield 126, 3), (20, .ifnull 6, 3), (23, .bipush (-5), 2), (25, .ireturn, 1), (26, .iload_n 2, 1), (27, .iconst 0, 1), (28, .bipush 9, 2), (30, .invokestatic 76, 3), (33, .ifCond .eq 12, 3), (36, .iload_n 3, 1), (37, .iconst 0, 1), (38, .iconst 2, 1), (39, .invokestatic 76, 3), (42, .ifCond .ne 6, 3), (45, .bipush (-7), 2), (47, .ireturn, 1), (48, .aload 4, 2), (50, .astore 5, 2), (52, .aload 4, 2), (54, .astore 6, 2), (56, .iconst 0, 1), (57, .istore 7, 2), (59, .iconst 0, 1), (60, .istore 8, 2)]
set_option maxRecDepth 100000 in
theorem dX6_ball_q0_ok : ax_decs cX6_ball dX6_ball_q0 = true := by decide +kernel
theorem dX6_ball_0 : decode cX6_ball 0 = .ok (.aload_n 0, 1) := ax_dec dX6_ball_q0_ok 0 (0, .aload_n 0, 1) rfl
theorem dX6_ball_1 : decode cX6_ball 1 = .ok (.getfield 55, 3) := ax_dec dX6_ball_q0_ok 1 (1, .getfield 55, 3) rfl
theorem dX6_ball_4 : decode cX6_ball 4 = .ok (.iload_n 1, 1) := ax_dec dX6_ball_q0_ok 2 (4, .iload_n 1, 1) rfl
theorem dX6_ball_5 : decode cX6_ball 5 = .ok (.invokevirtual 96, 3) := ax_dec dX6_ball_q0_ok 3 (5, .invokevirtual 96, 3) rfl
theorem dX6_ball_8 : decode cX6_ball 8 = .ok (.astore 4, 2) := ax_dec dX6_ball_q0_ok 4 (8, .astore 4, 2) rfl
theorem dX6_ball_10 : decode cX6_ball 10 = .ok (.aload 4, 2) := ax_dec dX6_ball_q0_ok 5 (10, .aload 4, 2) rfl
theorem dX6_ball_12 : decode cX6_ball 12 = .ok (.ifnull 11, 3) := ax_dec dX6_ball_q0_ok 6 (12, .ifnull 11, 3) rfl
theorem dX6_ball_15 : decode cX6_ball 15 = .ok (.aload 4, 2) := ax_dec dX6_ball_q0_ok 7 (15, .aload 4, 2) rfl
theorem dX6_ball_17 : decode cX6_ball 17 = .ok (.getfield 126, 3) := ax_dec dX6_ball_q0_ok 8 (17, .getfield 126, 3) rfl
theorem dX6_ball_20 : decode cX6_ball 20 = .ok (.ifnull 6, 3) := ax_dec dX6_ball_q0_ok 9 (20, .ifnull 6, 3) rfl
theorem dX6_ball_23 : decode cX6_ball 23 = .ok (.bipush (-5), 2) := ax_dec dX6_ball_q0_ok 10 (23, .bipush (-5), 2) rfl
theorem dX6_ball_25 : decode cX6_ball 25 = .ok (.ireturn, 1) := ax_dec dX6_ball_q0_ok 11 (25, .ireturn, 1) rfl
theorem dX6_ball_26 : decode cX6_ball 26 = .ok (.iload_n 2, 1) := ax_dec dX6_ball_q0_ok 12 (26, .iload_n 2, 1) rfl
theorem dX6_ball_27 : decode cX6_ball 27 = .ok (.iconst 0, 1) := ax_dec dX6_ball_q0_ok 13 (27, .iconst 0, 1) rfl
theorem dX6_ball_28 : decode cX6_ball 28 = .ok (.bipush 9, 2) := ax_dec dX6_ball_q0_ok 14 (28, .bipush 9, 2) rfl
theorem dX6_ball_30 : decode cX6_ball 30 = .ok (.invokestatic 76, 3) := ax_dec dX6_ball_q0_ok 15 (30, .invokestatic 76, 3) rfl
theorem dX6_ball_33 : decode cX6_ball 33 = .ok (.ifCond .eq 12, 3) := ax_dec dX6_ball_q0_ok 16 (33, .ifCond .eq 12, 3) rfl
theorem dX6_ball_36 : decode cX6_ball 36 = .ok (.iload_n 3, 1) := ax_dec dX6_ball_q0_ok 17 (36, .iload_n 3, 1) rfl
theorem dX6_ball_37 : decode cX6_ball 37 = .ok (.iconst 0, 1) := ax_dec dX6_ball_q0_ok 18 (37, .iconst 0, 1) rfl
theorem dX6_ball_38 : decode cX6_ball 38 = .ok (.iconst 2, 1) := ax_dec dX6_ball_q0_ok 19 (38, .iconst 2, 1) rfl
theorem dX6_ball_39 : decode cX6_ball 39 = .ok (.invokestatic 76, 3) := ax_dec dX6_ball_q0_ok 20 (39, .invokestatic 76, 3) rfl
theorem dX6_ball_42 : decode cX6_ball 42 = .ok (.ifCond .ne 6, 3) := ax_dec dX6_ball_q0_ok 21 (42, .ifCond .ne 6, 3) rfl
theorem dX6_ball_45 : decode cX6_ball 45 = .ok (.bipush (-7), 2) := ax_dec dX6_ball_q0_ok 22 (45, .bipush (-7), 2) rfl
theorem dX6_ball_47 : decode cX6_ball 47 = .ok (.ireturn, 1) := ax_dec dX6_ball_q0_ok 23 (47, .ireturn, 1) rfl
theorem dX6_ball_48 : decode cX6_ball 48 = .ok (.aload 4, 2) := ax_dec dX6_ball_q0_ok 24 (48, .aload 4, 2) rfl
theorem dX6_ball_50 : decode cX6_ball 50 = .ok (.astore 5, 2) := ax_dec dX6_ball_q0_ok 25 (50, .astore 5, 2) rfl
theorem dX6_ball_52 : decode cX6_ball 52 = .ok (.aload 4, 2) := ax_dec dX6_ball_q0_ok 26 (52, .aload 4, 2) rfl
theorem dX6_ball_54 : decode cX6_ball 54 = .ok (.astore 6, 2) := ax_dec dX6_ball_q0_ok 27 (54, .astore 6, 2) rfl
theorem dX6_ball_56 : decode cX6_ball 56 = .ok (.iconst 0, 1) := ax_dec dX6_ball_q0_ok 28 (56, .iconst 0, 1) rfl
theorem dX6_ball_57 : decode cX6_ball 57 = .ok (.istore 7, 2) := ax_dec dX6_ball_q0_ok 29 (57, .istore 7, 2) rfl
theorem dX6_ball_59 : decode cX6_ball 59 = .ok (.iconst 0, 1) := ax_dec dX6_ball_q0_ok 30 (59, .iconst 0, 1) rfl
theorem dX6_ball_60 : decode cX6_ball 60 = .ok (.istore 8, 2) := ax_dec dX6_ball_q0_ok 31 (60, .istore 8, 2) rfl
def dX6_ball_q1 : List (Nat × (Instr × Nat)) := [(62, .iload 8, 2), (64, .bipush 10, 2), (66, .if_icmp .ge 48, 3), (69, .aload 5, 2), (71, .ifnull 43, 3), (74, .aload 5, 2), (76, .invokevirtual 142, 3), (79, .iload_n 2, 1), (80, .if_icmp .lt 34, 3), (83, .iload 7, 2), (85, .aload 5, 2), (87, .getfield 133, 3), (90, .iadd, 1), (91, .istore 7, 2), (93, .aload 5, 2), (95, .astore 6, 2), (97, .aload_n 0, 1), (98, .getfield 55, 3), (101, .aload 5, 2), (103, .invokevirtual 222, 3), (106, .astore 5, 2), (108, .iinc 8 1, 3), (111, .goto (-49), 3), (114, .iload_n 3, 1), (115, .iconst 2, 1), (116, .if_icmp .ne 6, 3), (119, .iload 7, 2), (121, .ireturn, 1), (122, .iload_n 3, 1), (123, .ifCond .ne 9, 3), (126, .aload 5, 2), (128, .invokestatic 130, 3)]
set_option maxRecDepth 100000 in
theorem dX6_ball_q1_ok : ax_decs cX6_ball dX6_ball_q1 = true := by decide +kernel
theorem dX6_ball_62 : decode cX6_ball 62 = .ok (.iload 8, 2) := ax_dec dX6_ball_q1_ok 0 (62, .iload 8, 2) rfl
theorem dX6_ball_64 : decode cX6_ball 64 = .ok (.bipush 10, 2) := ax_dec dX6_ball_q1_ok 1 (64, .bipush 10, 2) rfl
theorem dX6_ball_66 : decode cX6_ball 66 = .ok (.if_icmp .ge 48, 3) := ax_dec dX6_ball_q1_ok 2 (66, .if_icmp .ge 48, 3) rfl
theorem dX6_ball_69 : decode cX6_ball 69 = .ok (.aload 5, 2) := ax_dec dX6_ball_q1_ok 3 (69, .aload 5, 2) rfl
theorem dX6_ball_71 : decode cX6_ball 71 = .ok (.ifnull 43, 3) := ax_dec dX6_ball_q1_ok 4 (71, .ifnull 43, 3) rfl
theorem dX6_ball_74 : decode cX6_ball 74 = .ok (.aload 5, 2) := ax_dec dX6_ball_q1_ok 5 (74, .aload 5, 2) rfl
theorem dX6_ball_76 : decode cX6_ball 76 = .ok (.invokevirtual 142, 3) := ax_dec dX6_ball_q1_ok 6 (76, .invokevirtual 142, 3) rfl
theorem dX6_ball_79 : decode cX6_ball 79 = .ok (.iload_n 2, 1) := ax_dec dX6_ball_q1_ok 7 (79, .iload_n 2, 1) rfl
theorem dX6_ball_80 : decode cX6_ball 80 = .ok (.if_icmp .lt 34, 3) := ax_dec dX6_ball_q1_ok 8 (80, .if_icmp .lt 34, 3) rfl
theorem dX6_ball_83 : decode cX6_ball 83 = .ok (.iload 7, 2) := ax_dec dX6_ball_q1_ok 9 (83, .iload 7, 2) rfl
theorem dX6_ball_85 : decode cX6_ball 85 = .ok (.aload 5, 2) := ax_dec dX6_ball_q1_ok 10 (85, .aload 5, 2) rfl
theorem dX6_ball_87 : decode cX6_ball 87 = .ok (.getfield 133, 3) := ax_dec dX6_ball_q1_ok 11 (87, .getfield 133, 3) rfl
theorem dX6_ball_90 : decode cX6_ball 90 = .ok (.iadd, 1) := ax_dec dX6_ball_q1_ok 12 (90, .iadd, 1) rfl
theorem dX6_ball_91 : decode cX6_ball 91 = .ok (.istore 7, 2) := ax_dec dX6_ball_q1_ok 13 (91, .istore 7, 2) rfl
theorem dX6_ball_93 : decode cX6_ball 93 = .ok (.aload 5, 2) := ax_dec dX6_ball_q1_ok 14 (93, .aload 5, 2) rfl
theorem dX6_ball_95 : decode cX6_ball 95 = .ok (.astore 6, 2) := ax_dec dX6_ball_q1_ok 15 (95, .astore 6, 2) rfl
theorem dX6_ball_97 : decode cX6_ball 97 = .ok (.aload_n 0, 1) := ax_dec dX6_ball_q1_ok 16 (97, .aload_n 0, 1) rfl
theorem dX6_ball_98 : decode cX6_ball 98 = .ok (.getfield 55, 3) := ax_dec dX6_ball_q1_ok 17 (98, .getfield 55, 3) rfl
theorem dX6_ball_101 : decode cX6_ball 101 = .ok (.aload 5, 2) := ax_dec dX6_ball_q1_ok 18 (101, .aload 5, 2) rfl
theorem dX6_ball_103 : decode cX6_ball 103 = .ok (.invokevirtual 222, 3) := ax_dec dX6_ball_q1_ok 19 (103, .invokevirtual 222, 3) rfl
theorem dX6_ball_106 : decode cX6_ball 106 = .ok (.astore 5, 2) := ax_dec dX6_ball_q1_ok 20 (106, .astore 5, 2) rfl
theorem dX6_ball_108 : decode cX6_ball 108 = .ok (.iinc 8 1, 3) := ax_dec dX6_ball_q1_ok 21 (108, .iinc 8 1, 3) rfl
theorem dX6_ball_111 : decode cX6_ball 111 = .ok (.goto (-49), 3) := ax_dec dX6_ball_q1_ok 22 (111, .goto (-49), 3) rfl
theorem dX6_ball_114 : decode cX6_ball 114 = .ok (.iload_n 3, 1) := ax_dec dX6_ball_q1_ok 23 (114, .iload_n 3, 1) rfl
theorem dX6_ball_115 : decode cX6_ball 115 = .ok (.iconst 2, 1) := ax_dec dX6_ball_q1_ok 24 (115, .iconst 2, 1) rfl
theorem dX6_ball_116 : decode cX6_ball 116 = .ok (.if_icmp .ne 6, 3) := ax_dec dX6_ball_q1_ok 25 (116, .if_icmp .ne 6, 3) rfl
theorem dX6_ball_119 : decode cX6_ball 119 = .ok (.iload 7, 2) := ax_dec dX6_ball_q1_ok 26 (119, .iload 7, 2) rfl
theorem dX6_ball_121 : decode cX6_ball 121 = .ok (.ireturn, 1) := ax_dec dX6_ball_q1_ok 27 (121, .ireturn, 1) rfl
theorem dX6_ball_122 : decode cX6_ball 122 = .ok (.iload_n 3, 1) := ax_dec dX6_ball_q1_ok 28 (122, .iload_n 3, 1) rfl
theorem dX6_ball_123 : decode cX6_ball 123 = .ok (.ifCond .ne 9, 3) := ax_dec dX6_ball_q1_ok 29 (123, .ifCond .ne 9, 3) rfl
theorem dX6_ball_126 : decode cX6_ball 126 = .ok (.aload 5, 2) := ax_dec dX6_ball_q1_ok 30 (126, .aload 5, 2) rfl
theorem dX6_ball_128 : decode cX6_ball 128 = .ok (.invokestatic 130, 3) := ax_dec dX6_ball_q1_ok 31 (128, .invokestatic 130, 3) rfl
def dX6_ball_q2 : List (Nat × (Instr × Nat)) := [(131, .ireturn, 1), (132, .aload 5, 2), (134, .ifnonnull 11, 3), (137, .aload 6, 2), (139, .getfield 226, 3), (142, .goto 4, 3), (145, .iconst (-1), 1), (146, .ireturn, 1)]
set_option maxRecDepth 100000 in
theorem dX6_ball_q2_ok : ax_decs cX6_ball dX6_ball_q2 = true := by decide +kernel
theorem dX6_ball_131 : decode cX6_ball 131 = .ok (.ireturn, 1) := ax_dec dX6_ball_q2_ok 0 (131, .ireturn, 1) rfl
theorem dX6_ball_132 : decode cX6_ball 132 = .ok (.aload 5, 2) := ax_dec dX6_ball_q2_ok 1 (132, .aload 5, 2) rfl
theorem dX6_ball_134 : decode cX6_ball 134 = .ok (.ifnonnull 11, 3) := ax_dec dX6_ball_q2_ok 2 (134, .ifnonnull 11, 3) rfl
theorem dX6_ball_137 : decode cX6_ball 137 = .ok (.aload 6, 2) := ax_dec dX6_ball_q2_ok 3 (137, .aload 6, 2) rfl
theorem dX6_ball_139 : decode cX6_ball 139 = .ok (.getfield 226, 3) := ax_dec dX6_ball_q2_ok 4 (139, .getfield 226, 3) rfl
theorem dX6_ball_142 : decode cX6_ball 142 = .ok (.goto 4, 3) := ax_dec dX6_ball_q2_ok 5 (142, .goto 4, 3) rfl
theorem dX6_ball_145 : decode cX6_ball 145 = .ok (.iconst (-1), 1) := ax_dec dX6_ball_q2_ok 6 (145, .iconst (-1), 1) rfl
theorem dX6_ball_146 : decode cX6_ball 146 = .ok (.ireturn, 1) := ax_dec dX6_ball_q2_ok 7 (146, .ireturn, 1) rfl
def dX6_judge_q0 : List (Nat × (Instr × Nat)) := [(0, .aload_n 0, 1), (1, .iload_n 1, 1), (2, .invokevirtual 229, 3), (5, .astore_n 3, 1), (6, .aload_n 3, 1), (7, .ifnonnull 6, 3), (10, .bipush (-2), 2), (12, .ireturn, 1), (13, .aload_n 3, 1), (14, .invokevirtual 233, 3), (17, .ifCond .eq 6, 3), (20, .bipush (-11), 2), (22, .ireturn, 1), (23, .aload_n 0, 1), (24, .getfield 55, 3), (27, .iload_n 2, 1), (28, .invokevirtual 164, 3), (31, .astore 4, 2), (33, .aload 4, 2), (35, .ifnonnull 8, 3), (38, .bipush (-5), 2), (40, .goto 16, 3), (43, .aload_n 3, 1), (44, .aload 4, 2), (46, .aload_n 0, 1), (47, .getfield 55, 3), (50, .getfield 92, 3), (53, .invokevirtual 236, 3), (56, .ireturn, 1)]
set_option maxRecDepth 100000 in
theorem dX6_judge_q0_ok : ax_decs cX6_judge dX6_judge_q0 = true := by decide +kernel
theorem dX6_judge_0 : decode cX6_judge 0 = .ok (.aload_n 0, 1) := ax_dec dX6_judge_q0_ok 0 (0, .aload_n 0, 1) rfl
theorem dX6_judge_1 : decode cX6_judge 1 = .ok (.iload_n 1, 1) := ax_dec dX6_judge_q0_ok 1 (1, .iload_n 1, 1) rfl
theorem dX6_judge_2 : decode cX6_judge 2 = .ok (.invokevirtual 229, 3) := ax_dec dX6_judge_q0_ok 2 (2, .invokevirtual 229, 3) rfl
theorem dX6_judge_5 : decode cX6_judge 5 = .ok (.astore_n 3, 1) := ax_dec dX6_judge_q0_ok 3 (5, .astore_n 3, 1) rfl
theorem dX6_judge_6 : decode cX6_judge 6 = .ok (.aload_n 3, 1) := ax_dec dX6_judge_q0_ok 4 (6, .aload_n 3, 1) rfl
theorem dX6_judge_7 : decode cX6_judge 7 = .ok (.ifnonnull 6, 3) := ax_dec dX6_judge_q0_ok 5 (7, .ifnonnull 6, 3) rfl
theorem dX6_judge_10 : decode cX6_judge 10 = .ok (.bipush (-2), 2) := ax_dec dX6_judge_q0_ok 6 (10, .bipush (-2), 2) rfl
theorem dX6_judge_12 : decode cX6_judge 12 = .ok (.ireturn, 1) := ax_dec dX6_judge_q0_ok 7 (12, .ireturn, 1) rfl
theorem dX6_judge_13 : decode cX6_judge 13 = .ok (.aload_n 3, 1) := ax_dec dX6_judge_q0_ok 8 (13, .aload_n 3, 1) rfl
theorem dX6_judge_14 : decode cX6_judge 14 = .ok (.invokevirtual 233, 3) := ax_dec dX6_judge_q0_ok 9 (14, .invokevirtual 233, 3) rfl
theorem dX6_judge_17 : decode cX6_judge 17 = .ok (.ifCond .eq 6, 3) := ax_dec dX6_judge_q0_ok 10 (17, .ifCond .eq 6, 3) rfl
theorem dX6_judge_20 : decode cX6_judge 20 = .ok (.bipush (-11), 2) := ax_dec dX6_judge_q0_ok 11 (20, .bipush (-11), 2) rfl
theorem dX6_judge_22 : decode cX6_judge 22 = .ok (.ireturn, 1) := ax_dec dX6_judge_q0_ok 12 (22, .ireturn, 1) rfl
theorem dX6_judge_23 : decode cX6_judge 23 = .ok (.aload_n 0, 1) := ax_dec dX6_judge_q0_ok 13 (23, .aload_n 0, 1) rfl
theorem dX6_judge_24 : decode cX6_judge 24 = .ok (.getfield 55, 3) := ax_dec dX6_judge_q0_ok 14 (24, .getfield 55, 3) rfl
theorem dX6_judge_27 : decode cX6_judge 27 = .ok (.iload_n 2, 1) := ax_dec dX6_judge_q0_ok 15 (27, .iload_n 2, 1) rfl
theorem dX6_judge_28 : decode cX6_judge 28 = .ok (.invokevirtual 164, 3) := ax_dec dX6_judge_q0_ok 16 (28, .invokevirtual 164, 3) rfl
theorem dX6_judge_31 : decode cX6_judge 31 = .ok (.astore 4, 2) := ax_dec dX6_judge_q0_ok 17 (31, .astore 4, 2) rfl
theorem dX6_judge_33 : decode cX6_judge 33 = .ok (.aload 4, 2) := ax_dec dX6_judge_q0_ok 18 (33, .aload 4, 2) rfl
theorem dX6_judge_35 : decode cX6_judge 35 = .ok (.ifnonnull 8, 3) := ax_dec dX6_judge_q0_ok 19 (35, .ifnonnull 8, 3) rfl
theorem dX6_judge_38 : decode cX6_judge 38 = .ok (.bipush (-5), 2) := ax_dec dX6_judge_q0_ok 20 (38, .bipush (-5), 2) rfl
theorem dX6_judge_40 : decode cX6_judge 40 = .ok (.goto 16, 3) := ax_dec dX6_judge_q0_ok 21 (40, .goto 16, 3) rfl
theorem dX6_judge_43 : decode cX6_judge 43 = .ok (.aload_n 3, 1) := ax_dec dX6_judge_q0_ok 22 (43, .aload_n 3, 1) rfl
theorem dX6_judge_44 : decode cX6_judge 44 = .ok (.aload 4, 2) := ax_dec dX6_judge_q0_ok 23 (44, .aload 4, 2) rfl
theorem dX6_judge_46 : decode cX6_judge 46 = .ok (.aload_n 0, 1) := ax_dec dX6_judge_q0_ok 24 (46, .aload_n 0, 1) rfl
theorem dX6_judge_47 : decode cX6_judge 47 = .ok (.getfield 55, 3) := ax_dec dX6_judge_q0_ok 25 (47, .getfield 55, 3) rfl
theorem dX6_judge_50 : decode cX6_judge 50 = .ok (.getfield 92, 3) := ax_dec dX6_judge_q0_ok 26 (50, .getfield 92, 3) rfl
theorem dX6_judge_53 : decode cX6_judge 53 = .ok (.invokevirtual 236, 3) := ax_dec dX6_judge_q0_ok 27 (53, .invokevirtual 236, 3) rfl
theorem dX6_judge_56 : decode cX6_judge 56 = .ok (.ireturn, 1) := ax_dec dX6_judge_q0_ok 28 (56, .ireturn, 1) rfl
def dX6_whose_q0 : List (Nat × (Instr × Nat)) := [(0, .aload_n 0, 1), (1, .iload_n 1, 1), (2, .invokevirtual 229, 3), (5, .astore_n 2, 1), (6, .aload_n 2, 1), (7, .ifnonnull 6, 3), (10, .bipush (-2), 2), (12, .ireturn, 1), (13, .aload_n 2, 1), (14, .invokevirtual 233, 3), (17, .ifCond .eq 6, 3), (20, .bipush (-11), 2), (22, .ireturn, 1), (23, .iconst 0, 1), (24, .istore_n 3, 1), (25, .iconst 0, 1), (26, .istore 4, 2), (28, .iload 4, 2), (30, .bipush 10, 2), (32, .if_icmp .ge 49, 3), (35, .aload_n 0, 1), (36, .getfield 55, 3), (39, .iload 4, 2), (41, .invokevirtual 164, 3), (44, .astore 5, 2), (46, .aload 5, 2), (48, .ifnull 27, 3), (51, .aload_n 2, 1), (52, .aload 5, 2), (54, .aload_n 0, 1), (55, .getfield 55, 3), (58, .getfield 92, 3)]
set_option maxRecDepth 100000 in
theorem dX6_whose_q0_ok : ax_decs cX6_whose dX6_whose_q0 = true := by decide +kernel
theorem dX6_whose_0 : decode cX6_whose 0 = .ok (.aload_n 0, 1) := ax_dec dX6_whose_q0_ok 0 (0, .aload_n 0, 1) rfl
theorem dX6_whose_1 : decode cX6_whose 1 = .ok (.iload_n 1, 1) := ax_dec dX6_whose_q0_ok 1 (1, .iload_n 1, 1) rfl
theorem dX6_whose_2 : decode cX6_whose 2 = .ok (.invokevirtual 229, 3) := ax_dec dX6_whose_q0_ok 2 (2, .invokevirtual 229, 3) rfl
theorem dX6_whose_5 : decode cX6_whose 5 = .ok (.astore_n 2, 1) := ax_dec dX6_whose_q0_ok 3 (5, .astore_n 2, 1) rfl
theorem dX6_whose_6 : decode cX6_whose 6 = .ok (.aload_n 2, 1) := ax_dec dX6_whose_q0_ok 4 (6, .aload_n 2, 1) rfl
theorem dX6_whose_7 : decode cX6_whose 7 = .ok (.ifnonnull 6, 3) := ax_dec dX6_whose_q0_ok 5 (7, .ifnonnull 6, 3) rfl
theorem dX6_whose_10 : decode cX6_whose 10 = .ok (.bipush (-2), 2) := ax_dec dX6_whose_q0_ok 6 (10, .bipush (-2), 2) rfl
theorem dX6_whose_12 : decode cX6_whose 12 = .ok (.ireturn, 1) := ax_dec dX6_whose_q0_ok 7 (12, .ireturn, 1) rfl
theorem dX6_whose_13 : decode cX6_whose 13 = .ok (.aload_n 2, 1) := ax_dec dX6_whose_q0_ok 8 (13, .aload_n 2, 1) rfl
theorem dX6_whose_14 : decode cX6_whose 14 = .ok (.invokevirtual 233, 3) := ax_dec dX6_whose_q0_ok 9 (14, .invokevirtual 233, 3) rfl
theorem dX6_whose_17 : decode cX6_whose 17 = .ok (.ifCond .eq 6, 3) := ax_dec dX6_whose_q0_ok 10 (17, .ifCond .eq 6, 3) rfl
theorem dX6_whose_20 : decode cX6_whose 20 = .ok (.bipush (-11), 2) := ax_dec dX6_whose_q0_ok 11 (20, .bipush (-11), 2) rfl
theorem dX6_whose_22 : decode cX6_whose 22 = .ok (.ireturn, 1) := ax_dec dX6_whose_q0_ok 12 (22, .ireturn, 1) rfl
theorem dX6_whose_23 : decode cX6_whose 23 = .ok (.iconst 0, 1) := ax_dec dX6_whose_q0_ok 13 (23, .iconst 0, 1) rfl
theorem dX6_whose_24 : decode cX6_whose 24 = .ok (.istore_n 3, 1) := ax_dec dX6_whose_q0_ok 14 (24, .istore_n 3, 1) rfl
theorem dX6_whose_25 : decode cX6_whose 25 = .ok (.iconst 0, 1) := ax_dec dX6_whose_q0_ok 15 (25, .iconst 0, 1) rfl
theorem dX6_whose_26 : decode cX6_whose 26 = .ok (.istore 4, 2) := ax_dec dX6_whose_q0_ok 16 (26, .istore 4, 2) rfl
theorem dX6_whose_28 : decode cX6_whose 28 = .ok (.iload 4, 2) := ax_dec dX6_whose_q0_ok 17 (28, .iload 4, 2) rfl
theorem dX6_whose_30 : decode cX6_whose 30 = .ok (.bipush 10, 2) := ax_dec dX6_whose_q0_ok 18 (30, .bipush 10, 2) rfl
theorem dX6_whose_32 : decode cX6_whose 32 = .ok (.if_icmp .ge 49, 3) := ax_dec dX6_whose_q0_ok 19 (32, .if_icmp .ge 49, 3) rfl
theorem dX6_whose_35 : decode cX6_whose 35 = .ok (.aload_n 0, 1) := ax_dec dX6_whose_q0_ok 20 (35, .aload_n 0, 1) rfl
theorem dX6_whose_36 : decode cX6_whose 36 = .ok (.getfield 55, 3) := ax_dec dX6_whose_q0_ok 21 (36, .getfield 55, 3) rfl
theorem dX6_whose_39 : decode cX6_whose 39 = .ok (.iload 4, 2) := ax_dec dX6_whose_q0_ok 22 (39, .iload 4, 2) rfl
theorem dX6_whose_41 : decode cX6_whose 41 = .ok (.invokevirtual 164, 3) := ax_dec dX6_whose_q0_ok 23 (41, .invokevirtual 164, 3) rfl
theorem dX6_whose_44 : decode cX6_whose 44 = .ok (.astore 5, 2) := ax_dec dX6_whose_q0_ok 24 (44, .astore 5, 2) rfl
theorem dX6_whose_46 : decode cX6_whose 46 = .ok (.aload 5, 2) := ax_dec dX6_whose_q0_ok 25 (46, .aload 5, 2) rfl
theorem dX6_whose_48 : decode cX6_whose 48 = .ok (.ifnull 27, 3) := ax_dec dX6_whose_q0_ok 26 (48, .ifnull 27, 3) rfl
theorem dX6_whose_51 : decode cX6_whose 51 = .ok (.aload_n 2, 1) := ax_dec dX6_whose_q0_ok 27 (51, .aload_n 2, 1) rfl
theorem dX6_whose_52 : decode cX6_whose 52 = .ok (.aload 5, 2) := ax_dec dX6_whose_q0_ok 28 (52, .aload 5, 2) rfl
theorem dX6_whose_54 : decode cX6_whose 54 = .ok (.aload_n 0, 1) := ax_dec dX6_whose_q0_ok 29 (54, .aload_n 0, 1) rfl
theorem dX6_whose_55 : decode cX6_whose 55 = .ok (.getfield 55, 3) := ax_dec dX6_whose_q0_ok 30 (55, .getfield 55, 3) rfl
theorem dX6_whose_58 : decode cX6_whose 58 = .ok (.getfield 92, 3) := ax_dec dX6_whose_q0_ok 31 (58, .getfield 92, 3) rfl
def dX6_whose_q1 : List (Nat × (Instr × Nat)) := [(61, .invokevirtual 236, 3), (64, .iconst (-1), 1), (65, .if_icmp .ne 10, 3), (68, .iload_n 3, 1), (69, .iconst 1, 1), (70, .iload 4, 2), (72, .ishl, 1), (73, .ior, 1), (74, .istore_n 3, 1), (75, .iinc 4 1, 3), (78, .goto (-50), 3), (81, .iload_n 3, 1), (82, .ireturn, 1)]
set_option maxRecDepth 100000 in
theorem dX6_whose_q1_ok : ax_decs cX6_whose dX6_whose_q1 = true := by decide +kernel
theorem dX6_whose_61 : decode cX6_whose 61 = .ok (.invokevirtual 236, 3) := ax_dec dX6_whose_q1_ok 0 (61, .invokevirtual 236, 3) rfl
theorem dX6_whose_64 : decode cX6_whose 64 = .ok (.iconst (-1), 1) := ax_dec dX6_whose_q1_ok 1 (64, .iconst (-1), 1) rfl
theorem dX6_whose_65 : decode cX6_whose 65 = .ok (.if_icmp .ne 10, 3) := ax_dec dX6_whose_q1_ok 2 (65, .if_icmp .ne 10, 3) rfl
theorem dX6_whose_68 : decode cX6_whose 68 = .ok (.iload_n 3, 1) := ax_dec dX6_whose_q1_ok 3 (68, .iload_n 3, 1) rfl
theorem dX6_whose_69 : decode cX6_whose 69 = .ok (.iconst 1, 1) := ax_dec dX6_whose_q1_ok 4 (69, .iconst 1, 1) rfl
theorem dX6_whose_70 : decode cX6_whose 70 = .ok (.iload 4, 2) := ax_dec dX6_whose_q1_ok 5 (70, .iload 4, 2) rfl
theorem dX6_whose_72 : decode cX6_whose 72 = .ok (.ishl, 1) := ax_dec dX6_whose_q1_ok 6 (72, .ishl, 1) rfl
theorem dX6_whose_73 : decode cX6_whose 73 = .ok (.ior, 1) := ax_dec dX6_whose_q1_ok 7 (73, .ior, 1) rfl
theorem dX6_whose_74 : decode cX6_whose 74 = .ok (.istore_n 3, 1) := ax_dec dX6_whose_q1_ok 8 (74, .istore_n 3, 1) rfl
theorem dX6_whose_75 : decode cX6_whose 75 = .ok (.iinc 4 1, 3) := ax_dec dX6_whose_q1_ok 9 (75, .iinc 4 1, 3) rfl
theorem dX6_whose_78 : decode cX6_whose 78 = .ok (.goto (-50), 3) := ax_dec dX6_whose_q1_ok 10 (78, .goto (-50), 3) rfl
theorem dX6_whose_81 : decode cX6_whose 81 = .ok (.iload_n 3, 1) := ax_dec dX6_whose_q1_ok 11 (81, .iload_n 3, 1) rfl
theorem dX6_whose_82 : decode cX6_whose 82 = .ok (.ireturn, 1) := ax_dec dX6_whose_q1_ok 12 (82, .ireturn, 1) rfl
def dX6_laws_q0 : List (Nat × (Instr × Nat)) := [(0, .aload_n 0, 1), (1, .iload_n 1, 1), (2, .invokevirtual 229, 3), (5, .astore_n 3, 1), (6, .aload_n 3, 1), (7, .ifnonnull 6, 3), (10, .bipush (-2), 2), (12, .ireturn, 1), (13, .aload_n 3, 1), (14, .invokevirtual 233, 3), (17, .ifCond .eq 6, 3), (20, .bipush (-11), 2), (22, .ireturn, 1), (23, .aload_n 0, 1), (24, .getfield 55, 3), (27, .iload_n 2, 1), (28, .invokevirtual 164, 3), (31, .astore 4, 2), (33, .aload 4, 2), (35, .ifnonnull 6, 3), (38, .bipush (-5), 2), (40, .ireturn, 1), (41, .iconst 0, 1), (42, .istore 5, 2), (44, .iconst 0, 1), (45, .istore 6, 2), (47, .iload 6, 2), (49, .bipush 6, 2), (51, .if_icmp .ge 47, 3), (54, .aload_n 0, 1), (55, .iload 6, 2), (57, .aload_n 0, 1)]
set_option maxRecDepth 100000 in
theorem dX6_laws_q0_ok : ax_decs cX6_laws dX6_laws_q0 = true := by decide +kernel
theorem dX6_laws_0 : decode cX6_laws 0 = .ok (.aload_n 0, 1) := ax_dec dX6_laws_q0_ok 0 (0, .aload_n 0, 1) rfl
theorem dX6_laws_1 : decode cX6_laws 1 = .ok (.iload_n 1, 1) := ax_dec dX6_laws_q0_ok 1 (1, .iload_n 1, 1) rfl
theorem dX6_laws_2 : decode cX6_laws 2 = .ok (.invokevirtual 229, 3) := ax_dec dX6_laws_q0_ok 2 (2, .invokevirtual 229, 3) rfl
theorem dX6_laws_5 : decode cX6_laws 5 = .ok (.astore_n 3, 1) := ax_dec dX6_laws_q0_ok 3 (5, .astore_n 3, 1) rfl
theorem dX6_laws_6 : decode cX6_laws 6 = .ok (.aload_n 3, 1) := ax_dec dX6_laws_q0_ok 4 (6, .aload_n 3, 1) rfl
theorem dX6_laws_7 : decode cX6_laws 7 = .ok (.ifnonnull 6, 3) := ax_dec dX6_laws_q0_ok 5 (7, .ifnonnull 6, 3) rfl
theorem dX6_laws_10 : decode cX6_laws 10 = .ok (.bipush (-2), 2) := ax_dec dX6_laws_q0_ok 6 (10, .bipush (-2), 2) rfl
theorem dX6_laws_12 : decode cX6_laws 12 = .ok (.ireturn, 1) := ax_dec dX6_laws_q0_ok 7 (12, .ireturn, 1) rfl
theorem dX6_laws_13 : decode cX6_laws 13 = .ok (.aload_n 3, 1) := ax_dec dX6_laws_q0_ok 8 (13, .aload_n 3, 1) rfl
theorem dX6_laws_14 : decode cX6_laws 14 = .ok (.invokevirtual 233, 3) := ax_dec dX6_laws_q0_ok 9 (14, .invokevirtual 233, 3) rfl
theorem dX6_laws_17 : decode cX6_laws 17 = .ok (.ifCond .eq 6, 3) := ax_dec dX6_laws_q0_ok 10 (17, .ifCond .eq 6, 3) rfl
theorem dX6_laws_20 : decode cX6_laws 20 = .ok (.bipush (-11), 2) := ax_dec dX6_laws_q0_ok 11 (20, .bipush (-11), 2) rfl
theorem dX6_laws_22 : decode cX6_laws 22 = .ok (.ireturn, 1) := ax_dec dX6_laws_q0_ok 12 (22, .ireturn, 1) rfl
theorem dX6_laws_23 : decode cX6_laws 23 = .ok (.aload_n 0, 1) := ax_dec dX6_laws_q0_ok 13 (23, .aload_n 0, 1) rfl
theorem dX6_laws_24 : decode cX6_laws 24 = .ok (.getfield 55, 3) := ax_dec dX6_laws_q0_ok 14 (24, .getfield 55, 3) rfl
theorem dX6_laws_27 : decode cX6_laws 27 = .ok (.iload_n 2, 1) := ax_dec dX6_laws_q0_ok 15 (27, .iload_n 2, 1) rfl
theorem dX6_laws_28 : decode cX6_laws 28 = .ok (.invokevirtual 164, 3) := ax_dec dX6_laws_q0_ok 16 (28, .invokevirtual 164, 3) rfl
theorem dX6_laws_31 : decode cX6_laws 31 = .ok (.astore 4, 2) := ax_dec dX6_laws_q0_ok 17 (31, .astore 4, 2) rfl
theorem dX6_laws_33 : decode cX6_laws 33 = .ok (.aload 4, 2) := ax_dec dX6_laws_q0_ok 18 (33, .aload 4, 2) rfl
theorem dX6_laws_35 : decode cX6_laws 35 = .ok (.ifnonnull 6, 3) := ax_dec dX6_laws_q0_ok 19 (35, .ifnonnull 6, 3) rfl
theorem dX6_laws_38 : decode cX6_laws 38 = .ok (.bipush (-5), 2) := ax_dec dX6_laws_q0_ok 20 (38, .bipush (-5), 2) rfl
theorem dX6_laws_40 : decode cX6_laws 40 = .ok (.ireturn, 1) := ax_dec dX6_laws_q0_ok 21 (40, .ireturn, 1) rfl
theorem dX6_laws_41 : decode cX6_laws 41 = .ok (.iconst 0, 1) := ax_dec dX6_laws_q0_ok 22 (41, .iconst 0, 1) rfl
theorem dX6_laws_42 : decode cX6_laws 42 = .ok (.istore 5, 2) := ax_dec dX6_laws_q0_ok 23 (42, .istore 5, 2) rfl
theorem dX6_laws_44 : decode cX6_laws 44 = .ok (.iconst 0, 1) := ax_dec dX6_laws_q0_ok 24 (44, .iconst 0, 1) rfl
theorem dX6_laws_45 : decode cX6_laws 45 = .ok (.istore 6, 2) := ax_dec dX6_laws_q0_ok 25 (45, .istore 6, 2) rfl
theorem dX6_laws_47 : decode cX6_laws 47 = .ok (.iload 6, 2) := ax_dec dX6_laws_q0_ok 26 (47, .iload 6, 2) rfl
theorem dX6_laws_49 : decode cX6_laws 49 = .ok (.bipush 6, 2) := ax_dec dX6_laws_q0_ok 27 (49, .bipush 6, 2) rfl
theorem dX6_laws_51 : decode cX6_laws 51 = .ok (.if_icmp .ge 47, 3) := ax_dec dX6_laws_q0_ok 28 (51, .if_icmp .ge 47, 3) rfl
theorem dX6_laws_54 : decode cX6_laws 54 = .ok (.aload_n 0, 1) := ax_dec dX6_laws_q0_ok 29 (54, .aload_n 0, 1) rfl
theorem dX6_laws_55 : decode cX6_laws 55 = .ok (.iload 6, 2) := ax_dec dX6_laws_q0_ok 30 (55, .iload 6, 2) rfl
theorem dX6_laws_57 : decode cX6_laws 57 = .ok (.aload_n 0, 1) := ax_dec dX6_laws_q0_ok 31 (57, .aload_n 0, 1) rfl
def dX6_laws_q1 : List (Nat × (Instr × Nat)) := [(58, .getfield 28, 3), (61, .invokevirtual 88, 3), (64, .astore 7, 2), (66, .aload 7, 2), (68, .ifnull 24, 3), (71, .aload_n 3, 1), (72, .aload 4, 2), (74, .aload 7, 2), (76, .invokevirtual 236, 3), (79, .iconst (-1), 1), (80, .if_icmp .ne 12, 3), (83, .iload 5, 2), (85, .iconst 1, 1), (86, .iload 6, 2), (88, .ishl, 1), (89, .ior, 1), (90, .istore 5, 2), (92, .iinc 6 1, 3), (95, .goto (-48), 3), (98, .iload 5, 2), (100, .ireturn, 1)]
set_option maxRecDepth 100000 in
theorem dX6_laws_q1_ok : ax_decs cX6_laws dX6_laws_q1 = true := by decide +kernel
theorem dX6_laws_58 : decode cX6_laws 58 = .ok (.getfield 28, 3) := ax_dec dX6_laws_q1_ok 0 (58, .getfield 28, 3) rfl
theorem dX6_laws_61 : decode cX6_laws 61 = .ok (.invokevirtual 88, 3) := ax_dec dX6_laws_q1_ok 1 (61, .invokevirtual 88, 3) rfl
theorem dX6_laws_64 : decode cX6_laws 64 = .ok (.astore 7, 2) := ax_dec dX6_laws_q1_ok 2 (64, .astore 7, 2) rfl
theorem dX6_laws_66 : decode cX6_laws 66 = .ok (.aload 7, 2) := ax_dec dX6_laws_q1_ok 3 (66, .aload 7, 2) rfl
theorem dX6_laws_68 : decode cX6_laws 68 = .ok (.ifnull 24, 3) := ax_dec dX6_laws_q1_ok 4 (68, .ifnull 24, 3) rfl
theorem dX6_laws_71 : decode cX6_laws 71 = .ok (.aload_n 3, 1) := ax_dec dX6_laws_q1_ok 5 (71, .aload_n 3, 1) rfl
theorem dX6_laws_72 : decode cX6_laws 72 = .ok (.aload 4, 2) := ax_dec dX6_laws_q1_ok 6 (72, .aload 4, 2) rfl
theorem dX6_laws_74 : decode cX6_laws 74 = .ok (.aload 7, 2) := ax_dec dX6_laws_q1_ok 7 (74, .aload 7, 2) rfl
theorem dX6_laws_76 : decode cX6_laws 76 = .ok (.invokevirtual 236, 3) := ax_dec dX6_laws_q1_ok 8 (76, .invokevirtual 236, 3) rfl
theorem dX6_laws_79 : decode cX6_laws 79 = .ok (.iconst (-1), 1) := ax_dec dX6_laws_q1_ok 9 (79, .iconst (-1), 1) rfl
theorem dX6_laws_80 : decode cX6_laws 80 = .ok (.if_icmp .ne 12, 3) := ax_dec dX6_laws_q1_ok 10 (80, .if_icmp .ne 12, 3) rfl
theorem dX6_laws_83 : decode cX6_laws 83 = .ok (.iload 5, 2) := ax_dec dX6_laws_q1_ok 11 (83, .iload 5, 2) rfl
theorem dX6_laws_85 : decode cX6_laws 85 = .ok (.iconst 1, 1) := ax_dec dX6_laws_q1_ok 12 (85, .iconst 1, 1) rfl
theorem dX6_laws_86 : decode cX6_laws 86 = .ok (.iload 6, 2) := ax_dec dX6_laws_q1_ok 13 (86, .iload 6, 2) rfl
theorem dX6_laws_88 : decode cX6_laws 88 = .ok (.ishl, 1) := ax_dec dX6_laws_q1_ok 14 (88, .ishl, 1) rfl
theorem dX6_laws_89 : decode cX6_laws 89 = .ok (.ior, 1) := ax_dec dX6_laws_q1_ok 15 (89, .ior, 1) rfl
theorem dX6_laws_90 : decode cX6_laws 90 = .ok (.istore 5, 2) := ax_dec dX6_laws_q1_ok 16 (90, .istore 5, 2) rfl
theorem dX6_laws_92 : decode cX6_laws 92 = .ok (.iinc 6 1, 3) := ax_dec dX6_laws_q1_ok 17 (92, .iinc 6 1, 3) rfl
theorem dX6_laws_95 : decode cX6_laws 95 = .ok (.goto (-48), 3) := ax_dec dX6_laws_q1_ok 18 (95, .goto (-48), 3) rfl
theorem dX6_laws_98 : decode cX6_laws 98 = .ok (.iload 5, 2) := ax_dec dX6_laws_q1_ok 19 (98, .iload 5, 2) rfl
theorem dX6_laws_100 : decode cX6_laws 100 = .ok (.ireturn, 1) := ax_dec dX6_laws_q1_ok 20 (100, .ireturn, 1) rfl
def dX6_blocked_q0 : List (Nat × (Instr × Nat)) := [(0, .aload_n 0, 1), (1, .iload_n 1, 1), (2, .invokevirtual 229, 3), (5, .astore 4, 2), (7, .aload 4, 2), (9, .ifnonnull 6, 3), (12, .bipush (-2), 2), (14, .ireturn, 1), (15, .aload 4, 2), (17, .invokevirtual 233, 3), (20, .ifCond .eq 6, 3), (23, .bipush (-11), 2), (25, .ireturn, 1), (26, .aload_n 0, 1), (27, .getfield 55, 3), (30, .iload_n 2, 1), (31, .invokevirtual 164, 3), (34, .astore 5, 2), (36, .aload 5, 2), (38, .ifnonnull 6, 3), (41, .bipush (-5), 2), (43, .ireturn, 1), (44, .iload_n 3, 1), (45, .iconst 0, 1), (46, .iconst 1, 1), (47, .invokestatic 76, 3), (50, .ifCond .ne 6, 3), (53, .bipush (-7), 2), (55, .ireturn, 1), (56, .iconst (-1), 1), (57, .istore 6, 2), (59, .iconst 0, 1)]
set_option maxRecDepth 100000 in
theorem dX6_blocked_q0_ok : ax_decs cX6_blocked dX6_blocked_q0 = true := by decide +kernel
theorem dX6_blocked_0 : decode cX6_blocked 0 = .ok (.aload_n 0, 1) := ax_dec dX6_blocked_q0_ok 0 (0, .aload_n 0, 1) rfl
theorem dX6_blocked_1 : decode cX6_blocked 1 = .ok (.iload_n 1, 1) := ax_dec dX6_blocked_q0_ok 1 (1, .iload_n 1, 1) rfl
theorem dX6_blocked_2 : decode cX6_blocked 2 = .ok (.invokevirtual 229, 3) := ax_dec dX6_blocked_q0_ok 2 (2, .invokevirtual 229, 3) rfl
theorem dX6_blocked_5 : decode cX6_blocked 5 = .ok (.astore 4, 2) := ax_dec dX6_blocked_q0_ok 3 (5, .astore 4, 2) rfl
theorem dX6_blocked_7 : decode cX6_blocked 7 = .ok (.aload 4, 2) := ax_dec dX6_blocked_q0_ok 4 (7, .aload 4, 2) rfl
theorem dX6_blocked_9 : decode cX6_blocked 9 = .ok (.ifnonnull 6, 3) := ax_dec dX6_blocked_q0_ok 5 (9, .ifnonnull 6, 3) rfl
theorem dX6_blocked_12 : decode cX6_blocked 12 = .ok (.bipush (-2), 2) := ax_dec dX6_blocked_q0_ok 6 (12, .bipush (-2), 2) rfl
theorem dX6_blocked_14 : decode cX6_blocked 14 = .ok (.ireturn, 1) := ax_dec dX6_blocked_q0_ok 7 (14, .ireturn, 1) rfl
theorem dX6_blocked_15 : decode cX6_blocked 15 = .ok (.aload 4, 2) := ax_dec dX6_blocked_q0_ok 8 (15, .aload 4, 2) rfl
theorem dX6_blocked_17 : decode cX6_blocked 17 = .ok (.invokevirtual 233, 3) := ax_dec dX6_blocked_q0_ok 9 (17, .invokevirtual 233, 3) rfl
theorem dX6_blocked_20 : decode cX6_blocked 20 = .ok (.ifCond .eq 6, 3) := ax_dec dX6_blocked_q0_ok 10 (20, .ifCond .eq 6, 3) rfl
theorem dX6_blocked_23 : decode cX6_blocked 23 = .ok (.bipush (-11), 2) := ax_dec dX6_blocked_q0_ok 11 (23, .bipush (-11), 2) rfl
theorem dX6_blocked_25 : decode cX6_blocked 25 = .ok (.ireturn, 1) := ax_dec dX6_blocked_q0_ok 12 (25, .ireturn, 1) rfl
theorem dX6_blocked_26 : decode cX6_blocked 26 = .ok (.aload_n 0, 1) := ax_dec dX6_blocked_q0_ok 13 (26, .aload_n 0, 1) rfl
theorem dX6_blocked_27 : decode cX6_blocked 27 = .ok (.getfield 55, 3) := ax_dec dX6_blocked_q0_ok 14 (27, .getfield 55, 3) rfl
theorem dX6_blocked_30 : decode cX6_blocked 30 = .ok (.iload_n 2, 1) := ax_dec dX6_blocked_q0_ok 15 (30, .iload_n 2, 1) rfl
theorem dX6_blocked_31 : decode cX6_blocked 31 = .ok (.invokevirtual 164, 3) := ax_dec dX6_blocked_q0_ok 16 (31, .invokevirtual 164, 3) rfl
theorem dX6_blocked_34 : decode cX6_blocked 34 = .ok (.astore 5, 2) := ax_dec dX6_blocked_q0_ok 17 (34, .astore 5, 2) rfl
theorem dX6_blocked_36 : decode cX6_blocked 36 = .ok (.aload 5, 2) := ax_dec dX6_blocked_q0_ok 18 (36, .aload 5, 2) rfl
theorem dX6_blocked_38 : decode cX6_blocked 38 = .ok (.ifnonnull 6, 3) := ax_dec dX6_blocked_q0_ok 19 (38, .ifnonnull 6, 3) rfl
theorem dX6_blocked_41 : decode cX6_blocked 41 = .ok (.bipush (-5), 2) := ax_dec dX6_blocked_q0_ok 20 (41, .bipush (-5), 2) rfl
theorem dX6_blocked_43 : decode cX6_blocked 43 = .ok (.ireturn, 1) := ax_dec dX6_blocked_q0_ok 21 (43, .ireturn, 1) rfl
theorem dX6_blocked_44 : decode cX6_blocked 44 = .ok (.iload_n 3, 1) := ax_dec dX6_blocked_q0_ok 22 (44, .iload_n 3, 1) rfl
theorem dX6_blocked_45 : decode cX6_blocked 45 = .ok (.iconst 0, 1) := ax_dec dX6_blocked_q0_ok 23 (45, .iconst 0, 1) rfl
theorem dX6_blocked_46 : decode cX6_blocked 46 = .ok (.iconst 1, 1) := ax_dec dX6_blocked_q0_ok 24 (46, .iconst 1, 1) rfl
theorem dX6_blocked_47 : decode cX6_blocked 47 = .ok (.invokestatic 76, 3) := ax_dec dX6_blocked_q0_ok 25 (47, .invokestatic 76, 3) rfl
theorem dX6_blocked_50 : decode cX6_blocked 50 = .ok (.ifCond .ne 6, 3) := ax_dec dX6_blocked_q0_ok 26 (50, .ifCond .ne 6, 3) rfl
theorem dX6_blocked_53 : decode cX6_blocked 53 = .ok (.bipush (-7), 2) := ax_dec dX6_blocked_q0_ok 27 (53, .bipush (-7), 2) rfl
theorem dX6_blocked_55 : decode cX6_blocked 55 = .ok (.ireturn, 1) := ax_dec dX6_blocked_q0_ok 28 (55, .ireturn, 1) rfl
theorem dX6_blocked_56 : decode cX6_blocked 56 = .ok (.iconst (-1), 1) := ax_dec dX6_blocked_q0_ok 29 (56, .iconst (-1), 1) rfl
theorem dX6_blocked_57 : decode cX6_blocked 57 = .ok (.istore 6, 2) := ax_dec dX6_blocked_q0_ok 30 (57, .istore 6, 2) rfl
theorem dX6_blocked_59 : decode cX6_blocked 59 = .ok (.iconst 0, 1) := ax_dec dX6_blocked_q0_ok 31 (59, .iconst 0, 1) rfl
def dX6_blocked_q1 : List (Nat × (Instr × Nat)) := [(60, .istore 7, 2), (62, .aload 5, 2), (64, .astore 8, 2), (66, .aload 8, 2), (68, .ifnull 76, 3), (71, .iconst 1, 1), (72, .istore 9, 2), (74, .iload 9, 2), (76, .bipush 9, 2), (78, .if_icmp .gt 56, 3), (81, .aload 4, 2), (83, .aload 8, 2), (85, .iload 9, 2), (87, .aload 5, 2), (89, .aload_n 0, 1), (90, .getfield 55, 3), (93, .getfield 92, 3), (96, .invokevirtual 240, 3), (99, .ifCond .eq 29, 3), (102, .iload 7, 2), (104, .ifCond .ne 17, 3), (107, .bipush 10, 2), (109, .aload 8, 2), (111, .getfield 226, 3), (114, .imul, 1), (115, .iload 9, 2), (117, .iadd, 1), (118, .goto 5, 3), (121, .iload 6, 2), (123, .istore 6, 2), (125, .iinc 7 1, 3), (128, .iinc 9 1, 3)]
set_option maxRecDepth 100000 in
theorem dX6_blocked_q1_ok : ax_decs cX6_blocked dX6_blocked_q1 = true := by decide +kernel
theorem dX6_blocked_60 : decode cX6_blocked 60 = .ok (.istore 7, 2) := ax_dec dX6_blocked_q1_ok 0 (60, .istore 7, 2) rfl
theorem dX6_blocked_62 : decode cX6_blocked 62 = .ok (.aload 5, 2) := ax_dec dX6_blocked_q1_ok 1 (62, .aload 5, 2) rfl
theorem dX6_blocked_64 : decode cX6_blocked 64 = .ok (.astore 8, 2) := ax_dec dX6_blocked_q1_ok 2 (64, .astore 8, 2) rfl
theorem dX6_blocked_66 : decode cX6_blocked 66 = .ok (.aload 8, 2) := ax_dec dX6_blocked_q1_ok 3 (66, .aload 8, 2) rfl
theorem dX6_blocked_68 : decode cX6_blocked 68 = .ok (.ifnull 76, 3) := ax_dec dX6_blocked_q1_ok 4 (68, .ifnull 76, 3) rfl
theorem dX6_blocked_71 : decode cX6_blocked 71 = .ok (.iconst 1, 1) := ax_dec dX6_blocked_q1_ok 5 (71, .iconst 1, 1) rfl
theorem dX6_blocked_72 : decode cX6_blocked 72 = .ok (.istore 9, 2) := ax_dec dX6_blocked_q1_ok 6 (72, .istore 9, 2) rfl
theorem dX6_blocked_74 : decode cX6_blocked 74 = .ok (.iload 9, 2) := ax_dec dX6_blocked_q1_ok 7 (74, .iload 9, 2) rfl
theorem dX6_blocked_76 : decode cX6_blocked 76 = .ok (.bipush 9, 2) := ax_dec dX6_blocked_q1_ok 8 (76, .bipush 9, 2) rfl
theorem dX6_blocked_78 : decode cX6_blocked 78 = .ok (.if_icmp .gt 56, 3) := ax_dec dX6_blocked_q1_ok 9 (78, .if_icmp .gt 56, 3) rfl
theorem dX6_blocked_81 : decode cX6_blocked 81 = .ok (.aload 4, 2) := ax_dec dX6_blocked_q1_ok 10 (81, .aload 4, 2) rfl
theorem dX6_blocked_83 : decode cX6_blocked 83 = .ok (.aload 8, 2) := ax_dec dX6_blocked_q1_ok 11 (83, .aload 8, 2) rfl
theorem dX6_blocked_85 : decode cX6_blocked 85 = .ok (.iload 9, 2) := ax_dec dX6_blocked_q1_ok 12 (85, .iload 9, 2) rfl
theorem dX6_blocked_87 : decode cX6_blocked 87 = .ok (.aload 5, 2) := ax_dec dX6_blocked_q1_ok 13 (87, .aload 5, 2) rfl
theorem dX6_blocked_89 : decode cX6_blocked 89 = .ok (.aload_n 0, 1) := ax_dec dX6_blocked_q1_ok 14 (89, .aload_n 0, 1) rfl
theorem dX6_blocked_90 : decode cX6_blocked 90 = .ok (.getfield 55, 3) := ax_dec dX6_blocked_q1_ok 15 (90, .getfield 55, 3) rfl
theorem dX6_blocked_93 : decode cX6_blocked 93 = .ok (.getfield 92, 3) := ax_dec dX6_blocked_q1_ok 16 (93, .getfield 92, 3) rfl
theorem dX6_blocked_96 : decode cX6_blocked 96 = .ok (.invokevirtual 240, 3) := ax_dec dX6_blocked_q1_ok 17 (96, .invokevirtual 240, 3) rfl
theorem dX6_blocked_99 : decode cX6_blocked 99 = .ok (.ifCond .eq 29, 3) := ax_dec dX6_blocked_q1_ok 18 (99, .ifCond .eq 29, 3) rfl
theorem dX6_blocked_102 : decode cX6_blocked 102 = .ok (.iload 7, 2) := ax_dec dX6_blocked_q1_ok 19 (102, .iload 7, 2) rfl
theorem dX6_blocked_104 : decode cX6_blocked 104 = .ok (.ifCond .ne 17, 3) := ax_dec dX6_blocked_q1_ok 20 (104, .ifCond .ne 17, 3) rfl
theorem dX6_blocked_107 : decode cX6_blocked 107 = .ok (.bipush 10, 2) := ax_dec dX6_blocked_q1_ok 21 (107, .bipush 10, 2) rfl
theorem dX6_blocked_109 : decode cX6_blocked 109 = .ok (.aload 8, 2) := ax_dec dX6_blocked_q1_ok 22 (109, .aload 8, 2) rfl
theorem dX6_blocked_111 : decode cX6_blocked 111 = .ok (.getfield 226, 3) := ax_dec dX6_blocked_q1_ok 23 (111, .getfield 226, 3) rfl
theorem dX6_blocked_114 : decode cX6_blocked 114 = .ok (.imul, 1) := ax_dec dX6_blocked_q1_ok 24 (114, .imul, 1) rfl
theorem dX6_blocked_115 : decode cX6_blocked 115 = .ok (.iload 9, 2) := ax_dec dX6_blocked_q1_ok 25 (115, .iload 9, 2) rfl
theorem dX6_blocked_117 : decode cX6_blocked 117 = .ok (.iadd, 1) := ax_dec dX6_blocked_q1_ok 26 (117, .iadd, 1) rfl
theorem dX6_blocked_118 : decode cX6_blocked 118 = .ok (.goto 5, 3) := ax_dec dX6_blocked_q1_ok 27 (118, .goto 5, 3) rfl
theorem dX6_blocked_121 : decode cX6_blocked 121 = .ok (.iload 6, 2) := ax_dec dX6_blocked_q1_ok 28 (121, .iload 6, 2) rfl
theorem dX6_blocked_123 : decode cX6_blocked 123 = .ok (.istore 6, 2) := ax_dec dX6_blocked_q1_ok 29 (123, .istore 6, 2) rfl
theorem dX6_blocked_125 : decode cX6_blocked 125 = .ok (.iinc 7 1, 3) := ax_dec dX6_blocked_q1_ok 30 (125, .iinc 7 1, 3) rfl
theorem dX6_blocked_128 : decode cX6_blocked 128 = .ok (.iinc 9 1, 3) := ax_dec dX6_blocked_q1_ok 31 (128, .iinc 9 1, 3) rfl
def dX6_blocked_q2 : List (Nat × (Instr × Nat)) := [(131, .goto (-57), 3), (134, .aload 8, 2), (136, .getfield 126, 3), (139, .astore 8, 2), (141, .goto (-75), 3), (144, .iload_n 3, 1), (145, .ifCond .ne 8, 3), (148, .iload 6, 2), (150, .goto 5, 3), (153, .iload 7, 2), (155, .ireturn, 1)]
set_option maxRecDepth 100000 in
theorem dX6_blocked_q2_ok : ax_decs cX6_blocked dX6_blocked_q2 = true := by decide +kernel
theorem dX6_blocked_131 : decode cX6_blocked 131 = .ok (.goto (-57), 3) := ax_dec dX6_blocked_q2_ok 0 (131, .goto (-57), 3) rfl
theorem dX6_blocked_134 : decode cX6_blocked 134 = .ok (.aload 8, 2) := ax_dec dX6_blocked_q2_ok 1 (134, .aload 8, 2) rfl
theorem dX6_blocked_136 : decode cX6_blocked 136 = .ok (.getfield 126, 3) := ax_dec dX6_blocked_q2_ok 2 (136, .getfield 126, 3) rfl
theorem dX6_blocked_139 : decode cX6_blocked 139 = .ok (.astore 8, 2) := ax_dec dX6_blocked_q2_ok 3 (139, .astore 8, 2) rfl
theorem dX6_blocked_141 : decode cX6_blocked 141 = .ok (.goto (-75), 3) := ax_dec dX6_blocked_q2_ok 4 (141, .goto (-75), 3) rfl
theorem dX6_blocked_144 : decode cX6_blocked 144 = .ok (.iload_n 3, 1) := ax_dec dX6_blocked_q2_ok 5 (144, .iload_n 3, 1) rfl
theorem dX6_blocked_145 : decode cX6_blocked 145 = .ok (.ifCond .ne 8, 3) := ax_dec dX6_blocked_q2_ok 6 (145, .ifCond .ne 8, 3) rfl
theorem dX6_blocked_148 : decode cX6_blocked 148 = .ok (.iload 6, 2) := ax_dec dX6_blocked_q2_ok 7 (148, .iload 6, 2) rfl
theorem dX6_blocked_150 : decode cX6_blocked 150 = .ok (.goto 5, 3) := ax_dec dX6_blocked_q2_ok 8 (150, .goto 5, 3) rfl
theorem dX6_blocked_153 : decode cX6_blocked 153 = .ok (.iload 7, 2) := ax_dec dX6_blocked_q2_ok 9 (153, .iload 7, 2) rfl
theorem dX6_blocked_155 : decode cX6_blocked 155 = .ok (.ireturn, 1) := ax_dec dX6_blocked_q2_ok 10 (155, .ireturn, 1) rfl
def dX6_film_q0 : List (Nat × (Instr × Nat)) := [(0, .aload_n 0, 1), (1, .iload_n 1, 1), (2, .invokevirtual 229, 3), (5, .astore 4, 2), (7, .aload 4, 2), (9, .ifnonnull 6, 3), (12, .bipush (-2), 2), (14, .ireturn, 1), (15, .aload_n 0, 1), (16, .getfield 55, 3), (19, .iload_n 2, 1), (20, .invokevirtual 164, 3), (23, .astore 5, 2), (25, .aload 5, 2), (27, .ifnonnull 6, 3), (30, .bipush (-5), 2), (32, .ireturn, 1), (33, .iload_n 3, 1), (34, .iconst 0, 1), (35, .bipush 40, 2), (37, .invokestatic 76, 3), (40, .ifCond .ne 6, 3), (43, .bipush (-7), 2), (45, .ireturn, 1), (46, .aload 4, 2), (48, .iconst 2, 1), (49, .iload_n 3, 1), (50, .invokevirtual 244, 3), (53, .iconst 0, 1), (54, .istore 6, 2), (56, .iload 6, 2), (58, .iload_n 3, 1)]
set_option maxRecDepth 100000 in
theorem dX6_film_q0_ok : ax_decs cX6_film dX6_film_q0 = true := by decide +kernel
theorem dX6_film_0 : decode cX6_film 0 = .ok (.aload_n 0, 1) := ax_dec dX6_film_q0_ok 0 (0, .aload_n 0, 1) rfl
theorem dX6_film_1 : decode cX6_film 1 = .ok (.iload_n 1, 1) := ax_dec dX6_film_q0_ok 1 (1, .iload_n 1, 1) rfl
theorem dX6_film_2 : decode cX6_film 2 = .ok (.invokevirtual 229, 3) := ax_dec dX6_film_q0_ok 2 (2, .invokevirtual 229, 3) rfl
theorem dX6_film_5 : decode cX6_film 5 = .ok (.astore 4, 2) := ax_dec dX6_film_q0_ok 3 (5, .astore 4, 2) rfl
theorem dX6_film_7 : decode cX6_film 7 = .ok (.aload 4, 2) := ax_dec dX6_film_q0_ok 4 (7, .aload 4, 2) rfl
theorem dX6_film_9 : decode cX6_film 9 = .ok (.ifnonnull 6, 3) := ax_dec dX6_film_q0_ok 5 (9, .ifnonnull 6, 3) rfl
theorem dX6_film_12 : decode cX6_film 12 = .ok (.bipush (-2), 2) := ax_dec dX6_film_q0_ok 6 (12, .bipush (-2), 2) rfl
theorem dX6_film_14 : decode cX6_film 14 = .ok (.ireturn, 1) := ax_dec dX6_film_q0_ok 7 (14, .ireturn, 1) rfl
theorem dX6_film_15 : decode cX6_film 15 = .ok (.aload_n 0, 1) := ax_dec dX6_film_q0_ok 8 (15, .aload_n 0, 1) rfl
theorem dX6_film_16 : decode cX6_film 16 = .ok (.getfield 55, 3) := ax_dec dX6_film_q0_ok 9 (16, .getfield 55, 3) rfl
theorem dX6_film_19 : decode cX6_film 19 = .ok (.iload_n 2, 1) := ax_dec dX6_film_q0_ok 10 (19, .iload_n 2, 1) rfl
theorem dX6_film_20 : decode cX6_film 20 = .ok (.invokevirtual 164, 3) := ax_dec dX6_film_q0_ok 11 (20, .invokevirtual 164, 3) rfl
theorem dX6_film_23 : decode cX6_film 23 = .ok (.astore 5, 2) := ax_dec dX6_film_q0_ok 12 (23, .astore 5, 2) rfl
theorem dX6_film_25 : decode cX6_film 25 = .ok (.aload 5, 2) := ax_dec dX6_film_q0_ok 13 (25, .aload 5, 2) rfl
theorem dX6_film_27 : decode cX6_film 27 = .ok (.ifnonnull 6, 3) := ax_dec dX6_film_q0_ok 14 (27, .ifnonnull 6, 3) rfl
theorem dX6_film_30 : decode cX6_film 30 = .ok (.bipush (-5), 2) := ax_dec dX6_film_q0_ok 15 (30, .bipush (-5), 2) rfl
theorem dX6_film_32 : decode cX6_film 32 = .ok (.ireturn, 1) := ax_dec dX6_film_q0_ok 16 (32, .ireturn, 1) rfl
theorem dX6_film_33 : decode cX6_film 33 = .ok (.iload_n 3, 1) := ax_dec dX6_film_q0_ok 17 (33, .iload_n 3, 1) rfl
theorem dX6_film_34 : decode cX6_film 34 = .ok (.iconst 0, 1) := ax_dec dX6_film_q0_ok 18 (34, .iconst 0, 1) rfl
theorem dX6_film_35 : decode cX6_film 35 = .ok (.bipush 40, 2) := ax_dec dX6_film_q0_ok 19 (35, .bipush 40, 2) rfl
theorem dX6_film_37 : decode cX6_film 37 = .ok (.invokestatic 76, 3) := ax_dec dX6_film_q0_ok 20 (37, .invokestatic 76, 3) rfl
theorem dX6_film_40 : decode cX6_film 40 = .ok (.ifCond .ne 6, 3) := ax_dec dX6_film_q0_ok 21 (40, .ifCond .ne 6, 3) rfl
theorem dX6_film_43 : decode cX6_film 43 = .ok (.bipush (-7), 2) := ax_dec dX6_film_q0_ok 22 (43, .bipush (-7), 2) rfl
theorem dX6_film_45 : decode cX6_film 45 = .ok (.ireturn, 1) := ax_dec dX6_film_q0_ok 23 (45, .ireturn, 1) rfl
theorem dX6_film_46 : decode cX6_film 46 = .ok (.aload 4, 2) := ax_dec dX6_film_q0_ok 24 (46, .aload 4, 2) rfl
theorem dX6_film_48 : decode cX6_film 48 = .ok (.iconst 2, 1) := ax_dec dX6_film_q0_ok 25 (48, .iconst 2, 1) rfl
theorem dX6_film_49 : decode cX6_film 49 = .ok (.iload_n 3, 1) := ax_dec dX6_film_q0_ok 26 (49, .iload_n 3, 1) rfl
theorem dX6_film_50 : decode cX6_film 50 = .ok (.invokevirtual 244, 3) := ax_dec dX6_film_q0_ok 27 (50, .invokevirtual 244, 3) rfl
theorem dX6_film_53 : decode cX6_film 53 = .ok (.iconst 0, 1) := ax_dec dX6_film_q0_ok 28 (53, .iconst 0, 1) rfl
theorem dX6_film_54 : decode cX6_film 54 = .ok (.istore 6, 2) := ax_dec dX6_film_q0_ok 29 (54, .istore 6, 2) rfl
theorem dX6_film_56 : decode cX6_film 56 = .ok (.iload 6, 2) := ax_dec dX6_film_q0_ok 30 (56, .iload 6, 2) rfl
theorem dX6_film_58 : decode cX6_film 58 = .ok (.iload_n 3, 1) := ax_dec dX6_film_q0_ok 31 (58, .iload_n 3, 1) rfl
def dX6_film_q1 : List (Nat × (Instr × Nat)) := [(59, .if_icmp .ge 32, 3), (62, .aload 4, 2), (64, .iload 6, 2), (66, .aload_n 0, 1), (67, .getfield 55, 3), (70, .getfield 92, 3), (73, .iload 6, 2), (75, .iconst 1, 1), (76, .iadd, 1), (77, .aload 5, 2), (79, .invokevirtual 170, 3), (82, .invokevirtual 248, 3), (85, .iinc 6 1, 3), (88, .goto (-32), 3), (91, .iload_n 3, 1), (92, .ireturn, 1)]
set_option maxRecDepth 100000 in
theorem dX6_film_q1_ok : ax_decs cX6_film dX6_film_q1 = true := by decide +kernel
theorem dX6_film_59 : decode cX6_film 59 = .ok (.if_icmp .ge 32, 3) := ax_dec dX6_film_q1_ok 0 (59, .if_icmp .ge 32, 3) rfl
theorem dX6_film_62 : decode cX6_film 62 = .ok (.aload 4, 2) := ax_dec dX6_film_q1_ok 1 (62, .aload 4, 2) rfl
theorem dX6_film_64 : decode cX6_film 64 = .ok (.iload 6, 2) := ax_dec dX6_film_q1_ok 2 (64, .iload 6, 2) rfl
theorem dX6_film_66 : decode cX6_film 66 = .ok (.aload_n 0, 1) := ax_dec dX6_film_q1_ok 3 (66, .aload_n 0, 1) rfl
theorem dX6_film_67 : decode cX6_film 67 = .ok (.getfield 55, 3) := ax_dec dX6_film_q1_ok 4 (67, .getfield 55, 3) rfl
theorem dX6_film_70 : decode cX6_film 70 = .ok (.getfield 92, 3) := ax_dec dX6_film_q1_ok 5 (70, .getfield 92, 3) rfl
theorem dX6_film_73 : decode cX6_film 73 = .ok (.iload 6, 2) := ax_dec dX6_film_q1_ok 6 (73, .iload 6, 2) rfl
theorem dX6_film_75 : decode cX6_film 75 = .ok (.iconst 1, 1) := ax_dec dX6_film_q1_ok 7 (75, .iconst 1, 1) rfl
theorem dX6_film_76 : decode cX6_film 76 = .ok (.iadd, 1) := ax_dec dX6_film_q1_ok 8 (76, .iadd, 1) rfl
theorem dX6_film_77 : decode cX6_film 77 = .ok (.aload 5, 2) := ax_dec dX6_film_q1_ok 9 (77, .aload 5, 2) rfl
theorem dX6_film_79 : decode cX6_film 79 = .ok (.invokevirtual 170, 3) := ax_dec dX6_film_q1_ok 10 (79, .invokevirtual 170, 3) rfl
theorem dX6_film_82 : decode cX6_film 82 = .ok (.invokevirtual 248, 3) := ax_dec dX6_film_q1_ok 11 (82, .invokevirtual 248, 3) rfl
theorem dX6_film_85 : decode cX6_film 85 = .ok (.iinc 6 1, 3) := ax_dec dX6_film_q1_ok 12 (85, .iinc 6 1, 3) rfl
theorem dX6_film_88 : decode cX6_film 88 = .ok (.goto (-32), 3) := ax_dec dX6_film_q1_ok 13 (88, .goto (-32), 3) rfl
theorem dX6_film_91 : decode cX6_film 91 = .ok (.iload_n 3, 1) := ax_dec dX6_film_q1_ok 14 (91, .iload_n 3, 1) rfl
theorem dX6_film_92 : decode cX6_film 92 = .ok (.ireturn, 1) := ax_dec dX6_film_q1_ok 15 (92, .ireturn, 1) rfl
def dX6_drawn_q0 : List (Nat × (Instr × Nat)) := [(0, .aload_n 0, 1), (1, .getfield 55, 3), (4, .iload_n 2, 1), (5, .invokevirtual 164, 3), (8, .astore 5, 2), (10, .aload 5, 2), (12, .ifnonnull 6, 3), (15, .bipush (-5), 2), (17, .ireturn, 1), (18, .iload_n 1, 1), (19, .iconst 0, 1), (20, .ldc 251, 2), (22, .invokestatic 76, 3), (25, .ifCond .eq 24, 3), (28, .iload_n 3, 1), (29, .iconst 0, 1), (30, .bipush 40, 2), (32, .invokestatic 76, 3), (35, .ifCond .eq 14, 3), (38, .iload 4, 2), (40, .iconst 0, 1), (41, .bipush 99, 2), (43, .invokestatic 76, 3), (46, .ifCond .ne 6, 3), (49, .bipush (-7), 2), (51, .ireturn, 1), (52, .aload_n 0, 1), (53, .getfield 55, 3), (56, .aload 5, 2), (58, .iload_n 3, 1), (59, .iload 4, 2), (61, .invokevirtual 252, 3)]
set_option maxRecDepth 100000 in
theorem dX6_drawn_q0_ok : ax_decs cX6_drawn dX6_drawn_q0 = true := by decide +kernel
theorem dX6_drawn_0 : decode cX6_drawn 0 = .ok (.aload_n 0, 1) := ax_dec dX6_drawn_q0_ok 0 (0, .aload_n 0, 1) rfl
theorem dX6_drawn_1 : decode cX6_drawn 1 = .ok (.getfield 55, 3) := ax_dec dX6_drawn_q0_ok 1 (1, .getfield 55, 3) rfl
theorem dX6_drawn_4 : decode cX6_drawn 4 = .ok (.iload_n 2, 1) := ax_dec dX6_drawn_q0_ok 2 (4, .iload_n 2, 1) rfl
theorem dX6_drawn_5 : decode cX6_drawn 5 = .ok (.invokevirtual 164, 3) := ax_dec dX6_drawn_q0_ok 3 (5, .invokevirtual 164, 3) rfl
theorem dX6_drawn_8 : decode cX6_drawn 8 = .ok (.astore 5, 2) := ax_dec dX6_drawn_q0_ok 4 (8, .astore 5, 2) rfl
theorem dX6_drawn_10 : decode cX6_drawn 10 = .ok (.aload 5, 2) := ax_dec dX6_drawn_q0_ok 5 (10, .aload 5, 2) rfl
theorem dX6_drawn_12 : decode cX6_drawn 12 = .ok (.ifnonnull 6, 3) := ax_dec dX6_drawn_q0_ok 6 (12, .ifnonnull 6, 3) rfl
theorem dX6_drawn_15 : decode cX6_drawn 15 = .ok (.bipush (-5), 2) := ax_dec dX6_drawn_q0_ok 7 (15, .bipush (-5), 2) rfl
theorem dX6_drawn_17 : decode cX6_drawn 17 = .ok (.ireturn, 1) := ax_dec dX6_drawn_q0_ok 8 (17, .ireturn, 1) rfl
theorem dX6_drawn_18 : decode cX6_drawn 18 = .ok (.iload_n 1, 1) := ax_dec dX6_drawn_q0_ok 9 (18, .iload_n 1, 1) rfl
theorem dX6_drawn_19 : decode cX6_drawn 19 = .ok (.iconst 0, 1) := ax_dec dX6_drawn_q0_ok 10 (19, .iconst 0, 1) rfl
theorem dX6_drawn_20 : decode cX6_drawn 20 = .ok (.ldc 251, 2) := ax_dec dX6_drawn_q0_ok 11 (20, .ldc 251, 2) rfl
theorem dX6_drawn_22 : decode cX6_drawn 22 = .ok (.invokestatic 76, 3) := ax_dec dX6_drawn_q0_ok 12 (22, .invokestatic 76, 3) rfl
theorem dX6_drawn_25 : decode cX6_drawn 25 = .ok (.ifCond .eq 24, 3) := ax_dec dX6_drawn_q0_ok 13 (25, .ifCond .eq 24, 3) rfl
theorem dX6_drawn_28 : decode cX6_drawn 28 = .ok (.iload_n 3, 1) := ax_dec dX6_drawn_q0_ok 14 (28, .iload_n 3, 1) rfl
theorem dX6_drawn_29 : decode cX6_drawn 29 = .ok (.iconst 0, 1) := ax_dec dX6_drawn_q0_ok 15 (29, .iconst 0, 1) rfl
theorem dX6_drawn_30 : decode cX6_drawn 30 = .ok (.bipush 40, 2) := ax_dec dX6_drawn_q0_ok 16 (30, .bipush 40, 2) rfl
theorem dX6_drawn_32 : decode cX6_drawn 32 = .ok (.invokestatic 76, 3) := ax_dec dX6_drawn_q0_ok 17 (32, .invokestatic 76, 3) rfl
theorem dX6_drawn_35 : decode cX6_drawn 35 = .ok (.ifCond .eq 14, 3) := ax_dec dX6_drawn_q0_ok 18 (35, .ifCond .eq 14, 3) rfl
theorem dX6_drawn_38 : decode cX6_drawn 38 = .ok (.iload 4, 2) := ax_dec dX6_drawn_q0_ok 19 (38, .iload 4, 2) rfl
theorem dX6_drawn_40 : decode cX6_drawn 40 = .ok (.iconst 0, 1) := ax_dec dX6_drawn_q0_ok 20 (40, .iconst 0, 1) rfl
theorem dX6_drawn_41 : decode cX6_drawn 41 = .ok (.bipush 99, 2) := ax_dec dX6_drawn_q0_ok 21 (41, .bipush 99, 2) rfl
theorem dX6_drawn_43 : decode cX6_drawn 43 = .ok (.invokestatic 76, 3) := ax_dec dX6_drawn_q0_ok 22 (43, .invokestatic 76, 3) rfl
theorem dX6_drawn_46 : decode cX6_drawn 46 = .ok (.ifCond .ne 6, 3) := ax_dec dX6_drawn_q0_ok 23 (46, .ifCond .ne 6, 3) rfl
theorem dX6_drawn_49 : decode cX6_drawn 49 = .ok (.bipush (-7), 2) := ax_dec dX6_drawn_q0_ok 24 (49, .bipush (-7), 2) rfl
theorem dX6_drawn_51 : decode cX6_drawn 51 = .ok (.ireturn, 1) := ax_dec dX6_drawn_q0_ok 25 (51, .ireturn, 1) rfl
theorem dX6_drawn_52 : decode cX6_drawn 52 = .ok (.aload_n 0, 1) := ax_dec dX6_drawn_q0_ok 26 (52, .aload_n 0, 1) rfl
theorem dX6_drawn_53 : decode cX6_drawn 53 = .ok (.getfield 55, 3) := ax_dec dX6_drawn_q0_ok 27 (53, .getfield 55, 3) rfl
theorem dX6_drawn_56 : decode cX6_drawn 56 = .ok (.aload 5, 2) := ax_dec dX6_drawn_q0_ok 28 (56, .aload 5, 2) rfl
theorem dX6_drawn_58 : decode cX6_drawn 58 = .ok (.iload_n 3, 1) := ax_dec dX6_drawn_q0_ok 29 (58, .iload_n 3, 1) rfl
theorem dX6_drawn_59 : decode cX6_drawn 59 = .ok (.iload 4, 2) := ax_dec dX6_drawn_q0_ok 30 (59, .iload 4, 2) rfl
theorem dX6_drawn_61 : decode cX6_drawn 61 = .ok (.invokevirtual 252, 3) := ax_dec dX6_drawn_q0_ok 31 (61, .invokevirtual 252, 3) rfl
def dX6_drawn_q1 : List (Nat × (Instr × Nat)) := [(64, .aload_n 0, 1), (65, .getfield 55, 3), (68, .iload_n 1, 1), (69, .i2l, 1), (70, .aload 5, 2), (72, .iload_n 3, 1), (73, .invokevirtual 256, 3), (76, .ireturn, 1)]
set_option maxRecDepth 100000 in
theorem dX6_drawn_q1_ok : ax_decs cX6_drawn dX6_drawn_q1 = true := by decide +kernel
theorem dX6_drawn_64 : decode cX6_drawn 64 = .ok (.aload_n 0, 1) := ax_dec dX6_drawn_q1_ok 0 (64, .aload_n 0, 1) rfl
theorem dX6_drawn_65 : decode cX6_drawn 65 = .ok (.getfield 55, 3) := ax_dec dX6_drawn_q1_ok 1 (65, .getfield 55, 3) rfl
theorem dX6_drawn_68 : decode cX6_drawn 68 = .ok (.iload_n 1, 1) := ax_dec dX6_drawn_q1_ok 2 (68, .iload_n 1, 1) rfl
theorem dX6_drawn_69 : decode cX6_drawn 69 = .ok (.i2l, 1) := ax_dec dX6_drawn_q1_ok 3 (69, .i2l, 1) rfl
theorem dX6_drawn_70 : decode cX6_drawn 70 = .ok (.aload 5, 2) := ax_dec dX6_drawn_q1_ok 4 (70, .aload 5, 2) rfl
theorem dX6_drawn_72 : decode cX6_drawn 72 = .ok (.iload_n 3, 1) := ax_dec dX6_drawn_q1_ok 5 (72, .iload_n 3, 1) rfl
theorem dX6_drawn_73 : decode cX6_drawn 73 = .ok (.invokevirtual 256, 3) := ax_dec dX6_drawn_q1_ok 6 (73, .invokevirtual 256, 3) rfl
theorem dX6_drawn_76 : decode cX6_drawn 76 = .ok (.ireturn, 1) := ax_dec dX6_drawn_q1_ok 7 (76, .ireturn, 1) rfl
def dX6_odds_q0 : List (Nat × (Instr × Nat)) := [(0, .aload_n 0, 1), (1, .getfield 55, 3), (4, .iload_n 2, 1), (5, .invokevirtual 164, 3), (8, .astore 6, 2), (10, .aload 6, 2), (12, .ifnull 23, 3), (15, .iload_n 1, 1), (16, .iconst 0, 1), (17, .ldc 251, 2), (19, .invokestatic 76, 3), (22, .ifCond .eq 13, 3), (25, .iload_n 3, 1), (26, .iconst 0, 1), (27, .bipush 40, 2), (29, .invokestatic 76, 3), (32, .ifCond .ne 7, 3), (35, .ldc2_w 199, 3), (38, .lreturn, 1), (39, .iload 4, 2), (41, .iconst 0, 1), (42, .bipush 99, 2), (44, .invokestatic 76, 3), (47, .ifCond .eq 13, 3), (50, .iload 5, 2), (52, .iconst 0, 1), (53, .iconst 1, 1), (54, .invokestatic 76, 3), (57, .ifCond .ne 7, 3), (60, .ldc2_w 199, 3), (63, .lreturn, 1), (64, .aload_n 0, 1)]
set_option maxRecDepth 100000 in
theorem dX6_odds_q0_ok : ax_decs cX6_odds dX6_odds_q0 = true := by decide +kernel
theorem dX6_odds_0 : decode cX6_odds 0 = .ok (.aload_n 0, 1) := ax_dec dX6_odds_q0_ok 0 (0, .aload_n 0, 1) rfl
theorem dX6_odds_1 : decode cX6_odds 1 = .ok (.getfield 55, 3) := ax_dec dX6_odds_q0_ok 1 (1, .getfield 55, 3) rfl
theorem dX6_odds_4 : decode cX6_odds 4 = .ok (.iload_n 2, 1) := ax_dec dX6_odds_q0_ok 2 (4, .iload_n 2, 1) rfl
theorem dX6_odds_5 : decode cX6_odds 5 = .ok (.invokevirtual 164, 3) := ax_dec dX6_odds_q0_ok 3 (5, .invokevirtual 164, 3) rfl
theorem dX6_odds_8 : decode cX6_odds 8 = .ok (.astore 6, 2) := ax_dec dX6_odds_q0_ok 4 (8, .astore 6, 2) rfl
theorem dX6_odds_10 : decode cX6_odds 10 = .ok (.aload 6, 2) := ax_dec dX6_odds_q0_ok 5 (10, .aload 6, 2) rfl
theorem dX6_odds_12 : decode cX6_odds 12 = .ok (.ifnull 23, 3) := ax_dec dX6_odds_q0_ok 6 (12, .ifnull 23, 3) rfl
theorem dX6_odds_15 : decode cX6_odds 15 = .ok (.iload_n 1, 1) := ax_dec dX6_odds_q0_ok 7 (15, .iload_n 1, 1) rfl
theorem dX6_odds_16 : decode cX6_odds 16 = .ok (.iconst 0, 1) := ax_dec dX6_odds_q0_ok 8 (16, .iconst 0, 1) rfl
theorem dX6_odds_17 : decode cX6_odds 17 = .ok (.ldc 251, 2) := ax_dec dX6_odds_q0_ok 9 (17, .ldc 251, 2) rfl
theorem dX6_odds_19 : decode cX6_odds 19 = .ok (.invokestatic 76, 3) := ax_dec dX6_odds_q0_ok 10 (19, .invokestatic 76, 3) rfl
theorem dX6_odds_22 : decode cX6_odds 22 = .ok (.ifCond .eq 13, 3) := ax_dec dX6_odds_q0_ok 11 (22, .ifCond .eq 13, 3) rfl
theorem dX6_odds_25 : decode cX6_odds 25 = .ok (.iload_n 3, 1) := ax_dec dX6_odds_q0_ok 12 (25, .iload_n 3, 1) rfl
theorem dX6_odds_26 : decode cX6_odds 26 = .ok (.iconst 0, 1) := ax_dec dX6_odds_q0_ok 13 (26, .iconst 0, 1) rfl
theorem dX6_odds_27 : decode cX6_odds 27 = .ok (.bipush 40, 2) := ax_dec dX6_odds_q0_ok 14 (27, .bipush 40, 2) rfl
theorem dX6_odds_29 : decode cX6_odds 29 = .ok (.invokestatic 76, 3) := ax_dec dX6_odds_q0_ok 15 (29, .invokestatic 76, 3) rfl
theorem dX6_odds_32 : decode cX6_odds 32 = .ok (.ifCond .ne 7, 3) := ax_dec dX6_odds_q0_ok 16 (32, .ifCond .ne 7, 3) rfl
theorem dX6_odds_35 : decode cX6_odds 35 = .ok (.ldc2_w 199, 3) := ax_dec dX6_odds_q0_ok 17 (35, .ldc2_w 199, 3) rfl
theorem dX6_odds_38 : decode cX6_odds 38 = .ok (.lreturn, 1) := ax_dec dX6_odds_q0_ok 18 (38, .lreturn, 1) rfl
theorem dX6_odds_39 : decode cX6_odds 39 = .ok (.iload 4, 2) := ax_dec dX6_odds_q0_ok 19 (39, .iload 4, 2) rfl
theorem dX6_odds_41 : decode cX6_odds 41 = .ok (.iconst 0, 1) := ax_dec dX6_odds_q0_ok 20 (41, .iconst 0, 1) rfl
theorem dX6_odds_42 : decode cX6_odds 42 = .ok (.bipush 99, 2) := ax_dec dX6_odds_q0_ok 21 (42, .bipush 99, 2) rfl
theorem dX6_odds_44 : decode cX6_odds 44 = .ok (.invokestatic 76, 3) := ax_dec dX6_odds_q0_ok 22 (44, .invokestatic 76, 3) rfl
theorem dX6_odds_47 : decode cX6_odds 47 = .ok (.ifCond .eq 13, 3) := ax_dec dX6_odds_q0_ok 23 (47, .ifCond .eq 13, 3) rfl
theorem dX6_odds_50 : decode cX6_odds 50 = .ok (.iload 5, 2) := ax_dec dX6_odds_q0_ok 24 (50, .iload 5, 2) rfl
theorem dX6_odds_52 : decode cX6_odds 52 = .ok (.iconst 0, 1) := ax_dec dX6_odds_q0_ok 25 (52, .iconst 0, 1) rfl
theorem dX6_odds_53 : decode cX6_odds 53 = .ok (.iconst 1, 1) := ax_dec dX6_odds_q0_ok 26 (53, .iconst 1, 1) rfl
theorem dX6_odds_54 : decode cX6_odds 54 = .ok (.invokestatic 76, 3) := ax_dec dX6_odds_q0_ok 27 (54, .invokestatic 76, 3) rfl
theorem dX6_odds_57 : decode cX6_odds 57 = .ok (.ifCond .ne 7, 3) := ax_dec dX6_odds_q0_ok 28 (57, .ifCond .ne 7, 3) rfl
theorem dX6_odds_60 : decode cX6_odds 60 = .ok (.ldc2_w 199, 3) := ax_dec dX6_odds_q0_ok 29 (60, .ldc2_w 199, 3) rfl
theorem dX6_odds_63 : decode cX6_odds 63 = .ok (.lreturn, 1) := ax_dec dX6_odds_q0_ok 30 (63, .lreturn, 1) rfl
theorem dX6_odds_64 : decode cX6_odds 64 = .ok (.aload_n 0, 1) := ax_dec dX6_odds_q0_ok 31 (64, .aload_n 0, 1) rfl
def dX6_odds_q1 : List (Nat × (Instr × Nat)) := [(65, .getfield 55, 3), (68, .aload 6, 2), (70, .iload_n 3, 1), (71, .iload 4, 2), (73, .invokevirtual 252, 3), (76, .iconst 0, 1), (77, .istore 7, 2), (79, .iconst 0, 1), (80, .istore 8, 2), (82, .iload 8, 2), (84, .bipush 20, 2), (86, .if_icmp .ge 31, 3), (89, .aload_n 0, 1), (90, .getfield 55, 3), (93, .iload_n 1, 1), (94, .iload 8, 2), (96, .iadd, 1), (97, .i2l, 1), (98, .aload 6, 2), (100, .iload_n 3, 1), (101, .invokevirtual 256, 3), (104, .iconst (-1), 1), (105, .if_icmp .ne 6, 3), (108, .iinc 7 1, 3), (111, .iinc 8 1, 3), (114, .goto (-32), 3), (117, .bipush 20, 2), (119, .istore 8, 2), (121, .bipush 20, 2), (123, .istore 9, 2), (125, .iload 9, 2), (127, .iconst 1, 1)]
set_option maxRecDepth 100000 in
theorem dX6_odds_q1_ok : ax_decs cX6_odds dX6_odds_q1 = true := by decide +kernel
theorem dX6_odds_65 : decode cX6_odds 65 = .ok (.getfield 55, 3) := ax_dec dX6_odds_q1_ok 0 (65, .getfield 55, 3) rfl
theorem dX6_odds_68 : decode cX6_odds 68 = .ok (.aload 6, 2) := ax_dec dX6_odds_q1_ok 1 (68, .aload 6, 2) rfl
theorem dX6_odds_70 : decode cX6_odds 70 = .ok (.iload_n 3, 1) := ax_dec dX6_odds_q1_ok 2 (70, .iload_n 3, 1) rfl
theorem dX6_odds_71 : decode cX6_odds 71 = .ok (.iload 4, 2) := ax_dec dX6_odds_q1_ok 3 (71, .iload 4, 2) rfl
theorem dX6_odds_73 : decode cX6_odds 73 = .ok (.invokevirtual 252, 3) := ax_dec dX6_odds_q1_ok 4 (73, .invokevirtual 252, 3) rfl
theorem dX6_odds_76 : decode cX6_odds 76 = .ok (.iconst 0, 1) := ax_dec dX6_odds_q1_ok 5 (76, .iconst 0, 1) rfl
theorem dX6_odds_77 : decode cX6_odds 77 = .ok (.istore 7, 2) := ax_dec dX6_odds_q1_ok 6 (77, .istore 7, 2) rfl
theorem dX6_odds_79 : decode cX6_odds 79 = .ok (.iconst 0, 1) := ax_dec dX6_odds_q1_ok 7 (79, .iconst 0, 1) rfl
theorem dX6_odds_80 : decode cX6_odds 80 = .ok (.istore 8, 2) := ax_dec dX6_odds_q1_ok 8 (80, .istore 8, 2) rfl
theorem dX6_odds_82 : decode cX6_odds 82 = .ok (.iload 8, 2) := ax_dec dX6_odds_q1_ok 9 (82, .iload 8, 2) rfl
theorem dX6_odds_84 : decode cX6_odds 84 = .ok (.bipush 20, 2) := ax_dec dX6_odds_q1_ok 10 (84, .bipush 20, 2) rfl
theorem dX6_odds_86 : decode cX6_odds 86 = .ok (.if_icmp .ge 31, 3) := ax_dec dX6_odds_q1_ok 11 (86, .if_icmp .ge 31, 3) rfl
theorem dX6_odds_89 : decode cX6_odds 89 = .ok (.aload_n 0, 1) := ax_dec dX6_odds_q1_ok 12 (89, .aload_n 0, 1) rfl
theorem dX6_odds_90 : decode cX6_odds 90 = .ok (.getfield 55, 3) := ax_dec dX6_odds_q1_ok 13 (90, .getfield 55, 3) rfl
theorem dX6_odds_93 : decode cX6_odds 93 = .ok (.iload_n 1, 1) := ax_dec dX6_odds_q1_ok 14 (93, .iload_n 1, 1) rfl
theorem dX6_odds_94 : decode cX6_odds 94 = .ok (.iload 8, 2) := ax_dec dX6_odds_q1_ok 15 (94, .iload 8, 2) rfl
theorem dX6_odds_96 : decode cX6_odds 96 = .ok (.iadd, 1) := ax_dec dX6_odds_q1_ok 16 (96, .iadd, 1) rfl
theorem dX6_odds_97 : decode cX6_odds 97 = .ok (.i2l, 1) := ax_dec dX6_odds_q1_ok 17 (97, .i2l, 1) rfl
theorem dX6_odds_98 : decode cX6_odds 98 = .ok (.aload 6, 2) := ax_dec dX6_odds_q1_ok 18 (98, .aload 6, 2) rfl
theorem dX6_odds_100 : decode cX6_odds 100 = .ok (.iload_n 3, 1) := ax_dec dX6_odds_q1_ok 19 (100, .iload_n 3, 1) rfl
theorem dX6_odds_101 : decode cX6_odds 101 = .ok (.invokevirtual 256, 3) := ax_dec dX6_odds_q1_ok 20 (101, .invokevirtual 256, 3) rfl
theorem dX6_odds_104 : decode cX6_odds 104 = .ok (.iconst (-1), 1) := ax_dec dX6_odds_q1_ok 21 (104, .iconst (-1), 1) rfl
theorem dX6_odds_105 : decode cX6_odds 105 = .ok (.if_icmp .ne 6, 3) := ax_dec dX6_odds_q1_ok 22 (105, .if_icmp .ne 6, 3) rfl
theorem dX6_odds_108 : decode cX6_odds 108 = .ok (.iinc 7 1, 3) := ax_dec dX6_odds_q1_ok 23 (108, .iinc 7 1, 3) rfl
theorem dX6_odds_111 : decode cX6_odds 111 = .ok (.iinc 8 1, 3) := ax_dec dX6_odds_q1_ok 24 (111, .iinc 8 1, 3) rfl
theorem dX6_odds_114 : decode cX6_odds 114 = .ok (.goto (-32), 3) := ax_dec dX6_odds_q1_ok 25 (114, .goto (-32), 3) rfl
theorem dX6_odds_117 : decode cX6_odds 117 = .ok (.bipush 20, 2) := ax_dec dX6_odds_q1_ok 26 (117, .bipush 20, 2) rfl
theorem dX6_odds_119 : decode cX6_odds 119 = .ok (.istore 8, 2) := ax_dec dX6_odds_q1_ok 27 (119, .istore 8, 2) rfl
theorem dX6_odds_121 : decode cX6_odds 121 = .ok (.bipush 20, 2) := ax_dec dX6_odds_q1_ok 28 (121, .bipush 20, 2) rfl
theorem dX6_odds_123 : decode cX6_odds 123 = .ok (.istore 9, 2) := ax_dec dX6_odds_q1_ok 29 (123, .istore 9, 2) rfl
theorem dX6_odds_125 : decode cX6_odds 125 = .ok (.iload 9, 2) := ax_dec dX6_odds_q1_ok 30 (125, .iload 9, 2) rfl
theorem dX6_odds_127 : decode cX6_odds 127 = .ok (.iconst 1, 1) := ax_dec dX6_odds_q1_ok 31 (127, .iconst 1, 1) rfl
def dX6_odds_q2 : List (Nat × (Instr × Nat)) := [(128, .if_icmp .le 39, 3), (131, .iload 7, 2), (133, .iload 9, 2), (135, .irem, 1), (136, .ifCond .ne 25, 3), (139, .iload 8, 2), (141, .iload 9, 2), (143, .irem, 1), (144, .ifCond .ne 17, 3), (147, .iload 7, 2), (149, .iload 9, 2), (151, .idiv, 1), (152, .istore 7, 2), (154, .iload 8, 2), (156, .iload 9, 2), (158, .idiv, 1), (159, .istore 8, 2), (161, .iinc 9 (-1), 3), (164, .goto (-39), 3), (167, .iload 5, 2), (169, .ifCond .ne 9, 3), (172, .iload 7, 2), (174, .i2l, 1), (175, .goto 6, 3), (178, .iload 8, 2), (180, .i2l, 1), (181, .lreturn, 1)]
set_option maxRecDepth 100000 in
theorem dX6_odds_q2_ok : ax_decs cX6_odds dX6_odds_q2 = true := by decide +kernel
theorem dX6_odds_128 : decode cX6_odds 128 = .ok (.if_icmp .le 39, 3) := ax_dec dX6_odds_q2_ok 0 (128, .if_icmp .le 39, 3) rfl
theorem dX6_odds_131 : decode cX6_odds 131 = .ok (.iload 7, 2) := ax_dec dX6_odds_q2_ok 1 (131, .iload 7, 2) rfl
theorem dX6_odds_133 : decode cX6_odds 133 = .ok (.iload 9, 2) := ax_dec dX6_odds_q2_ok 2 (133, .iload 9, 2) rfl
theorem dX6_odds_135 : decode cX6_odds 135 = .ok (.irem, 1) := ax_dec dX6_odds_q2_ok 3 (135, .irem, 1) rfl
theorem dX6_odds_136 : decode cX6_odds 136 = .ok (.ifCond .ne 25, 3) := ax_dec dX6_odds_q2_ok 4 (136, .ifCond .ne 25, 3) rfl
theorem dX6_odds_139 : decode cX6_odds 139 = .ok (.iload 8, 2) := ax_dec dX6_odds_q2_ok 5 (139, .iload 8, 2) rfl
theorem dX6_odds_141 : decode cX6_odds 141 = .ok (.iload 9, 2) := ax_dec dX6_odds_q2_ok 6 (141, .iload 9, 2) rfl
theorem dX6_odds_143 : decode cX6_odds 143 = .ok (.irem, 1) := ax_dec dX6_odds_q2_ok 7 (143, .irem, 1) rfl
theorem dX6_odds_144 : decode cX6_odds 144 = .ok (.ifCond .ne 17, 3) := ax_dec dX6_odds_q2_ok 8 (144, .ifCond .ne 17, 3) rfl
theorem dX6_odds_147 : decode cX6_odds 147 = .ok (.iload 7, 2) := ax_dec dX6_odds_q2_ok 9 (147, .iload 7, 2) rfl
theorem dX6_odds_149 : decode cX6_odds 149 = .ok (.iload 9, 2) := ax_dec dX6_odds_q2_ok 10 (149, .iload 9, 2) rfl
theorem dX6_odds_151 : decode cX6_odds 151 = .ok (.idiv, 1) := ax_dec dX6_odds_q2_ok 11 (151, .idiv, 1) rfl
theorem dX6_odds_152 : decode cX6_odds 152 = .ok (.istore 7, 2) := ax_dec dX6_odds_q2_ok 12 (152, .istore 7, 2) rfl
theorem dX6_odds_154 : decode cX6_odds 154 = .ok (.iload 8, 2) := ax_dec dX6_odds_q2_ok 13 (154, .iload 8, 2) rfl
theorem dX6_odds_156 : decode cX6_odds 156 = .ok (.iload 9, 2) := ax_dec dX6_odds_q2_ok 14 (156, .iload 9, 2) rfl
theorem dX6_odds_158 : decode cX6_odds 158 = .ok (.idiv, 1) := ax_dec dX6_odds_q2_ok 15 (158, .idiv, 1) rfl
theorem dX6_odds_159 : decode cX6_odds 159 = .ok (.istore 8, 2) := ax_dec dX6_odds_q2_ok 16 (159, .istore 8, 2) rfl
theorem dX6_odds_161 : decode cX6_odds 161 = .ok (.iinc 9 (-1), 3) := ax_dec dX6_odds_q2_ok 17 (161, .iinc 9 (-1), 3) rfl
theorem dX6_odds_164 : decode cX6_odds 164 = .ok (.goto (-39), 3) := ax_dec dX6_odds_q2_ok 18 (164, .goto (-39), 3) rfl
theorem dX6_odds_167 : decode cX6_odds 167 = .ok (.iload 5, 2) := ax_dec dX6_odds_q2_ok 19 (167, .iload 5, 2) rfl
theorem dX6_odds_169 : decode cX6_odds 169 = .ok (.ifCond .ne 9, 3) := ax_dec dX6_odds_q2_ok 20 (169, .ifCond .ne 9, 3) rfl
theorem dX6_odds_172 : decode cX6_odds 172 = .ok (.iload 7, 2) := ax_dec dX6_odds_q2_ok 21 (172, .iload 7, 2) rfl
theorem dX6_odds_174 : decode cX6_odds 174 = .ok (.i2l, 1) := ax_dec dX6_odds_q2_ok 22 (174, .i2l, 1) rfl
theorem dX6_odds_175 : decode cX6_odds 175 = .ok (.goto 6, 3) := ax_dec dX6_odds_q2_ok 23 (175, .goto 6, 3) rfl
theorem dX6_odds_178 : decode cX6_odds 178 = .ok (.iload 8, 2) := ax_dec dX6_odds_q2_ok 24 (178, .iload 8, 2) rfl
theorem dX6_odds_180 : decode cX6_odds 180 = .ok (.i2l, 1) := ax_dec dX6_odds_q2_ok 25 (180, .i2l, 1) rfl
theorem dX6_odds_181 : decode cX6_odds 181 = .ok (.lreturn, 1) := ax_dec dX6_odds_q2_ok 26 (181, .lreturn, 1) rfl
def dX6_image_q0 : List (Nat × (Instr × Nat)) := [(0, .aload_n 0, 1), (1, .getfield 55, 3), (4, .invokevirtual 260, 3), (7, .aload_n 0, 1), (8, .aload_n 0, 1), (9, .getfield 32, 3), (12, .putfield 35, 3), (15, .aload_n 0, 1), (16, .getfield 55, 3), (19, .getfield 59, 3), (22, .ireturn, 1)]
set_option maxRecDepth 100000 in
theorem dX6_image_q0_ok : ax_decs cX6_image dX6_image_q0 = true := by decide +kernel
theorem dX6_image_0 : decode cX6_image 0 = .ok (.aload_n 0, 1) := ax_dec dX6_image_q0_ok 0 (0, .aload_n 0, 1) rfl
theorem dX6_image_1 : decode cX6_image 1 = .ok (.getfield 55, 3) := ax_dec dX6_image_q0_ok 1 (1, .getfield 55, 3) rfl
theorem dX6_image_4 : decode cX6_image 4 = .ok (.invokevirtual 260, 3) := ax_dec dX6_image_q0_ok 2 (4, .invokevirtual 260, 3) rfl
theorem dX6_image_7 : decode cX6_image 7 = .ok (.aload_n 0, 1) := ax_dec dX6_image_q0_ok 3 (7, .aload_n 0, 1) rfl
theorem dX6_image_8 : decode cX6_image 8 = .ok (.aload_n 0, 1) := ax_dec dX6_image_q0_ok 4 (8, .aload_n 0, 1) rfl
theorem dX6_image_9 : decode cX6_image 9 = .ok (.getfield 32, 3) := ax_dec dX6_image_q0_ok 5 (9, .getfield 32, 3) rfl
theorem dX6_image_12 : decode cX6_image 12 = .ok (.putfield 35, 3) := ax_dec dX6_image_q0_ok 6 (12, .putfield 35, 3) rfl
theorem dX6_image_15 : decode cX6_image 15 = .ok (.aload_n 0, 1) := ax_dec dX6_image_q0_ok 7 (15, .aload_n 0, 1) rfl
theorem dX6_image_16 : decode cX6_image 16 = .ok (.getfield 55, 3) := ax_dec dX6_image_q0_ok 8 (16, .getfield 55, 3) rfl
theorem dX6_image_19 : decode cX6_image 19 = .ok (.getfield 59, 3) := ax_dec dX6_image_q0_ok 9 (19, .getfield 59, 3) rfl
theorem dX6_image_22 : decode cX6_image 22 = .ok (.ireturn, 1) := ax_dec dX6_image_q0_ok 10 (22, .ireturn, 1) rfl
def dX6_back_q0 : List (Nat × (Instr × Nat)) := [(0, .aload_n 0, 1), (1, .aload_n 0, 1), (2, .getfield 35, 3), (5, .aload_n 0, 1), (6, .getfield 28, 3), (9, .invokevirtual 88, 3), (12, .astore_n 1, 1), (13, .aload_n 1, 1), (14, .ifnonnull 6, 3), (17, .bipush (-3), 2), (19, .ireturn, 1), (20, .aload_n 0, 1), (21, .getfield 55, 3), (24, .invokevirtual 263, 3), (27, .aload_n 0, 1), (28, .aload_n 0, 1), (29, .getfield 35, 3), (32, .putfield 32, 3), (35, .aload_n 0, 1), (36, .getfield 55, 3), (39, .aload_n 1, 1), (40, .putfield 92, 3), (43, .aload_n 0, 1), (44, .getfield 55, 3), (47, .getfield 59, 3), (50, .ireturn, 1)]
set_option maxRecDepth 100000 in
theorem dX6_back_q0_ok : ax_decs cX6_back dX6_back_q0 = true := by decide +kernel
theorem dX6_back_0 : decode cX6_back 0 = .ok (.aload_n 0, 1) := ax_dec dX6_back_q0_ok 0 (0, .aload_n 0, 1) rfl
theorem dX6_back_1 : decode cX6_back 1 = .ok (.aload_n 0, 1) := ax_dec dX6_back_q0_ok 1 (1, .aload_n 0, 1) rfl
theorem dX6_back_2 : decode cX6_back 2 = .ok (.getfield 35, 3) := ax_dec dX6_back_q0_ok 2 (2, .getfield 35, 3) rfl
theorem dX6_back_5 : decode cX6_back 5 = .ok (.aload_n 0, 1) := ax_dec dX6_back_q0_ok 3 (5, .aload_n 0, 1) rfl
theorem dX6_back_6 : decode cX6_back 6 = .ok (.getfield 28, 3) := ax_dec dX6_back_q0_ok 4 (6, .getfield 28, 3) rfl
theorem dX6_back_9 : decode cX6_back 9 = .ok (.invokevirtual 88, 3) := ax_dec dX6_back_q0_ok 5 (9, .invokevirtual 88, 3) rfl
theorem dX6_back_12 : decode cX6_back 12 = .ok (.astore_n 1, 1) := ax_dec dX6_back_q0_ok 6 (12, .astore_n 1, 1) rfl
theorem dX6_back_13 : decode cX6_back 13 = .ok (.aload_n 1, 1) := ax_dec dX6_back_q0_ok 7 (13, .aload_n 1, 1) rfl
theorem dX6_back_14 : decode cX6_back 14 = .ok (.ifnonnull 6, 3) := ax_dec dX6_back_q0_ok 8 (14, .ifnonnull 6, 3) rfl
theorem dX6_back_17 : decode cX6_back 17 = .ok (.bipush (-3), 2) := ax_dec dX6_back_q0_ok 9 (17, .bipush (-3), 2) rfl
theorem dX6_back_19 : decode cX6_back 19 = .ok (.ireturn, 1) := ax_dec dX6_back_q0_ok 10 (19, .ireturn, 1) rfl
theorem dX6_back_20 : decode cX6_back 20 = .ok (.aload_n 0, 1) := ax_dec dX6_back_q0_ok 11 (20, .aload_n 0, 1) rfl
theorem dX6_back_21 : decode cX6_back 21 = .ok (.getfield 55, 3) := ax_dec dX6_back_q0_ok 12 (21, .getfield 55, 3) rfl
theorem dX6_back_24 : decode cX6_back 24 = .ok (.invokevirtual 263, 3) := ax_dec dX6_back_q0_ok 13 (24, .invokevirtual 263, 3) rfl
theorem dX6_back_27 : decode cX6_back 27 = .ok (.aload_n 0, 1) := ax_dec dX6_back_q0_ok 14 (27, .aload_n 0, 1) rfl
theorem dX6_back_28 : decode cX6_back 28 = .ok (.aload_n 0, 1) := ax_dec dX6_back_q0_ok 15 (28, .aload_n 0, 1) rfl
theorem dX6_back_29 : decode cX6_back 29 = .ok (.getfield 35, 3) := ax_dec dX6_back_q0_ok 16 (29, .getfield 35, 3) rfl
theorem dX6_back_32 : decode cX6_back 32 = .ok (.putfield 32, 3) := ax_dec dX6_back_q0_ok 17 (32, .putfield 32, 3) rfl
theorem dX6_back_35 : decode cX6_back 35 = .ok (.aload_n 0, 1) := ax_dec dX6_back_q0_ok 18 (35, .aload_n 0, 1) rfl
theorem dX6_back_36 : decode cX6_back 36 = .ok (.getfield 55, 3) := ax_dec dX6_back_q0_ok 19 (36, .getfield 55, 3) rfl
theorem dX6_back_39 : decode cX6_back 39 = .ok (.aload_n 1, 1) := ax_dec dX6_back_q0_ok 20 (39, .aload_n 1, 1) rfl
theorem dX6_back_40 : decode cX6_back 40 = .ok (.putfield 92, 3) := ax_dec dX6_back_q0_ok 21 (40, .putfield 92, 3) rfl
theorem dX6_back_43 : decode cX6_back 43 = .ok (.aload_n 0, 1) := ax_dec dX6_back_q0_ok 22 (43, .aload_n 0, 1) rfl
theorem dX6_back_44 : decode cX6_back 44 = .ok (.getfield 55, 3) := ax_dec dX6_back_q0_ok 23 (44, .getfield 55, 3) rfl
theorem dX6_back_47 : decode cX6_back 47 = .ok (.getfield 59, 3) := ax_dec dX6_back_q0_ok 24 (47, .getfield 59, 3) rfl
theorem dX6_back_50 : decode cX6_back 50 = .ok (.ireturn, 1) := ax_dec dX6_back_q0_ok 25 (50, .ireturn, 1) rfl
def dX6_sheet_q0 : List (Nat × (Instr × Nat)) := [(0, .aload_n 0, 1), (1, .iload_n 1, 1), (2, .invokevirtual 229, 3), (5, .astore 4, 2), (7, .aload 4, 2), (9, .ifnull 12, 3), (12, .iload_n 2, 1), (13, .iconst (-1), 1), (14, .iconst 2, 1), (15, .invokestatic 76, 3), (18, .ifCond .ne 6, 3), (21, .bipush (-2), 2), (23, .ireturn, 1), (24, .iload_n 2, 1), (25, .iconst (-1), 1), (26, .if_icmp .ne 12, 3), (29, .aload 4, 2), (31, .iconst (-1), 1), (32, .iconst 0, 1), (33, .invokevirtual 244, 3), (36, .iconst 1, 1), (37, .ireturn, 1), (38, .iload_n 3, 1), (39, .bipush 40, 2), (41, .if_icmp .le 6, 3), (44, .bipush (-2), 2), (46, .ireturn, 1), (47, .iload_n 3, 1), (48, .ifCond .ge 6, 3), (51, .bipush (-14), 2), (53, .ireturn, 1), (54, .aload 4, 2)]
set_option maxRecDepth 100000 in
theorem dX6_sheet_q0_ok : ax_decs cX6_sheet dX6_sheet_q0 = true := by decide +kernel
theorem dX6_sheet_0 : decode cX6_sheet 0 = .ok (.aload_n 0, 1) := ax_dec dX6_sheet_q0_ok 0 (0, .aload_n 0, 1) rfl
theorem dX6_sheet_1 : decode cX6_sheet 1 = .ok (.iload_n 1, 1) := ax_dec dX6_sheet_q0_ok 1 (1, .iload_n 1, 1) rfl
theorem dX6_sheet_2 : decode cX6_sheet 2 = .ok (.invokevirtual 229, 3) := ax_dec dX6_sheet_q0_ok 2 (2, .invokevirtual 229, 3) rfl
theorem dX6_sheet_5 : decode cX6_sheet 5 = .ok (.astore 4, 2) := ax_dec dX6_sheet_q0_ok 3 (5, .astore 4, 2) rfl
theorem dX6_sheet_7 : decode cX6_sheet 7 = .ok (.aload 4, 2) := ax_dec dX6_sheet_q0_ok 4 (7, .aload 4, 2) rfl
theorem dX6_sheet_9 : decode cX6_sheet 9 = .ok (.ifnull 12, 3) := ax_dec dX6_sheet_q0_ok 5 (9, .ifnull 12, 3) rfl
theorem dX6_sheet_12 : decode cX6_sheet 12 = .ok (.iload_n 2, 1) := ax_dec dX6_sheet_q0_ok 6 (12, .iload_n 2, 1) rfl
theorem dX6_sheet_13 : decode cX6_sheet 13 = .ok (.iconst (-1), 1) := ax_dec dX6_sheet_q0_ok 7 (13, .iconst (-1), 1) rfl
theorem dX6_sheet_14 : decode cX6_sheet 14 = .ok (.iconst 2, 1) := ax_dec dX6_sheet_q0_ok 8 (14, .iconst 2, 1) rfl
theorem dX6_sheet_15 : decode cX6_sheet 15 = .ok (.invokestatic 76, 3) := ax_dec dX6_sheet_q0_ok 9 (15, .invokestatic 76, 3) rfl
theorem dX6_sheet_18 : decode cX6_sheet 18 = .ok (.ifCond .ne 6, 3) := ax_dec dX6_sheet_q0_ok 10 (18, .ifCond .ne 6, 3) rfl
theorem dX6_sheet_21 : decode cX6_sheet 21 = .ok (.bipush (-2), 2) := ax_dec dX6_sheet_q0_ok 11 (21, .bipush (-2), 2) rfl
theorem dX6_sheet_23 : decode cX6_sheet 23 = .ok (.ireturn, 1) := ax_dec dX6_sheet_q0_ok 12 (23, .ireturn, 1) rfl
theorem dX6_sheet_24 : decode cX6_sheet 24 = .ok (.iload_n 2, 1) := ax_dec dX6_sheet_q0_ok 13 (24, .iload_n 2, 1) rfl
theorem dX6_sheet_25 : decode cX6_sheet 25 = .ok (.iconst (-1), 1) := ax_dec dX6_sheet_q0_ok 14 (25, .iconst (-1), 1) rfl
theorem dX6_sheet_26 : decode cX6_sheet 26 = .ok (.if_icmp .ne 12, 3) := ax_dec dX6_sheet_q0_ok 15 (26, .if_icmp .ne 12, 3) rfl
theorem dX6_sheet_29 : decode cX6_sheet 29 = .ok (.aload 4, 2) := ax_dec dX6_sheet_q0_ok 16 (29, .aload 4, 2) rfl
theorem dX6_sheet_31 : decode cX6_sheet 31 = .ok (.iconst (-1), 1) := ax_dec dX6_sheet_q0_ok 17 (31, .iconst (-1), 1) rfl
theorem dX6_sheet_32 : decode cX6_sheet 32 = .ok (.iconst 0, 1) := ax_dec dX6_sheet_q0_ok 18 (32, .iconst 0, 1) rfl
theorem dX6_sheet_33 : decode cX6_sheet 33 = .ok (.invokevirtual 244, 3) := ax_dec dX6_sheet_q0_ok 19 (33, .invokevirtual 244, 3) rfl
theorem dX6_sheet_36 : decode cX6_sheet 36 = .ok (.iconst 1, 1) := ax_dec dX6_sheet_q0_ok 20 (36, .iconst 1, 1) rfl
theorem dX6_sheet_37 : decode cX6_sheet 37 = .ok (.ireturn, 1) := ax_dec dX6_sheet_q0_ok 21 (37, .ireturn, 1) rfl
theorem dX6_sheet_38 : decode cX6_sheet 38 = .ok (.iload_n 3, 1) := ax_dec dX6_sheet_q0_ok 22 (38, .iload_n 3, 1) rfl
theorem dX6_sheet_39 : decode cX6_sheet 39 = .ok (.bipush 40, 2) := ax_dec dX6_sheet_q0_ok 23 (39, .bipush 40, 2) rfl
theorem dX6_sheet_41 : decode cX6_sheet 41 = .ok (.if_icmp .le 6, 3) := ax_dec dX6_sheet_q0_ok 24 (41, .if_icmp .le 6, 3) rfl
theorem dX6_sheet_44 : decode cX6_sheet 44 = .ok (.bipush (-2), 2) := ax_dec dX6_sheet_q0_ok 25 (44, .bipush (-2), 2) rfl
theorem dX6_sheet_46 : decode cX6_sheet 46 = .ok (.ireturn, 1) := ax_dec dX6_sheet_q0_ok 26 (46, .ireturn, 1) rfl
theorem dX6_sheet_47 : decode cX6_sheet 47 = .ok (.iload_n 3, 1) := ax_dec dX6_sheet_q0_ok 27 (47, .iload_n 3, 1) rfl
theorem dX6_sheet_48 : decode cX6_sheet 48 = .ok (.ifCond .ge 6, 3) := ax_dec dX6_sheet_q0_ok 28 (48, .ifCond .ge 6, 3) rfl
theorem dX6_sheet_51 : decode cX6_sheet 51 = .ok (.bipush (-14), 2) := ax_dec dX6_sheet_q0_ok 29 (51, .bipush (-14), 2) rfl
theorem dX6_sheet_53 : decode cX6_sheet 53 = .ok (.ireturn, 1) := ax_dec dX6_sheet_q0_ok 30 (53, .ireturn, 1) rfl
theorem dX6_sheet_54 : decode cX6_sheet 54 = .ok (.aload 4, 2) := ax_dec dX6_sheet_q0_ok 31 (54, .aload 4, 2) rfl
def dX6_sheet_q1 : List (Nat × (Instr × Nat)) := [(56, .iload_n 2, 1), (57, .iload_n 3, 1), (58, .invokevirtual 244, 3), (61, .iconst 1, 1), (62, .ireturn, 1)]
set_option maxRecDepth 100000 in
theorem dX6_sheet_q1_ok : ax_decs cX6_sheet dX6_sheet_q1 = true := by decide +kernel
theorem dX6_sheet_56 : decode cX6_sheet 56 = .ok (.iload_n 2, 1) := ax_dec dX6_sheet_q1_ok 0 (56, .iload_n 2, 1) rfl
theorem dX6_sheet_57 : decode cX6_sheet 57 = .ok (.iload_n 3, 1) := ax_dec dX6_sheet_q1_ok 1 (57, .iload_n 3, 1) rfl
theorem dX6_sheet_58 : decode cX6_sheet 58 = .ok (.invokevirtual 244, 3) := ax_dec dX6_sheet_q1_ok 2 (58, .invokevirtual 244, 3) rfl
theorem dX6_sheet_61 : decode cX6_sheet 61 = .ok (.iconst 1, 1) := ax_dec dX6_sheet_q1_ok 3 (61, .iconst 1, 1) rfl
theorem dX6_sheet_62 : decode cX6_sheet 62 = .ok (.ireturn, 1) := ax_dec dX6_sheet_q1_ok 4 (62, .ireturn, 1) rfl
def dX6_cell_q0 : List (Nat × (Instr × Nat)) := [(0, .aload_n 0, 1), (1, .iload_n 1, 1), (2, .invokevirtual 229, 3), (5, .astore 4, 2), (7, .aload 4, 2), (9, .ifnonnull 6, 3), (12, .bipush (-2), 2), (14, .ireturn, 1), (15, .aload 4, 2), (17, .invokevirtual 233, 3), (20, .ifCond .eq 6, 3), (23, .bipush (-11), 2), (25, .ireturn, 1), (26, .aload 4, 2), (28, .iload_n 2, 1), (29, .invokevirtual 266, 3), (32, .ifCond .ne 6, 3), (35, .bipush (-12), 2), (37, .ireturn, 1), (38, .aload 4, 2), (40, .iload_n 2, 1), (41, .iload_n 3, 1), (42, .invokevirtual 248, 3), (45, .iconst 1, 1), (46, .ireturn, 1)]
set_option maxRecDepth 100000 in
theorem dX6_cell_q0_ok : ax_decs cX6_cell dX6_cell_q0 = true := by decide +kernel
theorem dX6_cell_0 : decode cX6_cell 0 = .ok (.aload_n 0, 1) := ax_dec dX6_cell_q0_ok 0 (0, .aload_n 0, 1) rfl
theorem dX6_cell_1 : decode cX6_cell 1 = .ok (.iload_n 1, 1) := ax_dec dX6_cell_q0_ok 1 (1, .iload_n 1, 1) rfl
theorem dX6_cell_2 : decode cX6_cell 2 = .ok (.invokevirtual 229, 3) := ax_dec dX6_cell_q0_ok 2 (2, .invokevirtual 229, 3) rfl
theorem dX6_cell_5 : decode cX6_cell 5 = .ok (.astore 4, 2) := ax_dec dX6_cell_q0_ok 3 (5, .astore 4, 2) rfl
theorem dX6_cell_7 : decode cX6_cell 7 = .ok (.aload 4, 2) := ax_dec dX6_cell_q0_ok 4 (7, .aload 4, 2) rfl
theorem dX6_cell_9 : decode cX6_cell 9 = .ok (.ifnonnull 6, 3) := ax_dec dX6_cell_q0_ok 5 (9, .ifnonnull 6, 3) rfl
theorem dX6_cell_12 : decode cX6_cell 12 = .ok (.bipush (-2), 2) := ax_dec dX6_cell_q0_ok 6 (12, .bipush (-2), 2) rfl
theorem dX6_cell_14 : decode cX6_cell 14 = .ok (.ireturn, 1) := ax_dec dX6_cell_q0_ok 7 (14, .ireturn, 1) rfl
theorem dX6_cell_15 : decode cX6_cell 15 = .ok (.aload 4, 2) := ax_dec dX6_cell_q0_ok 8 (15, .aload 4, 2) rfl
theorem dX6_cell_17 : decode cX6_cell 17 = .ok (.invokevirtual 233, 3) := ax_dec dX6_cell_q0_ok 9 (17, .invokevirtual 233, 3) rfl
theorem dX6_cell_20 : decode cX6_cell 20 = .ok (.ifCond .eq 6, 3) := ax_dec dX6_cell_q0_ok 10 (20, .ifCond .eq 6, 3) rfl
theorem dX6_cell_23 : decode cX6_cell 23 = .ok (.bipush (-11), 2) := ax_dec dX6_cell_q0_ok 11 (23, .bipush (-11), 2) rfl
theorem dX6_cell_25 : decode cX6_cell 25 = .ok (.ireturn, 1) := ax_dec dX6_cell_q0_ok 12 (25, .ireturn, 1) rfl
theorem dX6_cell_26 : decode cX6_cell 26 = .ok (.aload 4, 2) := ax_dec dX6_cell_q0_ok 13 (26, .aload 4, 2) rfl
theorem dX6_cell_28 : decode cX6_cell 28 = .ok (.iload_n 2, 1) := ax_dec dX6_cell_q0_ok 14 (28, .iload_n 2, 1) rfl
theorem dX6_cell_29 : decode cX6_cell 29 = .ok (.invokevirtual 266, 3) := ax_dec dX6_cell_q0_ok 15 (29, .invokevirtual 266, 3) rfl
theorem dX6_cell_32 : decode cX6_cell 32 = .ok (.ifCond .ne 6, 3) := ax_dec dX6_cell_q0_ok 16 (32, .ifCond .ne 6, 3) rfl
theorem dX6_cell_35 : decode cX6_cell 35 = .ok (.bipush (-12), 2) := ax_dec dX6_cell_q0_ok 17 (35, .bipush (-12), 2) rfl
theorem dX6_cell_37 : decode cX6_cell 37 = .ok (.ireturn, 1) := ax_dec dX6_cell_q0_ok 18 (37, .ireturn, 1) rfl
theorem dX6_cell_38 : decode cX6_cell 38 = .ok (.aload 4, 2) := ax_dec dX6_cell_q0_ok 19 (38, .aload 4, 2) rfl
theorem dX6_cell_40 : decode cX6_cell 40 = .ok (.iload_n 2, 1) := ax_dec dX6_cell_q0_ok 20 (40, .iload_n 2, 1) rfl
theorem dX6_cell_41 : decode cX6_cell 41 = .ok (.iload_n 3, 1) := ax_dec dX6_cell_q0_ok 21 (41, .iload_n 3, 1) rfl
theorem dX6_cell_42 : decode cX6_cell 42 = .ok (.invokevirtual 248, 3) := ax_dec dX6_cell_q0_ok 22 (42, .invokevirtual 248, 3) rfl
theorem dX6_cell_45 : decode cX6_cell 45 = .ok (.iconst 1, 1) := ax_dec dX6_cell_q0_ok 23 (45, .iconst 1, 1) rfl
theorem dX6_cell_46 : decode cX6_cell 46 = .ok (.ireturn, 1) := ax_dec dX6_cell_q0_ok 24 (46, .ireturn, 1) rfl
def dX6_copy_q0 : List (Nat × (Instr × Nat)) := [(0, .aload_n 0, 1), (1, .iload_n 1, 1), (2, .invokevirtual 229, 3), (5, .astore 6, 2), (7, .aload_n 0, 1), (8, .iload_n 3, 1), (9, .invokevirtual 229, 3), (12, .astore 7, 2), (14, .aload 6, 2), (16, .ifnull 8, 3), (19, .aload 7, 2), (21, .ifnonnull 6, 3), (24, .bipush (-2), 2), (26, .ireturn, 1), (27, .aload 6, 2), (29, .invokevirtual 233, 3), (32, .ifCond .ne 11, 3), (35, .aload 7, 2), (37, .invokevirtual 233, 3), (40, .ifCond .eq 6, 3), (43, .bipush (-11), 2), (45, .ireturn, 1), (46, .aload 6, 2), (48, .getfield 269, 3), (51, .aload 7, 2), (53, .getfield 269, 3), (56, .if_icmp .eq 6, 3), (59, .bipush (-13), 2), (61, .ireturn, 1), (62, .aload 6, 2), (64, .iload_n 2, 1), (65, .iload 5, 2)]
set_option maxRecDepth 100000 in
theorem dX6_copy_q0_ok : ax_decs cX6_copy dX6_copy_q0 = true := by decide +kernel
theorem dX6_copy_0 : decode cX6_copy 0 = .ok (.aload_n 0, 1) := ax_dec dX6_copy_q0_ok 0 (0, .aload_n 0, 1) rfl
theorem dX6_copy_1 : decode cX6_copy 1 = .ok (.iload_n 1, 1) := ax_dec dX6_copy_q0_ok 1 (1, .iload_n 1, 1) rfl
theorem dX6_copy_2 : decode cX6_copy 2 = .ok (.invokevirtual 229, 3) := ax_dec dX6_copy_q0_ok 2 (2, .invokevirtual 229, 3) rfl
theorem dX6_copy_5 : decode cX6_copy 5 = .ok (.astore 6, 2) := ax_dec dX6_copy_q0_ok 3 (5, .astore 6, 2) rfl
theorem dX6_copy_7 : decode cX6_copy 7 = .ok (.aload_n 0, 1) := ax_dec dX6_copy_q0_ok 4 (7, .aload_n 0, 1) rfl
theorem dX6_copy_8 : decode cX6_copy 8 = .ok (.iload_n 3, 1) := ax_dec dX6_copy_q0_ok 5 (8, .iload_n 3, 1) rfl
theorem dX6_copy_9 : decode cX6_copy 9 = .ok (.invokevirtual 229, 3) := ax_dec dX6_copy_q0_ok 6 (9, .invokevirtual 229, 3) rfl
theorem dX6_copy_12 : decode cX6_copy 12 = .ok (.astore 7, 2) := ax_dec dX6_copy_q0_ok 7 (12, .astore 7, 2) rfl
theorem dX6_copy_14 : decode cX6_copy 14 = .ok (.aload 6, 2) := ax_dec dX6_copy_q0_ok 8 (14, .aload 6, 2) rfl
theorem dX6_copy_16 : decode cX6_copy 16 = .ok (.ifnull 8, 3) := ax_dec dX6_copy_q0_ok 9 (16, .ifnull 8, 3) rfl
theorem dX6_copy_19 : decode cX6_copy 19 = .ok (.aload 7, 2) := ax_dec dX6_copy_q0_ok 10 (19, .aload 7, 2) rfl
theorem dX6_copy_21 : decode cX6_copy 21 = .ok (.ifnonnull 6, 3) := ax_dec dX6_copy_q0_ok 11 (21, .ifnonnull 6, 3) rfl
theorem dX6_copy_24 : decode cX6_copy 24 = .ok (.bipush (-2), 2) := ax_dec dX6_copy_q0_ok 12 (24, .bipush (-2), 2) rfl
theorem dX6_copy_26 : decode cX6_copy 26 = .ok (.ireturn, 1) := ax_dec dX6_copy_q0_ok 13 (26, .ireturn, 1) rfl
theorem dX6_copy_27 : decode cX6_copy 27 = .ok (.aload 6, 2) := ax_dec dX6_copy_q0_ok 14 (27, .aload 6, 2) rfl
theorem dX6_copy_29 : decode cX6_copy 29 = .ok (.invokevirtual 233, 3) := ax_dec dX6_copy_q0_ok 15 (29, .invokevirtual 233, 3) rfl
theorem dX6_copy_32 : decode cX6_copy 32 = .ok (.ifCond .ne 11, 3) := ax_dec dX6_copy_q0_ok 16 (32, .ifCond .ne 11, 3) rfl
theorem dX6_copy_35 : decode cX6_copy 35 = .ok (.aload 7, 2) := ax_dec dX6_copy_q0_ok 17 (35, .aload 7, 2) rfl
theorem dX6_copy_37 : decode cX6_copy 37 = .ok (.invokevirtual 233, 3) := ax_dec dX6_copy_q0_ok 18 (37, .invokevirtual 233, 3) rfl
theorem dX6_copy_40 : decode cX6_copy 40 = .ok (.ifCond .eq 6, 3) := ax_dec dX6_copy_q0_ok 19 (40, .ifCond .eq 6, 3) rfl
theorem dX6_copy_43 : decode cX6_copy 43 = .ok (.bipush (-11), 2) := ax_dec dX6_copy_q0_ok 20 (43, .bipush (-11), 2) rfl
theorem dX6_copy_45 : decode cX6_copy 45 = .ok (.ireturn, 1) := ax_dec dX6_copy_q0_ok 21 (45, .ireturn, 1) rfl
theorem dX6_copy_46 : decode cX6_copy 46 = .ok (.aload 6, 2) := ax_dec dX6_copy_q0_ok 22 (46, .aload 6, 2) rfl
theorem dX6_copy_48 : decode cX6_copy 48 = .ok (.getfield 269, 3) := ax_dec dX6_copy_q0_ok 23 (48, .getfield 269, 3) rfl
theorem dX6_copy_51 : decode cX6_copy 51 = .ok (.aload 7, 2) := ax_dec dX6_copy_q0_ok 24 (51, .aload 7, 2) rfl
theorem dX6_copy_53 : decode cX6_copy 53 = .ok (.getfield 269, 3) := ax_dec dX6_copy_q0_ok 25 (53, .getfield 269, 3) rfl
theorem dX6_copy_56 : decode cX6_copy 56 = .ok (.if_icmp .eq 6, 3) := ax_dec dX6_copy_q0_ok 26 (56, .if_icmp .eq 6, 3) rfl
theorem dX6_copy_59 : decode cX6_copy 59 = .ok (.bipush (-13), 2) := ax_dec dX6_copy_q0_ok 27 (59, .bipush (-13), 2) rfl
theorem dX6_copy_61 : decode cX6_copy 61 = .ok (.ireturn, 1) := ax_dec dX6_copy_q0_ok 28 (61, .ireturn, 1) rfl
theorem dX6_copy_62 : decode cX6_copy 62 = .ok (.aload 6, 2) := ax_dec dX6_copy_q0_ok 29 (62, .aload 6, 2) rfl
theorem dX6_copy_64 : decode cX6_copy 64 = .ok (.iload_n 2, 1) := ax_dec dX6_copy_q0_ok 30 (64, .iload_n 2, 1) rfl
theorem dX6_copy_65 : decode cX6_copy 65 = .ok (.iload 5, 2) := ax_dec dX6_copy_q0_ok 31 (65, .iload 5, 2) rfl
def dX6_copy_q1 : List (Nat × (Instr × Nat)) := [(67, .invokevirtual 272, 3), (70, .ifCond .eq 15, 3), (73, .aload 7, 2), (75, .iload 4, 2), (77, .iload 5, 2), (79, .invokevirtual 272, 3), (82, .ifCond .ne 6, 3), (85, .bipush (-12), 2), (87, .ireturn, 1), (88, .aload 6, 2), (90, .getfield 276, 3), (93, .iload_n 2, 1), (94, .aload 7, 2), (96, .getfield 276, 3), (99, .iload 4, 2), (101, .iload 5, 2), (103, .invokestatic 280, 3), (106, .iload 5, 2), (108, .ireturn, 1)]
set_option maxRecDepth 100000 in
theorem dX6_copy_q1_ok : ax_decs cX6_copy dX6_copy_q1 = true := by decide +kernel
theorem dX6_copy_67 : decode cX6_copy 67 = .ok (.invokevirtual 272, 3) := ax_dec dX6_copy_q1_ok 0 (67, .invokevirtual 272, 3) rfl
theorem dX6_copy_70 : decode cX6_copy 70 = .ok (.ifCond .eq 15, 3) := ax_dec dX6_copy_q1_ok 1 (70, .ifCond .eq 15, 3) rfl
theorem dX6_copy_73 : decode cX6_copy 73 = .ok (.aload 7, 2) := ax_dec dX6_copy_q1_ok 2 (73, .aload 7, 2) rfl
theorem dX6_copy_75 : decode cX6_copy 75 = .ok (.iload 4, 2) := ax_dec dX6_copy_q1_ok 3 (75, .iload 4, 2) rfl
theorem dX6_copy_77 : decode cX6_copy 77 = .ok (.iload 5, 2) := ax_dec dX6_copy_q1_ok 4 (77, .iload 5, 2) rfl
theorem dX6_copy_79 : decode cX6_copy 79 = .ok (.invokevirtual 272, 3) := ax_dec dX6_copy_q1_ok 5 (79, .invokevirtual 272, 3) rfl
theorem dX6_copy_82 : decode cX6_copy 82 = .ok (.ifCond .ne 6, 3) := ax_dec dX6_copy_q1_ok 6 (82, .ifCond .ne 6, 3) rfl
theorem dX6_copy_85 : decode cX6_copy 85 = .ok (.bipush (-12), 2) := ax_dec dX6_copy_q1_ok 7 (85, .bipush (-12), 2) rfl
theorem dX6_copy_87 : decode cX6_copy 87 = .ok (.ireturn, 1) := ax_dec dX6_copy_q1_ok 8 (87, .ireturn, 1) rfl
theorem dX6_copy_88 : decode cX6_copy 88 = .ok (.aload 6, 2) := ax_dec dX6_copy_q1_ok 9 (88, .aload 6, 2) rfl
theorem dX6_copy_90 : decode cX6_copy 90 = .ok (.getfield 276, 3) := ax_dec dX6_copy_q1_ok 10 (90, .getfield 276, 3) rfl
theorem dX6_copy_93 : decode cX6_copy 93 = .ok (.iload_n 2, 1) := ax_dec dX6_copy_q1_ok 11 (93, .iload_n 2, 1) rfl
theorem dX6_copy_94 : decode cX6_copy 94 = .ok (.aload 7, 2) := ax_dec dX6_copy_q1_ok 12 (94, .aload 7, 2) rfl
theorem dX6_copy_96 : decode cX6_copy 96 = .ok (.getfield 276, 3) := ax_dec dX6_copy_q1_ok 13 (96, .getfield 276, 3) rfl
theorem dX6_copy_99 : decode cX6_copy 99 = .ok (.iload 4, 2) := ax_dec dX6_copy_q1_ok 14 (99, .iload 4, 2) rfl
theorem dX6_copy_101 : decode cX6_copy 101 = .ok (.iload 5, 2) := ax_dec dX6_copy_q1_ok 15 (101, .iload 5, 2) rfl
theorem dX6_copy_103 : decode cX6_copy 103 = .ok (.invokestatic 280, 3) := ax_dec dX6_copy_q1_ok 16 (103, .invokestatic 280, 3) rfl
theorem dX6_copy_106 : decode cX6_copy 106 = .ok (.iload 5, 2) := ax_dec dX6_copy_q1_ok 17 (106, .iload 5, 2) rfl
theorem dX6_copy_108 : decode cX6_copy 108 = .ok (.ireturn, 1) := ax_dec dX6_copy_q1_ok 18 (108, .ireturn, 1) rfl
def dX6_bitsBy_q0 : List (Nat × (Instr × Nat)) := [(0, .aload_n 0, 1), (1, .iload_n 1, 1), (2, .invokevirtual 229, 3), (5, .astore 5, 2), (7, .aload 5, 2), (9, .ifnull 23, 3), (12, .iload_n 2, 1), (13, .iconst 0, 1), (14, .iconst 2, 1), (15, .invokestatic 76, 3), (18, .ifCond .eq 14, 3), (21, .iload 4, 2), (23, .iconst 0, 1), (24, .bipush 10, 2), (26, .invokestatic 76, 3), (29, .ifCond .ne 6, 3), (32, .bipush (-2), 2), (34, .ireturn, 1), (35, .aload 5, 2), (37, .invokevirtual 233, 3), (40, .ifCond .eq 6, 3), (43, .bipush (-11), 2), (45, .ireturn, 1), (46, .aload 5, 2), (48, .getfield 269, 3), (51, .iload_n 2, 1), (52, .if_icmp .eq 6, 3), (55, .bipush (-13), 2), (57, .ireturn, 1), (58, .iconst 0, 1), (59, .istore 6, 2), (61, .iload_n 3, 1)]
set_option maxRecDepth 100000 in
theorem dX6_bitsBy_q0_ok : ax_decs cX6_bitsBy dX6_bitsBy_q0 = true := by decide +kernel
theorem dX6_bitsBy_0 : decode cX6_bitsBy 0 = .ok (.aload_n 0, 1) := ax_dec dX6_bitsBy_q0_ok 0 (0, .aload_n 0, 1) rfl
theorem dX6_bitsBy_1 : decode cX6_bitsBy 1 = .ok (.iload_n 1, 1) := ax_dec dX6_bitsBy_q0_ok 1 (1, .iload_n 1, 1) rfl
theorem dX6_bitsBy_2 : decode cX6_bitsBy 2 = .ok (.invokevirtual 229, 3) := ax_dec dX6_bitsBy_q0_ok 2 (2, .invokevirtual 229, 3) rfl
theorem dX6_bitsBy_5 : decode cX6_bitsBy 5 = .ok (.astore 5, 2) := ax_dec dX6_bitsBy_q0_ok 3 (5, .astore 5, 2) rfl
theorem dX6_bitsBy_7 : decode cX6_bitsBy 7 = .ok (.aload 5, 2) := ax_dec dX6_bitsBy_q0_ok 4 (7, .aload 5, 2) rfl
theorem dX6_bitsBy_9 : decode cX6_bitsBy 9 = .ok (.ifnull 23, 3) := ax_dec dX6_bitsBy_q0_ok 5 (9, .ifnull 23, 3) rfl
theorem dX6_bitsBy_12 : decode cX6_bitsBy 12 = .ok (.iload_n 2, 1) := ax_dec dX6_bitsBy_q0_ok 6 (12, .iload_n 2, 1) rfl
theorem dX6_bitsBy_13 : decode cX6_bitsBy 13 = .ok (.iconst 0, 1) := ax_dec dX6_bitsBy_q0_ok 7 (13, .iconst 0, 1) rfl
theorem dX6_bitsBy_14 : decode cX6_bitsBy 14 = .ok (.iconst 2, 1) := ax_dec dX6_bitsBy_q0_ok 8 (14, .iconst 2, 1) rfl
theorem dX6_bitsBy_15 : decode cX6_bitsBy 15 = .ok (.invokestatic 76, 3) := ax_dec dX6_bitsBy_q0_ok 9 (15, .invokestatic 76, 3) rfl
theorem dX6_bitsBy_18 : decode cX6_bitsBy 18 = .ok (.ifCond .eq 14, 3) := ax_dec dX6_bitsBy_q0_ok 10 (18, .ifCond .eq 14, 3) rfl
theorem dX6_bitsBy_21 : decode cX6_bitsBy 21 = .ok (.iload 4, 2) := ax_dec dX6_bitsBy_q0_ok 11 (21, .iload 4, 2) rfl
theorem dX6_bitsBy_23 : decode cX6_bitsBy 23 = .ok (.iconst 0, 1) := ax_dec dX6_bitsBy_q0_ok 12 (23, .iconst 0, 1) rfl
theorem dX6_bitsBy_24 : decode cX6_bitsBy 24 = .ok (.bipush 10, 2) := ax_dec dX6_bitsBy_q0_ok 13 (24, .bipush 10, 2) rfl
theorem dX6_bitsBy_26 : decode cX6_bitsBy 26 = .ok (.invokestatic 76, 3) := ax_dec dX6_bitsBy_q0_ok 14 (26, .invokestatic 76, 3) rfl
theorem dX6_bitsBy_29 : decode cX6_bitsBy 29 = .ok (.ifCond .ne 6, 3) := ax_dec dX6_bitsBy_q0_ok 15 (29, .ifCond .ne 6, 3) rfl
theorem dX6_bitsBy_32 : decode cX6_bitsBy 32 = .ok (.bipush (-2), 2) := ax_dec dX6_bitsBy_q0_ok 16 (32, .bipush (-2), 2) rfl
theorem dX6_bitsBy_34 : decode cX6_bitsBy 34 = .ok (.ireturn, 1) := ax_dec dX6_bitsBy_q0_ok 17 (34, .ireturn, 1) rfl
theorem dX6_bitsBy_35 : decode cX6_bitsBy 35 = .ok (.aload 5, 2) := ax_dec dX6_bitsBy_q0_ok 18 (35, .aload 5, 2) rfl
theorem dX6_bitsBy_37 : decode cX6_bitsBy 37 = .ok (.invokevirtual 233, 3) := ax_dec dX6_bitsBy_q0_ok 19 (37, .invokevirtual 233, 3) rfl
theorem dX6_bitsBy_40 : decode cX6_bitsBy 40 = .ok (.ifCond .eq 6, 3) := ax_dec dX6_bitsBy_q0_ok 20 (40, .ifCond .eq 6, 3) rfl
theorem dX6_bitsBy_43 : decode cX6_bitsBy 43 = .ok (.bipush (-11), 2) := ax_dec dX6_bitsBy_q0_ok 21 (43, .bipush (-11), 2) rfl
theorem dX6_bitsBy_45 : decode cX6_bitsBy 45 = .ok (.ireturn, 1) := ax_dec dX6_bitsBy_q0_ok 22 (45, .ireturn, 1) rfl
theorem dX6_bitsBy_46 : decode cX6_bitsBy 46 = .ok (.aload 5, 2) := ax_dec dX6_bitsBy_q0_ok 23 (46, .aload 5, 2) rfl
theorem dX6_bitsBy_48 : decode cX6_bitsBy 48 = .ok (.getfield 269, 3) := ax_dec dX6_bitsBy_q0_ok 24 (48, .getfield 269, 3) rfl
theorem dX6_bitsBy_51 : decode cX6_bitsBy 51 = .ok (.iload_n 2, 1) := ax_dec dX6_bitsBy_q0_ok 25 (51, .iload_n 2, 1) rfl
theorem dX6_bitsBy_52 : decode cX6_bitsBy 52 = .ok (.if_icmp .eq 6, 3) := ax_dec dX6_bitsBy_q0_ok 26 (52, .if_icmp .eq 6, 3) rfl
theorem dX6_bitsBy_55 : decode cX6_bitsBy 55 = .ok (.bipush (-13), 2) := ax_dec dX6_bitsBy_q0_ok 27 (55, .bipush (-13), 2) rfl
theorem dX6_bitsBy_57 : decode cX6_bitsBy 57 = .ok (.ireturn, 1) := ax_dec dX6_bitsBy_q0_ok 28 (57, .ireturn, 1) rfl
theorem dX6_bitsBy_58 : decode cX6_bitsBy 58 = .ok (.iconst 0, 1) := ax_dec dX6_bitsBy_q0_ok 29 (58, .iconst 0, 1) rfl
theorem dX6_bitsBy_59 : decode cX6_bitsBy 59 = .ok (.istore 6, 2) := ax_dec dX6_bitsBy_q0_ok 30 (59, .istore 6, 2) rfl
theorem dX6_bitsBy_61 : decode cX6_bitsBy 61 = .ok (.iload_n 3, 1) := ax_dec dX6_bitsBy_q0_ok 31 (61, .iload_n 3, 1) rfl
def dX6_bitsBy_q1 : List (Nat × (Instr × Nat)) := [(62, .istore 7, 2), (64, .iconst 0, 1), (65, .istore 8, 2), (67, .iload 8, 2), (69, .iload 4, 2), (71, .if_icmp .ge 74, 3), (74, .aload 5, 2), (76, .iload 7, 2), (78, .iconst 4, 1), (79, .invokevirtual 272, 3), (82, .ifCond .ne 6, 3), (85, .bipush (-12), 2), (87, .ireturn, 1), (88, .aload_n 0, 1), (89, .aload 5, 2), (91, .iload 7, 2), (93, .invokevirtual 286, 3), (96, .aload 5, 2), (98, .iload 7, 2), (100, .iconst 1, 1), (101, .iadd, 1), (102, .invokevirtual 286, 3), (105, .aload 5, 2), (107, .iload 7, 2), (109, .iconst 2, 1), (110, .iadd, 1), (111, .invokevirtual 286, 3), (114, .aload 5, 2), (116, .iload 7, 2), (118, .iconst 3, 1), (119, .iadd, 1), (120, .invokevirtual 286, 3)]
set_option maxRecDepth 100000 in
theorem dX6_bitsBy_q1_ok : ax_decs cX6_bitsBy dX6_bitsBy_q1 = true := by decide +kernel
theorem dX6_bitsBy_62 : decode cX6_bitsBy 62 = .ok (.istore 7, 2) := ax_dec dX6_bitsBy_q1_ok 0 (62, .istore 7, 2) rfl
theorem dX6_bitsBy_64 : decode cX6_bitsBy 64 = .ok (.iconst 0, 1) := ax_dec dX6_bitsBy_q1_ok 1 (64, .iconst 0, 1) rfl
theorem dX6_bitsBy_65 : decode cX6_bitsBy 65 = .ok (.istore 8, 2) := ax_dec dX6_bitsBy_q1_ok 2 (65, .istore 8, 2) rfl
theorem dX6_bitsBy_67 : decode cX6_bitsBy 67 = .ok (.iload 8, 2) := ax_dec dX6_bitsBy_q1_ok 3 (67, .iload 8, 2) rfl
theorem dX6_bitsBy_69 : decode cX6_bitsBy 69 = .ok (.iload 4, 2) := ax_dec dX6_bitsBy_q1_ok 4 (69, .iload 4, 2) rfl
theorem dX6_bitsBy_71 : decode cX6_bitsBy 71 = .ok (.if_icmp .ge 74, 3) := ax_dec dX6_bitsBy_q1_ok 5 (71, .if_icmp .ge 74, 3) rfl
theorem dX6_bitsBy_74 : decode cX6_bitsBy 74 = .ok (.aload 5, 2) := ax_dec dX6_bitsBy_q1_ok 6 (74, .aload 5, 2) rfl
theorem dX6_bitsBy_76 : decode cX6_bitsBy 76 = .ok (.iload 7, 2) := ax_dec dX6_bitsBy_q1_ok 7 (76, .iload 7, 2) rfl
theorem dX6_bitsBy_78 : decode cX6_bitsBy 78 = .ok (.iconst 4, 1) := ax_dec dX6_bitsBy_q1_ok 8 (78, .iconst 4, 1) rfl
theorem dX6_bitsBy_79 : decode cX6_bitsBy 79 = .ok (.invokevirtual 272, 3) := ax_dec dX6_bitsBy_q1_ok 9 (79, .invokevirtual 272, 3) rfl
theorem dX6_bitsBy_82 : decode cX6_bitsBy 82 = .ok (.ifCond .ne 6, 3) := ax_dec dX6_bitsBy_q1_ok 10 (82, .ifCond .ne 6, 3) rfl
theorem dX6_bitsBy_85 : decode cX6_bitsBy 85 = .ok (.bipush (-12), 2) := ax_dec dX6_bitsBy_q1_ok 11 (85, .bipush (-12), 2) rfl
theorem dX6_bitsBy_87 : decode cX6_bitsBy 87 = .ok (.ireturn, 1) := ax_dec dX6_bitsBy_q1_ok 12 (87, .ireturn, 1) rfl
theorem dX6_bitsBy_88 : decode cX6_bitsBy 88 = .ok (.aload_n 0, 1) := ax_dec dX6_bitsBy_q1_ok 13 (88, .aload_n 0, 1) rfl
theorem dX6_bitsBy_89 : decode cX6_bitsBy 89 = .ok (.aload 5, 2) := ax_dec dX6_bitsBy_q1_ok 14 (89, .aload 5, 2) rfl
theorem dX6_bitsBy_91 : decode cX6_bitsBy 91 = .ok (.iload 7, 2) := ax_dec dX6_bitsBy_q1_ok 15 (91, .iload 7, 2) rfl
theorem dX6_bitsBy_93 : decode cX6_bitsBy 93 = .ok (.invokevirtual 286, 3) := ax_dec dX6_bitsBy_q1_ok 16 (93, .invokevirtual 286, 3) rfl
theorem dX6_bitsBy_96 : decode cX6_bitsBy 96 = .ok (.aload 5, 2) := ax_dec dX6_bitsBy_q1_ok 17 (96, .aload 5, 2) rfl
theorem dX6_bitsBy_98 : decode cX6_bitsBy 98 = .ok (.iload 7, 2) := ax_dec dX6_bitsBy_q1_ok 18 (98, .iload 7, 2) rfl
theorem dX6_bitsBy_100 : decode cX6_bitsBy 100 = .ok (.iconst 1, 1) := ax_dec dX6_bitsBy_q1_ok 19 (100, .iconst 1, 1) rfl
theorem dX6_bitsBy_101 : decode cX6_bitsBy 101 = .ok (.iadd, 1) := ax_dec dX6_bitsBy_q1_ok 20 (101, .iadd, 1) rfl
theorem dX6_bitsBy_102 : decode cX6_bitsBy 102 = .ok (.invokevirtual 286, 3) := ax_dec dX6_bitsBy_q1_ok 21 (102, .invokevirtual 286, 3) rfl
theorem dX6_bitsBy_105 : decode cX6_bitsBy 105 = .ok (.aload 5, 2) := ax_dec dX6_bitsBy_q1_ok 22 (105, .aload 5, 2) rfl
theorem dX6_bitsBy_107 : decode cX6_bitsBy 107 = .ok (.iload 7, 2) := ax_dec dX6_bitsBy_q1_ok 23 (107, .iload 7, 2) rfl
theorem dX6_bitsBy_109 : decode cX6_bitsBy 109 = .ok (.iconst 2, 1) := ax_dec dX6_bitsBy_q1_ok 24 (109, .iconst 2, 1) rfl
theorem dX6_bitsBy_110 : decode cX6_bitsBy 110 = .ok (.iadd, 1) := ax_dec dX6_bitsBy_q1_ok 25 (110, .iadd, 1) rfl
theorem dX6_bitsBy_111 : decode cX6_bitsBy 111 = .ok (.invokevirtual 286, 3) := ax_dec dX6_bitsBy_q1_ok 26 (111, .invokevirtual 286, 3) rfl
theorem dX6_bitsBy_114 : decode cX6_bitsBy 114 = .ok (.aload 5, 2) := ax_dec dX6_bitsBy_q1_ok 27 (114, .aload 5, 2) rfl
theorem dX6_bitsBy_116 : decode cX6_bitsBy 116 = .ok (.iload 7, 2) := ax_dec dX6_bitsBy_q1_ok 28 (116, .iload 7, 2) rfl
theorem dX6_bitsBy_118 : decode cX6_bitsBy 118 = .ok (.iconst 3, 1) := ax_dec dX6_bitsBy_q1_ok 29 (118, .iconst 3, 1) rfl
theorem dX6_bitsBy_119 : decode cX6_bitsBy 119 = .ok (.iadd, 1) := ax_dec dX6_bitsBy_q1_ok 30 (119, .iadd, 1) rfl
theorem dX6_bitsBy_120 : decode cX6_bitsBy 120 = .ok (.invokevirtual 286, 3) := ax_dec dX6_bitsBy_q1_ok 31 (120, .invokevirtual 286, 3) rfl
def dX6_bitsBy_q2 : List (Nat × (Instr × Nat)) := [(123, .invokevirtual 289, 3), (126, .istore 9, 2), (128, .iload 9, 2), (130, .ifCond .lt 6, 3), (133, .iinc 6 1, 3), (136, .iinc 7 4, 3), (139, .iinc 8 1, 3), (142, .goto (-75), 3), (145, .iload 6, 2), (147, .ireturn, 1)]
set_option maxRecDepth 100000 in
theorem dX6_bitsBy_q2_ok : ax_decs cX6_bitsBy dX6_bitsBy_q2 = true := by decide +kernel
theorem dX6_bitsBy_123 : decode cX6_bitsBy 123 = .ok (.invokevirtual 289, 3) := ax_dec dX6_bitsBy_q2_ok 0 (123, .invokevirtual 289, 3) rfl
theorem dX6_bitsBy_126 : decode cX6_bitsBy 126 = .ok (.istore 9, 2) := ax_dec dX6_bitsBy_q2_ok 1 (126, .istore 9, 2) rfl
theorem dX6_bitsBy_128 : decode cX6_bitsBy 128 = .ok (.iload 9, 2) := ax_dec dX6_bitsBy_q2_ok 2 (128, .iload 9, 2) rfl
theorem dX6_bitsBy_130 : decode cX6_bitsBy 130 = .ok (.ifCond .lt 6, 3) := ax_dec dX6_bitsBy_q2_ok 3 (130, .ifCond .lt 6, 3) rfl
theorem dX6_bitsBy_133 : decode cX6_bitsBy 133 = .ok (.iinc 6 1, 3) := ax_dec dX6_bitsBy_q2_ok 4 (133, .iinc 6 1, 3) rfl
theorem dX6_bitsBy_136 : decode cX6_bitsBy 136 = .ok (.iinc 7 4, 3) := ax_dec dX6_bitsBy_q2_ok 5 (136, .iinc 7 4, 3) rfl
theorem dX6_bitsBy_139 : decode cX6_bitsBy 139 = .ok (.iinc 8 1, 3) := ax_dec dX6_bitsBy_q2_ok 6 (139, .iinc 8 1, 3) rfl
theorem dX6_bitsBy_142 : decode cX6_bitsBy 142 = .ok (.goto (-75), 3) := ax_dec dX6_bitsBy_q2_ok 7 (142, .goto (-75), 3) rfl
theorem dX6_bitsBy_145 : decode cX6_bitsBy 145 = .ok (.iload 6, 2) := ax_dec dX6_bitsBy_q2_ok 8 (145, .iload 6, 2) rfl
theorem dX6_bitsBy_147 : decode cX6_bitsBy 147 = .ok (.ireturn, 1) := ax_dec dX6_bitsBy_q2_ok 9 (147, .ireturn, 1) rfl
def dX6_taken_q0 : List (Nat × (Instr × Nat)) := [(0, .iload_n 2, 1), (1, .iconst 0, 1), (2, .bipush 6, 2), (4, .invokestatic 76, 3), (7, .ifCond .ne 6, 3), (10, .bipush (-2), 2), (12, .ireturn, 1), (13, .iload_n 1, 1), (14, .iconst 0, 1), (15, .bipush 19, 2), (17, .invokestatic 76, 3), (20, .ifCond .ne 6, 3), (23, .bipush (-12), 2), (25, .ireturn, 1), (26, .iload_n 1, 1), (27, .bipush 10, 2), (29, .if_icmp .lt 7, 3), (32, .iconst 1, 1), (33, .goto 4, 3), (36, .iconst 0, 1), (37, .istore_n 3, 1), (38, .aload_n 0, 1), (39, .getfield 55, 3), (42, .iload_n 3, 1), (43, .ifCond .eq 10, 3), (46, .iload_n 1, 1), (47, .bipush 10, 2), (49, .isub, 1), (50, .goto 4, 3), (53, .iload_n 1, 1), (54, .invokevirtual 96, 3), (57, .astore 4, 2)]
set_option maxRecDepth 100000 in
theorem dX6_taken_q0_ok : ax_decs cX6_taken dX6_taken_q0 = true := by decide +kernel
theorem dX6_taken_0 : decode cX6_taken 0 = .ok (.iload_n 2, 1) := ax_dec dX6_taken_q0_ok 0 (0, .iload_n 2, 1) rfl
theorem dX6_taken_1 : decode cX6_taken 1 = .ok (.iconst 0, 1) := ax_dec dX6_taken_q0_ok 1 (1, .iconst 0, 1) rfl
theorem dX6_taken_2 : decode cX6_taken 2 = .ok (.bipush 6, 2) := ax_dec dX6_taken_q0_ok 2 (2, .bipush 6, 2) rfl
theorem dX6_taken_4 : decode cX6_taken 4 = .ok (.invokestatic 76, 3) := ax_dec dX6_taken_q0_ok 3 (4, .invokestatic 76, 3) rfl
theorem dX6_taken_7 : decode cX6_taken 7 = .ok (.ifCond .ne 6, 3) := ax_dec dX6_taken_q0_ok 4 (7, .ifCond .ne 6, 3) rfl
theorem dX6_taken_10 : decode cX6_taken 10 = .ok (.bipush (-2), 2) := ax_dec dX6_taken_q0_ok 5 (10, .bipush (-2), 2) rfl
theorem dX6_taken_12 : decode cX6_taken 12 = .ok (.ireturn, 1) := ax_dec dX6_taken_q0_ok 6 (12, .ireturn, 1) rfl
theorem dX6_taken_13 : decode cX6_taken 13 = .ok (.iload_n 1, 1) := ax_dec dX6_taken_q0_ok 7 (13, .iload_n 1, 1) rfl
theorem dX6_taken_14 : decode cX6_taken 14 = .ok (.iconst 0, 1) := ax_dec dX6_taken_q0_ok 8 (14, .iconst 0, 1) rfl
theorem dX6_taken_15 : decode cX6_taken 15 = .ok (.bipush 19, 2) := ax_dec dX6_taken_q0_ok 9 (15, .bipush 19, 2) rfl
theorem dX6_taken_17 : decode cX6_taken 17 = .ok (.invokestatic 76, 3) := ax_dec dX6_taken_q0_ok 10 (17, .invokestatic 76, 3) rfl
theorem dX6_taken_20 : decode cX6_taken 20 = .ok (.ifCond .ne 6, 3) := ax_dec dX6_taken_q0_ok 11 (20, .ifCond .ne 6, 3) rfl
theorem dX6_taken_23 : decode cX6_taken 23 = .ok (.bipush (-12), 2) := ax_dec dX6_taken_q0_ok 12 (23, .bipush (-12), 2) rfl
theorem dX6_taken_25 : decode cX6_taken 25 = .ok (.ireturn, 1) := ax_dec dX6_taken_q0_ok 13 (25, .ireturn, 1) rfl
theorem dX6_taken_26 : decode cX6_taken 26 = .ok (.iload_n 1, 1) := ax_dec dX6_taken_q0_ok 14 (26, .iload_n 1, 1) rfl
theorem dX6_taken_27 : decode cX6_taken 27 = .ok (.bipush 10, 2) := ax_dec dX6_taken_q0_ok 15 (27, .bipush 10, 2) rfl
theorem dX6_taken_29 : decode cX6_taken 29 = .ok (.if_icmp .lt 7, 3) := ax_dec dX6_taken_q0_ok 16 (29, .if_icmp .lt 7, 3) rfl
theorem dX6_taken_32 : decode cX6_taken 32 = .ok (.iconst 1, 1) := ax_dec dX6_taken_q0_ok 17 (32, .iconst 1, 1) rfl
theorem dX6_taken_33 : decode cX6_taken 33 = .ok (.goto 4, 3) := ax_dec dX6_taken_q0_ok 18 (33, .goto 4, 3) rfl
theorem dX6_taken_36 : decode cX6_taken 36 = .ok (.iconst 0, 1) := ax_dec dX6_taken_q0_ok 19 (36, .iconst 0, 1) rfl
theorem dX6_taken_37 : decode cX6_taken 37 = .ok (.istore_n 3, 1) := ax_dec dX6_taken_q0_ok 20 (37, .istore_n 3, 1) rfl
theorem dX6_taken_38 : decode cX6_taken 38 = .ok (.aload_n 0, 1) := ax_dec dX6_taken_q0_ok 21 (38, .aload_n 0, 1) rfl
theorem dX6_taken_39 : decode cX6_taken 39 = .ok (.getfield 55, 3) := ax_dec dX6_taken_q0_ok 22 (39, .getfield 55, 3) rfl
theorem dX6_taken_42 : decode cX6_taken 42 = .ok (.iload_n 3, 1) := ax_dec dX6_taken_q0_ok 23 (42, .iload_n 3, 1) rfl
theorem dX6_taken_43 : decode cX6_taken 43 = .ok (.ifCond .eq 10, 3) := ax_dec dX6_taken_q0_ok 24 (43, .ifCond .eq 10, 3) rfl
theorem dX6_taken_46 : decode cX6_taken 46 = .ok (.iload_n 1, 1) := ax_dec dX6_taken_q0_ok 25 (46, .iload_n 1, 1) rfl
theorem dX6_taken_47 : decode cX6_taken 47 = .ok (.bipush 10, 2) := ax_dec dX6_taken_q0_ok 26 (47, .bipush 10, 2) rfl
theorem dX6_taken_49 : decode cX6_taken 49 = .ok (.isub, 1) := ax_dec dX6_taken_q0_ok 27 (49, .isub, 1) rfl
theorem dX6_taken_50 : decode cX6_taken 50 = .ok (.goto 4, 3) := ax_dec dX6_taken_q0_ok 28 (50, .goto 4, 3) rfl
theorem dX6_taken_53 : decode cX6_taken 53 = .ok (.iload_n 1, 1) := ax_dec dX6_taken_q0_ok 29 (53, .iload_n 1, 1) rfl
theorem dX6_taken_54 : decode cX6_taken 54 = .ok (.invokevirtual 96, 3) := ax_dec dX6_taken_q0_ok 30 (54, .invokevirtual 96, 3) rfl
theorem dX6_taken_57 : decode cX6_taken 57 = .ok (.astore 4, 2) := ax_dec dX6_taken_q0_ok 31 (57, .astore 4, 2) rfl
def dX6_taken_q1 : List (Nat × (Instr × Nat)) := [(59, .aload 4, 2), (61, .ifnull 15, 3), (64, .iload_n 3, 1), (65, .ifCond .eq 14, 3), (68, .aload 4, 2), (70, .getfield 123, 3), (73, .ifCond .ne 6, 3), (76, .bipush (-11), 2), (78, .ireturn, 1), (79, .iload_n 3, 1), (80, .ifCond .eq 20, 3), (83, .iload_n 2, 1), (84, .bipush 6, 2), (86, .if_icmp .ne 11, 3), (89, .aload 4, 2), (91, .getfield 123, 3), (94, .goto 5, 3), (97, .bipush (-13), 2), (99, .ireturn, 1), (100, .aload 4, 2), (102, .iload_n 2, 1), (103, .invokevirtual 293, 3), (106, .ifCond .eq 7, 3), (109, .iload_n 1, 1), (110, .goto 5, 3), (113, .bipush (-13), 2), (115, .ireturn, 1)]
set_option maxRecDepth 100000 in
theorem dX6_taken_q1_ok : ax_decs cX6_taken dX6_taken_q1 = true := by decide +kernel
theorem dX6_taken_59 : decode cX6_taken 59 = .ok (.aload 4, 2) := ax_dec dX6_taken_q1_ok 0 (59, .aload 4, 2) rfl
theorem dX6_taken_61 : decode cX6_taken 61 = .ok (.ifnull 15, 3) := ax_dec dX6_taken_q1_ok 1 (61, .ifnull 15, 3) rfl
theorem dX6_taken_64 : decode cX6_taken 64 = .ok (.iload_n 3, 1) := ax_dec dX6_taken_q1_ok 2 (64, .iload_n 3, 1) rfl
theorem dX6_taken_65 : decode cX6_taken 65 = .ok (.ifCond .eq 14, 3) := ax_dec dX6_taken_q1_ok 3 (65, .ifCond .eq 14, 3) rfl
theorem dX6_taken_68 : decode cX6_taken 68 = .ok (.aload 4, 2) := ax_dec dX6_taken_q1_ok 4 (68, .aload 4, 2) rfl
theorem dX6_taken_70 : decode cX6_taken 70 = .ok (.getfield 123, 3) := ax_dec dX6_taken_q1_ok 5 (70, .getfield 123, 3) rfl
theorem dX6_taken_73 : decode cX6_taken 73 = .ok (.ifCond .ne 6, 3) := ax_dec dX6_taken_q1_ok 6 (73, .ifCond .ne 6, 3) rfl
theorem dX6_taken_76 : decode cX6_taken 76 = .ok (.bipush (-11), 2) := ax_dec dX6_taken_q1_ok 7 (76, .bipush (-11), 2) rfl
theorem dX6_taken_78 : decode cX6_taken 78 = .ok (.ireturn, 1) := ax_dec dX6_taken_q1_ok 8 (78, .ireturn, 1) rfl
theorem dX6_taken_79 : decode cX6_taken 79 = .ok (.iload_n 3, 1) := ax_dec dX6_taken_q1_ok 9 (79, .iload_n 3, 1) rfl
theorem dX6_taken_80 : decode cX6_taken 80 = .ok (.ifCond .eq 20, 3) := ax_dec dX6_taken_q1_ok 10 (80, .ifCond .eq 20, 3) rfl
theorem dX6_taken_83 : decode cX6_taken 83 = .ok (.iload_n 2, 1) := ax_dec dX6_taken_q1_ok 11 (83, .iload_n 2, 1) rfl
theorem dX6_taken_84 : decode cX6_taken 84 = .ok (.bipush 6, 2) := ax_dec dX6_taken_q1_ok 12 (84, .bipush 6, 2) rfl
theorem dX6_taken_86 : decode cX6_taken 86 = .ok (.if_icmp .ne 11, 3) := ax_dec dX6_taken_q1_ok 13 (86, .if_icmp .ne 11, 3) rfl
theorem dX6_taken_89 : decode cX6_taken 89 = .ok (.aload 4, 2) := ax_dec dX6_taken_q1_ok 14 (89, .aload 4, 2) rfl
theorem dX6_taken_91 : decode cX6_taken 91 = .ok (.getfield 123, 3) := ax_dec dX6_taken_q1_ok 15 (91, .getfield 123, 3) rfl
theorem dX6_taken_94 : decode cX6_taken 94 = .ok (.goto 5, 3) := ax_dec dX6_taken_q1_ok 16 (94, .goto 5, 3) rfl
theorem dX6_taken_97 : decode cX6_taken 97 = .ok (.bipush (-13), 2) := ax_dec dX6_taken_q1_ok 17 (97, .bipush (-13), 2) rfl
theorem dX6_taken_99 : decode cX6_taken 99 = .ok (.ireturn, 1) := ax_dec dX6_taken_q1_ok 18 (99, .ireturn, 1) rfl
theorem dX6_taken_100 : decode cX6_taken 100 = .ok (.aload 4, 2) := ax_dec dX6_taken_q1_ok 19 (100, .aload 4, 2) rfl
theorem dX6_taken_102 : decode cX6_taken 102 = .ok (.iload_n 2, 1) := ax_dec dX6_taken_q1_ok 20 (102, .iload_n 2, 1) rfl
theorem dX6_taken_103 : decode cX6_taken 103 = .ok (.invokevirtual 293, 3) := ax_dec dX6_taken_q1_ok 21 (103, .invokevirtual 293, 3) rfl
theorem dX6_taken_106 : decode cX6_taken 106 = .ok (.ifCond .eq 7, 3) := ax_dec dX6_taken_q1_ok 22 (106, .ifCond .eq 7, 3) rfl
theorem dX6_taken_109 : decode cX6_taken 109 = .ok (.iload_n 1, 1) := ax_dec dX6_taken_q1_ok 23 (109, .iload_n 1, 1) rfl
theorem dX6_taken_110 : decode cX6_taken 110 = .ok (.goto 5, 3) := ax_dec dX6_taken_q1_ok 24 (110, .goto 5, 3) rfl
theorem dX6_taken_113 : decode cX6_taken 113 = .ok (.bipush (-13), 2) := ax_dec dX6_taken_q1_ok 25 (113, .bipush (-13), 2) rfl
theorem dX6_taken_115 : decode cX6_taken 115 = .ok (.ireturn, 1) := ax_dec dX6_taken_q1_ok 26 (115, .ireturn, 1) rfl
def dX6_in_q0 : List (Nat × (Instr × Nat)) := [(0, .iload_n 1, 1), (1, .iload_n 0, 1), (2, .if_icmp .gt 12, 3), (5, .iload_n 0, 1), (6, .iload_n 2, 1), (7, .if_icmp .gt 7, 3), (10, .iconst 1, 1), (11, .goto 4, 3), (14, .iconst 0, 1), (15, .ireturn, 1)]
set_option maxRecDepth 100000 in
theorem dX6_in_q0_ok : ax_decs cX6_in dX6_in_q0 = true := by decide +kernel
theorem dX6_in_0 : decode cX6_in 0 = .ok (.iload_n 1, 1) := ax_dec dX6_in_q0_ok 0 (0, .iload_n 1, 1) rfl
theorem dX6_in_1 : decode cX6_in 1 = .ok (.iload_n 0, 1) := ax_dec dX6_in_q0_ok 1 (1, .iload_n 0, 1) rfl
theorem dX6_in_2 : decode cX6_in 2 = .ok (.if_icmp .gt 12, 3) := ax_dec dX6_in_q0_ok 2 (2, .if_icmp .gt 12, 3) rfl
theorem dX6_in_5 : decode cX6_in 5 = .ok (.iload_n 0, 1) := ax_dec dX6_in_q0_ok 3 (5, .iload_n 0, 1) rfl
theorem dX6_in_6 : decode cX6_in 6 = .ok (.iload_n 2, 1) := ax_dec dX6_in_q0_ok 4 (6, .iload_n 2, 1) rfl
theorem dX6_in_7 : decode cX6_in 7 = .ok (.if_icmp .gt 7, 3) := ax_dec dX6_in_q0_ok 5 (7, .if_icmp .gt 7, 3) rfl
theorem dX6_in_10 : decode cX6_in 10 = .ok (.iconst 1, 1) := ax_dec dX6_in_q0_ok 6 (10, .iconst 1, 1) rfl
theorem dX6_in_11 : decode cX6_in 11 = .ok (.goto 4, 3) := ax_dec dX6_in_q0_ok 7 (11, .goto 4, 3) rfl
theorem dX6_in_14 : decode cX6_in 14 = .ok (.iconst 0, 1) := ax_dec dX6_in_q0_ok 8 (14, .iconst 0, 1) rfl
theorem dX6_in_15 : decode cX6_in 15 = .ok (.ireturn, 1) := ax_dec dX6_in_q0_ok 9 (15, .ireturn, 1) rfl
def dX6_isByte_q0 : List (Nat × (Instr × Nat)) := [(0, .iload_n 0, 1), (1, .iconst 0, 1), (2, .sipush 255, 3), (5, .invokestatic 76, 3), (8, .ireturn, 1)]
set_option maxRecDepth 100000 in
theorem dX6_isByte_q0_ok : ax_decs cX6_isByte dX6_isByte_q0 = true := by decide +kernel
theorem dX6_isByte_0 : decode cX6_isByte 0 = .ok (.iload_n 0, 1) := ax_dec dX6_isByte_q0_ok 0 (0, .iload_n 0, 1) rfl
theorem dX6_isByte_1 : decode cX6_isByte 1 = .ok (.iconst 0, 1) := ax_dec dX6_isByte_q0_ok 1 (1, .iconst 0, 1) rfl
theorem dX6_isByte_2 : decode cX6_isByte 2 = .ok (.sipush 255, 3) := ax_dec dX6_isByte_q0_ok 2 (2, .sipush 255, 3) rfl
theorem dX6_isByte_5 : decode cX6_isByte 5 = .ok (.invokestatic 76, 3) := ax_dec dX6_isByte_q0_ok 3 (5, .invokestatic 76, 3) rfl
theorem dX6_isByte_8 : decode cX6_isByte 8 = .ok (.ireturn, 1) := ax_dec dX6_isByte_q0_ok 4 (8, .ireturn, 1) rfl
def dX6_numberOf_q0 : List (Nat × (Instr × Nat)) := [(0, .aload_n 0, 1), (1, .ifnonnull 7, 3), (4, .iconst (-1), 1), (5, .goto 7, 3), (8, .aload_n 0, 1), (9, .getfield 226, 3), (12, .ireturn, 1)]
set_option maxRecDepth 100000 in
theorem dX6_numberOf_q0_ok : ax_decs cX6_numberOf dX6_numberOf_q0 = true := by decide +kernel
theorem dX6_numberOf_0 : decode cX6_numberOf 0 = .ok (.aload_n 0, 1) := ax_dec dX6_numberOf_q0_ok 0 (0, .aload_n 0, 1) rfl
theorem dX6_numberOf_1 : decode cX6_numberOf 1 = .ok (.ifnonnull 7, 3) := ax_dec dX6_numberOf_q0_ok 1 (1, .ifnonnull 7, 3) rfl
theorem dX6_numberOf_4 : decode cX6_numberOf 4 = .ok (.iconst (-1), 1) := ax_dec dX6_numberOf_q0_ok 2 (4, .iconst (-1), 1) rfl
theorem dX6_numberOf_5 : decode cX6_numberOf 5 = .ok (.goto 7, 3) := ax_dec dX6_numberOf_q0_ok 3 (5, .goto 7, 3) rfl
theorem dX6_numberOf_8 : decode cX6_numberOf 8 = .ok (.aload_n 0, 1) := ax_dec dX6_numberOf_q0_ok 4 (8, .aload_n 0, 1) rfl
theorem dX6_numberOf_9 : decode cX6_numberOf 9 = .ok (.getfield 226, 3) := ax_dec dX6_numberOf_q0_ok 5 (9, .getfield 226, 3) rfl
theorem dX6_numberOf_12 : decode cX6_numberOf 12 = .ok (.ireturn, 1) := ax_dec dX6_numberOf_q0_ok 6 (12, .ireturn, 1) rfl
def dX6_textAt_q0 : List (Nat × (Instr × Nat)) := [(0, .iload_n 1, 1), (1, .ifCond .lt 26, 3), (4, .iload_n 1, 1), (5, .iload_n 2, 1), (6, .if_icmp .ge 21, 3), (9, .iload_n 1, 1), (10, .aload_n 0, 1), (11, .getfield 18, 3), (14, .arraylength, 1), (15, .if_icmp .ge 12, 3), (18, .aload_n 0, 1), (19, .getfield 18, 3), (22, .iload_n 1, 1), (23, .aaload, 1), (24, .goto 4, 3), (27, .aconst_null, 1), (28, .areturn, 1)]
set_option maxRecDepth 100000 in
theorem dX6_textAt_q0_ok : ax_decs cX6_textAt dX6_textAt_q0 = true := by decide +kernel
theorem dX6_textAt_0 : decode cX6_textAt 0 = .ok (.iload_n 1, 1) := ax_dec dX6_textAt_q0_ok 0 (0, .iload_n 1, 1) rfl
theorem dX6_textAt_1 : decode cX6_textAt 1 = .ok (.ifCond .lt 26, 3) := ax_dec dX6_textAt_q0_ok 1 (1, .ifCond .lt 26, 3) rfl
theorem dX6_textAt_4 : decode cX6_textAt 4 = .ok (.iload_n 1, 1) := ax_dec dX6_textAt_q0_ok 2 (4, .iload_n 1, 1) rfl
theorem dX6_textAt_5 : decode cX6_textAt 5 = .ok (.iload_n 2, 1) := ax_dec dX6_textAt_q0_ok 3 (5, .iload_n 2, 1) rfl
theorem dX6_textAt_6 : decode cX6_textAt 6 = .ok (.if_icmp .ge 21, 3) := ax_dec dX6_textAt_q0_ok 4 (6, .if_icmp .ge 21, 3) rfl
theorem dX6_textAt_9 : decode cX6_textAt 9 = .ok (.iload_n 1, 1) := ax_dec dX6_textAt_q0_ok 5 (9, .iload_n 1, 1) rfl
theorem dX6_textAt_10 : decode cX6_textAt 10 = .ok (.aload_n 0, 1) := ax_dec dX6_textAt_q0_ok 6 (10, .aload_n 0, 1) rfl
theorem dX6_textAt_11 : decode cX6_textAt 11 = .ok (.getfield 18, 3) := ax_dec dX6_textAt_q0_ok 7 (11, .getfield 18, 3) rfl
theorem dX6_textAt_14 : decode cX6_textAt 14 = .ok (.arraylength, 1) := ax_dec dX6_textAt_q0_ok 8 (14, .arraylength, 1) rfl
theorem dX6_textAt_15 : decode cX6_textAt 15 = .ok (.if_icmp .ge 12, 3) := ax_dec dX6_textAt_q0_ok 9 (15, .if_icmp .ge 12, 3) rfl
theorem dX6_textAt_18 : decode cX6_textAt 18 = .ok (.aload_n 0, 1) := ax_dec dX6_textAt_q0_ok 10 (18, .aload_n 0, 1) rfl
theorem dX6_textAt_19 : decode cX6_textAt 19 = .ok (.getfield 18, 3) := ax_dec dX6_textAt_q0_ok 11 (19, .getfield 18, 3) rfl
theorem dX6_textAt_22 : decode cX6_textAt 22 = .ok (.iload_n 1, 1) := ax_dec dX6_textAt_q0_ok 12 (22, .iload_n 1, 1) rfl
theorem dX6_textAt_23 : decode cX6_textAt 23 = .ok (.aaload, 1) := ax_dec dX6_textAt_q0_ok 13 (23, .aaload, 1) rfl
theorem dX6_textAt_24 : decode cX6_textAt 24 = .ok (.goto 4, 3) := ax_dec dX6_textAt_q0_ok 14 (24, .goto 4, 3) rfl
theorem dX6_textAt_27 : decode cX6_textAt 27 = .ok (.aconst_null, 1) := ax_dec dX6_textAt_q0_ok 15 (27, .aconst_null, 1) rfl
theorem dX6_textAt_28 : decode cX6_textAt 28 = .ok (.areturn, 1) := ax_dec dX6_textAt_q0_ok 16 (28, .areturn, 1) rfl
def dX6_sheetAt_q0 : List (Nat × (Instr × Nat)) := [(0, .iload_n 1, 1), (1, .ifCond .lt 21, 3), (4, .iload_n 1, 1), (5, .aload_n 0, 1), (6, .getfield 24, 3), (9, .arraylength, 1), (10, .if_icmp .ge 12, 3), (13, .aload_n 0, 1), (14, .getfield 24, 3), (17, .iload_n 1, 1), (18, .aaload, 1), (19, .goto 4, 3), (22, .aconst_null, 1), (23, .areturn, 1)]
set_option maxRecDepth 100000 in
theorem dX6_sheetAt_q0_ok : ax_decs cX6_sheetAt dX6_sheetAt_q0 = true := by decide +kernel
theorem dX6_sheetAt_0 : decode cX6_sheetAt 0 = .ok (.iload_n 1, 1) := ax_dec dX6_sheetAt_q0_ok 0 (0, .iload_n 1, 1) rfl
theorem dX6_sheetAt_1 : decode cX6_sheetAt 1 = .ok (.ifCond .lt 21, 3) := ax_dec dX6_sheetAt_q0_ok 1 (1, .ifCond .lt 21, 3) rfl
theorem dX6_sheetAt_4 : decode cX6_sheetAt 4 = .ok (.iload_n 1, 1) := ax_dec dX6_sheetAt_q0_ok 2 (4, .iload_n 1, 1) rfl
theorem dX6_sheetAt_5 : decode cX6_sheetAt 5 = .ok (.aload_n 0, 1) := ax_dec dX6_sheetAt_q0_ok 3 (5, .aload_n 0, 1) rfl
theorem dX6_sheetAt_6 : decode cX6_sheetAt 6 = .ok (.getfield 24, 3) := ax_dec dX6_sheetAt_q0_ok 4 (6, .getfield 24, 3) rfl
theorem dX6_sheetAt_9 : decode cX6_sheetAt 9 = .ok (.arraylength, 1) := ax_dec dX6_sheetAt_q0_ok 5 (9, .arraylength, 1) rfl
theorem dX6_sheetAt_10 : decode cX6_sheetAt 10 = .ok (.if_icmp .ge 12, 3) := ax_dec dX6_sheetAt_q0_ok 6 (10, .if_icmp .ge 12, 3) rfl
theorem dX6_sheetAt_13 : decode cX6_sheetAt 13 = .ok (.aload_n 0, 1) := ax_dec dX6_sheetAt_q0_ok 7 (13, .aload_n 0, 1) rfl
theorem dX6_sheetAt_14 : decode cX6_sheetAt 14 = .ok (.getfield 24, 3) := ax_dec dX6_sheetAt_q0_ok 8 (14, .getfield 24, 3) rfl
theorem dX6_sheetAt_17 : decode cX6_sheetAt 17 = .ok (.iload_n 1, 1) := ax_dec dX6_sheetAt_q0_ok 9 (17, .iload_n 1, 1) rfl
theorem dX6_sheetAt_18 : decode cX6_sheetAt 18 = .ok (.aaload, 1) := ax_dec dX6_sheetAt_q0_ok 10 (18, .aaload, 1) rfl
theorem dX6_sheetAt_19 : decode cX6_sheetAt 19 = .ok (.goto 4, 3) := ax_dec dX6_sheetAt_q0_ok 11 (19, .goto 4, 3) rfl
theorem dX6_sheetAt_22 : decode cX6_sheetAt 22 = .ok (.aconst_null, 1) := ax_dec dX6_sheetAt_q0_ok 12 (22, .aconst_null, 1) rfl
theorem dX6_sheetAt_23 : decode cX6_sheetAt 23 = .ok (.areturn, 1) := ax_dec dX6_sheetAt_q0_ok 13 (23, .areturn, 1) rfl
