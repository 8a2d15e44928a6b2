/-! The instructions, as rows to rewrite with: printed by wip/gen.py. -/
theorem gi0_0 : gx_ins 0 0 = some (false, .iload_n 1, 0) := rfl
theorem gi0_1 : gx_ins 0 1 = some (false, .ifCond .lt 15, 16) := rfl
theorem gi0_4 : gx_ins 0 4 = some (false, .iload_n 1, 0) := rfl
theorem gi0_5 : gx_ins 0 5 = some (false, .aload_n 0, 0) := rfl
theorem gi0_6 : gx_ins 0 6 = some (false, .getfield 34, 0) := rfl
theorem gi0_9 : gx_ins 0 9 = some (false, .if_icmp .ge 7, 16) := rfl
theorem gi0_12 : gx_ins 0 12 = some (false, .iconst 1, 0) := rfl
theorem gi0_13 : gx_ins 0 13 = some (false, .goto 4, 17) := rfl
theorem gi0_16 : gx_ins 0 16 = some (false, .iconst 0, 0) := rfl
theorem gi0_17 : gx_ins 0 17 = some (false, .ireturn, 0) := rfl
theorem gi1_0 : gx_ins 1 0 = some (false, .iload_n 1, 0) := rfl
theorem gi1_1 : gx_ins 1 1 = some (false, .ifCond .lt 24, 25) := rfl
theorem gi1_4 : gx_ins 1 4 = some (false, .iload_n 1, 0) := rfl
theorem gi1_5 : gx_ins 1 5 = some (false, .aload_n 0, 0) := rfl
theorem gi1_6 : gx_ins 1 6 = some (false, .getfield 38, 0) := rfl
theorem gi1_9 : gx_ins 1 9 = some (false, .if_icmp .ge 16, 25) := rfl
theorem gi1_12 : gx_ins 1 12 = some (false, .aload_n 0, 0) := rfl
theorem gi1_13 : gx_ins 1 13 = some (false, .getfield 30, 0) := rfl
theorem gi1_16 : gx_ins 1 16 = some (false, .iload_n 1, 0) := rfl
theorem gi1_17 : gx_ins 1 17 = some (false, .baload, 0) := rfl
theorem gi1_18 : gx_ins 1 18 = some (false, .ifCond .ne 7, 25) := rfl
theorem gi1_21 : gx_ins 1 21 = some (false, .iconst 1, 0) := rfl
theorem gi1_22 : gx_ins 1 22 = some (false, .goto 4, 26) := rfl
theorem gi1_25 : gx_ins 1 25 = some (false, .iconst 0, 0) := rfl
theorem gi1_26 : gx_ins 1 26 = some (false, .ireturn, 0) := rfl
theorem gi2_0 : gx_ins 2 0 = some (false, .aload_n 0, 0) := rfl
theorem gi2_1 : gx_ins 2 1 = some (false, .getfield 9, 0) := rfl
theorem gi2_4 : gx_ins 2 4 = some (false, .aload_n 0, 0) := rfl
theorem gi2_5 : gx_ins 2 5 = some (false, .getfield 34, 0) := rfl
theorem gi2_8 : gx_ins 2 8 = some (false, .iconst 0, 0) := rfl
theorem gi2_9 : gx_ins 2 9 = some (false, .iastore, 0) := rfl
theorem gi2_10 : gx_ins 2 10 = some (false, .aload_n 0, 0) := rfl
theorem gi2_11 : gx_ins 2 11 = some (false, .getfield 15, 0) := rfl
theorem gi2_14 : gx_ins 2 14 = some (false, .aload_n 0, 0) := rfl
theorem gi2_15 : gx_ins 2 15 = some (false, .getfield 34, 0) := rfl
theorem gi2_18 : gx_ins 2 18 = some (false, .iconst (-1), 0) := rfl
theorem gi2_19 : gx_ins 2 19 = some (false, .iastore, 0) := rfl
theorem gi2_20 : gx_ins 2 20 = some (false, .aload_n 0, 0) := rfl
theorem gi2_21 : gx_ins 2 21 = some (false, .dup, 0) := rfl
theorem gi2_22 : gx_ins 2 22 = some (false, .getfield 34, 0) := rfl
theorem gi2_25 : gx_ins 2 25 = some (false, .iconst 1, 0) := rfl
theorem gi2_26 : gx_ins 2 26 = some (false, .iadd, 0) := rfl
theorem gi2_27 : gx_ins 2 27 = some (false, .putfield 34, 0) := rfl
theorem gi2_30 : gx_ins 2 30 = some (false, .aload_n 0, 0) := rfl
theorem gi2_31 : gx_ins 2 31 = some (false, .getfield 34, 0) := rfl
theorem gi2_34 : gx_ins 2 34 = some (false, .iconst 1, 0) := rfl
theorem gi2_35 : gx_ins 2 35 = some (false, .isub, 0) := rfl
theorem gi2_36 : gx_ins 2 36 = some (false, .ireturn, 0) := rfl
theorem gi3_0 : gx_ins 3 0 = some (false, .aload_n 0, 0) := rfl
theorem gi3_1 : gx_ins 3 1 = some (false, .getfield 18, 0) := rfl
theorem gi3_4 : gx_ins 3 4 = some (false, .aload_n 0, 0) := rfl
theorem gi3_5 : gx_ins 3 5 = some (false, .getfield 38, 0) := rfl
theorem gi3_8 : gx_ins 3 8 = some (false, .iload_n 1, 0) := rfl
theorem gi3_9 : gx_ins 3 9 = some (false, .iastore, 0) := rfl
theorem gi3_10 : gx_ins 3 10 = some (false, .aload_n 0, 0) := rfl
theorem gi3_11 : gx_ins 3 11 = some (false, .getfield 21, 0) := rfl
theorem gi3_14 : gx_ins 3 14 = some (false, .aload_n 0, 0) := rfl
theorem gi3_15 : gx_ins 3 15 = some (false, .getfield 38, 0) := rfl
theorem gi3_18 : gx_ins 3 18 = some (false, .iload_n 2, 0) := rfl
theorem gi3_19 : gx_ins 3 19 = some (false, .iastore, 0) := rfl
theorem gi3_20 : gx_ins 3 20 = some (false, .aload_n 0, 0) := rfl
theorem gi3_21 : gx_ins 3 21 = some (false, .getfield 24, 0) := rfl
theorem gi3_24 : gx_ins 3 24 = some (false, .aload_n 0, 0) := rfl
theorem gi3_25 : gx_ins 3 25 = some (false, .getfield 38, 0) := rfl
theorem gi3_28 : gx_ins 3 28 = some (false, .iload_n 3, 0) := rfl
theorem gi3_29 : gx_ins 3 29 = some (false, .iastore, 0) := rfl
theorem gi3_30 : gx_ins 3 30 = some (false, .aload_n 0, 0) := rfl
theorem gi3_31 : gx_ins 3 31 = some (false, .getfield 27, 0) := rfl
theorem gi3_34 : gx_ins 3 34 = some (false, .aload_n 0, 0) := rfl
theorem gi3_35 : gx_ins 3 35 = some (false, .getfield 38, 0) := rfl
theorem gi3_38 : gx_ins 3 38 = some (false, .iload 4, 0) := rfl
theorem gi3_40 : gx_ins 3 40 = some (false, .iastore, 0) := rfl
theorem gi3_41 : gx_ins 3 41 = some (false, .aload_n 0, 0) := rfl
theorem gi3_42 : gx_ins 3 42 = some (false, .getfield 30, 0) := rfl
theorem gi3_45 : gx_ins 3 45 = some (false, .aload_n 0, 0) := rfl
theorem gi3_46 : gx_ins 3 46 = some (false, .getfield 38, 0) := rfl
theorem gi3_49 : gx_ins 3 49 = some (false, .iconst 0, 0) := rfl
theorem gi3_50 : gx_ins 3 50 = some (false, .bastore, 0) := rfl
theorem gi3_51 : gx_ins 3 51 = some (false, .aload_n 0, 0) := rfl
theorem gi3_52 : gx_ins 3 52 = some (false, .dup, 0) := rfl
theorem gi3_53 : gx_ins 3 53 = some (false, .getfield 38, 0) := rfl
theorem gi3_56 : gx_ins 3 56 = some (false, .iconst 1, 0) := rfl
theorem gi3_57 : gx_ins 3 57 = some (false, .iadd, 0) := rfl
theorem gi3_58 : gx_ins 3 58 = some (false, .putfield 38, 0) := rfl
theorem gi3_61 : gx_ins 3 61 = some (false, .aload_n 0, 0) := rfl
theorem gi3_62 : gx_ins 3 62 = some (false, .dup, 0) := rfl
theorem gi3_63 : gx_ins 3 63 = some (false, .getfield 41, 0) := rfl
theorem gi3_66 : gx_ins 3 66 = some (false, .iconst 1, 0) := rfl
theorem gi3_67 : gx_ins 3 67 = some (false, .iadd, 0) := rfl
theorem gi3_68 : gx_ins 3 68 = some (false, .putfield 41, 0) := rfl
theorem gi3_71 : gx_ins 3 71 = some (false, .aload_n 0, 0) := rfl
theorem gi3_72 : gx_ins 3 72 = some (false, .getfield 38, 0) := rfl
theorem gi3_75 : gx_ins 3 75 = some (false, .iconst 1, 0) := rfl
theorem gi3_76 : gx_ins 3 76 = some (false, .isub, 0) := rfl
theorem gi3_77 : gx_ins 3 77 = some (false, .ireturn, 0) := rfl
theorem gi4_0 : gx_ins 4 0 = some (false, .aload_n 0, 0) := rfl
theorem gi4_1 : gx_ins 4 1 = some (false, .getfield 30, 0) := rfl
theorem gi4_4 : gx_ins 4 4 = some (false, .iload_n 1, 0) := rfl
theorem gi4_5 : gx_ins 4 5 = some (false, .iconst 1, 0) := rfl
theorem gi4_6 : gx_ins 4 6 = some (false, .bastore, 0) := rfl
theorem gi4_7 : gx_ins 4 7 = some (false, .aload_n 0, 0) := rfl
theorem gi4_8 : gx_ins 4 8 = some (false, .dup, 0) := rfl
theorem gi4_9 : gx_ins 4 9 = some (false, .getfield 41, 0) := rfl
theorem gi4_12 : gx_ins 4 12 = some (false, .iconst 1, 0) := rfl
theorem gi4_13 : gx_ins 4 13 = some (false, .isub, 0) := rfl
theorem gi4_14 : gx_ins 4 14 = some (false, .putfield 41, 0) := rfl
theorem gi4_17 : gx_ins 4 17 = some (false, .aload_n 0, 0) := rfl
theorem gi4_18 : gx_ins 4 18 = some (false, .getfield 41, 0) := rfl
theorem gi4_21 : gx_ins 4 21 = some (false, .ireturn, 0) := rfl
theorem gi5_0 : gx_ins 5 0 = some (false, .aload_n 0, 0) := rfl
theorem gi5_1 : gx_ins 5 1 = some (false, .getfield 34, 0) := rfl
theorem gi5_4 : gx_ins 5 4 = some (false, .istore_n 1, 0) := rfl
theorem gi5_5 : gx_ins 5 5 = some (false, .aload_n 0, 0) := rfl
theorem gi5_6 : gx_ins 5 6 = some (false, .iconst 0, 0) := rfl
theorem gi5_7 : gx_ins 5 7 = some (false, .putfield 34, 0) := rfl
theorem gi5_10 : gx_ins 5 10 = some (false, .aload_n 0, 0) := rfl
theorem gi5_11 : gx_ins 5 11 = some (false, .iconst 0, 0) := rfl
theorem gi5_12 : gx_ins 5 12 = some (false, .putfield 38, 0) := rfl
theorem gi5_15 : gx_ins 5 15 = some (false, .aload_n 0, 0) := rfl
theorem gi5_16 : gx_ins 5 16 = some (false, .iconst 0, 0) := rfl
theorem gi5_17 : gx_ins 5 17 = some (false, .putfield 41, 0) := rfl
theorem gi5_20 : gx_ins 5 20 = some (false, .iload_n 1, 0) := rfl
theorem gi5_21 : gx_ins 5 21 = some (false, .ireturn, 0) := rfl
theorem gi6_0 : gx_ins 6 0 = some (false, .iconst 0, 0) := rfl
theorem gi6_1 : gx_ins 6 1 = some (false, .istore_n 3, 0) := rfl
theorem gi6_2 : gx_ins 6 2 = some (false, .iconst 0, 0) := rfl
theorem gi6_3 : gx_ins 6 3 = some (false, .istore 4, 0) := rfl
theorem gi6_5 : gx_ins 6 5 = some (true, .iload 4, 0) := rfl
theorem gi6_7 : gx_ins 6 7 = some (false, .aload_n 0, 0) := rfl
theorem gi6_8 : gx_ins 6 8 = some (false, .getfield 38, 0) := rfl
theorem gi6_11 : gx_ins 6 11 = some (false, .if_icmp .ge 37, 48) := rfl
theorem gi6_14 : gx_ins 6 14 = some (false, .aload_n 0, 0) := rfl
theorem gi6_15 : gx_ins 6 15 = some (false, .getfield 21, 0) := rfl
theorem gi6_18 : gx_ins 6 18 = some (false, .iload 4, 0) := rfl
theorem gi6_20 : gx_ins 6 20 = some (false, .iaload, 0) := rfl
theorem gi6_21 : gx_ins 6 21 = some (false, .iload_n 2, 0) := rfl
theorem gi6_22 : gx_ins 6 22 = some (false, .if_icmp .ne 20, 42) := rfl
theorem gi6_25 : gx_ins 6 25 = some (false, .aload_n 0, 0) := rfl
theorem gi6_26 : gx_ins 6 26 = some (false, .getfield 30, 0) := rfl
theorem gi6_29 : gx_ins 6 29 = some (false, .iload 4, 0) := rfl
theorem gi6_31 : gx_ins 6 31 = some (false, .baload, 0) := rfl
theorem gi6_32 : gx_ins 6 32 = some (false, .ifCond .ne 10, 42) := rfl
theorem gi6_35 : gx_ins 6 35 = some (false, .iload_n 3, 0) := rfl
theorem gi6_36 : gx_ins 6 36 = some (false, .aload_n 1, 0) := rfl
theorem gi6_37 : gx_ins 6 37 = some (false, .iload 4, 0) := rfl
theorem gi6_39 : gx_ins 6 39 = some (false, .iaload, 0) := rfl
theorem gi6_40 : gx_ins 6 40 = some (false, .iadd, 0) := rfl
theorem gi6_41 : gx_ins 6 41 = some (false, .istore_n 3, 0) := rfl
theorem gi6_42 : gx_ins 6 42 = some (false, .iinc 4 1, 0) := rfl
theorem gi6_45 : gx_ins 6 45 = some (false, .goto (-40), 5) := rfl
theorem gi6_48 : gx_ins 6 48 = some (false, .iload_n 3, 0) := rfl
theorem gi6_49 : gx_ins 6 49 = some (false, .ireturn, 0) := rfl
theorem gi7_0 : gx_ins 7 0 = some (false, .iconst 0, 0) := rfl
theorem gi7_1 : gx_ins 7 1 = some (false, .istore_n 3, 0) := rfl
theorem gi7_2 : gx_ins 7 2 = some (false, .iconst 0, 0) := rfl
theorem gi7_3 : gx_ins 7 3 = some (false, .istore 4, 0) := rfl
theorem gi7_5 : gx_ins 7 5 = some (true, .iload 4, 0) := rfl
theorem gi7_7 : gx_ins 7 7 = some (false, .aload_n 0, 0) := rfl
theorem gi7_8 : gx_ins 7 8 = some (false, .getfield 38, 0) := rfl
theorem gi7_11 : gx_ins 7 11 = some (false, .if_icmp .ge 37, 48) := rfl
theorem gi7_14 : gx_ins 7 14 = some (false, .aload_n 0, 0) := rfl
theorem gi7_15 : gx_ins 7 15 = some (false, .getfield 18, 0) := rfl
theorem gi7_18 : gx_ins 7 18 = some (false, .iload 4, 0) := rfl
theorem gi7_20 : gx_ins 7 20 = some (false, .iaload, 0) := rfl
theorem gi7_21 : gx_ins 7 21 = some (false, .iload_n 2, 0) := rfl
theorem gi7_22 : gx_ins 7 22 = some (false, .if_icmp .ne 20, 42) := rfl
theorem gi7_25 : gx_ins 7 25 = some (false, .aload_n 0, 0) := rfl
theorem gi7_26 : gx_ins 7 26 = some (false, .getfield 30, 0) := rfl
theorem gi7_29 : gx_ins 7 29 = some (false, .iload 4, 0) := rfl
theorem gi7_31 : gx_ins 7 31 = some (false, .baload, 0) := rfl
theorem gi7_32 : gx_ins 7 32 = some (false, .ifCond .ne 10, 42) := rfl
theorem gi7_35 : gx_ins 7 35 = some (false, .iload_n 3, 0) := rfl
theorem gi7_36 : gx_ins 7 36 = some (false, .aload_n 1, 0) := rfl
theorem gi7_37 : gx_ins 7 37 = some (false, .iload 4, 0) := rfl
theorem gi7_39 : gx_ins 7 39 = some (false, .iaload, 0) := rfl
theorem gi7_40 : gx_ins 7 40 = some (false, .iadd, 0) := rfl
theorem gi7_41 : gx_ins 7 41 = some (false, .istore_n 3, 0) := rfl
theorem gi7_42 : gx_ins 7 42 = some (false, .iinc 4 1, 0) := rfl
theorem gi7_45 : gx_ins 7 45 = some (false, .goto (-40), 5) := rfl
theorem gi7_48 : gx_ins 7 48 = some (false, .iload_n 3, 0) := rfl
theorem gi7_49 : gx_ins 7 49 = some (false, .ireturn, 0) := rfl
theorem gi8_0 : gx_ins 8 0 = some (false, .aload_n 0, 0) := rfl
theorem gi8_1 : gx_ins 8 1 = some (false, .getfield 9, 0) := rfl
theorem gi8_4 : gx_ins 8 4 = some (false, .iconst 0, 0) := rfl
theorem gi8_5 : gx_ins 8 5 = some (false, .invokestatic 43, 0) := rfl
theorem gi8_8 : gx_ins 8 8 = some (false, .aload_n 0, 0) := rfl
theorem gi8_9 : gx_ins 8 9 = some (false, .getfield 15, 0) := rfl
theorem gi8_12 : gx_ins 8 12 = some (false, .iconst 0, 0) := rfl
theorem gi8_13 : gx_ins 8 13 = some (false, .invokestatic 43, 0) := rfl
theorem gi8_16 : gx_ins 8 16 = some (false, .aload_n 0, 0) := rfl
theorem gi8_17 : gx_ins 8 17 = some (false, .getfield 24, 0) := rfl
theorem gi8_20 : gx_ins 8 20 = some (false, .iconst 0, 0) := rfl
theorem gi8_21 : gx_ins 8 21 = some (false, .invokestatic 43, 0) := rfl
theorem gi8_24 : gx_ins 8 24 = some (false, .aload_n 0, 0) := rfl
theorem gi8_25 : gx_ins 8 25 = some (false, .getfield 34, 0) := rfl
theorem gi8_28 : gx_ins 8 28 = some (false, .iconst 0, 0) := rfl
theorem gi8_29 : gx_ins 8 29 = some (false, .invokestatic 43, 0) := rfl
theorem gi8_32 : gx_ins 8 32 = some (false, .iconst 0, 0) := rfl
theorem gi8_33 : gx_ins 8 33 = some (false, .istore_n 1, 0) := rfl
theorem gi8_34 : gx_ins 8 34 = some (true, .iload_n 1, 0) := rfl
theorem gi8_35 : gx_ins 8 35 = some (false, .bipush 61, 0) := rfl
theorem gi8_37 : gx_ins 8 37 = some (false, .if_icmp .ge 16, 53) := rfl
theorem gi8_40 : gx_ins 8 40 = some (false, .aload_n 0, 0) := rfl
theorem gi8_41 : gx_ins 8 41 = some (false, .getfield 27, 0) := rfl
theorem gi8_44 : gx_ins 8 44 = some (false, .iload_n 1, 0) := rfl
theorem gi8_45 : gx_ins 8 45 = some (false, .iconst 0, 0) := rfl
theorem gi8_46 : gx_ins 8 46 = some (false, .bastore, 0) := rfl
theorem gi8_47 : gx_ins 8 47 = some (false, .iinc 1 1, 0) := rfl
theorem gi8_50 : gx_ins 8 50 = some (false, .goto (-16), 34) := rfl
theorem gi8_53 : gx_ins 8 53 = some (false, .return_, 0) := rfl
theorem gi9_0 : gx_ins 9 0 = some (false, .aload_n 0, 0) := rfl
theorem gi9_1 : gx_ins 9 1 = some (false, .getfield 18, 0) := rfl
theorem gi9_4 : gx_ins 9 4 = some (false, .iload_n 1, 0) := rfl
theorem gi9_5 : gx_ins 9 5 = some (false, .iload_n 2, 0) := rfl
theorem gi9_6 : gx_ins 9 6 = some (false, .iastore, 0) := rfl
theorem gi9_7 : gx_ins 9 7 = some (false, .aload_n 0, 0) := rfl
theorem gi9_8 : gx_ins 9 8 = some (false, .getfield 21, 0) := rfl
theorem gi9_11 : gx_ins 9 11 = some (false, .iload_n 1, 0) := rfl
theorem gi9_12 : gx_ins 9 12 = some (false, .iload_n 3, 0) := rfl
theorem gi9_13 : gx_ins 9 13 = some (false, .iastore, 0) := rfl
theorem gi9_14 : gx_ins 9 14 = some (false, .aload_n 0, 0) := rfl
theorem gi9_15 : gx_ins 9 15 = some (false, .getfield 9, 0) := rfl
theorem gi9_18 : gx_ins 9 18 = some (false, .iload_n 1, 0) := rfl
theorem gi9_19 : gx_ins 9 19 = some (false, .iload 4, 0) := rfl
theorem gi9_21 : gx_ins 9 21 = some (false, .iastore, 0) := rfl
theorem gi9_22 : gx_ins 9 22 = some (false, .aload_n 0, 0) := rfl
theorem gi9_23 : gx_ins 9 23 = some (false, .getfield 15, 0) := rfl
theorem gi9_26 : gx_ins 9 26 = some (false, .iload_n 1, 0) := rfl
theorem gi9_27 : gx_ins 9 27 = some (false, .iload 5, 0) := rfl
theorem gi9_29 : gx_ins 9 29 = some (false, .iastore, 0) := rfl
theorem gi9_30 : gx_ins 9 30 = some (false, .aload_n 0, 0) := rfl
theorem gi9_31 : gx_ins 9 31 = some (false, .iload_n 2, 0) := rfl
theorem gi9_32 : gx_ins 9 32 = some (false, .iconst 2, 0) := rfl
theorem gi9_33 : gx_ins 9 33 = some (false, .iload_n 1, 0) := rfl
theorem gi9_34 : gx_ins 9 34 = some (false, .imul, 0) := rfl
theorem gi9_35 : gx_ins 9 35 = some (false, .invokevirtual 49, 0) := rfl
theorem gi9_38 : gx_ins 9 38 = some (false, .aload_n 0, 0) := rfl
theorem gi9_39 : gx_ins 9 39 = some (false, .iload_n 3, 0) := rfl
theorem gi9_40 : gx_ins 9 40 = some (false, .iconst 2, 0) := rfl
theorem gi9_41 : gx_ins 9 41 = some (false, .iload_n 1, 0) := rfl
theorem gi9_42 : gx_ins 9 42 = some (false, .imul, 0) := rfl
theorem gi9_43 : gx_ins 9 43 = some (false, .iconst 1, 0) := rfl
theorem gi9_44 : gx_ins 9 44 = some (false, .iadd, 0) := rfl
theorem gi9_45 : gx_ins 9 45 = some (false, .invokevirtual 49, 0) := rfl
theorem gi9_48 : gx_ins 9 48 = some (false, .return_, 0) := rfl
theorem gi10_0 : gx_ins 10 0 = some (false, .aload_n 0, 0) := rfl
theorem gi10_1 : gx_ins 10 1 = some (false, .getfield 34, 0) := rfl
theorem gi10_4 : gx_ins 10 4 = some (false, .iload_n 1, 0) := rfl
theorem gi10_5 : gx_ins 10 5 = some (false, .iaload, 0) := rfl
theorem gi10_6 : gx_ins 10 6 = some (false, .istore_n 3, 0) := rfl
theorem gi10_7 : gx_ins 10 7 = some (false, .iload_n 3, 0) := rfl
theorem gi10_8 : gx_ins 10 8 = some (false, .bipush 42, 0) := rfl
theorem gi10_10 : gx_ins 10 10 = some (false, .if_icmp .ge 24, 34) := rfl
theorem gi10_13 : gx_ins 10 13 = some (false, .aload_n 0, 0) := rfl
theorem gi10_14 : gx_ins 10 14 = some (false, .getfield 31, 0) := rfl
theorem gi10_17 : gx_ins 10 17 = some (false, .iload_n 1, 0) := rfl
theorem gi10_18 : gx_ins 10 18 = some (false, .bipush 42, 0) := rfl
theorem gi10_20 : gx_ins 10 20 = some (false, .imul, 0) := rfl
theorem gi10_21 : gx_ins 10 21 = some (false, .iload_n 3, 0) := rfl
theorem gi10_22 : gx_ins 10 22 = some (false, .iadd, 0) := rfl
theorem gi10_23 : gx_ins 10 23 = some (false, .iload_n 2, 0) := rfl
theorem gi10_24 : gx_ins 10 24 = some (false, .iastore, 0) := rfl
theorem gi10_25 : gx_ins 10 25 = some (false, .aload_n 0, 0) := rfl
theorem gi10_26 : gx_ins 10 26 = some (false, .getfield 34, 0) := rfl
theorem gi10_29 : gx_ins 10 29 = some (false, .iload_n 1, 0) := rfl
theorem gi10_30 : gx_ins 10 30 = some (false, .iload_n 3, 0) := rfl
theorem gi10_31 : gx_ins 10 31 = some (false, .iconst 1, 0) := rfl
theorem gi10_32 : gx_ins 10 32 = some (false, .iadd, 0) := rfl
theorem gi10_33 : gx_ins 10 33 = some (false, .iastore, 0) := rfl
theorem gi10_34 : gx_ins 10 34 = some (false, .return_, 0) := rfl
theorem gi11_0 : gx_ins 11 0 = some (false, .aload_n 0, 0) := rfl
theorem gi11_1 : gx_ins 11 1 = some (false, .getfield 24, 0) := rfl
theorem gi11_4 : gx_ins 11 4 = some (false, .iconst 0, 0) := rfl
theorem gi11_5 : gx_ins 11 5 = some (false, .aload_n 1, 0) := rfl
theorem gi11_6 : gx_ins 11 6 = some (false, .iconst 0, 0) := rfl
theorem gi11_7 : gx_ins 11 7 = some (false, .bipush 61, 0) := rfl
theorem gi11_9 : gx_ins 11 9 = some (false, .invokestatic 53, 0) := rfl
theorem gi11_12 : gx_ins 11 12 = some (false, .return_, 0) := rfl
theorem gi12_0 : gx_ins 12 0 = some (false, .aload_n 1, 0) := rfl
theorem gi12_1 : gx_ins 12 1 = some (false, .iconst 0, 0) := rfl
theorem gi12_2 : gx_ins 12 2 = some (false, .aload_n 0, 0) := rfl
theorem gi12_3 : gx_ins 12 3 = some (false, .getfield 24, 0) := rfl
theorem gi12_6 : gx_ins 12 6 = some (false, .iconst 0, 0) := rfl
theorem gi12_7 : gx_ins 12 7 = some (false, .bipush 61, 0) := rfl
theorem gi12_9 : gx_ins 12 9 = some (false, .invokestatic 53, 0) := rfl
theorem gi12_12 : gx_ins 12 12 = some (false, .return_, 0) := rfl
theorem gi13_0 : gx_ins 13 0 = some (false, .aload_n 0, 0) := rfl
theorem gi13_1 : gx_ins 13 1 = some (false, .getfield 27, 0) := rfl
theorem gi13_4 : gx_ins 13 4 = some (false, .iload_n 1, 0) := rfl
theorem gi13_5 : gx_ins 13 5 = some (false, .iconst 1, 0) := rfl
theorem gi13_6 : gx_ins 13 6 = some (false, .bastore, 0) := rfl
theorem gi13_7 : gx_ins 13 7 = some (false, .return_, 0) := rfl
theorem gi14_0 : gx_ins 14 0 = some (false, .iconst 0, 0) := rfl
theorem gi14_1 : gx_ins 14 1 = some (false, .istore_n 1, 0) := rfl
theorem gi14_2 : gx_ins 14 2 = some (true, .iload_n 1, 0) := rfl
theorem gi14_3 : gx_ins 14 3 = some (false, .bipush 40, 0) := rfl
theorem gi14_5 : gx_ins 14 5 = some (false, .if_icmp .ge 39, 44) := rfl
theorem gi14_8 : gx_ins 14 8 = some (false, .aload_n 0, 0) := rfl
theorem gi14_9 : gx_ins 14 9 = some (false, .getfield 9, 0) := rfl
theorem gi14_12 : gx_ins 14 12 = some (false, .iload_n 1, 0) := rfl
theorem gi14_13 : gx_ins 14 13 = some (false, .iaload, 0) := rfl
theorem gi14_14 : gx_ins 14 14 = some (false, .aload_n 0, 0) := rfl
theorem gi14_15 : gx_ins 14 15 = some (false, .getfield 24, 0) := rfl
theorem gi14_18 : gx_ins 14 18 = some (false, .iload_n 1, 0) := rfl
theorem gi14_19 : gx_ins 14 19 = some (false, .iaload, 0) := rfl
theorem gi14_20 : gx_ins 14 20 = some (false, .isub, 0) := rfl
theorem gi14_21 : gx_ins 14 21 = some (false, .istore_n 2, 0) := rfl
theorem gi14_22 : gx_ins 14 22 = some (false, .iload_n 2, 0) := rfl
theorem gi14_23 : gx_ins 14 23 = some (false, .ifCond .le 15, 38) := rfl
theorem gi14_26 : gx_ins 14 26 = some (false, .aload_n 0, 0) := rfl
theorem gi14_27 : gx_ins 14 27 = some (false, .iload_n 1, 0) := rfl
theorem gi14_28 : gx_ins 14 28 = some (false, .iload_n 2, 0) := rfl
theorem gi14_29 : gx_ins 14 29 = some (false, .invokevirtual 59, 0) := rfl
theorem gi14_32 : gx_ins 14 32 = some (false, .iload_n 2, 0) := rfl
theorem gi14_33 : gx_ins 14 33 = some (false, .if_icmp .ge 5, 38) := rfl
theorem gi14_36 : gx_ins 14 36 = some (false, .iconst 0, 0) := rfl
theorem gi14_37 : gx_ins 14 37 = some (false, .ireturn, 0) := rfl
theorem gi14_38 : gx_ins 14 38 = some (false, .iinc 1 1, 0) := rfl
theorem gi14_41 : gx_ins 14 41 = some (false, .goto (-39), 2) := rfl
theorem gi14_44 : gx_ins 14 44 = some (false, .iconst 1, 0) := rfl
theorem gi14_45 : gx_ins 14 45 = some (false, .ireturn, 0) := rfl
theorem gi15_0 : gx_ins 15 0 = some (false, .aload_n 0, 0) := rfl
theorem gi15_1 : gx_ins 15 1 = some (false, .getfield 27, 0) := rfl
theorem gi15_4 : gx_ins 15 4 = some (false, .iload_n 1, 0) := rfl
theorem gi15_5 : gx_ins 15 5 = some (false, .iconst 1, 0) := rfl
theorem gi15_6 : gx_ins 15 6 = some (false, .bastore, 0) := rfl
theorem gi15_7 : gx_ins 15 7 = some (false, .aload_n 0, 0) := rfl
theorem gi15_8 : gx_ins 15 8 = some (false, .aload_n 0, 0) := rfl
theorem gi15_9 : gx_ins 15 9 = some (false, .getfield 21, 0) := rfl
theorem gi15_12 : gx_ins 15 12 = some (false, .iload_n 1, 0) := rfl
theorem gi15_13 : gx_ins 15 13 = some (false, .iaload, 0) := rfl
theorem gi15_14 : gx_ins 15 14 = some (false, .aload_n 0, 0) := rfl
theorem gi15_15 : gx_ins 15 15 = some (false, .getfield 18, 0) := rfl
theorem gi15_18 : gx_ins 15 18 = some (false, .iload_n 1, 0) := rfl
theorem gi15_19 : gx_ins 15 19 = some (false, .iaload, 0) := rfl
theorem gi15_20 : gx_ins 15 20 = some (false, .iload_n 2, 0) := rfl
theorem gi15_21 : gx_ins 15 21 = some (false, .aload_n 0, 0) := rfl
theorem gi15_22 : gx_ins 15 22 = some (false, .getfield 15, 0) := rfl
theorem gi15_25 : gx_ins 15 25 = some (false, .iload_n 1, 0) := rfl
theorem gi15_26 : gx_ins 15 26 = some (false, .iaload, 0) := rfl
theorem gi15_27 : gx_ins 15 27 = some (false, .aload_n 0, 0) := rfl
theorem gi15_28 : gx_ins 15 28 = some (false, .getfield 24, 0) := rfl
theorem gi15_31 : gx_ins 15 31 = some (false, .iload_n 1, 0) := rfl
theorem gi15_32 : gx_ins 15 32 = some (false, .iaload, 0) := rfl
theorem gi15_33 : gx_ins 15 33 = some (false, .isub, 0) := rfl
theorem gi15_34 : gx_ins 15 34 = some (false, .invokestatic 63, 0) := rfl
theorem gi15_37 : gx_ins 15 37 = some (false, .invokevirtual 68, 0) := rfl
theorem gi15_40 : gx_ins 15 40 = some (false, .istore_n 3, 0) := rfl
theorem gi15_41 : gx_ins 15 41 = some (false, .aload_n 0, 0) := rfl
theorem gi15_42 : gx_ins 15 42 = some (false, .getfield 24, 0) := rfl
theorem gi15_45 : gx_ins 15 45 = some (false, .iload_n 1, 0) := rfl
theorem gi15_46 : gx_ins 15 46 = some (false, .dup2, 0) := rfl
theorem gi15_47 : gx_ins 15 47 = some (false, .iaload, 0) := rfl
theorem gi15_48 : gx_ins 15 48 = some (false, .iload_n 3, 0) := rfl
theorem gi15_49 : gx_ins 15 49 = some (false, .iadd, 0) := rfl
theorem gi15_50 : gx_ins 15 50 = some (false, .iastore, 0) := rfl
theorem gi15_51 : gx_ins 15 51 = some (false, .aload_n 0, 0) := rfl
theorem gi15_52 : gx_ins 15 52 = some (false, .getfield 27, 0) := rfl
theorem gi15_55 : gx_ins 15 55 = some (false, .iload_n 1, 0) := rfl
theorem gi15_56 : gx_ins 15 56 = some (false, .iconst 0, 0) := rfl
theorem gi15_57 : gx_ins 15 57 = some (false, .bastore, 0) := rfl
theorem gi15_58 : gx_ins 15 58 = some (false, .iload_n 3, 0) := rfl
theorem gi15_59 : gx_ins 15 59 = some (false, .ireturn, 0) := rfl
theorem gi16_0 : gx_ins 16 0 = some (false, .aload_n 0, 0) := rfl
theorem gi16_1 : gx_ins 16 1 = some (false, .getfield 27, 0) := rfl
theorem gi16_4 : gx_ins 16 4 = some (false, .iload_n 1, 0) := rfl
theorem gi16_5 : gx_ins 16 5 = some (false, .iconst 1, 0) := rfl
theorem gi16_6 : gx_ins 16 6 = some (false, .bastore, 0) := rfl
theorem gi16_7 : gx_ins 16 7 = some (false, .aload_n 0, 0) := rfl
theorem gi16_8 : gx_ins 16 8 = some (false, .getfield 24, 0) := rfl
theorem gi16_11 : gx_ins 16 11 = some (false, .iload_n 1, 0) := rfl
theorem gi16_12 : gx_ins 16 12 = some (false, .dup2, 0) := rfl
theorem gi16_13 : gx_ins 16 13 = some (false, .iaload, 0) := rfl
theorem gi16_14 : gx_ins 16 14 = some (false, .aload_n 0, 0) := rfl
theorem gi16_15 : gx_ins 16 15 = some (false, .aload_n 0, 0) := rfl
theorem gi16_16 : gx_ins 16 16 = some (false, .getfield 18, 0) := rfl
theorem gi16_19 : gx_ins 16 19 = some (false, .iload_n 1, 0) := rfl
theorem gi16_20 : gx_ins 16 20 = some (false, .iaload, 0) := rfl
theorem gi16_21 : gx_ins 16 21 = some (false, .aload_n 0, 0) := rfl
theorem gi16_22 : gx_ins 16 22 = some (false, .getfield 21, 0) := rfl
theorem gi16_25 : gx_ins 16 25 = some (false, .iload_n 1, 0) := rfl
theorem gi16_26 : gx_ins 16 26 = some (false, .iaload, 0) := rfl
theorem gi16_27 : gx_ins 16 27 = some (false, .aload_n 0, 0) := rfl
theorem gi16_28 : gx_ins 16 28 = some (false, .getfield 24, 0) := rfl
theorem gi16_31 : gx_ins 16 31 = some (false, .iload_n 1, 0) := rfl
theorem gi16_32 : gx_ins 16 32 = some (false, .iaload, 0) := rfl
theorem gi16_33 : gx_ins 16 33 = some (false, .aload_n 0, 0) := rfl
theorem gi16_34 : gx_ins 16 34 = some (false, .getfield 9, 0) := rfl
theorem gi16_37 : gx_ins 16 37 = some (false, .iload_n 1, 0) := rfl
theorem gi16_38 : gx_ins 16 38 = some (false, .iaload, 0) := rfl
theorem gi16_39 : gx_ins 16 39 = some (false, .isub, 0) := rfl
theorem gi16_40 : gx_ins 16 40 = some (false, .invokevirtual 68, 0) := rfl
theorem gi16_43 : gx_ins 16 43 = some (false, .isub, 0) := rfl
theorem gi16_44 : gx_ins 16 44 = some (false, .iastore, 0) := rfl
theorem gi16_45 : gx_ins 16 45 = some (false, .aload_n 0, 0) := rfl
theorem gi16_46 : gx_ins 16 46 = some (false, .getfield 27, 0) := rfl
theorem gi16_49 : gx_ins 16 49 = some (false, .iload_n 1, 0) := rfl
theorem gi16_50 : gx_ins 16 50 = some (false, .iconst 0, 0) := rfl
theorem gi16_51 : gx_ins 16 51 = some (false, .bastore, 0) := rfl
theorem gi16_52 : gx_ins 16 52 = some (false, .return_, 0) := rfl
theorem gi17_0 : gx_ins 17 0 = some (false, .iconst 0, 0) := rfl
theorem gi17_1 : gx_ins 17 1 = some (false, .istore 4, 0) := rfl
theorem gi17_3 : gx_ins 17 3 = some (false, .iconst 0, 0) := rfl
theorem gi17_4 : gx_ins 17 4 = some (false, .istore 5, 0) := rfl
theorem gi17_6 : gx_ins 17 6 = some (true, .iload 5, 0) := rfl
theorem gi17_8 : gx_ins 17 8 = some (false, .iload_n 3, 0) := rfl
theorem gi17_9 : gx_ins 17 9 = some (false, .if_icmp .ge 55, 64) := rfl
theorem gi17_12 : gx_ins 17 12 = some (false, .iload 4, 0) := rfl
theorem gi17_14 : gx_ins 17 14 = some (false, .iload_n 3, 0) := rfl
theorem gi17_15 : gx_ins 17 15 = some (false, .if_icmp .ge 49, 64) := rfl
theorem gi17_18 : gx_ins 17 18 = some (false, .aload_n 0, 0) := rfl
theorem gi17_19 : gx_ins 17 19 = some (false, .iload_n 1, 0) := rfl
theorem gi17_20 : gx_ins 17 20 = some (false, .iload_n 2, 0) := rfl
theorem gi17_21 : gx_ins 17 21 = some (false, .invokevirtual 72, 0) := rfl
theorem gi17_24 : gx_ins 17 24 = some (false, .ifCond .ne 6, 30) := rfl
theorem gi17_27 : gx_ins 17 27 = some (false, .goto 37, 64) := rfl
theorem gi17_30 : gx_ins 17 30 = some (false, .iload_n 3, 0) := rfl
theorem gi17_31 : gx_ins 17 31 = some (false, .iload 4, 0) := rfl
theorem gi17_33 : gx_ins 17 33 = some (false, .isub, 0) := rfl
theorem gi17_34 : gx_ins 17 34 = some (false, .aload_n 0, 0) := rfl
theorem gi17_35 : gx_ins 17 35 = some (false, .iload_n 2, 0) := rfl
theorem gi17_36 : gx_ins 17 36 = some (false, .invokevirtual 76, 0) := rfl
theorem gi17_39 : gx_ins 17 39 = some (false, .invokestatic 63, 0) := rfl
theorem gi17_42 : gx_ins 17 42 = some (false, .istore 6, 0) := rfl
theorem gi17_44 : gx_ins 17 44 = some (false, .aload_n 0, 0) := rfl
theorem gi17_45 : gx_ins 17 45 = some (false, .iload_n 2, 0) := rfl
theorem gi17_46 : gx_ins 17 46 = some (false, .iload 6, 0) := rfl
theorem gi17_48 : gx_ins 17 48 = some (false, .invokevirtual 80, 0) := rfl
theorem gi17_51 : gx_ins 17 51 = some (false, .iload 4, 0) := rfl
theorem gi17_53 : gx_ins 17 53 = some (false, .iload 6, 0) := rfl
theorem gi17_55 : gx_ins 17 55 = some (false, .iadd, 0) := rfl
theorem gi17_56 : gx_ins 17 56 = some (false, .istore 4, 0) := rfl
theorem gi17_58 : gx_ins 17 58 = some (false, .iinc 5 1, 0) := rfl
theorem gi17_61 : gx_ins 17 61 = some (false, .goto (-55), 6) := rfl
theorem gi17_64 : gx_ins 17 64 = some (false, .iload 4, 0) := rfl
theorem gi17_66 : gx_ins 17 66 = some (false, .ireturn, 0) := rfl
theorem gi18_0 : gx_ins 18 0 = some (false, .aload_n 0, 0) := rfl
theorem gi18_1 : gx_ins 18 1 = some (false, .getfield 37, 0) := rfl
theorem gi18_4 : gx_ins 18 4 = some (false, .iconst (-1), 0) := rfl
theorem gi18_5 : gx_ins 18 5 = some (false, .invokestatic 43, 0) := rfl
theorem gi18_8 : gx_ins 18 8 = some (false, .aload_n 0, 0) := rfl
theorem gi18_9 : gx_ins 18 9 = some (false, .getfield 40, 0) := rfl
theorem gi18_12 : gx_ins 18 12 = some (false, .iconst 0, 0) := rfl
theorem gi18_13 : gx_ins 18 13 = some (false, .iload_n 1, 0) := rfl
theorem gi18_14 : gx_ins 18 14 = some (false, .iastore, 0) := rfl
theorem gi18_15 : gx_ins 18 15 = some (false, .iconst 1, 0) := rfl
theorem gi18_16 : gx_ins 18 16 = some (false, .istore_n 3, 0) := rfl
theorem gi18_17 : gx_ins 18 17 = some (false, .iconst 0, 0) := rfl
theorem gi18_18 : gx_ins 18 18 = some (false, .istore 4, 0) := rfl
theorem gi18_20 : gx_ins 18 20 = some (true, .iload 4, 0) := rfl
theorem gi18_22 : gx_ins 18 22 = some (false, .iload_n 3, 0) := rfl
theorem gi18_23 : gx_ins 18 23 = some (false, .if_icmp .ge 123, 146) := rfl
theorem gi18_26 : gx_ins 18 26 = some (false, .iload 4, 0) := rfl
theorem gi18_28 : gx_ins 18 28 = some (false, .bipush 22, 0) := rfl
theorem gi18_30 : gx_ins 18 30 = some (false, .if_icmp .ge 116, 146) := rfl
theorem gi18_33 : gx_ins 18 33 = some (false, .aload_n 0, 0) := rfl
theorem gi18_34 : gx_ins 18 34 = some (false, .getfield 40, 0) := rfl
theorem gi18_37 : gx_ins 18 37 = some (false, .iload 4, 0) := rfl
theorem gi18_39 : gx_ins 18 39 = some (false, .iaload, 0) := rfl
theorem gi18_40 : gx_ins 18 40 = some (false, .istore 5, 0) := rfl
theorem gi18_42 : gx_ins 18 42 = some (false, .iconst 0, 0) := rfl
theorem gi18_43 : gx_ins 18 43 = some (false, .istore 6, 0) := rfl
theorem gi18_45 : gx_ins 18 45 = some (true, .iload 6, 0) := rfl
theorem gi18_47 : gx_ins 18 47 = some (false, .aload_n 0, 0) := rfl
theorem gi18_48 : gx_ins 18 48 = some (false, .getfield 34, 0) := rfl
theorem gi18_51 : gx_ins 18 51 = some (false, .iload 5, 0) := rfl
theorem gi18_53 : gx_ins 18 53 = some (false, .iaload, 0) := rfl
theorem gi18_54 : gx_ins 18 54 = some (false, .if_icmp .ge 86, 140) := rfl
theorem gi18_57 : gx_ins 18 57 = some (false, .aload_n 0, 0) := rfl
theorem gi18_58 : gx_ins 18 58 = some (false, .getfield 31, 0) := rfl
theorem gi18_61 : gx_ins 18 61 = some (false, .iload 5, 0) := rfl
theorem gi18_63 : gx_ins 18 63 = some (false, .bipush 42, 0) := rfl
theorem gi18_65 : gx_ins 18 65 = some (false, .imul, 0) := rfl
theorem gi18_66 : gx_ins 18 66 = some (false, .iload 6, 0) := rfl
theorem gi18_68 : gx_ins 18 68 = some (false, .iadd, 0) := rfl
theorem gi18_69 : gx_ins 18 69 = some (false, .iaload, 0) := rfl
theorem gi18_70 : gx_ins 18 70 = some (false, .istore 7, 0) := rfl
theorem gi18_72 : gx_ins 18 72 = some (false, .aload_n 0, 0) := rfl
theorem gi18_73 : gx_ins 18 73 = some (false, .iload 7, 0) := rfl
theorem gi18_75 : gx_ins 18 75 = some (false, .invokevirtual 83, 0) := rfl
theorem gi18_78 : gx_ins 18 78 = some (false, .istore 8, 0) := rfl
theorem gi18_80 : gx_ins 18 80 = some (false, .iload 8, 0) := rfl
theorem gi18_82 : gx_ins 18 82 = some (false, .iload_n 1, 0) := rfl
theorem gi18_83 : gx_ins 18 83 = some (false, .if_icmp .eq 51, 134) := rfl
theorem gi18_86 : gx_ins 18 86 = some (false, .aload_n 0, 0) := rfl
theorem gi18_87 : gx_ins 18 87 = some (false, .getfield 37, 0) := rfl
theorem gi18_90 : gx_ins 18 90 = some (false, .iload 8, 0) := rfl
theorem gi18_92 : gx_ins 18 92 = some (false, .iaload, 0) := rfl
theorem gi18_93 : gx_ins 18 93 = some (false, .iconst (-1), 0) := rfl
theorem gi18_94 : gx_ins 18 94 = some (false, .if_icmp .ne 40, 134) := rfl
theorem gi18_97 : gx_ins 18 97 = some (false, .aload_n 0, 0) := rfl
theorem gi18_98 : gx_ins 18 98 = some (false, .iload 7, 0) := rfl
theorem gi18_100 : gx_ins 18 100 = some (false, .invokevirtual 86, 0) := rfl
theorem gi18_103 : gx_ins 18 103 = some (false, .ifCond .le 31, 134) := rfl
theorem gi18_106 : gx_ins 18 106 = some (false, .aload_n 0, 0) := rfl
theorem gi18_107 : gx_ins 18 107 = some (false, .getfield 37, 0) := rfl
theorem gi18_110 : gx_ins 18 110 = some (false, .iload 8, 0) := rfl
theorem gi18_112 : gx_ins 18 112 = some (false, .iload 7, 0) := rfl
theorem gi18_114 : gx_ins 18 114 = some (false, .iastore, 0) := rfl
theorem gi18_115 : gx_ins 18 115 = some (false, .iload 8, 0) := rfl
theorem gi18_117 : gx_ins 18 117 = some (false, .iload_n 2, 0) := rfl
theorem gi18_118 : gx_ins 18 118 = some (false, .if_icmp .ne 5, 123) := rfl
theorem gi18_121 : gx_ins 18 121 = some (false, .iconst 1, 0) := rfl
theorem gi18_122 : gx_ins 18 122 = some (false, .ireturn, 0) := rfl
theorem gi18_123 : gx_ins 18 123 = some (false, .aload_n 0, 0) := rfl
theorem gi18_124 : gx_ins 18 124 = some (false, .getfield 40, 0) := rfl
theorem gi18_127 : gx_ins 18 127 = some (false, .iload_n 3, 0) := rfl
theorem gi18_128 : gx_ins 18 128 = some (false, .iload 8, 0) := rfl
theorem gi18_130 : gx_ins 18 130 = some (false, .iastore, 0) := rfl
theorem gi18_131 : gx_ins 18 131 = some (false, .iinc 3 1, 0) := rfl
theorem gi18_134 : gx_ins 18 134 = some (false, .iinc 6 1, 0) := rfl
theorem gi18_137 : gx_ins 18 137 = some (false, .goto (-92), 45) := rfl
theorem gi18_140 : gx_ins 18 140 = some (false, .iinc 4 1, 0) := rfl
theorem gi18_143 : gx_ins 18 143 = some (false, .goto (-123), 20) := rfl
theorem gi18_146 : gx_ins 18 146 = some (false, .iconst 0, 0) := rfl
theorem gi18_147 : gx_ins 18 147 = some (false, .ireturn, 0) := rfl
theorem gi19_0 : gx_ins 19 0 = some (false, .ldc 89, 0) := rfl
theorem gi19_2 : gx_ins 19 2 = some (false, .istore_n 2, 0) := rfl
theorem gi19_3 : gx_ins 19 3 = some (false, .aload_n 0, 0) := rfl
theorem gi19_4 : gx_ins 19 4 = some (false, .getfield 37, 0) := rfl
theorem gi19_7 : gx_ins 19 7 = some (false, .iload_n 1, 0) := rfl
theorem gi19_8 : gx_ins 19 8 = some (false, .iaload, 0) := rfl
theorem gi19_9 : gx_ins 19 9 = some (false, .istore_n 3, 0) := rfl
theorem gi19_10 : gx_ins 19 10 = some (false, .iconst 0, 0) := rfl
theorem gi19_11 : gx_ins 19 11 = some (false, .istore 4, 0) := rfl
theorem gi19_13 : gx_ins 19 13 = some (true, .iload 4, 0) := rfl
theorem gi19_15 : gx_ins 19 15 = some (false, .bipush 22, 0) := rfl
theorem gi19_17 : gx_ins 19 17 = some (false, .if_icmp .ge 37, 54) := rfl
theorem gi19_20 : gx_ins 19 20 = some (false, .iload_n 3, 0) := rfl
theorem gi19_21 : gx_ins 19 21 = some (false, .iconst (-1), 0) := rfl
theorem gi19_22 : gx_ins 19 22 = some (false, .if_icmp .eq 32, 54) := rfl
theorem gi19_25 : gx_ins 19 25 = some (false, .iload_n 2, 0) := rfl
theorem gi19_26 : gx_ins 19 26 = some (false, .aload_n 0, 0) := rfl
theorem gi19_27 : gx_ins 19 27 = some (false, .iload_n 3, 0) := rfl
theorem gi19_28 : gx_ins 19 28 = some (false, .invokevirtual 86, 0) := rfl
theorem gi19_31 : gx_ins 19 31 = some (false, .invokestatic 63, 0) := rfl
theorem gi19_34 : gx_ins 19 34 = some (false, .istore_n 2, 0) := rfl
theorem gi19_35 : gx_ins 19 35 = some (false, .aload_n 0, 0) := rfl
theorem gi19_36 : gx_ins 19 36 = some (false, .getfield 37, 0) := rfl
theorem gi19_39 : gx_ins 19 39 = some (false, .aload_n 0, 0) := rfl
theorem gi19_40 : gx_ins 19 40 = some (false, .iload_n 3, 0) := rfl
theorem gi19_41 : gx_ins 19 41 = some (false, .iconst 1, 0) := rfl
theorem gi19_42 : gx_ins 19 42 = some (false, .ixor, 0) := rfl
theorem gi19_43 : gx_ins 19 43 = some (false, .invokevirtual 83, 0) := rfl
theorem gi19_46 : gx_ins 19 46 = some (false, .iaload, 0) := rfl
theorem gi19_47 : gx_ins 19 47 = some (false, .istore_n 3, 0) := rfl
theorem gi19_48 : gx_ins 19 48 = some (false, .iinc 4 1, 0) := rfl
theorem gi19_51 : gx_ins 19 51 = some (false, .goto (-38), 13) := rfl
theorem gi19_54 : gx_ins 19 54 = some (false, .iload_n 2, 0) := rfl
theorem gi19_55 : gx_ins 19 55 = some (false, .ireturn, 0) := rfl
theorem gi20_0 : gx_ins 20 0 = some (false, .aload_n 0, 0) := rfl
theorem gi20_1 : gx_ins 20 1 = some (false, .getfield 37, 0) := rfl
theorem gi20_4 : gx_ins 20 4 = some (false, .iload_n 1, 0) := rfl
theorem gi20_5 : gx_ins 20 5 = some (false, .iaload, 0) := rfl
theorem gi20_6 : gx_ins 20 6 = some (false, .istore_n 3, 0) := rfl
theorem gi20_7 : gx_ins 20 7 = some (false, .iconst 0, 0) := rfl
theorem gi20_8 : gx_ins 20 8 = some (false, .istore 4, 0) := rfl
theorem gi20_10 : gx_ins 20 10 = some (true, .iload 4, 0) := rfl
theorem gi20_12 : gx_ins 20 12 = some (false, .bipush 22, 0) := rfl
theorem gi20_14 : gx_ins 20 14 = some (false, .if_icmp .ge 50, 64) := rfl
theorem gi20_17 : gx_ins 20 17 = some (false, .iload_n 3, 0) := rfl
theorem gi20_18 : gx_ins 20 18 = some (false, .iconst (-1), 0) := rfl
theorem gi20_19 : gx_ins 20 19 = some (false, .if_icmp .eq 45, 64) := rfl
theorem gi20_22 : gx_ins 20 22 = some (false, .aload_n 0, 0) := rfl
theorem gi20_23 : gx_ins 20 23 = some (false, .getfield 24, 0) := rfl
theorem gi20_26 : gx_ins 20 26 = some (false, .iload_n 3, 0) := rfl
theorem gi20_27 : gx_ins 20 27 = some (false, .iconst 1, 0) := rfl
theorem gi20_28 : gx_ins 20 28 = some (false, .ishr, 0) := rfl
theorem gi20_29 : gx_ins 20 29 = some (false, .dup2, 0) := rfl
theorem gi20_30 : gx_ins 20 30 = some (false, .iaload, 0) := rfl
theorem gi20_31 : gx_ins 20 31 = some (false, .iload_n 3, 0) := rfl
theorem gi20_32 : gx_ins 20 32 = some (false, .iconst 1, 0) := rfl
theorem gi20_33 : gx_ins 20 33 = some (false, .iand, 0) := rfl
theorem gi20_34 : gx_ins 20 34 = some (false, .ifCond .ne 7, 41) := rfl
theorem gi20_37 : gx_ins 20 37 = some (false, .iload_n 2, 0) := rfl
theorem gi20_38 : gx_ins 20 38 = some (false, .goto 5, 43) := rfl
theorem gi20_41 : gx_ins 20 41 = some (false, .iload_n 2, 0) := rfl
theorem gi20_42 : gx_ins 20 42 = some (false, .ineg, 0) := rfl
theorem gi20_43 : gx_ins 20 43 = some (false, .iadd, 0) := rfl
theorem gi20_44 : gx_ins 20 44 = some (false, .iastore, 0) := rfl
theorem gi20_45 : gx_ins 20 45 = some (false, .aload_n 0, 0) := rfl
theorem gi20_46 : gx_ins 20 46 = some (false, .getfield 37, 0) := rfl
theorem gi20_49 : gx_ins 20 49 = some (false, .aload_n 0, 0) := rfl
theorem gi20_50 : gx_ins 20 50 = some (false, .iload_n 3, 0) := rfl
theorem gi20_51 : gx_ins 20 51 = some (false, .iconst 1, 0) := rfl
theorem gi20_52 : gx_ins 20 52 = some (false, .ixor, 0) := rfl
theorem gi20_53 : gx_ins 20 53 = some (false, .invokevirtual 83, 0) := rfl
theorem gi20_56 : gx_ins 20 56 = some (false, .iaload, 0) := rfl
theorem gi20_57 : gx_ins 20 57 = some (false, .istore_n 3, 0) := rfl
theorem gi20_58 : gx_ins 20 58 = some (false, .iinc 4 1, 0) := rfl
theorem gi20_61 : gx_ins 20 61 = some (false, .goto (-51), 10) := rfl
theorem gi20_64 : gx_ins 20 64 = some (false, .return_, 0) := rfl
theorem gi21_0 : gx_ins 21 0 = some (false, .iload_n 1, 0) := rfl
theorem gi21_1 : gx_ins 21 1 = some (false, .iconst 1, 0) := rfl
theorem gi21_2 : gx_ins 21 2 = some (false, .iand, 0) := rfl
theorem gi21_3 : gx_ins 21 3 = some (false, .ifCond .ne 14, 17) := rfl
theorem gi21_6 : gx_ins 21 6 = some (false, .aload_n 0, 0) := rfl
theorem gi21_7 : gx_ins 21 7 = some (false, .getfield 21, 0) := rfl
theorem gi21_10 : gx_ins 21 10 = some (false, .iload_n 1, 0) := rfl
theorem gi21_11 : gx_ins 21 11 = some (false, .iconst 1, 0) := rfl
theorem gi21_12 : gx_ins 21 12 = some (false, .ishr, 0) := rfl
theorem gi21_13 : gx_ins 21 13 = some (false, .iaload, 0) := rfl
theorem gi21_14 : gx_ins 21 14 = some (false, .goto 11, 25) := rfl
theorem gi21_17 : gx_ins 21 17 = some (false, .aload_n 0, 0) := rfl
theorem gi21_18 : gx_ins 21 18 = some (false, .getfield 18, 0) := rfl
theorem gi21_21 : gx_ins 21 21 = some (false, .iload_n 1, 0) := rfl
theorem gi21_22 : gx_ins 21 22 = some (false, .iconst 1, 0) := rfl
theorem gi21_23 : gx_ins 21 23 = some (false, .ishr, 0) := rfl
theorem gi21_24 : gx_ins 21 24 = some (false, .iaload, 0) := rfl
theorem gi21_25 : gx_ins 21 25 = some (false, .ireturn, 0) := rfl
theorem gi22_0 : gx_ins 22 0 = some (false, .iload_n 1, 0) := rfl
theorem gi22_1 : gx_ins 22 1 = some (false, .iconst 1, 0) := rfl
theorem gi22_2 : gx_ins 22 2 = some (false, .ishr, 0) := rfl
theorem gi22_3 : gx_ins 22 3 = some (false, .istore_n 2, 0) := rfl
theorem gi22_4 : gx_ins 22 4 = some (false, .aload_n 0, 0) := rfl
theorem gi22_5 : gx_ins 22 5 = some (false, .getfield 27, 0) := rfl
theorem gi22_8 : gx_ins 22 8 = some (false, .iload_n 2, 0) := rfl
theorem gi22_9 : gx_ins 22 9 = some (false, .baload, 0) := rfl
theorem gi22_10 : gx_ins 22 10 = some (false, .ifCond .eq 5, 15) := rfl
theorem gi22_13 : gx_ins 22 13 = some (false, .iconst 0, 0) := rfl
theorem gi22_14 : gx_ins 22 14 = some (false, .ireturn, 0) := rfl
theorem gi22_15 : gx_ins 22 15 = some (false, .iload_n 1, 0) := rfl
theorem gi22_16 : gx_ins 22 16 = some (false, .iconst 1, 0) := rfl
theorem gi22_17 : gx_ins 22 17 = some (false, .iand, 0) := rfl
theorem gi22_18 : gx_ins 22 18 = some (false, .ifCond .ne 19, 37) := rfl
theorem gi22_21 : gx_ins 22 21 = some (false, .aload_n 0, 0) := rfl
theorem gi22_22 : gx_ins 22 22 = some (false, .getfield 15, 0) := rfl
theorem gi22_25 : gx_ins 22 25 = some (false, .iload_n 2, 0) := rfl
theorem gi22_26 : gx_ins 22 26 = some (false, .iaload, 0) := rfl
theorem gi22_27 : gx_ins 22 27 = some (false, .aload_n 0, 0) := rfl
theorem gi22_28 : gx_ins 22 28 = some (false, .getfield 24, 0) := rfl
theorem gi22_31 : gx_ins 22 31 = some (false, .iload_n 2, 0) := rfl
theorem gi22_32 : gx_ins 22 32 = some (false, .iaload, 0) := rfl
theorem gi22_33 : gx_ins 22 33 = some (false, .isub, 0) := rfl
theorem gi22_34 : gx_ins 22 34 = some (false, .goto 16, 50) := rfl
theorem gi22_37 : gx_ins 22 37 = some (false, .aload_n 0, 0) := rfl
theorem gi22_38 : gx_ins 22 38 = some (false, .getfield 24, 0) := rfl
theorem gi22_41 : gx_ins 22 41 = some (false, .iload_n 2, 0) := rfl
theorem gi22_42 : gx_ins 22 42 = some (false, .iaload, 0) := rfl
theorem gi22_43 : gx_ins 22 43 = some (false, .aload_n 0, 0) := rfl
theorem gi22_44 : gx_ins 22 44 = some (false, .getfield 9, 0) := rfl
theorem gi22_47 : gx_ins 22 47 = some (false, .iload_n 2, 0) := rfl
theorem gi22_48 : gx_ins 22 48 = some (false, .iaload, 0) := rfl
theorem gi22_49 : gx_ins 22 49 = some (false, .isub, 0) := rfl
theorem gi22_50 : gx_ins 22 50 = some (false, .ireturn, 0) := rfl
theorem gi23_0 : gx_ins 23 0 = some (false, .iload_n 2, 0) := rfl
theorem gi23_1 : gx_ins 23 1 = some (false, .aload_n 0, 0) := rfl
theorem gi23_2 : gx_ins 23 2 = some (false, .getfield 15, 0) := rfl
theorem gi23_5 : gx_ins 23 5 = some (false, .iload_n 1, 0) := rfl
theorem gi23_6 : gx_ins 23 6 = some (false, .iaload, 0) := rfl
theorem gi23_7 : gx_ins 23 7 = some (false, .if_icmp .ge 17, 24) := rfl
theorem gi23_10 : gx_ins 23 10 = some (false, .aload_n 0, 0) := rfl
theorem gi23_11 : gx_ins 23 11 = some (false, .getfield 18, 0) := rfl
theorem gi23_14 : gx_ins 23 14 = some (false, .iload_n 1, 0) := rfl
theorem gi23_15 : gx_ins 23 15 = some (false, .bipush 10, 0) := rfl
theorem gi23_17 : gx_ins 23 17 = some (false, .imul, 0) := rfl
theorem gi23_18 : gx_ins 23 18 = some (false, .iload_n 2, 0) := rfl
theorem gi23_19 : gx_ins 23 19 = some (false, .iadd, 0) := rfl
theorem gi23_20 : gx_ins 23 20 = some (false, .iaload, 0) := rfl
theorem gi23_21 : gx_ins 23 21 = some (false, .goto 4, 25) := rfl
theorem gi23_24 : gx_ins 23 24 = some (false, .iconst (-1), 0) := rfl
theorem gi23_25 : gx_ins 23 25 = some (false, .ireturn, 0) := rfl
theorem gi24_0 : gx_ins 24 0 = some (false, .aload_n 0, 0) := rfl
theorem gi24_1 : gx_ins 24 1 = some (false, .iconst 0, 0) := rfl
theorem gi24_2 : gx_ins 24 2 = some (false, .putfield 33, 0) := rfl
theorem gi24_5 : gx_ins 24 5 = some (false, .aload_n 2, 0) := rfl
theorem gi24_6 : gx_ins 24 6 = some (false, .iconst 0, 0) := rfl
theorem gi24_7 : gx_ins 24 7 = some (false, .aload_n 0, 0) := rfl
theorem gi24_8 : gx_ins 24 8 = some (false, .getfield 21, 0) := rfl
theorem gi24_11 : gx_ins 24 11 = some (false, .iconst 0, 0) := rfl
theorem gi24_12 : gx_ins 24 12 = some (false, .bipush 40, 0) := rfl
theorem gi24_14 : gx_ins 24 14 = some (false, .invokestatic 37, 0) := rfl
theorem gi24_17 : gx_ins 24 17 = some (false, .iconst 0, 0) := rfl
theorem gi24_18 : gx_ins 24 18 = some (false, .istore_n 3, 0) := rfl
theorem gi24_19 : gx_ins 24 19 = some (true, .iload_n 3, 0) := rfl
theorem gi24_20 : gx_ins 24 20 = some (false, .aload_n 1, 0) := rfl
theorem gi24_21 : gx_ins 24 21 = some (false, .getfield 43, 0) := rfl
theorem gi24_24 : gx_ins 24 24 = some (false, .if_icmp .ge 31, 55) := rfl
theorem gi24_27 : gx_ins 24 27 = some (false, .aload_n 0, 0) := rfl
theorem gi24_28 : gx_ins 24 28 = some (false, .getfield 24, 0) := rfl
theorem gi24_31 : gx_ins 24 31 = some (false, .iload_n 3, 0) := rfl
theorem gi24_32 : gx_ins 24 32 = some (false, .aload_n 1, 0) := rfl
theorem gi24_33 : gx_ins 24 33 = some (false, .aload_n 2, 0) := rfl
theorem gi24_34 : gx_ins 24 34 = some (false, .iload_n 3, 0) := rfl
theorem gi24_35 : gx_ins 24 35 = some (false, .invokevirtual 48, 0) := rfl
theorem gi24_38 : gx_ins 24 38 = some (false, .aload_n 1, 0) := rfl
theorem gi24_39 : gx_ins 24 39 = some (false, .aload_n 2, 0) := rfl
theorem gi24_40 : gx_ins 24 40 = some (false, .iload_n 3, 0) := rfl
theorem gi24_41 : gx_ins 24 41 = some (false, .invokevirtual 52, 0) := rfl
theorem gi24_44 : gx_ins 24 44 = some (false, .isub, 0) := rfl
theorem gi24_45 : gx_ins 24 45 = some (false, .invokestatic 55, 0) := rfl
theorem gi24_48 : gx_ins 24 48 = some (false, .iastore, 0) := rfl
theorem gi24_49 : gx_ins 24 49 = some (false, .iinc 3 1, 0) := rfl
theorem gi24_52 : gx_ins 24 52 = some (false, .goto (-33), 19) := rfl
theorem gi24_55 : gx_ins 24 55 = some (false, .iconst 0, 0) := rfl
theorem gi24_56 : gx_ins 24 56 = some (false, .istore_n 3, 0) := rfl
theorem gi24_57 : gx_ins 24 57 = some (true, .iload_n 3, 0) := rfl
theorem gi24_58 : gx_ins 24 58 = some (false, .bipush 50, 0) := rfl
theorem gi24_60 : gx_ins 24 60 = some (false, .if_icmp .ge 30, 90) := rfl
theorem gi24_63 : gx_ins 24 63 = some (false, .aload_n 0, 0) := rfl
theorem gi24_64 : gx_ins 24 64 = some (false, .aload_n 1, 0) := rfl
theorem gi24_65 : gx_ins 24 65 = some (false, .invokevirtual 61, 0) := rfl
theorem gi24_68 : gx_ins 24 68 = some (false, .istore 4, 0) := rfl
theorem gi24_70 : gx_ins 24 70 = some (false, .iload 4, 0) := rfl
theorem gi24_72 : gx_ins 24 72 = some (false, .iconst (-1), 0) := rfl
theorem gi24_73 : gx_ins 24 73 = some (false, .if_icmp .ne 4, 77) := rfl
theorem gi24_76 : gx_ins 24 76 = some (false, .return_, 0) := rfl
theorem gi24_77 : gx_ins 24 77 = some (false, .aload_n 0, 0) := rfl
theorem gi24_78 : gx_ins 24 78 = some (false, .aload_n 1, 0) := rfl
theorem gi24_79 : gx_ins 24 79 = some (false, .iload 4, 0) := rfl
theorem gi24_81 : gx_ins 24 81 = some (false, .invokevirtual 65, 0) := rfl
theorem gi24_84 : gx_ins 24 84 = some (false, .iinc 3 1, 0) := rfl
theorem gi24_87 : gx_ins 24 87 = some (false, .goto (-30), 57) := rfl
theorem gi24_90 : gx_ins 24 90 = some (false, .return_, 0) := rfl
theorem gi25_0 : gx_ins 25 0 = some (false, .iconst 0, 0) := rfl
theorem gi25_1 : gx_ins 25 1 = some (false, .istore_n 2, 0) := rfl
theorem gi25_2 : gx_ins 25 2 = some (true, .iload_n 2, 0) := rfl
theorem gi25_3 : gx_ins 25 3 = some (false, .aload_n 1, 0) := rfl
theorem gi25_4 : gx_ins 25 4 = some (false, .getfield 43, 0) := rfl
theorem gi25_7 : gx_ins 25 7 = some (false, .if_icmp .ge 30, 37) := rfl
theorem gi25_10 : gx_ins 25 10 = some (false, .aload_n 1, 0) := rfl
theorem gi25_11 : gx_ins 25 11 = some (false, .getfield 69, 0) := rfl
theorem gi25_14 : gx_ins 25 14 = some (false, .iload_n 2, 0) := rfl
theorem gi25_15 : gx_ins 25 15 = some (false, .iaload, 0) := rfl
theorem gi25_16 : gx_ins 25 16 = some (false, .iconst 1, 0) := rfl
theorem gi25_17 : gx_ins 25 17 = some (false, .if_icmp .ne 14, 31) := rfl
theorem gi25_20 : gx_ins 25 20 = some (false, .aload_n 0, 0) := rfl
theorem gi25_21 : gx_ins 25 21 = some (false, .getfield 24, 0) := rfl
theorem gi25_24 : gx_ins 25 24 = some (false, .iload_n 2, 0) := rfl
theorem gi25_25 : gx_ins 25 25 = some (false, .iaload, 0) := rfl
theorem gi25_26 : gx_ins 25 26 = some (false, .ifCond .le 5, 31) := rfl
theorem gi25_29 : gx_ins 25 29 = some (false, .iload_n 2, 0) := rfl
theorem gi25_30 : gx_ins 25 30 = some (false, .ireturn, 0) := rfl
theorem gi25_31 : gx_ins 25 31 = some (false, .iinc 2 1, 0) := rfl
theorem gi25_34 : gx_ins 25 34 = some (false, .goto (-32), 2) := rfl
theorem gi25_37 : gx_ins 25 37 = some (false, .iconst (-1), 0) := rfl
theorem gi25_38 : gx_ins 25 38 = some (false, .ireturn, 0) := rfl
theorem gi26_0 : gx_ins 26 0 = some (false, .aload_n 0, 0) := rfl
theorem gi26_1 : gx_ins 26 1 = some (false, .getfield 27, 0) := rfl
theorem gi26_4 : gx_ins 26 4 = some (false, .iconst (-1), 0) := rfl
theorem gi26_5 : gx_ins 26 5 = some (false, .invokestatic 72, 0) := rfl
theorem gi26_8 : gx_ins 26 8 = some (false, .iload_n 2, 0) := rfl
theorem gi26_9 : gx_ins 26 9 = some (false, .istore_n 3, 0) := rfl
theorem gi26_10 : gx_ins 26 10 = some (false, .iconst 0, 0) := rfl
theorem gi26_11 : gx_ins 26 11 = some (false, .istore 4, 0) := rfl
theorem gi26_13 : gx_ins 26 13 = some (true, .iload 4, 0) := rfl
theorem gi26_15 : gx_ins 26 15 = some (false, .bipush 10, 0) := rfl
theorem gi26_17 : gx_ins 26 17 = some (false, .if_icmp .gt 119, 136) := rfl
theorem gi26_20 : gx_ins 26 20 = some (false, .aload_n 1, 0) := rfl
theorem gi26_21 : gx_ins 26 21 = some (false, .getfield 69, 0) := rfl
theorem gi26_24 : gx_ins 26 24 = some (false, .iload_n 3, 0) := rfl
theorem gi26_25 : gx_ins 26 25 = some (false, .iaload, 0) := rfl
theorem gi26_26 : gx_ins 26 26 = some (false, .iconst 2, 0) := rfl
theorem gi26_27 : gx_ins 26 27 = some (false, .if_icmp .ne 21, 48) := rfl
theorem gi26_30 : gx_ins 26 30 = some (false, .aload_n 0, 0) := rfl
theorem gi26_31 : gx_ins 26 31 = some (false, .getfield 24, 0) := rfl
theorem gi26_34 : gx_ins 26 34 = some (false, .iload_n 3, 0) := rfl
theorem gi26_35 : gx_ins 26 35 = some (false, .iaload, 0) := rfl
theorem gi26_36 : gx_ins 26 36 = some (false, .ifCond .le 12, 48) := rfl
theorem gi26_39 : gx_ins 26 39 = some (false, .aload_n 0, 0) := rfl
theorem gi26_40 : gx_ins 26 40 = some (false, .iload_n 2, 0) := rfl
theorem gi26_41 : gx_ins 26 41 = some (false, .iload_n 3, 0) := rfl
theorem gi26_42 : gx_ins 26 42 = some (false, .iload 4, 0) := rfl
theorem gi26_44 : gx_ins 26 44 = some (false, .invokevirtual 78, 0) := rfl
theorem gi26_47 : gx_ins 26 47 = some (false, .return_, 0) := rfl
theorem gi26_48 : gx_ins 26 48 = some (false, .aload_n 0, 0) := rfl
theorem gi26_49 : gx_ins 26 49 = some (false, .getfield 27, 0) := rfl
theorem gi26_52 : gx_ins 26 52 = some (false, .iload_n 3, 0) := rfl
theorem gi26_53 : gx_ins 26 53 = some (false, .iaload, 0) := rfl
theorem gi26_54 : gx_ins 26 54 = some (false, .iconst (-1), 0) := rfl
theorem gi26_55 : gx_ins 26 55 = some (false, .if_icmp .eq 28, 83) := rfl
theorem gi26_58 : gx_ins 26 58 = some (false, .aload_n 0, 0) := rfl
theorem gi26_59 : gx_ins 26 59 = some (false, .aload_n 0, 0) := rfl
theorem gi26_60 : gx_ins 26 60 = some (false, .getfield 27, 0) := rfl
theorem gi26_63 : gx_ins 26 63 = some (false, .iload_n 3, 0) := rfl
theorem gi26_64 : gx_ins 26 64 = some (false, .iaload, 0) := rfl
theorem gi26_65 : gx_ins 26 65 = some (false, .iload 4, 0) := rfl
theorem gi26_67 : gx_ins 26 67 = some (false, .aload_n 0, 0) := rfl
theorem gi26_68 : gx_ins 26 68 = some (false, .aload_n 0, 0) := rfl
theorem gi26_69 : gx_ins 26 69 = some (false, .getfield 27, 0) := rfl
theorem gi26_72 : gx_ins 26 72 = some (false, .iload_n 3, 0) := rfl
theorem gi26_73 : gx_ins 26 73 = some (false, .iaload, 0) := rfl
theorem gi26_74 : gx_ins 26 74 = some (false, .iload 4, 0) := rfl
theorem gi26_76 : gx_ins 26 76 = some (false, .invokevirtual 82, 0) := rfl
theorem gi26_79 : gx_ins 26 79 = some (false, .invokevirtual 86, 0) := rfl
theorem gi26_82 : gx_ins 26 82 = some (false, .return_, 0) := rfl
theorem gi26_83 : gx_ins 26 83 = some (false, .aload_n 0, 0) := rfl
theorem gi26_84 : gx_ins 26 84 = some (false, .aload_n 1, 0) := rfl
theorem gi26_85 : gx_ins 26 85 = some (false, .iload_n 3, 0) := rfl
theorem gi26_86 : gx_ins 26 86 = some (false, .invokevirtual 89, 0) := rfl
theorem gi26_89 : gx_ins 26 89 = some (false, .istore 5, 0) := rfl
theorem gi26_91 : gx_ins 26 91 = some (false, .iload 5, 0) := rfl
theorem gi26_93 : gx_ins 26 93 = some (false, .iconst (-1), 0) := rfl
theorem gi26_94 : gx_ins 26 94 = some (false, .if_icmp .eq 10, 104) := rfl
theorem gi26_97 : gx_ins 26 97 = some (false, .iload 4, 0) := rfl
theorem gi26_99 : gx_ins 26 99 = some (false, .bipush 10, 0) := rfl
theorem gi26_101 : gx_ins 26 101 = some (false, .if_icmp .ne 4, 105) := rfl
theorem gi26_104 : gx_ins 26 104 = some (false, .return_, 0) := rfl
theorem gi26_105 : gx_ins 26 105 = some (false, .aload_n 0, 0) := rfl
theorem gi26_106 : gx_ins 26 106 = some (false, .getfield 27, 0) := rfl
theorem gi26_109 : gx_ins 26 109 = some (false, .iload_n 3, 0) := rfl
theorem gi26_110 : gx_ins 26 110 = some (false, .iload 4, 0) := rfl
theorem gi26_112 : gx_ins 26 112 = some (false, .iastore, 0) := rfl
theorem gi26_113 : gx_ins 26 113 = some (false, .aload_n 0, 0) := rfl
theorem gi26_114 : gx_ins 26 114 = some (false, .getfield 30, 0) := rfl
theorem gi26_117 : gx_ins 26 117 = some (false, .iload 4, 0) := rfl
theorem gi26_119 : gx_ins 26 119 = some (false, .iload 5, 0) := rfl
theorem gi26_121 : gx_ins 26 121 = some (false, .iastore, 0) := rfl
theorem gi26_122 : gx_ins 26 122 = some (false, .aload_n 1, 0) := rfl
theorem gi26_123 : gx_ins 26 123 = some (false, .getfield 93, 0) := rfl
theorem gi26_126 : gx_ins 26 126 = some (false, .iload 5, 0) := rfl
theorem gi26_128 : gx_ins 26 128 = some (false, .iaload, 0) := rfl
theorem gi26_129 : gx_ins 26 129 = some (false, .istore_n 3, 0) := rfl
theorem gi26_130 : gx_ins 26 130 = some (false, .iinc 4 1, 0) := rfl
theorem gi26_133 : gx_ins 26 133 = some (false, .goto (-120), 13) := rfl
theorem gi26_136 : gx_ins 26 136 = some (false, .return_, 0) := rfl
theorem gi27_0 : gx_ins 27 0 = some (false, .iconst 0, 0) := rfl
theorem gi27_1 : gx_ins 27 1 = some (false, .istore_n 3, 0) := rfl
theorem gi27_2 : gx_ins 27 2 = some (true, .iload_n 3, 0) := rfl
theorem gi27_3 : gx_ins 27 3 = some (false, .aload_n 1, 0) := rfl
theorem gi27_4 : gx_ins 27 4 = some (false, .getfield 96, 0) := rfl
theorem gi27_7 : gx_ins 27 7 = some (false, .if_icmp .ge 30, 37) := rfl
theorem gi27_10 : gx_ins 27 10 = some (false, .aload_n 1, 0) := rfl
theorem gi27_11 : gx_ins 27 11 = some (false, .getfield 99, 0) := rfl
theorem gi27_14 : gx_ins 27 14 = some (false, .iload_n 3, 0) := rfl
theorem gi27_15 : gx_ins 27 15 = some (false, .iaload, 0) := rfl
theorem gi27_16 : gx_ins 27 16 = some (false, .iload_n 2, 0) := rfl
theorem gi27_17 : gx_ins 27 17 = some (false, .if_icmp .ne 14, 31) := rfl
theorem gi27_20 : gx_ins 27 20 = some (false, .aload_n 0, 0) := rfl
theorem gi27_21 : gx_ins 27 21 = some (false, .getfield 21, 0) := rfl
theorem gi27_24 : gx_ins 27 24 = some (false, .iload_n 3, 0) := rfl
theorem gi27_25 : gx_ins 27 25 = some (false, .iaload, 0) := rfl
theorem gi27_26 : gx_ins 27 26 = some (false, .ifCond .le 5, 31) := rfl
theorem gi27_29 : gx_ins 27 29 = some (false, .iload_n 3, 0) := rfl
theorem gi27_30 : gx_ins 27 30 = some (false, .ireturn, 0) := rfl
theorem gi27_31 : gx_ins 27 31 = some (false, .iinc 3 1, 0) := rfl
theorem gi27_34 : gx_ins 27 34 = some (false, .goto (-32), 2) := rfl
theorem gi27_37 : gx_ins 27 37 = some (false, .iconst (-1), 0) := rfl
theorem gi27_38 : gx_ins 27 38 = some (false, .ireturn, 0) := rfl
theorem gi28_0 : gx_ins 28 0 = some (false, .aload_n 0, 0) := rfl
theorem gi28_1 : gx_ins 28 1 = some (false, .iconst 0, 0) := rfl
theorem gi28_2 : gx_ins 28 2 = some (false, .iload_n 3, 0) := rfl
theorem gi28_3 : gx_ins 28 3 = some (false, .invokevirtual 82, 0) := rfl
theorem gi28_6 : gx_ins 28 6 = some (false, .aload_n 0, 0) := rfl
theorem gi28_7 : gx_ins 28 7 = some (false, .getfield 24, 0) := rfl
theorem gi28_10 : gx_ins 28 10 = some (false, .iload_n 1, 0) := rfl
theorem gi28_11 : gx_ins 28 11 = some (false, .iaload, 0) := rfl
theorem gi28_12 : gx_ins 28 12 = some (false, .aload_n 0, 0) := rfl
theorem gi28_13 : gx_ins 28 13 = some (false, .getfield 24, 0) := rfl
theorem gi28_16 : gx_ins 28 16 = some (false, .iload_n 2, 0) := rfl
theorem gi28_17 : gx_ins 28 17 = some (false, .iaload, 0) := rfl
theorem gi28_18 : gx_ins 28 18 = some (false, .invokestatic 102, 0) := rfl
theorem gi28_21 : gx_ins 28 21 = some (false, .invokestatic 102, 0) := rfl
theorem gi28_24 : gx_ins 28 24 = some (false, .istore 4, 0) := rfl
theorem gi28_26 : gx_ins 28 26 = some (false, .aload_n 0, 0) := rfl
theorem gi28_27 : gx_ins 28 27 = some (false, .iconst 0, 0) := rfl
theorem gi28_28 : gx_ins 28 28 = some (false, .iload_n 3, 0) := rfl
theorem gi28_29 : gx_ins 28 29 = some (false, .iload 4, 0) := rfl
theorem gi28_31 : gx_ins 28 31 = some (false, .invokevirtual 86, 0) := rfl
theorem gi28_34 : gx_ins 28 34 = some (false, .aload_n 0, 0) := rfl
theorem gi28_35 : gx_ins 28 35 = some (false, .getfield 24, 0) := rfl
theorem gi28_38 : gx_ins 28 38 = some (false, .iload_n 1, 0) := rfl
theorem gi28_39 : gx_ins 28 39 = some (false, .dup2, 0) := rfl
theorem gi28_40 : gx_ins 28 40 = some (false, .iaload, 0) := rfl
theorem gi28_41 : gx_ins 28 41 = some (false, .iload 4, 0) := rfl
theorem gi28_43 : gx_ins 28 43 = some (false, .isub, 0) := rfl
theorem gi28_44 : gx_ins 28 44 = some (false, .iastore, 0) := rfl
theorem gi28_45 : gx_ins 28 45 = some (false, .aload_n 0, 0) := rfl
theorem gi28_46 : gx_ins 28 46 = some (false, .getfield 24, 0) := rfl
theorem gi28_49 : gx_ins 28 49 = some (false, .iload_n 2, 0) := rfl
theorem gi28_50 : gx_ins 28 50 = some (false, .dup2, 0) := rfl
theorem gi28_51 : gx_ins 28 51 = some (false, .iaload, 0) := rfl
theorem gi28_52 : gx_ins 28 52 = some (false, .iload 4, 0) := rfl
theorem gi28_54 : gx_ins 28 54 = some (false, .isub, 0) := rfl
theorem gi28_55 : gx_ins 28 55 = some (false, .iastore, 0) := rfl
theorem gi28_56 : gx_ins 28 56 = some (false, .aload_n 0, 0) := rfl
theorem gi28_57 : gx_ins 28 57 = some (false, .getfield 9, 0) := rfl
theorem gi28_60 : gx_ins 28 60 = some (false, .aload_n 0, 0) := rfl
theorem gi28_61 : gx_ins 28 61 = some (false, .getfield 33, 0) := rfl
theorem gi28_64 : gx_ins 28 64 = some (false, .iload 4, 0) := rfl
theorem gi28_66 : gx_ins 28 66 = some (false, .iastore, 0) := rfl
theorem gi28_67 : gx_ins 28 67 = some (false, .aload_n 0, 0) := rfl
theorem gi28_68 : gx_ins 28 68 = some (false, .getfield 15, 0) := rfl
theorem gi28_71 : gx_ins 28 71 = some (false, .aload_n 0, 0) := rfl
theorem gi28_72 : gx_ins 28 72 = some (false, .getfield 33, 0) := rfl
theorem gi28_75 : gx_ins 28 75 = some (false, .iload_n 3, 0) := rfl
theorem gi28_76 : gx_ins 28 76 = some (false, .iastore, 0) := rfl
theorem gi28_77 : gx_ins 28 77 = some (false, .aload_n 0, 0) := rfl
theorem gi28_78 : gx_ins 28 78 = some (false, .getfield 30, 0) := rfl
theorem gi28_81 : gx_ins 28 81 = some (false, .iconst 0, 0) := rfl
theorem gi28_82 : gx_ins 28 82 = some (false, .aload_n 0, 0) := rfl
theorem gi28_83 : gx_ins 28 83 = some (false, .getfield 18, 0) := rfl
theorem gi28_86 : gx_ins 28 86 = some (false, .aload_n 0, 0) := rfl
theorem gi28_87 : gx_ins 28 87 = some (false, .getfield 33, 0) := rfl
theorem gi28_90 : gx_ins 28 90 = some (false, .bipush 10, 0) := rfl
theorem gi28_92 : gx_ins 28 92 = some (false, .imul, 0) := rfl
theorem gi28_93 : gx_ins 28 93 = some (false, .iload_n 3, 0) := rfl
theorem gi28_94 : gx_ins 28 94 = some (false, .invokestatic 37, 0) := rfl
theorem gi28_97 : gx_ins 28 97 = some (false, .aload_n 0, 0) := rfl
theorem gi28_98 : gx_ins 28 98 = some (false, .dup, 0) := rfl
theorem gi28_99 : gx_ins 28 99 = some (false, .getfield 33, 0) := rfl
theorem gi28_102 : gx_ins 28 102 = some (false, .iconst 1, 0) := rfl
theorem gi28_103 : gx_ins 28 103 = some (false, .iadd, 0) := rfl
theorem gi28_104 : gx_ins 28 104 = some (false, .putfield 33, 0) := rfl
theorem gi28_107 : gx_ins 28 107 = some (false, .return_, 0) := rfl
theorem gi29_0 : gx_ins 29 0 = some (false, .ldc 105, 0) := rfl
theorem gi29_2 : gx_ins 29 2 = some (false, .istore_n 3, 0) := rfl
theorem gi29_3 : gx_ins 29 3 = some (false, .iload_n 1, 0) := rfl
theorem gi29_4 : gx_ins 29 4 = some (false, .istore 4, 0) := rfl
theorem gi29_6 : gx_ins 29 6 = some (true, .iload 4, 0) := rfl
theorem gi29_8 : gx_ins 29 8 = some (false, .iload_n 2, 0) := rfl
theorem gi29_9 : gx_ins 29 9 = some (false, .if_icmp .ge 26, 35) := rfl
theorem gi29_12 : gx_ins 29 12 = some (false, .iload_n 3, 0) := rfl
theorem gi29_13 : gx_ins 29 13 = some (false, .aload_n 0, 0) := rfl
theorem gi29_14 : gx_ins 29 14 = some (false, .getfield 21, 0) := rfl
theorem gi29_17 : gx_ins 29 17 = some (false, .aload_n 0, 0) := rfl
theorem gi29_18 : gx_ins 29 18 = some (false, .getfield 30, 0) := rfl
theorem gi29_21 : gx_ins 29 21 = some (false, .iload 4, 0) := rfl
theorem gi29_23 : gx_ins 29 23 = some (false, .iaload, 0) := rfl
theorem gi29_24 : gx_ins 29 24 = some (false, .iaload, 0) := rfl
theorem gi29_25 : gx_ins 29 25 = some (false, .invokestatic 102, 0) := rfl
theorem gi29_28 : gx_ins 29 28 = some (false, .istore_n 3, 0) := rfl
theorem gi29_29 : gx_ins 29 29 = some (false, .iinc 4 1, 0) := rfl
theorem gi29_32 : gx_ins 29 32 = some (false, .goto (-26), 6) := rfl
theorem gi29_35 : gx_ins 29 35 = some (false, .iload_n 3, 0) := rfl
theorem gi29_36 : gx_ins 29 36 = some (false, .ireturn, 0) := rfl
theorem gi30_0 : gx_ins 30 0 = some (false, .iload_n 1, 0) := rfl
theorem gi30_1 : gx_ins 30 1 = some (false, .istore 4, 0) := rfl
theorem gi30_3 : gx_ins 30 3 = some (true, .iload 4, 0) := rfl
theorem gi30_5 : gx_ins 30 5 = some (false, .iload_n 2, 0) := rfl
theorem gi30_6 : gx_ins 30 6 = some (false, .if_icmp .ge 25, 31) := rfl
theorem gi30_9 : gx_ins 30 9 = some (false, .aload_n 0, 0) := rfl
theorem gi30_10 : gx_ins 30 10 = some (false, .getfield 21, 0) := rfl
theorem gi30_13 : gx_ins 30 13 = some (false, .aload_n 0, 0) := rfl
theorem gi30_14 : gx_ins 30 14 = some (false, .getfield 30, 0) := rfl
theorem gi30_17 : gx_ins 30 17 = some (false, .iload 4, 0) := rfl
theorem gi30_19 : gx_ins 30 19 = some (false, .iaload, 0) := rfl
theorem gi30_20 : gx_ins 30 20 = some (false, .dup2, 0) := rfl
theorem gi30_21 : gx_ins 30 21 = some (false, .iaload, 0) := rfl
theorem gi30_22 : gx_ins 30 22 = some (false, .iload_n 3, 0) := rfl
theorem gi30_23 : gx_ins 30 23 = some (false, .isub, 0) := rfl
theorem gi30_24 : gx_ins 30 24 = some (false, .iastore, 0) := rfl
theorem gi30_25 : gx_ins 30 25 = some (false, .iinc 4 1, 0) := rfl
theorem gi30_28 : gx_ins 30 28 = some (false, .goto (-25), 3) := rfl
theorem gi30_31 : gx_ins 30 31 = some (false, .return_, 0) := rfl
theorem gi31_0 : gx_ins 31 0 = some (false, .aload_n 0, 0) := rfl
theorem gi31_1 : gx_ins 31 1 = some (false, .getfield 12, 0) := rfl
theorem gi31_4 : gx_ins 31 4 = some (false, .getfield 46, 0) := rfl
theorem gi31_7 : gx_ins 31 7 = some (false, .bipush 10, 0) := rfl
theorem gi31_9 : gx_ins 31 9 = some (false, .if_icmp .lt 6, 15) := rfl
theorem gi31_12 : gx_ins 31 12 = some (false, .bipush (-4), 0) := rfl
theorem gi31_14 : gx_ins 31 14 = some (false, .ireturn, 0) := rfl
theorem gi31_15 : gx_ins 31 15 = some (false, .aload_n 0, 0) := rfl
theorem gi31_16 : gx_ins 31 16 = some (false, .invokevirtual 50, 0) := rfl
theorem gi31_19 : gx_ins 31 19 = some (false, .aload_n 0, 0) := rfl
theorem gi31_20 : gx_ins 31 20 = some (false, .getfield 12, 0) := rfl
theorem gi31_23 : gx_ins 31 23 = some (false, .invokevirtual 53, 0) := rfl
theorem gi31_26 : gx_ins 31 26 = some (false, .ireturn, 0) := rfl
theorem gi32_0 : gx_ins 32 0 = some (false, .aload_n 0, 0) := rfl
theorem gi32_1 : gx_ins 32 1 = some (false, .getfield 12, 0) := rfl
theorem gi32_4 : gx_ins 32 4 = some (false, .iload_n 1, 0) := rfl
theorem gi32_5 : gx_ins 32 5 = some (false, .invokevirtual 57, 0) := rfl
theorem gi32_8 : gx_ins 32 8 = some (false, .ifCond .ne 5, 13) := rfl
theorem gi32_11 : gx_ins 32 11 = some (false, .iconst (-1), 0) := rfl
theorem gi32_12 : gx_ins 32 12 = some (false, .ireturn, 0) := rfl
theorem gi32_13 : gx_ins 32 13 = some (false, .iload_n 2, 0) := rfl
theorem gi32_14 : gx_ins 32 14 = some (false, .ifCond .lt 8, 22) := rfl
theorem gi32_17 : gx_ins 32 17 = some (false, .iload_n 2, 0) := rfl
theorem gi32_18 : gx_ins 32 18 = some (false, .iconst 2, 0) := rfl
theorem gi32_19 : gx_ins 32 19 = some (false, .if_icmp .le 6, 25) := rfl
theorem gi32_22 : gx_ins 32 22 = some (false, .bipush (-2), 0) := rfl
theorem gi32_24 : gx_ins 32 24 = some (false, .ireturn, 0) := rfl
theorem gi32_25 : gx_ins 32 25 = some (false, .aload_n 0, 0) := rfl
theorem gi32_26 : gx_ins 32 26 = some (false, .getfield 12, 0) := rfl
theorem gi32_29 : gx_ins 32 29 = some (false, .getfield 61, 0) := rfl
theorem gi32_32 : gx_ins 32 32 = some (false, .iload_n 1, 0) := rfl
theorem gi32_33 : gx_ins 32 33 = some (false, .iaload, 0) := rfl
theorem gi32_34 : gx_ins 32 34 = some (false, .istore_n 3, 0) := rfl
theorem gi32_35 : gx_ins 32 35 = some (false, .aload_n 0, 0) := rfl
theorem gi32_36 : gx_ins 32 36 = some (false, .getfield 12, 0) := rfl
theorem gi32_39 : gx_ins 32 39 = some (false, .getfield 61, 0) := rfl
theorem gi32_42 : gx_ins 32 42 = some (false, .iload_n 1, 0) := rfl
theorem gi32_43 : gx_ins 32 43 = some (false, .iload_n 2, 0) := rfl
theorem gi32_44 : gx_ins 32 44 = some (false, .iastore, 0) := rfl
theorem gi32_45 : gx_ins 32 45 = some (false, .aload_n 0, 0) := rfl
theorem gi32_46 : gx_ins 32 46 = some (false, .invokevirtual 50, 0) := rfl
theorem gi32_49 : gx_ins 32 49 = some (false, .iload_n 3, 0) := rfl
theorem gi32_50 : gx_ins 32 50 = some (false, .ireturn, 0) := rfl
theorem gi33_0 : gx_ins 33 0 = some (false, .aload_n 0, 0) := rfl
theorem gi33_1 : gx_ins 33 1 = some (false, .getfield 12, 0) := rfl
theorem gi33_4 : gx_ins 33 4 = some (false, .iload_n 1, 0) := rfl
theorem gi33_5 : gx_ins 33 5 = some (false, .invokevirtual 57, 0) := rfl
theorem gi33_8 : gx_ins 33 8 = some (false, .ifCond .ne 5, 13) := rfl
theorem gi33_11 : gx_ins 33 11 = some (false, .iconst (-1), 0) := rfl
theorem gi33_12 : gx_ins 33 12 = some (false, .ireturn, 0) := rfl
theorem gi33_13 : gx_ins 33 13 = some (false, .iload_n 2, 0) := rfl
theorem gi33_14 : gx_ins 33 14 = some (false, .iconst (-1), 0) := rfl
theorem gi33_15 : gx_ins 33 15 = some (false, .if_icmp .lt 9, 24) := rfl
theorem gi33_18 : gx_ins 33 18 = some (false, .iload_n 2, 0) := rfl
theorem gi33_19 : gx_ins 33 19 = some (false, .ldc 64, 0) := rfl
theorem gi33_21 : gx_ins 33 21 = some (false, .if_icmp .le 6, 27) := rfl
theorem gi33_24 : gx_ins 33 24 = some (false, .bipush (-2), 0) := rfl
theorem gi33_26 : gx_ins 33 26 = some (false, .ireturn, 0) := rfl
theorem gi33_27 : gx_ins 33 27 = some (false, .aload_n 0, 0) := rfl
theorem gi33_28 : gx_ins 33 28 = some (false, .getfield 12, 0) := rfl
theorem gi33_31 : gx_ins 33 31 = some (false, .getfield 65, 0) := rfl
theorem gi33_34 : gx_ins 33 34 = some (false, .iload_n 1, 0) := rfl
theorem gi33_35 : gx_ins 33 35 = some (false, .iload_n 2, 0) := rfl
theorem gi33_36 : gx_ins 33 36 = some (false, .iastore, 0) := rfl
theorem gi33_37 : gx_ins 33 37 = some (false, .aload_n 0, 0) := rfl
theorem gi33_38 : gx_ins 33 38 = some (false, .invokevirtual 50, 0) := rfl
theorem gi33_41 : gx_ins 33 41 = some (false, .iconst 1, 0) := rfl
theorem gi33_42 : gx_ins 33 42 = some (false, .ireturn, 0) := rfl
theorem gi34_0 : gx_ins 34 0 = some (false, .aload_n 0, 0) := rfl
theorem gi34_1 : gx_ins 34 1 = some (false, .getfield 12, 0) := rfl
theorem gi34_4 : gx_ins 34 4 = some (false, .iload_n 1, 0) := rfl
theorem gi34_5 : gx_ins 34 5 = some (false, .invokevirtual 57, 0) := rfl
theorem gi34_8 : gx_ins 34 8 = some (false, .ifCond .eq 19, 27) := rfl
theorem gi34_11 : gx_ins 34 11 = some (false, .aload_n 0, 0) := rfl
theorem gi34_12 : gx_ins 34 12 = some (false, .getfield 12, 0) := rfl
theorem gi34_15 : gx_ins 34 15 = some (false, .iload_n 2, 0) := rfl
theorem gi34_16 : gx_ins 34 16 = some (false, .invokevirtual 57, 0) := rfl
theorem gi34_19 : gx_ins 34 19 = some (false, .ifCond .eq 8, 27) := rfl
theorem gi34_22 : gx_ins 34 22 = some (false, .iload_n 1, 0) := rfl
theorem gi34_23 : gx_ins 34 23 = some (false, .iload_n 2, 0) := rfl
theorem gi34_24 : gx_ins 34 24 = some (false, .if_icmp .ne 5, 29) := rfl
theorem gi34_27 : gx_ins 34 27 = some (false, .iconst (-1), 0) := rfl
theorem gi34_28 : gx_ins 34 28 = some (false, .ireturn, 0) := rfl
theorem gi34_29 : gx_ins 34 29 = some (false, .iload_n 3, 0) := rfl
theorem gi34_30 : gx_ins 34 30 = some (false, .iload 4, 0) := rfl
theorem gi34_32 : gx_ins 34 32 = some (false, .invokestatic 68, 0) := rfl
theorem gi34_35 : gx_ins 34 35 = some (false, .ifCond .ne 6, 41) := rfl
theorem gi34_38 : gx_ins 34 38 = some (false, .bipush (-2), 0) := rfl
theorem gi34_40 : gx_ins 34 40 = some (false, .ireturn, 0) := rfl
theorem gi34_41 : gx_ins 34 41 = some (false, .aload_n 0, 0) := rfl
theorem gi34_42 : gx_ins 34 42 = some (false, .getfield 12, 0) := rfl
theorem gi34_45 : gx_ins 34 45 = some (false, .getfield 72, 0) := rfl
theorem gi34_48 : gx_ins 34 48 = some (false, .bipush 40, 0) := rfl
theorem gi34_50 : gx_ins 34 50 = some (false, .if_icmp .lt 6, 56) := rfl
theorem gi34_53 : gx_ins 34 53 = some (false, .bipush (-4), 0) := rfl
theorem gi34_55 : gx_ins 34 55 = some (false, .ireturn, 0) := rfl
theorem gi34_56 : gx_ins 34 56 = some (false, .aload_n 0, 0) := rfl
theorem gi34_57 : gx_ins 34 57 = some (false, .invokevirtual 50, 0) := rfl
theorem gi34_60 : gx_ins 34 60 = some (false, .aload_n 0, 0) := rfl
theorem gi34_61 : gx_ins 34 61 = some (false, .getfield 12, 0) := rfl
theorem gi34_64 : gx_ins 34 64 = some (false, .iload_n 1, 0) := rfl
theorem gi34_65 : gx_ins 34 65 = some (false, .iload_n 2, 0) := rfl
theorem gi34_66 : gx_ins 34 66 = some (false, .iload_n 3, 0) := rfl
theorem gi34_67 : gx_ins 34 67 = some (false, .iload 4, 0) := rfl
theorem gi34_69 : gx_ins 34 69 = some (false, .invokevirtual 75, 0) := rfl
theorem gi34_72 : gx_ins 34 72 = some (false, .ireturn, 0) := rfl
theorem gi35_0 : gx_ins 35 0 = some (false, .aload_n 0, 0) := rfl
theorem gi35_1 : gx_ins 35 1 = some (false, .getfield 12, 0) := rfl
theorem gi35_4 : gx_ins 35 4 = some (false, .iload_n 1, 0) := rfl
theorem gi35_5 : gx_ins 35 5 = some (false, .invokevirtual 79, 0) := rfl
theorem gi35_8 : gx_ins 35 8 = some (false, .ifCond .ne 5, 13) := rfl
theorem gi35_11 : gx_ins 35 11 = some (false, .iconst (-1), 0) := rfl
theorem gi35_12 : gx_ins 35 12 = some (false, .ireturn, 0) := rfl
theorem gi35_13 : gx_ins 35 13 = some (false, .iload_n 2, 0) := rfl
theorem gi35_14 : gx_ins 35 14 = some (false, .iload_n 3, 0) := rfl
theorem gi35_15 : gx_ins 35 15 = some (false, .invokestatic 68, 0) := rfl
theorem gi35_18 : gx_ins 35 18 = some (false, .ifCond .ne 6, 24) := rfl
theorem gi35_21 : gx_ins 35 21 = some (false, .bipush (-2), 0) := rfl
theorem gi35_23 : gx_ins 35 23 = some (false, .ireturn, 0) := rfl
theorem gi35_24 : gx_ins 35 24 = some (false, .aload_n 0, 0) := rfl
theorem gi35_25 : gx_ins 35 25 = some (false, .getfield 12, 0) := rfl
theorem gi35_28 : gx_ins 35 28 = some (false, .getfield 82, 0) := rfl
theorem gi35_31 : gx_ins 35 31 = some (false, .iload_n 1, 0) := rfl
theorem gi35_32 : gx_ins 35 32 = some (false, .iload_n 2, 0) := rfl
theorem gi35_33 : gx_ins 35 33 = some (false, .iastore, 0) := rfl
theorem gi35_34 : gx_ins 35 34 = some (false, .aload_n 0, 0) := rfl
theorem gi35_35 : gx_ins 35 35 = some (false, .getfield 12, 0) := rfl
theorem gi35_38 : gx_ins 35 38 = some (false, .getfield 85, 0) := rfl
theorem gi35_41 : gx_ins 35 41 = some (false, .iload_n 1, 0) := rfl
theorem gi35_42 : gx_ins 35 42 = some (false, .iload_n 3, 0) := rfl
theorem gi35_43 : gx_ins 35 43 = some (false, .iastore, 0) := rfl
theorem gi35_44 : gx_ins 35 44 = some (false, .aload_n 0, 0) := rfl
theorem gi35_45 : gx_ins 35 45 = some (false, .invokevirtual 50, 0) := rfl
theorem gi35_48 : gx_ins 35 48 = some (false, .iconst 1, 0) := rfl
theorem gi35_49 : gx_ins 35 49 = some (false, .ireturn, 0) := rfl
theorem gi36_0 : gx_ins 36 0 = some (false, .aload_n 0, 0) := rfl
theorem gi36_1 : gx_ins 36 1 = some (false, .getfield 12, 0) := rfl
theorem gi36_4 : gx_ins 36 4 = some (false, .iload_n 1, 0) := rfl
theorem gi36_5 : gx_ins 36 5 = some (false, .invokevirtual 79, 0) := rfl
theorem gi36_8 : gx_ins 36 8 = some (false, .ifCond .ne 5, 13) := rfl
theorem gi36_11 : gx_ins 36 11 = some (false, .iconst (-1), 0) := rfl
theorem gi36_12 : gx_ins 36 12 = some (false, .ireturn, 0) := rfl
theorem gi36_13 : gx_ins 36 13 = some (false, .aload_n 0, 0) := rfl
theorem gi36_14 : gx_ins 36 14 = some (false, .invokevirtual 50, 0) := rfl
theorem gi36_17 : gx_ins 36 17 = some (false, .aload_n 0, 0) := rfl
theorem gi36_18 : gx_ins 36 18 = some (false, .getfield 12, 0) := rfl
theorem gi36_21 : gx_ins 36 21 = some (false, .iload_n 1, 0) := rfl
theorem gi36_22 : gx_ins 36 22 = some (false, .invokevirtual 88, 0) := rfl
theorem gi36_25 : gx_ins 36 25 = some (false, .ireturn, 0) := rfl
theorem gi37_0 : gx_ins 37 0 = some (false, .aload_n 0, 0) := rfl
theorem gi37_1 : gx_ins 37 1 = some (false, .invokevirtual 50, 0) := rfl
theorem gi37_4 : gx_ins 37 4 = some (false, .aload_n 0, 0) := rfl
theorem gi37_5 : gx_ins 37 5 = some (false, .getfield 12, 0) := rfl
theorem gi37_8 : gx_ins 37 8 = some (false, .invokevirtual 92, 0) := rfl
theorem gi37_11 : gx_ins 37 11 = some (false, .ireturn, 0) := rfl
theorem gi38_0 : gx_ins 38 0 = some (false, .aload_n 0, 0) := rfl
theorem gi38_1 : gx_ins 38 1 = some (false, .invokevirtual 95, 0) := rfl
theorem gi38_4 : gx_ins 38 4 = some (false, .ifCond .eq 7, 11) := rfl
theorem gi38_7 : gx_ins 38 7 = some (false, .iconst 1, 0) := rfl
theorem gi38_8 : gx_ins 38 8 = some (false, .goto 4, 12) := rfl
theorem gi38_11 : gx_ins 38 11 = some (false, .iconst 0, 0) := rfl
theorem gi38_12 : gx_ins 38 12 = some (false, .ireturn, 0) := rfl
theorem gi39_0 : gx_ins 39 0 = some (false, .iload_n 1, 0) := rfl
theorem gi39_1 : gx_ins 39 1 = some (false, .invokestatic 99, 0) := rfl
theorem gi39_4 : gx_ins 39 4 = some (false, .ifCond .ne 5, 9) := rfl
theorem gi39_7 : gx_ins 39 7 = some (false, .iconst (-1), 0) := rfl
theorem gi39_8 : gx_ins 39 8 = some (false, .ireturn, 0) := rfl
theorem gi39_9 : gx_ins 39 9 = some (false, .aload_n 0, 0) := rfl
theorem gi39_10 : gx_ins 39 10 = some (false, .invokevirtual 95, 0) := rfl
theorem gi39_13 : gx_ins 39 13 = some (false, .ifCond .ne 6, 19) := rfl
theorem gi39_16 : gx_ins 39 16 = some (false, .bipush (-3), 0) := rfl
theorem gi39_18 : gx_ins 39 18 = some (false, .ireturn, 0) := rfl
theorem gi39_19 : gx_ins 39 19 = some (false, .aload_n 0, 0) := rfl
theorem gi39_20 : gx_ins 39 20 = some (false, .iload_n 1, 0) := rfl
theorem gi39_21 : gx_ins 39 21 = some (false, .invokevirtual 102, 0) := rfl
theorem gi39_24 : gx_ins 39 24 = some (false, .bipush 60, 0) := rfl
theorem gi39_26 : gx_ins 39 26 = some (false, .iaload, 0) := rfl
theorem gi39_27 : gx_ins 39 27 = some (false, .ireturn, 0) := rfl
theorem gi40_0 : gx_ins 40 0 = some (false, .iload_n 1, 0) := rfl
theorem gi40_1 : gx_ins 40 1 = some (false, .invokestatic 99, 0) := rfl
theorem gi40_4 : gx_ins 40 4 = some (false, .ifCond .eq 14, 18) := rfl
theorem gi40_7 : gx_ins 40 7 = some (false, .aload_n 0, 0) := rfl
theorem gi40_8 : gx_ins 40 8 = some (false, .getfield 12, 0) := rfl
theorem gi40_11 : gx_ins 40 11 = some (false, .iload_n 2, 0) := rfl
theorem gi40_12 : gx_ins 40 12 = some (false, .invokevirtual 79, 0) := rfl
theorem gi40_15 : gx_ins 40 15 = some (false, .ifCond .ne 5, 20) := rfl
theorem gi40_18 : gx_ins 40 18 = some (false, .iconst (-1), 0) := rfl
theorem gi40_19 : gx_ins 40 19 = some (false, .ireturn, 0) := rfl
theorem gi40_20 : gx_ins 40 20 = some (false, .aload_n 0, 0) := rfl
theorem gi40_21 : gx_ins 40 21 = some (false, .invokevirtual 95, 0) := rfl
theorem gi40_24 : gx_ins 40 24 = some (false, .ifCond .ne 6, 30) := rfl
theorem gi40_27 : gx_ins 40 27 = some (false, .bipush (-3), 0) := rfl
theorem gi40_29 : gx_ins 40 29 = some (false, .ireturn, 0) := rfl
theorem gi40_30 : gx_ins 40 30 = some (false, .aload_n 0, 0) := rfl
theorem gi40_31 : gx_ins 40 31 = some (false, .iload_n 1, 0) := rfl
theorem gi40_32 : gx_ins 40 32 = some (false, .invokevirtual 102, 0) := rfl
theorem gi40_35 : gx_ins 40 35 = some (false, .iload_n 2, 0) := rfl
theorem gi40_36 : gx_ins 40 36 = some (false, .iaload, 0) := rfl
theorem gi40_37 : gx_ins 40 37 = some (false, .ireturn, 0) := rfl
theorem gi41_0 : gx_ins 41 0 = some (false, .iload_n 1, 0) := rfl
theorem gi41_1 : gx_ins 41 1 = some (false, .invokestatic 99, 0) := rfl
theorem gi41_4 : gx_ins 41 4 = some (false, .ifCond .eq 14, 18) := rfl
theorem gi41_7 : gx_ins 41 7 = some (false, .aload_n 0, 0) := rfl
theorem gi41_8 : gx_ins 41 8 = some (false, .getfield 12, 0) := rfl
theorem gi41_11 : gx_ins 41 11 = some (false, .iload_n 2, 0) := rfl
theorem gi41_12 : gx_ins 41 12 = some (false, .invokevirtual 57, 0) := rfl
theorem gi41_15 : gx_ins 41 15 = some (false, .ifCond .ne 5, 20) := rfl
theorem gi41_18 : gx_ins 41 18 = some (false, .iconst (-1), 0) := rfl
theorem gi41_19 : gx_ins 41 19 = some (false, .ireturn, 0) := rfl
theorem gi41_20 : gx_ins 41 20 = some (false, .aload_n 0, 0) := rfl
theorem gi41_21 : gx_ins 41 21 = some (false, .invokevirtual 95, 0) := rfl
theorem gi41_24 : gx_ins 41 24 = some (false, .ifCond .ne 6, 30) := rfl
theorem gi41_27 : gx_ins 41 27 = some (false, .bipush (-3), 0) := rfl
theorem gi41_29 : gx_ins 41 29 = some (false, .ireturn, 0) := rfl
theorem gi41_30 : gx_ins 41 30 = some (false, .aload_n 0, 0) := rfl
theorem gi41_31 : gx_ins 41 31 = some (false, .iload_n 1, 0) := rfl
theorem gi41_32 : gx_ins 41 32 = some (false, .invokevirtual 102, 0) := rfl
theorem gi41_35 : gx_ins 41 35 = some (false, .astore_n 3, 0) := rfl
theorem gi41_36 : gx_ins 41 36 = some (false, .aload_n 0, 0) := rfl
theorem gi41_37 : gx_ins 41 37 = some (false, .getfield 12, 0) := rfl
theorem gi41_40 : gx_ins 41 40 = some (false, .aload_n 3, 0) := rfl
theorem gi41_41 : gx_ins 41 41 = some (false, .iload_n 2, 0) := rfl
theorem gi41_42 : gx_ins 41 42 = some (false, .invokevirtual 106, 0) := rfl
theorem gi41_45 : gx_ins 41 45 = some (false, .aload_n 0, 0) := rfl
theorem gi41_46 : gx_ins 41 46 = some (false, .getfield 12, 0) := rfl
theorem gi41_49 : gx_ins 41 49 = some (false, .aload_n 3, 0) := rfl
theorem gi41_50 : gx_ins 41 50 = some (false, .iload_n 2, 0) := rfl
theorem gi41_51 : gx_ins 41 51 = some (false, .invokevirtual 110, 0) := rfl
theorem gi41_54 : gx_ins 41 54 = some (false, .invokestatic 113, 0) := rfl
theorem gi41_57 : gx_ins 41 57 = some (false, .ireturn, 0) := rfl
theorem gi42_0 : gx_ins 42 0 = some (false, .aload_n 0, 0) := rfl
theorem gi42_1 : gx_ins 42 1 = some (false, .iload_n 1, 0) := rfl
theorem gi42_2 : gx_ins 42 2 = some (false, .iconst 2, 0) := rfl
theorem gi42_3 : gx_ins 42 3 = some (false, .invokevirtual 119, 0) := rfl
theorem gi42_6 : gx_ins 42 6 = some (false, .ireturn, 0) := rfl
theorem gi43_0 : gx_ins 43 0 = some (false, .aload_n 0, 0) := rfl
theorem gi43_1 : gx_ins 43 1 = some (false, .iload_n 1, 0) := rfl
theorem gi43_2 : gx_ins 43 2 = some (false, .iconst 1, 0) := rfl
theorem gi43_3 : gx_ins 43 3 = some (false, .invokevirtual 119, 0) := rfl
theorem gi43_6 : gx_ins 43 6 = some (false, .ireturn, 0) := rfl
theorem gi44_0 : gx_ins 44 0 = some (false, .aload_n 0, 0) := rfl
theorem gi44_1 : gx_ins 44 1 = some (false, .getfield 12, 0) := rfl
theorem gi44_4 : gx_ins 44 4 = some (false, .iload_n 1, 0) := rfl
theorem gi44_5 : gx_ins 44 5 = some (false, .invokevirtual 79, 0) := rfl
theorem gi44_8 : gx_ins 44 8 = some (false, .ifCond .ne 5, 13) := rfl
theorem gi44_11 : gx_ins 44 11 = some (false, .iconst (-1), 0) := rfl
theorem gi44_12 : gx_ins 44 12 = some (false, .ireturn, 0) := rfl
theorem gi44_13 : gx_ins 44 13 = some (false, .aload_n 0, 0) := rfl
theorem gi44_14 : gx_ins 44 14 = some (false, .invokevirtual 95, 0) := rfl
theorem gi44_17 : gx_ins 44 17 = some (false, .ifCond .ne 6, 23) := rfl
theorem gi44_20 : gx_ins 44 20 = some (false, .bipush (-3), 0) := rfl
theorem gi44_22 : gx_ins 44 22 = some (false, .ireturn, 0) := rfl
theorem gi44_23 : gx_ins 44 23 = some (false, .aload_n 0, 0) := rfl
theorem gi44_24 : gx_ins 44 24 = some (false, .invokevirtual 122, 0) := rfl
theorem gi44_27 : gx_ins 44 27 = some (false, .aload_n 0, 0) := rfl
theorem gi44_28 : gx_ins 44 28 = some (false, .getfield 19, 0) := rfl
theorem gi44_31 : gx_ins 44 31 = some (false, .getfield 125, 0) := rfl
theorem gi44_34 : gx_ins 44 34 = some (false, .iload_n 1, 0) := rfl
theorem gi44_35 : gx_ins 44 35 = some (false, .dup2, 0) := rfl
theorem gi44_36 : gx_ins 44 36 = some (false, .iaload, 0) := rfl
theorem gi44_37 : gx_ins 44 37 = some (false, .iconst 1, 0) := rfl
theorem gi44_38 : gx_ins 44 38 = some (false, .iadd, 0) := rfl
theorem gi44_39 : gx_ins 44 39 = some (false, .iastore, 0) := rfl
theorem gi44_40 : gx_ins 44 40 = some (false, .aload_n 0, 0) := rfl
theorem gi44_41 : gx_ins 44 41 = some (false, .getfield 19, 0) := rfl
theorem gi44_44 : gx_ins 44 44 = some (false, .bipush 60, 0) := rfl
theorem gi44_46 : gx_ins 44 46 = some (false, .iconst 1, 0) := rfl
theorem gi44_47 : gx_ins 44 47 = some (false, .invokevirtual 128, 0) := rfl
theorem gi44_50 : gx_ins 44 50 = some (false, .ireturn, 0) := rfl
theorem gi45_0 : gx_ins 45 0 = some (false, .aload_n 0, 0) := rfl
theorem gi45_1 : gx_ins 45 1 = some (false, .invokevirtual 95, 0) := rfl
theorem gi45_4 : gx_ins 45 4 = some (false, .ifCond .eq 6, 10) := rfl
theorem gi45_7 : gx_ins 45 7 = some (false, .bipush (-2), 0) := rfl
theorem gi45_9 : gx_ins 45 9 = some (false, .ireturn, 0) := rfl
theorem gi45_10 : gx_ins 45 10 = some (false, .aload_n 0, 0) := rfl
theorem gi45_11 : gx_ins 45 11 = some (false, .getfield 131, 0) := rfl
theorem gi45_14 : gx_ins 45 14 = some (false, .ifCond .ne 7, 21) := rfl
theorem gi45_17 : gx_ins 45 17 = some (false, .aload_n 0, 0) := rfl
theorem gi45_18 : gx_ins 45 18 = some (false, .invokevirtual 135, 0) := rfl
theorem gi45_21 : gx_ins 45 21 = some (false, .iload_n 1, 0) := rfl
theorem gi45_22 : gx_ins 45 22 = some (false, .ifCond .lt 11, 33) := rfl
theorem gi45_25 : gx_ins 45 25 = some (false, .iload_n 1, 0) := rfl
theorem gi45_26 : gx_ins 45 26 = some (false, .aload_n 0, 0) := rfl
theorem gi45_27 : gx_ins 45 27 = some (false, .getfield 138, 0) := rfl
theorem gi45_30 : gx_ins 45 30 = some (false, .if_icmp .lt 5, 35) := rfl
theorem gi45_33 : gx_ins 45 33 = some (false, .iconst (-1), 0) := rfl
theorem gi45_34 : gx_ins 45 34 = some (false, .ireturn, 0) := rfl
theorem gi45_35 : gx_ins 45 35 = some (false, .aload_n 0, 0) := rfl
theorem gi45_36 : gx_ins 45 36 = some (false, .getfield 43, 0) := rfl
theorem gi45_39 : gx_ins 45 39 = some (false, .aload_n 0, 0) := rfl
theorem gi45_40 : gx_ins 45 40 = some (false, .getfield 138, 0) := rfl
theorem gi45_43 : gx_ins 45 43 = some (false, .iconst 1, 0) := rfl
theorem gi45_44 : gx_ins 45 44 = some (false, .isub, 0) := rfl
theorem gi45_45 : gx_ins 45 45 = some (false, .iload_n 1, 0) := rfl
theorem gi45_46 : gx_ins 45 46 = some (false, .isub, 0) := rfl
theorem gi45_47 : gx_ins 45 47 = some (false, .iaload, 0) := rfl
theorem gi45_48 : gx_ins 45 48 = some (false, .ireturn, 0) := rfl
theorem gi46_0 : gx_ins 46 0 = some (false, .aload_n 0, 0) := rfl
theorem gi46_1 : gx_ins 46 1 = some (false, .invokevirtual 95, 0) := rfl
theorem gi46_4 : gx_ins 46 4 = some (false, .ifCond .ne 6, 10) := rfl
theorem gi46_7 : gx_ins 46 7 = some (false, .bipush (-3), 0) := rfl
theorem gi46_9 : gx_ins 46 9 = some (false, .ireturn, 0) := rfl
theorem gi46_10 : gx_ins 46 10 = some (false, .aload_n 0, 0) := rfl
theorem gi46_11 : gx_ins 46 11 = some (false, .invokevirtual 141, 0) := rfl
theorem gi46_14 : gx_ins 46 14 = some (false, .aload_n 0, 0) := rfl
theorem gi46_15 : gx_ins 46 15 = some (false, .getfield 26, 0) := rfl
theorem gi46_18 : gx_ins 46 18 = some (false, .getfield 144, 0) := rfl
theorem gi46_21 : gx_ins 46 21 = some (false, .ireturn, 0) := rfl
theorem gi47_0 : gx_ins 47 0 = some (false, .aload_n 0, 0) := rfl
theorem gi47_1 : gx_ins 47 1 = some (false, .invokevirtual 95, 0) := rfl
theorem gi47_4 : gx_ins 47 4 = some (false, .ifCond .ne 6, 10) := rfl
theorem gi47_7 : gx_ins 47 7 = some (false, .bipush (-3), 0) := rfl
theorem gi47_9 : gx_ins 47 9 = some (false, .ireturn, 0) := rfl
theorem gi47_10 : gx_ins 47 10 = some (false, .aload_n 0, 0) := rfl
theorem gi47_11 : gx_ins 47 11 = some (false, .invokevirtual 141, 0) := rfl
theorem gi47_14 : gx_ins 47 14 = some (false, .iload_n 1, 0) := rfl
theorem gi47_15 : gx_ins 47 15 = some (false, .ifCond .lt 14, 29) := rfl
theorem gi47_18 : gx_ins 47 18 = some (false, .iload_n 1, 0) := rfl
theorem gi47_19 : gx_ins 47 19 = some (false, .aload_n 0, 0) := rfl
theorem gi47_20 : gx_ins 47 20 = some (false, .getfield 26, 0) := rfl
theorem gi47_23 : gx_ins 47 23 = some (false, .getfield 144, 0) := rfl
theorem gi47_26 : gx_ins 47 26 = some (false, .if_icmp .lt 5, 31) := rfl
theorem gi47_29 : gx_ins 47 29 = some (false, .iconst (-1), 0) := rfl
theorem gi47_30 : gx_ins 47 30 = some (false, .ireturn, 0) := rfl
theorem gi47_31 : gx_ins 47 31 = some (false, .iload_n 2, 0) := rfl
theorem gi47_32 : gx_ins 47 32 = some (false, .ifCond .ge 6, 38) := rfl
theorem gi47_35 : gx_ins 47 35 = some (false, .bipush (-2), 0) := rfl
theorem gi47_37 : gx_ins 47 37 = some (false, .ireturn, 0) := rfl
theorem gi47_38 : gx_ins 47 38 = some (false, .iload_n 2, 0) := rfl
theorem gi47_39 : gx_ins 47 39 = some (false, .ifCond .ne 13, 52) := rfl
theorem gi47_42 : gx_ins 47 42 = some (false, .aload_n 0, 0) := rfl
theorem gi47_43 : gx_ins 47 43 = some (false, .getfield 26, 0) := rfl
theorem gi47_46 : gx_ins 47 46 = some (false, .getfield 147, 0) := rfl
theorem gi47_49 : gx_ins 47 49 = some (false, .iload_n 1, 0) := rfl
theorem gi47_50 : gx_ins 47 50 = some (false, .iaload, 0) := rfl
theorem gi47_51 : gx_ins 47 51 = some (false, .ireturn, 0) := rfl
theorem gi47_52 : gx_ins 47 52 = some (false, .iload_n 2, 0) := rfl
theorem gi47_53 : gx_ins 47 53 = some (false, .iconst 1, 0) := rfl
theorem gi47_54 : gx_ins 47 54 = some (false, .if_icmp .ne 13, 67) := rfl
theorem gi47_57 : gx_ins 47 57 = some (false, .aload_n 0, 0) := rfl
theorem gi47_58 : gx_ins 47 58 = some (false, .getfield 26, 0) := rfl
theorem gi47_61 : gx_ins 47 61 = some (false, .getfield 150, 0) := rfl
theorem gi47_64 : gx_ins 47 64 = some (false, .iload_n 1, 0) := rfl
theorem gi47_65 : gx_ins 47 65 = some (false, .iaload, 0) := rfl
theorem gi47_66 : gx_ins 47 66 = some (false, .ireturn, 0) := rfl
theorem gi47_67 : gx_ins 47 67 = some (false, .aload_n 0, 0) := rfl
theorem gi47_68 : gx_ins 47 68 = some (false, .getfield 26, 0) := rfl
theorem gi47_71 : gx_ins 47 71 = some (false, .iload_n 1, 0) := rfl
theorem gi47_72 : gx_ins 47 72 = some (false, .iload_n 2, 0) := rfl
theorem gi47_73 : gx_ins 47 73 = some (false, .iconst 2, 0) := rfl
theorem gi47_74 : gx_ins 47 74 = some (false, .isub, 0) := rfl
theorem gi47_75 : gx_ins 47 75 = some (false, .invokevirtual 153, 0) := rfl
theorem gi47_78 : gx_ins 47 78 = some (false, .ireturn, 0) := rfl
theorem gi48_0 : gx_ins 48 0 = some (false, .iload_n 0, 0) := rfl
theorem gi48_1 : gx_ins 48 1 = some (false, .ifCond .eq 8, 9) := rfl
theorem gi48_4 : gx_ins 48 4 = some (false, .iload_n 0, 0) := rfl
theorem gi48_5 : gx_ins 48 5 = some (false, .iconst 1, 0) := rfl
theorem gi48_6 : gx_ins 48 6 = some (false, .if_icmp .ne 7, 13) := rfl
theorem gi48_9 : gx_ins 48 9 = some (false, .iconst 1, 0) := rfl
theorem gi48_10 : gx_ins 48 10 = some (false, .goto 4, 14) := rfl
theorem gi48_13 : gx_ins 48 13 = some (false, .iconst 0, 0) := rfl
theorem gi48_14 : gx_ins 48 14 = some (false, .ireturn, 0) := rfl
theorem gi49_0 : gx_ins 49 0 = some (false, .iload_n 0, 0) := rfl
theorem gi49_1 : gx_ins 49 1 = some (false, .ifCond .lt 19, 20) := rfl
theorem gi49_4 : gx_ins 49 4 = some (false, .iload_n 0, 0) := rfl
theorem gi49_5 : gx_ins 49 5 = some (false, .iload_n 1, 0) := rfl
theorem gi49_6 : gx_ins 49 6 = some (false, .if_icmp .gt 14, 20) := rfl
theorem gi49_9 : gx_ins 49 9 = some (false, .iload_n 1, 0) := rfl
theorem gi49_10 : gx_ins 49 10 = some (false, .sipush 1000, 0) := rfl
theorem gi49_13 : gx_ins 49 13 = some (false, .if_icmp .gt 7, 20) := rfl
theorem gi49_16 : gx_ins 49 16 = some (false, .iconst 1, 0) := rfl
theorem gi49_17 : gx_ins 49 17 = some (false, .goto 4, 21) := rfl
theorem gi49_20 : gx_ins 49 20 = some (false, .iconst 0, 0) := rfl
theorem gi49_21 : gx_ins 49 21 = some (false, .ireturn, 0) := rfl
theorem gi50_0 : gx_ins 50 0 = some (false, .iconst 2, 0) := rfl
theorem gi50_1 : gx_ins 50 1 = some (false, .iload_n 0, 0) := rfl
theorem gi50_2 : gx_ins 50 2 = some (false, .imul, 0) := rfl
theorem gi50_3 : gx_ins 50 3 = some (false, .ireturn, 0) := rfl
theorem gi51_0 : gx_ins 51 0 = some (false, .iconst 2, 0) := rfl
theorem gi51_1 : gx_ins 51 1 = some (false, .iload_n 0, 0) := rfl
theorem gi51_2 : gx_ins 51 2 = some (false, .imul, 0) := rfl
theorem gi51_3 : gx_ins 51 3 = some (false, .iconst 1, 0) := rfl
theorem gi51_4 : gx_ins 51 4 = some (false, .iadd, 0) := rfl
theorem gi51_5 : gx_ins 51 5 = some (false, .ireturn, 0) := rfl
theorem gi52_0 : gx_ins 52 0 = some (false, .aload_n 0, 0) := rfl
theorem gi52_1 : gx_ins 52 1 = some (false, .iconst 0, 0) := rfl
theorem gi52_2 : gx_ins 52 2 = some (false, .putfield 156, 0) := rfl
theorem gi52_5 : gx_ins 52 5 = some (false, .aload_n 0, 0) := rfl
theorem gi52_6 : gx_ins 52 6 = some (false, .getfield 39, 0) := rfl
theorem gi52_9 : gx_ins 52 9 = some (false, .iconst 0, 0) := rfl
theorem gi52_10 : gx_ins 52 10 = some (false, .iconst 0, 0) := rfl
theorem gi52_11 : gx_ins 52 11 = some (false, .bastore, 0) := rfl
theorem gi52_12 : gx_ins 52 12 = some (false, .aload_n 0, 0) := rfl
theorem gi52_13 : gx_ins 52 13 = some (false, .getfield 39, 0) := rfl
theorem gi52_16 : gx_ins 52 16 = some (false, .iconst 1, 0) := rfl
theorem gi52_17 : gx_ins 52 17 = some (false, .iconst 0, 0) := rfl
theorem gi52_18 : gx_ins 52 18 = some (false, .bastore, 0) := rfl
theorem gi52_19 : gx_ins 52 19 = some (false, .aload_n 0, 0) := rfl
theorem gi52_20 : gx_ins 52 20 = some (false, .iconst 0, 0) := rfl
theorem gi52_21 : gx_ins 52 21 = some (false, .putfield 131, 0) := rfl
theorem gi52_24 : gx_ins 52 24 = some (false, .aload_n 0, 0) := rfl
theorem gi52_25 : gx_ins 52 25 = some (false, .iconst 0, 0) := rfl
theorem gi52_26 : gx_ins 52 26 = some (false, .putfield 159, 0) := rfl
theorem gi52_29 : gx_ins 52 29 = some (false, .return_, 0) := rfl
theorem gi53_0 : gx_ins 53 0 = some (false, .aload_n 0, 0) := rfl
theorem gi53_1 : gx_ins 53 1 = some (false, .getfield 156, 0) := rfl
theorem gi53_4 : gx_ins 53 4 = some (false, .ifCond .ne 34, 38) := rfl
theorem gi53_7 : gx_ins 53 7 = some (false, .aload_n 0, 0) := rfl
theorem gi53_8 : gx_ins 53 8 = some (false, .invokevirtual 162, 0) := rfl
theorem gi53_11 : gx_ins 53 11 = some (false, .aload_n 0, 0) := rfl
theorem gi53_12 : gx_ins 53 12 = some (false, .aload_n 0, 0) := rfl
theorem gi53_13 : gx_ins 53 13 = some (false, .getfield 19, 0) := rfl
theorem gi53_16 : gx_ins 53 16 = some (false, .invokevirtual 165, 0) := rfl
theorem gi53_19 : gx_ins 53 19 = some (false, .putfield 168, 0) := rfl
theorem gi53_22 : gx_ins 53 22 = some (false, .aload_n 0, 0) := rfl
theorem gi53_23 : gx_ins 53 23 = some (false, .getfield 19, 0) := rfl
theorem gi53_26 : gx_ins 53 26 = some (false, .aload_n 0, 0) := rfl
theorem gi53_27 : gx_ins 53 27 = some (false, .getfield 30, 0) := rfl
theorem gi53_30 : gx_ins 53 30 = some (false, .invokevirtual 171, 0) := rfl
theorem gi53_33 : gx_ins 53 33 = some (false, .aload_n 0, 0) := rfl
theorem gi53_34 : gx_ins 53 34 = some (false, .iconst 1, 0) := rfl
theorem gi53_35 : gx_ins 53 35 = some (false, .putfield 156, 0) := rfl
theorem gi53_38 : gx_ins 53 38 = some (false, .aload_n 0, 0) := rfl
theorem gi53_39 : gx_ins 53 39 = some (false, .getfield 168, 0) := rfl
theorem gi53_42 : gx_ins 53 42 = some (false, .ireturn, 0) := rfl
theorem gi54_0 : gx_ins 54 0 = some (false, .aload_n 0, 0) := rfl
theorem gi54_1 : gx_ins 54 1 = some (false, .getfield 39, 0) := rfl
theorem gi54_4 : gx_ins 54 4 = some (false, .iload_n 1, 0) := rfl
theorem gi54_5 : gx_ins 54 5 = some (false, .baload, 0) := rfl
theorem gi54_6 : gx_ins 54 6 = some (false, .ifCond .ne 110, 116) := rfl
theorem gi54_9 : gx_ins 54 9 = some (false, .aload_n 0, 0) := rfl
theorem gi54_10 : gx_ins 54 10 = some (false, .invokevirtual 162, 0) := rfl
theorem gi54_13 : gx_ins 54 13 = some (false, .aload_n 0, 0) := rfl
theorem gi54_14 : gx_ins 54 14 = some (false, .getfield 19, 0) := rfl
theorem gi54_17 : gx_ins 54 17 = some (false, .aload_n 0, 0) := rfl
theorem gi54_18 : gx_ins 54 18 = some (false, .getfield 30, 0) := rfl
theorem gi54_21 : gx_ins 54 21 = some (false, .invokevirtual 175, 0) := rfl
theorem gi54_24 : gx_ins 54 24 = some (false, .iload_n 1, 0) := rfl
theorem gi54_25 : gx_ins 54 25 = some (false, .ifCond .ne 18, 43) := rfl
theorem gi54_28 : gx_ins 54 28 = some (false, .aload_n 0, 0) := rfl
theorem gi54_29 : gx_ins 54 29 = some (false, .getfield 19, 0) := rfl
theorem gi54_32 : gx_ins 54 32 = some (false, .bipush 60, 0) := rfl
theorem gi54_34 : gx_ins 54 34 = some (false, .ldc 64, 0) := rfl
theorem gi54_36 : gx_ins 54 36 = some (false, .invokevirtual 128, 0) := rfl
theorem gi54_39 : gx_ins 54 39 = some (false, .pop, 0) := rfl
theorem gi54_40 : gx_ins 54 40 = some (false, .goto 12, 52) := rfl
theorem gi54_43 : gx_ins 54 43 = some (false, .aload_n 0, 0) := rfl
theorem gi54_44 : gx_ins 54 44 = some (false, .getfield 19, 0) := rfl
theorem gi54_47 : gx_ins 54 47 = some (false, .bipush 60, 0) := rfl
theorem gi54_49 : gx_ins 54 49 = some (false, .invokevirtual 178, 0) := rfl
theorem gi54_52 : gx_ins 54 52 = some (false, .aload_n 0, 0) := rfl
theorem gi54_53 : gx_ins 54 53 = some (false, .getfield 19, 0) := rfl
theorem gi54_56 : gx_ins 54 56 = some (false, .bipush 60, 0) := rfl
theorem gi54_58 : gx_ins 54 58 = some (false, .invokevirtual 182, 0) := rfl
theorem gi54_61 : gx_ins 54 61 = some (false, .iconst 0, 0) := rfl
theorem gi54_62 : gx_ins 54 62 = some (false, .istore_n 2, 0) := rfl
theorem gi54_63 : gx_ins 54 63 = some (true, .iload_n 2, 0) := rfl
theorem gi54_64 : gx_ins 54 64 = some (false, .aload_n 0, 0) := rfl
theorem gi54_65 : gx_ins 54 65 = some (false, .getfield 12, 0) := rfl
theorem gi54_68 : gx_ins 54 68 = some (false, .getfield 72, 0) := rfl
theorem gi54_71 : gx_ins 54 71 = some (false, .if_icmp .ge 25, 96) := rfl
theorem gi54_74 : gx_ins 54 74 = some (false, .aload_n 0, 0) := rfl
theorem gi54_75 : gx_ins 54 75 = some (false, .getfield 19, 0) := rfl
theorem gi54_78 : gx_ins 54 78 = some (false, .iload_n 2, 0) := rfl
theorem gi54_79 : gx_ins 54 79 = some (false, .invokevirtual 178, 0) := rfl
theorem gi54_82 : gx_ins 54 82 = some (false, .aload_n 0, 0) := rfl
theorem gi54_83 : gx_ins 54 83 = some (false, .getfield 19, 0) := rfl
theorem gi54_86 : gx_ins 54 86 = some (false, .iload_n 2, 0) := rfl
theorem gi54_87 : gx_ins 54 87 = some (false, .invokevirtual 182, 0) := rfl
theorem gi54_90 : gx_ins 54 90 = some (false, .iinc 2 1, 0) := rfl
theorem gi54_93 : gx_ins 54 93 = some (false, .goto (-30), 63) := rfl
theorem gi54_96 : gx_ins 54 96 = some (false, .aload_n 0, 0) := rfl
theorem gi54_97 : gx_ins 54 97 = some (false, .getfield 19, 0) := rfl
theorem gi54_100 : gx_ins 54 100 = some (false, .aload_n 0, 0) := rfl
theorem gi54_101 : gx_ins 54 101 = some (false, .getfield 36, 0) := rfl
theorem gi54_104 : gx_ins 54 104 = some (false, .iload_n 1, 0) := rfl
theorem gi54_105 : gx_ins 54 105 = some (false, .aaload, 0) := rfl
theorem gi54_106 : gx_ins 54 106 = some (false, .invokevirtual 171, 0) := rfl
theorem gi54_109 : gx_ins 54 109 = some (false, .aload_n 0, 0) := rfl
theorem gi54_110 : gx_ins 54 110 = some (false, .getfield 39, 0) := rfl
theorem gi54_113 : gx_ins 54 113 = some (false, .iload_n 1, 0) := rfl
theorem gi54_114 : gx_ins 54 114 = some (false, .iconst 1, 0) := rfl
theorem gi54_115 : gx_ins 54 115 = some (false, .bastore, 0) := rfl
theorem gi54_116 : gx_ins 54 116 = some (false, .aload_n 0, 0) := rfl
theorem gi54_117 : gx_ins 54 117 = some (false, .getfield 36, 0) := rfl
theorem gi54_120 : gx_ins 54 120 = some (false, .iload_n 1, 0) := rfl
theorem gi54_121 : gx_ins 54 121 = some (false, .aaload, 0) := rfl
theorem gi54_122 : gx_ins 54 122 = some (false, .areturn, 0) := rfl
theorem gi55_0 : gx_ins 55 0 = some (false, .aload_n 0, 0) := rfl
theorem gi55_1 : gx_ins 55 1 = some (false, .getfield 19, 0) := rfl
theorem gi55_4 : gx_ins 55 4 = some (false, .invokevirtual 185, 0) := rfl
theorem gi55_7 : gx_ins 55 7 = some (false, .iconst 0, 0) := rfl
theorem gi55_8 : gx_ins 55 8 = some (false, .istore_n 1, 0) := rfl
theorem gi55_9 : gx_ins 55 9 = some (true, .iload_n 1, 0) := rfl
theorem gi55_10 : gx_ins 55 10 = some (false, .aload_n 0, 0) := rfl
theorem gi55_11 : gx_ins 55 11 = some (false, .getfield 12, 0) := rfl
theorem gi55_14 : gx_ins 55 14 = some (false, .getfield 46, 0) := rfl
theorem gi55_17 : gx_ins 55 17 = some (false, .if_icmp .ge 64, 81) := rfl
theorem gi55_20 : gx_ins 55 20 = some (false, .aload_n 0, 0) := rfl
theorem gi55_21 : gx_ins 55 21 = some (false, .getfield 12, 0) := rfl
theorem gi55_24 : gx_ins 55 24 = some (false, .getfield 65, 0) := rfl
theorem gi55_27 : gx_ins 55 27 = some (false, .iload_n 1, 0) := rfl
theorem gi55_28 : gx_ins 55 28 = some (false, .iaload, 0) := rfl
theorem gi55_29 : gx_ins 55 29 = some (false, .istore_n 2, 0) := rfl
theorem gi55_30 : gx_ins 55 30 = some (false, .aload_n 0, 0) := rfl
theorem gi55_31 : gx_ins 55 31 = some (false, .getfield 19, 0) := rfl
theorem gi55_34 : gx_ins 55 34 = some (false, .bipush 40, 0) := rfl
theorem gi55_36 : gx_ins 55 36 = some (false, .iload_n 1, 0) := rfl
theorem gi55_37 : gx_ins 55 37 = some (false, .iadd, 0) := rfl
theorem gi55_38 : gx_ins 55 38 = some (false, .iload_n 1, 0) := rfl
theorem gi55_39 : gx_ins 55 39 = some (false, .invokestatic 188, 0) := rfl
theorem gi55_42 : gx_ins 55 42 = some (false, .iload_n 1, 0) := rfl
theorem gi55_43 : gx_ins 55 43 = some (false, .invokestatic 191, 0) := rfl
theorem gi55_46 : gx_ins 55 46 = some (false, .iconst 0, 0) := rfl
theorem gi55_47 : gx_ins 55 47 = some (false, .iload_n 2, 0) := rfl
theorem gi55_48 : gx_ins 55 48 = some (false, .iconst (-1), 0) := rfl
theorem gi55_49 : gx_ins 55 49 = some (false, .if_icmp .ne 8, 57) := rfl
theorem gi55_52 : gx_ins 55 52 = some (false, .ldc 64, 0) := rfl
theorem gi55_54 : gx_ins 55 54 = some (false, .goto 4, 58) := rfl
theorem gi55_57 : gx_ins 55 57 = some (false, .iload_n 2, 0) := rfl
theorem gi55_58 : gx_ins 55 58 = some (false, .invokevirtual 194, 0) := rfl
theorem gi55_61 : gx_ins 55 61 = some (false, .aload_n 0, 0) := rfl
theorem gi55_62 : gx_ins 55 62 = some (false, .iload_n 1, 0) := rfl
theorem gi55_63 : gx_ins 55 63 = some (false, .aload_n 0, 0) := rfl
theorem gi55_64 : gx_ins 55 64 = some (false, .getfield 12, 0) := rfl
theorem gi55_67 : gx_ins 55 67 = some (false, .getfield 61, 0) := rfl
theorem gi55_70 : gx_ins 55 70 = some (false, .iload_n 1, 0) := rfl
theorem gi55_71 : gx_ins 55 71 = some (false, .iaload, 0) := rfl
theorem gi55_72 : gx_ins 55 72 = some (false, .invokevirtual 198, 0) := rfl
theorem gi55_75 : gx_ins 55 75 = some (false, .iinc 1 1, 0) := rfl
theorem gi55_78 : gx_ins 55 78 = some (false, .goto (-69), 9) := rfl
theorem gi55_81 : gx_ins 55 81 = some (false, .iconst 0, 0) := rfl
theorem gi55_82 : gx_ins 55 82 = some (false, .istore_n 1, 0) := rfl
theorem gi55_83 : gx_ins 55 83 = some (true, .iload_n 1, 0) := rfl
theorem gi55_84 : gx_ins 55 84 = some (false, .aload_n 0, 0) := rfl
theorem gi55_85 : gx_ins 55 85 = some (false, .getfield 12, 0) := rfl
theorem gi55_88 : gx_ins 55 88 = some (false, .getfield 72, 0) := rfl
theorem gi55_91 : gx_ins 55 91 = some (false, .if_icmp .ge 74, 165) := rfl
theorem gi55_94 : gx_ins 55 94 = some (false, .aload_n 0, 0) := rfl
theorem gi55_95 : gx_ins 55 95 = some (false, .getfield 12, 0) := rfl
theorem gi55_98 : gx_ins 55 98 = some (false, .iload_n 1, 0) := rfl
theorem gi55_99 : gx_ins 55 99 = some (false, .invokevirtual 79, 0) := rfl
theorem gi55_102 : gx_ins 55 102 = some (false, .ifCond .eq 57, 159) := rfl
theorem gi55_105 : gx_ins 55 105 = some (false, .aload_n 0, 0) := rfl
theorem gi55_106 : gx_ins 55 106 = some (false, .getfield 12, 0) := rfl
theorem gi55_109 : gx_ins 55 109 = some (false, .getfield 202, 0) := rfl
theorem gi55_112 : gx_ins 55 112 = some (false, .iload_n 1, 0) := rfl
theorem gi55_113 : gx_ins 55 113 = some (false, .iaload, 0) := rfl
theorem gi55_114 : gx_ins 55 114 = some (false, .invokestatic 191, 0) := rfl
theorem gi55_117 : gx_ins 55 117 = some (false, .istore_n 2, 0) := rfl
theorem gi55_118 : gx_ins 55 118 = some (false, .aload_n 0, 0) := rfl
theorem gi55_119 : gx_ins 55 119 = some (false, .getfield 12, 0) := rfl
theorem gi55_122 : gx_ins 55 122 = some (false, .getfield 205, 0) := rfl
theorem gi55_125 : gx_ins 55 125 = some (false, .iload_n 1, 0) := rfl
theorem gi55_126 : gx_ins 55 126 = some (false, .iaload, 0) := rfl
theorem gi55_127 : gx_ins 55 127 = some (false, .invokestatic 188, 0) := rfl
theorem gi55_130 : gx_ins 55 130 = some (false, .istore_n 3, 0) := rfl
theorem gi55_131 : gx_ins 55 131 = some (false, .aload_n 0, 0) := rfl
theorem gi55_132 : gx_ins 55 132 = some (false, .getfield 19, 0) := rfl
theorem gi55_135 : gx_ins 55 135 = some (false, .iload_n 1, 0) := rfl
theorem gi55_136 : gx_ins 55 136 = some (false, .iload_n 2, 0) := rfl
theorem gi55_137 : gx_ins 55 137 = some (false, .iload_n 3, 0) := rfl
theorem gi55_138 : gx_ins 55 138 = some (false, .aload_n 0, 0) := rfl
theorem gi55_139 : gx_ins 55 139 = some (false, .getfield 12, 0) := rfl
theorem gi55_142 : gx_ins 55 142 = some (false, .getfield 82, 0) := rfl
theorem gi55_145 : gx_ins 55 145 = some (false, .iload_n 1, 0) := rfl
theorem gi55_146 : gx_ins 55 146 = some (false, .iaload, 0) := rfl
theorem gi55_147 : gx_ins 55 147 = some (false, .aload_n 0, 0) := rfl
theorem gi55_148 : gx_ins 55 148 = some (false, .getfield 12, 0) := rfl
theorem gi55_151 : gx_ins 55 151 = some (false, .getfield 85, 0) := rfl
theorem gi55_154 : gx_ins 55 154 = some (false, .iload_n 1, 0) := rfl
theorem gi55_155 : gx_ins 55 155 = some (false, .iaload, 0) := rfl
theorem gi55_156 : gx_ins 55 156 = some (false, .invokevirtual 194, 0) := rfl
theorem gi55_159 : gx_ins 55 159 = some (false, .iinc 1 1, 0) := rfl
theorem gi55_162 : gx_ins 55 162 = some (false, .goto (-79), 83) := rfl
theorem gi55_165 : gx_ins 55 165 = some (false, .aload_n 0, 0) := rfl
theorem gi55_166 : gx_ins 55 166 = some (false, .getfield 19, 0) := rfl
theorem gi55_169 : gx_ins 55 169 = some (false, .bipush 60, 0) := rfl
theorem gi55_171 : gx_ins 55 171 = some (false, .bipush 21, 0) := rfl
theorem gi55_173 : gx_ins 55 173 = some (false, .bipush 20, 0) := rfl
theorem gi55_175 : gx_ins 55 175 = some (false, .iconst 0, 0) := rfl
theorem gi55_176 : gx_ins 55 176 = some (false, .ldc 64, 0) := rfl
theorem gi55_178 : gx_ins 55 178 = some (false, .invokevirtual 194, 0) := rfl
theorem gi55_181 : gx_ins 55 181 = some (false, .return_, 0) := rfl
theorem gi56_0 : gx_ins 56 0 = some (false, .iload_n 2, 0) := rfl
theorem gi56_1 : gx_ins 56 1 = some (false, .iconst 1, 0) := rfl
theorem gi56_2 : gx_ins 56 2 = some (false, .if_icmp .ne 26, 28) := rfl
theorem gi56_5 : gx_ins 56 5 = some (false, .aload_n 0, 0) := rfl
theorem gi56_6 : gx_ins 56 6 = some (false, .getfield 19, 0) := rfl
theorem gi56_9 : gx_ins 56 9 = some (false, .bipush 50, 0) := rfl
theorem gi56_11 : gx_ins 56 11 = some (false, .iload_n 1, 0) := rfl
theorem gi56_12 : gx_ins 56 12 = some (false, .iadd, 0) := rfl
theorem gi56_13 : gx_ins 56 13 = some (false, .bipush 20, 0) := rfl
theorem gi56_15 : gx_ins 56 15 = some (false, .iload_n 1, 0) := rfl
theorem gi56_16 : gx_ins 56 16 = some (false, .invokestatic 188, 0) := rfl
theorem gi56_19 : gx_ins 56 19 = some (false, .iconst 0, 0) := rfl
theorem gi56_20 : gx_ins 56 20 = some (false, .ldc 64, 0) := rfl
theorem gi56_22 : gx_ins 56 22 = some (false, .invokevirtual 194, 0) := rfl
theorem gi56_25 : gx_ins 56 25 = some (false, .goto 28, 53) := rfl
theorem gi56_28 : gx_ins 56 28 = some (false, .iload_n 2, 0) := rfl
theorem gi56_29 : gx_ins 56 29 = some (false, .iconst 2, 0) := rfl
theorem gi56_30 : gx_ins 56 30 = some (false, .if_icmp .ne 23, 53) := rfl
theorem gi56_33 : gx_ins 56 33 = some (false, .aload_n 0, 0) := rfl
theorem gi56_34 : gx_ins 56 34 = some (false, .getfield 19, 0) := rfl
theorem gi56_37 : gx_ins 56 37 = some (false, .bipush 50, 0) := rfl
theorem gi56_39 : gx_ins 56 39 = some (false, .iload_n 1, 0) := rfl
theorem gi56_40 : gx_ins 56 40 = some (false, .iadd, 0) := rfl
theorem gi56_41 : gx_ins 56 41 = some (false, .iload_n 1, 0) := rfl
theorem gi56_42 : gx_ins 56 42 = some (false, .invokestatic 191, 0) := rfl
theorem gi56_45 : gx_ins 56 45 = some (false, .bipush 21, 0) := rfl
theorem gi56_47 : gx_ins 56 47 = some (false, .iconst 0, 0) := rfl
theorem gi56_48 : gx_ins 56 48 = some (false, .ldc 64, 0) := rfl
theorem gi56_50 : gx_ins 56 50 = some (false, .invokevirtual 194, 0) := rfl
theorem gi56_53 : gx_ins 56 53 = some (false, .return_, 0) := rfl
theorem gi57_0 : gx_ins 57 0 = some (false, .aload_n 0, 0) := rfl
theorem gi57_1 : gx_ins 57 1 = some (false, .iconst 0, 0) := rfl
theorem gi57_2 : gx_ins 57 2 = some (false, .invokevirtual 102, 0) := rfl
theorem gi57_5 : gx_ins 57 5 = some (false, .astore_n 1, 0) := rfl
theorem gi57_6 : gx_ins 57 6 = some (false, .aload_n 0, 0) := rfl
theorem gi57_7 : gx_ins 57 7 = some (false, .invokevirtual 162, 0) := rfl
theorem gi57_10 : gx_ins 57 10 = some (false, .aload_n 0, 0) := rfl
theorem gi57_11 : gx_ins 57 11 = some (false, .getfield 19, 0) := rfl
theorem gi57_14 : gx_ins 57 14 = some (false, .aload_n 1, 0) := rfl
theorem gi57_15 : gx_ins 57 15 = some (false, .invokevirtual 175, 0) := rfl
theorem gi57_18 : gx_ins 57 18 = some (false, .return_, 0) := rfl
theorem gi58_0 : gx_ins 58 0 = some (false, .aload_n 0, 0) := rfl
theorem gi58_1 : gx_ins 58 1 = some (false, .getfield 12, 0) := rfl
theorem gi58_4 : gx_ins 58 4 = some (false, .iload_n 1, 0) := rfl
theorem gi58_5 : gx_ins 58 5 = some (false, .invokevirtual 57, 0) := rfl
theorem gi58_8 : gx_ins 58 8 = some (false, .ifCond .ne 5, 13) := rfl
theorem gi58_11 : gx_ins 58 11 = some (false, .iconst (-1), 0) := rfl
theorem gi58_12 : gx_ins 58 12 = some (false, .ireturn, 0) := rfl
theorem gi58_13 : gx_ins 58 13 = some (false, .aload_n 0, 0) := rfl
theorem gi58_14 : gx_ins 58 14 = some (false, .getfield 12, 0) := rfl
theorem gi58_17 : gx_ins 58 17 = some (false, .getfield 61, 0) := rfl
theorem gi58_20 : gx_ins 58 20 = some (false, .iload_n 1, 0) := rfl
theorem gi58_21 : gx_ins 58 21 = some (false, .iaload, 0) := rfl
theorem gi58_22 : gx_ins 58 22 = some (false, .ifCond .eq 6, 28) := rfl
theorem gi58_25 : gx_ins 58 25 = some (false, .bipush (-2), 0) := rfl
theorem gi58_27 : gx_ins 58 27 = some (false, .ireturn, 0) := rfl
theorem gi58_28 : gx_ins 58 28 = some (false, .aload_n 0, 0) := rfl
theorem gi58_29 : gx_ins 58 29 = some (false, .invokevirtual 95, 0) := rfl
theorem gi58_32 : gx_ins 58 32 = some (false, .ifCond .ne 6, 38) := rfl
theorem gi58_35 : gx_ins 58 35 = some (false, .bipush (-3), 0) := rfl
theorem gi58_37 : gx_ins 58 37 = some (false, .ireturn, 0) := rfl
theorem gi58_38 : gx_ins 58 38 = some (false, .aload_n 0, 0) := rfl
theorem gi58_39 : gx_ins 58 39 = some (false, .invokevirtual 122, 0) := rfl
theorem gi58_42 : gx_ins 58 42 = some (false, .aload_n 0, 0) := rfl
theorem gi58_43 : gx_ins 58 43 = some (false, .iload_n 1, 0) := rfl
theorem gi58_44 : gx_ins 58 44 = some (false, .iload_n 2, 0) := rfl
theorem gi58_45 : gx_ins 58 45 = some (false, .invokevirtual 198, 0) := rfl
theorem gi58_48 : gx_ins 58 48 = some (false, .aload_n 0, 0) := rfl
theorem gi58_49 : gx_ins 58 49 = some (false, .getfield 19, 0) := rfl
theorem gi58_52 : gx_ins 58 52 = some (false, .bipush 60, 0) := rfl
theorem gi58_54 : gx_ins 58 54 = some (false, .iconst 1, 0) := rfl
theorem gi58_55 : gx_ins 58 55 = some (false, .invokevirtual 128, 0) := rfl
theorem gi58_58 : gx_ins 58 58 = some (false, .ireturn, 0) := rfl
theorem gi59_0 : gx_ins 59 0 = some (false, .aload_n 0, 0) := rfl
theorem gi59_1 : gx_ins 59 1 = some (false, .invokevirtual 162, 0) := rfl
theorem gi59_4 : gx_ins 59 4 = some (false, .aload_n 0, 0) := rfl
theorem gi59_5 : gx_ins 59 5 = some (false, .iconst 0, 0) := rfl
theorem gi59_6 : gx_ins 59 6 = some (false, .putfield 138, 0) := rfl
theorem gi59_9 : gx_ins 59 9 = some (false, .aload_n 0, 0) := rfl
theorem gi59_10 : gx_ins 59 10 = some (false, .getfield 12, 0) := rfl
theorem gi59_13 : gx_ins 59 13 = some (false, .getfield 72, 0) := rfl
theorem gi59_16 : gx_ins 59 16 = some (false, .iconst 1, 0) := rfl
theorem gi59_17 : gx_ins 59 17 = some (false, .isub, 0) := rfl
theorem gi59_18 : gx_ins 59 18 = some (false, .istore_n 1, 0) := rfl
theorem gi59_19 : gx_ins 59 19 = some (true, .iload_n 1, 0) := rfl
theorem gi59_20 : gx_ins 59 20 = some (false, .ifCond .lt 73, 93) := rfl
theorem gi59_23 : gx_ins 59 23 = some (false, .aload_n 0, 0) := rfl
theorem gi59_24 : gx_ins 59 24 = some (false, .getfield 19, 0) := rfl
theorem gi59_27 : gx_ins 59 27 = some (false, .getfield 208, 0) := rfl
theorem gi59_30 : gx_ins 59 30 = some (false, .iload_n 1, 0) := rfl
theorem gi59_31 : gx_ins 59 31 = some (false, .iaload, 0) := rfl
theorem gi59_32 : gx_ins 59 32 = some (false, .istore_n 2, 0) := rfl
theorem gi59_33 : gx_ins 59 33 = some (false, .iload_n 2, 0) := rfl
theorem gi59_34 : gx_ins 59 34 = some (false, .ifCond .le 53, 87) := rfl
theorem gi59_37 : gx_ins 59 37 = some (false, .aload_n 0, 0) := rfl
theorem gi59_38 : gx_ins 59 38 = some (false, .getfield 19, 0) := rfl
theorem gi59_41 : gx_ins 59 41 = some (false, .getfield 208, 0) := rfl
theorem gi59_44 : gx_ins 59 44 = some (false, .iload_n 1, 0) := rfl
theorem gi59_45 : gx_ins 59 45 = some (false, .iconst 0, 0) := rfl
theorem gi59_46 : gx_ins 59 46 = some (false, .iastore, 0) := rfl
theorem gi59_47 : gx_ins 59 47 = some (false, .aload_n 0, 0) := rfl
theorem gi59_48 : gx_ins 59 48 = some (false, .getfield 19, 0) := rfl
theorem gi59_51 : gx_ins 59 51 = some (false, .invokevirtual 165, 0) := rfl
theorem gi59_54 : gx_ins 59 54 = some (false, .ifCond .eq 33, 87) := rfl
theorem gi59_57 : gx_ins 59 57 = some (false, .aload_n 0, 0) := rfl
theorem gi59_58 : gx_ins 59 58 = some (false, .getfield 19, 0) := rfl
theorem gi59_61 : gx_ins 59 61 = some (false, .getfield 208, 0) := rfl
theorem gi59_64 : gx_ins 59 64 = some (false, .iload_n 1, 0) := rfl
theorem gi59_65 : gx_ins 59 65 = some (false, .iload_n 2, 0) := rfl
theorem gi59_66 : gx_ins 59 66 = some (false, .iastore, 0) := rfl
theorem gi59_67 : gx_ins 59 67 = some (false, .aload_n 0, 0) := rfl
theorem gi59_68 : gx_ins 59 68 = some (false, .getfield 43, 0) := rfl
theorem gi59_71 : gx_ins 59 71 = some (false, .aload_n 0, 0) := rfl
theorem gi59_72 : gx_ins 59 72 = some (false, .getfield 138, 0) := rfl
theorem gi59_75 : gx_ins 59 75 = some (false, .iload_n 1, 0) := rfl
theorem gi59_76 : gx_ins 59 76 = some (false, .iastore, 0) := rfl
theorem gi59_77 : gx_ins 59 77 = some (false, .aload_n 0, 0) := rfl
theorem gi59_78 : gx_ins 59 78 = some (false, .dup, 0) := rfl
theorem gi59_79 : gx_ins 59 79 = some (false, .getfield 138, 0) := rfl
theorem gi59_82 : gx_ins 59 82 = some (false, .iconst 1, 0) := rfl
theorem gi59_83 : gx_ins 59 83 = some (false, .iadd, 0) := rfl
theorem gi59_84 : gx_ins 59 84 = some (false, .putfield 138, 0) := rfl
theorem gi59_87 : gx_ins 59 87 = some (false, .iinc 1 (-1), 0) := rfl
theorem gi59_90 : gx_ins 59 90 = some (false, .goto (-71), 19) := rfl
theorem gi59_93 : gx_ins 59 93 = some (false, .aload_n 0, 0) := rfl
theorem gi59_94 : gx_ins 59 94 = some (false, .iconst 1, 0) := rfl
theorem gi59_95 : gx_ins 59 95 = some (false, .putfield 131, 0) := rfl
theorem gi59_98 : gx_ins 59 98 = some (false, .return_, 0) := rfl
theorem gi60_0 : gx_ins 60 0 = some (false, .aload_n 0, 0) := rfl
theorem gi60_1 : gx_ins 60 1 = some (false, .getfield 159, 0) := rfl
theorem gi60_4 : gx_ins 60 4 = some (false, .ifCond .ne 24, 28) := rfl
theorem gi60_7 : gx_ins 60 7 = some (false, .aload_n 0, 0) := rfl
theorem gi60_8 : gx_ins 60 8 = some (false, .getfield 26, 0) := rfl
theorem gi60_11 : gx_ins 60 11 = some (false, .aload_n 0, 0) := rfl
theorem gi60_12 : gx_ins 60 12 = some (false, .getfield 12, 0) := rfl
theorem gi60_15 : gx_ins 60 15 = some (false, .aload_n 0, 0) := rfl
theorem gi60_16 : gx_ins 60 16 = some (false, .iconst 0, 0) := rfl
theorem gi60_17 : gx_ins 60 17 = some (false, .invokevirtual 102, 0) := rfl
theorem gi60_20 : gx_ins 60 20 = some (false, .invokevirtual 211, 0) := rfl
theorem gi60_23 : gx_ins 60 23 = some (false, .aload_n 0, 0) := rfl
theorem gi60_24 : gx_ins 60 24 = some (false, .iconst 1, 0) := rfl
theorem gi60_25 : gx_ins 60 25 = some (false, .putfield 159, 0) := rfl
theorem gi60_28 : gx_ins 60 28 = some (false, .return_, 0) := rfl
theorem gi61_0 : gx_ins 61 0 = some (false, .aload_n 0, 0) := rfl
theorem gi61_1 : gx_ins 61 1 = some (false, .getfield 41, 0) := rfl
theorem gi61_4 : gx_ins 61 4 = some (false, .bipush 24, 0) := rfl
theorem gi61_6 : gx_ins 61 6 = some (false, .iload_n 1, 0) := rfl
theorem gi61_7 : gx_ins 61 7 = some (false, .imul, 0) := rfl
theorem gi61_8 : gx_ins 61 8 = some (false, .iload_n 2, 0) := rfl
theorem gi61_9 : gx_ins 61 9 = some (false, .iadd, 0) := rfl
theorem gi61_10 : gx_ins 61 10 = some (false, .dup2, 0) := rfl
theorem gi61_11 : gx_ins 61 11 = some (false, .iaload, 0) := rfl
theorem gi61_12 : gx_ins 61 12 = some (false, .iload 4, 0) := rfl
theorem gi61_14 : gx_ins 61 14 = some (false, .iload_n 3, 0) := rfl
theorem gi61_15 : gx_ins 61 15 = some (false, .isub, 0) := rfl
theorem gi61_16 : gx_ins 61 16 = some (false, .iadd, 0) := rfl
theorem gi61_17 : gx_ins 61 17 = some (false, .iastore, 0) := rfl
theorem gi61_18 : gx_ins 61 18 = some (false, .iload_n 3, 0) := rfl
theorem gi61_19 : gx_ins 61 19 = some (false, .ifCond .le 43, 62) := rfl
theorem gi61_22 : gx_ins 61 22 = some (false, .aload_n 0, 0) := rfl
theorem gi61_23 : gx_ins 61 23 = some (false, .getfield 41, 0) := rfl
theorem gi61_26 : gx_ins 61 26 = some (false, .sipush 528, 0) := rfl
theorem gi61_29 : gx_ins 61 29 = some (false, .iload_n 2, 0) := rfl
theorem gi61_30 : gx_ins 61 30 = some (false, .iadd, 0) := rfl
theorem gi61_31 : gx_ins 61 31 = some (false, .dup2, 0) := rfl
theorem gi61_32 : gx_ins 61 32 = some (false, .iaload, 0) := rfl
theorem gi61_33 : gx_ins 61 33 = some (false, .iload_n 3, 0) := rfl
theorem gi61_34 : gx_ins 61 34 = some (false, .iadd, 0) := rfl
theorem gi61_35 : gx_ins 61 35 = some (false, .iastore, 0) := rfl
theorem gi61_36 : gx_ins 61 36 = some (false, .aload_n 0, 0) := rfl
theorem gi61_37 : gx_ins 61 37 = some (false, .getfield 41, 0) := rfl
theorem gi61_40 : gx_ins 61 40 = some (false, .bipush 24, 0) := rfl
theorem gi61_42 : gx_ins 61 42 = some (false, .iload_n 1, 0) := rfl
theorem gi61_43 : gx_ins 61 43 = some (false, .imul, 0) := rfl
theorem gi61_44 : gx_ins 61 44 = some (false, .bipush 23, 0) := rfl
theorem gi61_46 : gx_ins 61 46 = some (false, .iadd, 0) := rfl
theorem gi61_47 : gx_ins 61 47 = some (false, .dup2, 0) := rfl
theorem gi61_48 : gx_ins 61 48 = some (false, .iaload, 0) := rfl
theorem gi61_49 : gx_ins 61 49 = some (false, .iload_n 3, 0) := rfl
theorem gi61_50 : gx_ins 61 50 = some (false, .iadd, 0) := rfl
theorem gi61_51 : gx_ins 61 51 = some (false, .iastore, 0) := rfl
theorem gi61_52 : gx_ins 61 52 = some (false, .aload_n 0, 0) := rfl
theorem gi61_53 : gx_ins 61 53 = some (false, .dup, 0) := rfl
theorem gi61_54 : gx_ins 61 54 = some (false, .getfield 80, 0) := rfl
theorem gi61_57 : gx_ins 61 57 = some (false, .iload_n 3, 0) := rfl
theorem gi61_58 : gx_ins 61 58 = some (false, .iadd, 0) := rfl
theorem gi61_59 : gx_ins 61 59 = some (false, .putfield 80, 0) := rfl
theorem gi61_62 : gx_ins 61 62 = some (false, .return_, 0) := rfl
theorem gi62_0 : gx_ins 62 0 = some (false, .iconst 0, 0) := rfl
theorem gi62_1 : gx_ins 62 1 = some (false, .istore_n 3, 0) := rfl
theorem gi62_2 : gx_ins 62 2 = some (true, .iload_n 3, 0) := rfl
theorem gi62_3 : gx_ins 62 3 = some (false, .sipush 576, 0) := rfl
theorem gi62_6 : gx_ins 62 6 = some (false, .if_icmp .ge 16, 22) := rfl
theorem gi62_9 : gx_ins 62 9 = some (false, .aload_n 0, 0) := rfl
theorem gi62_10 : gx_ins 62 10 = some (false, .getfield 41, 0) := rfl
theorem gi62_13 : gx_ins 62 13 = some (false, .iload_n 3, 0) := rfl
theorem gi62_14 : gx_ins 62 14 = some (false, .iconst 0, 0) := rfl
theorem gi62_15 : gx_ins 62 15 = some (false, .iastore, 0) := rfl
theorem gi62_16 : gx_ins 62 16 = some (false, .iinc 3 1, 0) := rfl
theorem gi62_19 : gx_ins 62 19 = some (false, .goto (-17), 2) := rfl
theorem gi62_22 : gx_ins 62 22 = some (false, .aload_n 0, 0) := rfl
theorem gi62_23 : gx_ins 62 23 = some (false, .iconst 0, 0) := rfl
theorem gi62_24 : gx_ins 62 24 = some (false, .putfield 80, 0) := rfl
theorem gi62_27 : gx_ins 62 27 = some (false, .iconst 0, 0) := rfl
theorem gi62_28 : gx_ins 62 28 = some (false, .istore_n 3, 0) := rfl
theorem gi62_29 : gx_ins 62 29 = some (true, .iload_n 3, 0) := rfl
theorem gi62_30 : gx_ins 62 30 = some (false, .aload_n 0, 0) := rfl
theorem gi62_31 : gx_ins 62 31 = some (false, .getfield 84, 0) := rfl
theorem gi62_34 : gx_ins 62 34 = some (false, .if_icmp .ge 52, 86) := rfl
theorem gi62_37 : gx_ins 62 37 = some (false, .aload_n 0, 0) := rfl
theorem gi62_38 : gx_ins 62 38 = some (false, .getfield 28, 0) := rfl
theorem gi62_41 : gx_ins 62 41 = some (false, .iload_n 3, 0) := rfl
theorem gi62_42 : gx_ins 62 42 = some (false, .baload, 0) := rfl
theorem gi62_43 : gx_ins 62 43 = some (false, .ifCond .eq 37, 80) := rfl
theorem gi62_46 : gx_ins 62 46 = some (false, .aload_n 0, 0) := rfl
theorem gi62_47 : gx_ins 62 47 = some (false, .iconst 2, 0) := rfl
theorem gi62_48 : gx_ins 62 48 = some (false, .aload_n 0, 0) := rfl
theorem gi62_49 : gx_ins 62 49 = some (false, .getfield 16, 0) := rfl
theorem gi62_52 : gx_ins 62 52 = some (false, .iload_n 3, 0) := rfl
theorem gi62_53 : gx_ins 62 53 = some (false, .iaload, 0) := rfl
theorem gi62_54 : gx_ins 62 54 = some (false, .imul, 0) := rfl
theorem gi62_55 : gx_ins 62 55 = some (false, .iconst 1, 0) := rfl
theorem gi62_56 : gx_ins 62 56 = some (false, .iadd, 0) := rfl
theorem gi62_57 : gx_ins 62 57 = some (false, .iconst 2, 0) := rfl
theorem gi62_58 : gx_ins 62 58 = some (false, .aload_n 0, 0) := rfl
theorem gi62_59 : gx_ins 62 59 = some (false, .getfield 19, 0) := rfl
theorem gi62_62 : gx_ins 62 62 = some (false, .iload_n 3, 0) := rfl
theorem gi62_63 : gx_ins 62 63 = some (false, .iaload, 0) := rfl
theorem gi62_64 : gx_ins 62 64 = some (false, .imul, 0) := rfl
theorem gi62_65 : gx_ins 62 65 = some (false, .aload_n 0, 0) := rfl
theorem gi62_66 : gx_ins 62 66 = some (false, .getfield 32, 0) := rfl
theorem gi62_69 : gx_ins 62 69 = some (false, .iload_n 3, 0) := rfl
theorem gi62_70 : gx_ins 62 70 = some (false, .iaload, 0) := rfl
theorem gi62_71 : gx_ins 62 71 = some (false, .aload_n 0, 0) := rfl
theorem gi62_72 : gx_ins 62 72 = some (false, .getfield 35, 0) := rfl
theorem gi62_75 : gx_ins 62 75 = some (false, .iload_n 3, 0) := rfl
theorem gi62_76 : gx_ins 62 76 = some (false, .iaload, 0) := rfl
theorem gi62_77 : gx_ins 62 77 = some (false, .invokevirtual 87, 0) := rfl
theorem gi62_80 : gx_ins 62 80 = some (false, .iinc 3 1, 0) := rfl
theorem gi62_83 : gx_ins 62 83 = some (false, .goto (-54), 29) := rfl
theorem gi62_86 : gx_ins 62 86 = some (false, .iconst 0, 0) := rfl
theorem gi62_87 : gx_ins 62 87 = some (false, .istore_n 3, 0) := rfl
theorem gi62_88 : gx_ins 62 88 = some (true, .iload_n 3, 0) := rfl
theorem gi62_89 : gx_ins 62 89 = some (false, .aload_n 0, 0) := rfl
theorem gi62_90 : gx_ins 62 90 = some (false, .getfield 91, 0) := rfl
theorem gi62_93 : gx_ins 62 93 = some (false, .if_icmp .ge 88, 181) := rfl
theorem gi62_96 : gx_ins 62 96 = some (false, .aload_n 0, 0) := rfl
theorem gi62_97 : gx_ins 62 97 = some (false, .iconst 2, 0) := rfl
theorem gi62_98 : gx_ins 62 98 = some (false, .iload_n 3, 0) := rfl
theorem gi62_99 : gx_ins 62 99 = some (false, .imul, 0) := rfl
theorem gi62_100 : gx_ins 62 100 = some (false, .iconst 2, 0) := rfl
theorem gi62_101 : gx_ins 62 101 = some (false, .iload_n 3, 0) := rfl
theorem gi62_102 : gx_ins 62 102 = some (false, .imul, 0) := rfl
theorem gi62_103 : gx_ins 62 103 = some (false, .iconst 1, 0) := rfl
theorem gi62_104 : gx_ins 62 104 = some (false, .iadd, 0) := rfl
theorem gi62_105 : gx_ins 62 105 = some (false, .iconst 0, 0) := rfl
theorem gi62_106 : gx_ins 62 106 = some (false, .aload_n 0, 0) := rfl
theorem gi62_107 : gx_ins 62 107 = some (false, .getfield 13, 0) := rfl
theorem gi62_110 : gx_ins 62 110 = some (false, .iload_n 3, 0) := rfl
theorem gi62_111 : gx_ins 62 111 = some (false, .iaload, 0) := rfl
theorem gi62_112 : gx_ins 62 112 = some (false, .ifCond .ge 8, 120) := rfl
theorem gi62_115 : gx_ins 62 115 = some (false, .ldc 94, 0) := rfl
theorem gi62_117 : gx_ins 62 117 = some (false, .goto 9, 126) := rfl
theorem gi62_120 : gx_ins 62 120 = some (false, .aload_n 0, 0) := rfl
theorem gi62_121 : gx_ins 62 121 = some (false, .getfield 13, 0) := rfl
theorem gi62_124 : gx_ins 62 124 = some (false, .iload_n 3, 0) := rfl
theorem gi62_125 : gx_ins 62 125 = some (false, .iaload, 0) := rfl
theorem gi62_126 : gx_ins 62 126 = some (false, .invokevirtual 87, 0) := rfl
theorem gi62_129 : gx_ins 62 129 = some (false, .aload_n 0, 0) := rfl
theorem gi62_130 : gx_ins 62 130 = some (false, .getfield 38, 0) := rfl
theorem gi62_133 : gx_ins 62 133 = some (false, .iload_n 3, 0) := rfl
theorem gi62_134 : gx_ins 62 134 = some (false, .iaload, 0) := rfl
theorem gi62_135 : gx_ins 62 135 = some (false, .iconst 1, 0) := rfl
theorem gi62_136 : gx_ins 62 136 = some (false, .if_icmp .ne 15, 151) := rfl
theorem gi62_139 : gx_ins 62 139 = some (false, .aload_n 0, 0) := rfl
theorem gi62_140 : gx_ins 62 140 = some (false, .bipush 20, 0) := rfl
theorem gi62_142 : gx_ins 62 142 = some (false, .iconst 2, 0) := rfl
theorem gi62_143 : gx_ins 62 143 = some (false, .iload_n 3, 0) := rfl
theorem gi62_144 : gx_ins 62 144 = some (false, .imul, 0) := rfl
theorem gi62_145 : gx_ins 62 145 = some (false, .iconst 0, 0) := rfl
theorem gi62_146 : gx_ins 62 146 = some (false, .ldc 94, 0) := rfl
theorem gi62_148 : gx_ins 62 148 = some (false, .invokevirtual 87, 0) := rfl
theorem gi62_151 : gx_ins 62 151 = some (false, .aload_n 0, 0) := rfl
theorem gi62_152 : gx_ins 62 152 = some (false, .getfield 38, 0) := rfl
theorem gi62_155 : gx_ins 62 155 = some (false, .iload_n 3, 0) := rfl
theorem gi62_156 : gx_ins 62 156 = some (false, .iaload, 0) := rfl
theorem gi62_157 : gx_ins 62 157 = some (false, .iconst 2, 0) := rfl
theorem gi62_158 : gx_ins 62 158 = some (false, .if_icmp .ne 17, 175) := rfl
theorem gi62_161 : gx_ins 62 161 = some (false, .aload_n 0, 0) := rfl
theorem gi62_162 : gx_ins 62 162 = some (false, .iconst 2, 0) := rfl
theorem gi62_163 : gx_ins 62 163 = some (false, .iload_n 3, 0) := rfl
theorem gi62_164 : gx_ins 62 164 = some (false, .imul, 0) := rfl
theorem gi62_165 : gx_ins 62 165 = some (false, .iconst 1, 0) := rfl
theorem gi62_166 : gx_ins 62 166 = some (false, .iadd, 0) := rfl
theorem gi62_167 : gx_ins 62 167 = some (false, .bipush 21, 0) := rfl
theorem gi62_169 : gx_ins 62 169 = some (false, .iconst 0, 0) := rfl
theorem gi62_170 : gx_ins 62 170 = some (false, .ldc 94, 0) := rfl
theorem gi62_172 : gx_ins 62 172 = some (false, .invokevirtual 87, 0) := rfl
theorem gi62_175 : gx_ins 62 175 = some (false, .iinc 3 1, 0) := rfl
theorem gi62_178 : gx_ins 62 178 = some (false, .goto (-90), 88) := rfl
theorem gi62_181 : gx_ins 62 181 = some (false, .aload_n 0, 0) := rfl
theorem gi62_182 : gx_ins 62 182 = some (false, .bipush 21, 0) := rfl
theorem gi62_184 : gx_ins 62 184 = some (false, .bipush 20, 0) := rfl
theorem gi62_186 : gx_ins 62 186 = some (false, .iload_n 1, 0) := rfl
theorem gi62_187 : gx_ins 62 187 = some (false, .iload_n 2, 0) := rfl
theorem gi62_188 : gx_ins 62 188 = some (false, .invokevirtual 87, 0) := rfl
theorem gi62_191 : gx_ins 62 191 = some (false, .return_, 0) := rfl
theorem gi63_0 : gx_ins 63 0 = some (false, .iconst 0, 0) := rfl
theorem gi63_1 : gx_ins 63 1 = some (false, .istore_n 1, 0) := rfl
theorem gi63_2 : gx_ins 63 2 = some (true, .iload_n 1, 0) := rfl
theorem gi63_3 : gx_ins 63 3 = some (false, .bipush 24, 0) := rfl
theorem gi63_5 : gx_ins 63 5 = some (false, .if_icmp .ge 16, 21) := rfl
theorem gi63_8 : gx_ins 63 8 = some (false, .aload_n 0, 0) := rfl
theorem gi63_9 : gx_ins 63 9 = some (false, .getfield 44, 0) := rfl
theorem gi63_12 : gx_ins 63 12 = some (false, .iload_n 1, 0) := rfl
theorem gi63_13 : gx_ins 63 13 = some (false, .iconst (-1), 0) := rfl
theorem gi63_14 : gx_ins 63 14 = some (false, .iastore, 0) := rfl
theorem gi63_15 : gx_ins 63 15 = some (false, .iinc 1 1, 0) := rfl
theorem gi63_18 : gx_ins 63 18 = some (false, .goto (-16), 2) := rfl
theorem gi63_21 : gx_ins 63 21 = some (false, .aload_n 0, 0) := rfl
theorem gi63_22 : gx_ins 63 22 = some (false, .getfield 44, 0) := rfl
theorem gi63_25 : gx_ins 63 25 = some (false, .bipush 22, 0) := rfl
theorem gi63_27 : gx_ins 63 27 = some (false, .bipush 22, 0) := rfl
theorem gi63_29 : gx_ins 63 29 = some (false, .iastore, 0) := rfl
theorem gi63_30 : gx_ins 63 30 = some (false, .aload_n 0, 0) := rfl
theorem gi63_31 : gx_ins 63 31 = some (false, .getfield 47, 0) := rfl
theorem gi63_34 : gx_ins 63 34 = some (false, .iconst 0, 0) := rfl
theorem gi63_35 : gx_ins 63 35 = some (false, .bipush 22, 0) := rfl
theorem gi63_37 : gx_ins 63 37 = some (false, .iastore, 0) := rfl
theorem gi63_38 : gx_ins 63 38 = some (false, .iconst 0, 0) := rfl
theorem gi63_39 : gx_ins 63 39 = some (false, .istore_n 1, 0) := rfl
theorem gi63_40 : gx_ins 63 40 = some (false, .iconst 1, 0) := rfl
theorem gi63_41 : gx_ins 63 41 = some (false, .istore_n 2, 0) := rfl
theorem gi63_42 : gx_ins 63 42 = some (true, .iload_n 1, 0) := rfl
theorem gi63_43 : gx_ins 63 43 = some (false, .iload_n 2, 0) := rfl
theorem gi63_44 : gx_ins 63 44 = some (false, .if_icmp .ge 86, 130) := rfl
theorem gi63_47 : gx_ins 63 47 = some (false, .aload_n 0, 0) := rfl
theorem gi63_48 : gx_ins 63 48 = some (false, .getfield 44, 0) := rfl
theorem gi63_51 : gx_ins 63 51 = some (false, .bipush 23, 0) := rfl
theorem gi63_53 : gx_ins 63 53 = some (false, .iaload, 0) := rfl
theorem gi63_54 : gx_ins 63 54 = some (false, .ifCond .ge 76, 130) := rfl
theorem gi63_57 : gx_ins 63 57 = some (false, .aload_n 0, 0) := rfl
theorem gi63_58 : gx_ins 63 58 = some (false, .getfield 47, 0) := rfl
theorem gi63_61 : gx_ins 63 61 = some (false, .iload_n 1, 0) := rfl
theorem gi63_62 : gx_ins 63 62 = some (false, .iaload, 0) := rfl
theorem gi63_63 : gx_ins 63 63 = some (false, .istore_n 3, 0) := rfl
theorem gi63_64 : gx_ins 63 64 = some (false, .iinc 1 1, 0) := rfl
theorem gi63_67 : gx_ins 63 67 = some (false, .iconst 0, 0) := rfl
theorem gi63_68 : gx_ins 63 68 = some (false, .istore 4, 0) := rfl
theorem gi63_70 : gx_ins 63 70 = some (true, .iload 4, 0) := rfl
theorem gi63_72 : gx_ins 63 72 = some (false, .bipush 24, 0) := rfl
theorem gi63_74 : gx_ins 63 74 = some (false, .if_icmp .ge 53, 127) := rfl
theorem gi63_77 : gx_ins 63 77 = some (false, .aload_n 0, 0) := rfl
theorem gi63_78 : gx_ins 63 78 = some (false, .getfield 44, 0) := rfl
theorem gi63_81 : gx_ins 63 81 = some (false, .iload 4, 0) := rfl
theorem gi63_83 : gx_ins 63 83 = some (false, .iaload, 0) := rfl
theorem gi63_84 : gx_ins 63 84 = some (false, .ifCond .ge 37, 121) := rfl
theorem gi63_87 : gx_ins 63 87 = some (false, .aload_n 0, 0) := rfl
theorem gi63_88 : gx_ins 63 88 = some (false, .getfield 41, 0) := rfl
theorem gi63_91 : gx_ins 63 91 = some (false, .bipush 24, 0) := rfl
theorem gi63_93 : gx_ins 63 93 = some (false, .iload_n 3, 0) := rfl
theorem gi63_94 : gx_ins 63 94 = some (false, .imul, 0) := rfl
theorem gi63_95 : gx_ins 63 95 = some (false, .iload 4, 0) := rfl
theorem gi63_97 : gx_ins 63 97 = some (false, .iadd, 0) := rfl
theorem gi63_98 : gx_ins 63 98 = some (false, .iaload, 0) := rfl
theorem gi63_99 : gx_ins 63 99 = some (false, .ifCond .le 22, 121) := rfl
theorem gi63_102 : gx_ins 63 102 = some (false, .aload_n 0, 0) := rfl
theorem gi63_103 : gx_ins 63 103 = some (false, .getfield 44, 0) := rfl
theorem gi63_106 : gx_ins 63 106 = some (false, .iload 4, 0) := rfl
theorem gi63_108 : gx_ins 63 108 = some (false, .iload_n 3, 0) := rfl
theorem gi63_109 : gx_ins 63 109 = some (false, .iastore, 0) := rfl
theorem gi63_110 : gx_ins 63 110 = some (false, .aload_n 0, 0) := rfl
theorem gi63_111 : gx_ins 63 111 = some (false, .getfield 47, 0) := rfl
theorem gi63_114 : gx_ins 63 114 = some (false, .iload_n 2, 0) := rfl
theorem gi63_115 : gx_ins 63 115 = some (false, .iload 4, 0) := rfl
theorem gi63_117 : gx_ins 63 117 = some (false, .iastore, 0) := rfl
theorem gi63_118 : gx_ins 63 118 = some (false, .iinc 2 1, 0) := rfl
theorem gi63_121 : gx_ins 63 121 = some (false, .iinc 4 1, 0) := rfl
theorem gi63_124 : gx_ins 63 124 = some (false, .goto (-54), 70) := rfl
theorem gi63_127 : gx_ins 63 127 = some (false, .goto (-85), 42) := rfl
theorem gi63_130 : gx_ins 63 130 = some (false, .aload_n 0, 0) := rfl
theorem gi63_131 : gx_ins 63 131 = some (false, .getfield 44, 0) := rfl
theorem gi63_134 : gx_ins 63 134 = some (false, .bipush 23, 0) := rfl
theorem gi63_136 : gx_ins 63 136 = some (false, .iaload, 0) := rfl
theorem gi63_137 : gx_ins 63 137 = some (false, .ifCond .lt 7, 144) := rfl
theorem gi63_140 : gx_ins 63 140 = some (false, .iconst 1, 0) := rfl
theorem gi63_141 : gx_ins 63 141 = some (false, .goto 4, 145) := rfl
theorem gi63_144 : gx_ins 63 144 = some (false, .iconst 0, 0) := rfl
theorem gi63_145 : gx_ins 63 145 = some (false, .ireturn, 0) := rfl
theorem gi64_0 : gx_ins 64 0 = some (false, .aload_n 0, 0) := rfl
theorem gi64_1 : gx_ins 64 1 = some (false, .iload_n 1, 0) := rfl
theorem gi64_2 : gx_ins 64 2 = some (false, .iload_n 2, 0) := rfl
theorem gi64_3 : gx_ins 64 3 = some (false, .invokevirtual 95, 0) := rfl
theorem gi64_6 : gx_ins 64 6 = some (false, .iconst 0, 0) := rfl
theorem gi64_7 : gx_ins 64 7 = some (false, .istore_n 3, 0) := rfl
theorem gi64_8 : gx_ins 64 8 = some (true, .aload_n 0, 0) := rfl
theorem gi64_9 : gx_ins 64 9 = some (false, .invokevirtual 99, 0) := rfl
theorem gi64_12 : gx_ins 64 12 = some (false, .ifCond .eq 155, 167) := rfl
theorem gi64_15 : gx_ins 64 15 = some (false, .ldc 94, 0) := rfl
theorem gi64_17 : gx_ins 64 17 = some (false, .istore 4, 0) := rfl
theorem gi64_19 : gx_ins 64 19 = some (false, .bipush 23, 0) := rfl
theorem gi64_21 : gx_ins 64 21 = some (false, .istore 5, 0) := rfl
theorem gi64_23 : gx_ins 64 23 = some (true, .iload 5, 0) := rfl
theorem gi64_25 : gx_ins 64 25 = some (false, .bipush 22, 0) := rfl
theorem gi64_27 : gx_ins 64 27 = some (false, .if_icmp .eq 63, 90) := rfl
theorem gi64_30 : gx_ins 64 30 = some (false, .aload_n 0, 0) := rfl
theorem gi64_31 : gx_ins 64 31 = some (false, .getfield 41, 0) := rfl
theorem gi64_34 : gx_ins 64 34 = some (false, .bipush 24, 0) := rfl
theorem gi64_36 : gx_ins 64 36 = some (false, .aload_n 0, 0) := rfl
theorem gi64_37 : gx_ins 64 37 = some (false, .getfield 44, 0) := rfl
theorem gi64_40 : gx_ins 64 40 = some (false, .iload 5, 0) := rfl
theorem gi64_42 : gx_ins 64 42 = some (false, .iaload, 0) := rfl
theorem gi64_43 : gx_ins 64 43 = some (false, .imul, 0) := rfl
theorem gi64_44 : gx_ins 64 44 = some (false, .iload 5, 0) := rfl
theorem gi64_46 : gx_ins 64 46 = some (false, .iadd, 0) := rfl
theorem gi64_47 : gx_ins 64 47 = some (false, .iaload, 0) := rfl
theorem gi64_48 : gx_ins 64 48 = some (false, .iload 4, 0) := rfl
theorem gi64_50 : gx_ins 64 50 = some (false, .if_icmp .ge 24, 74) := rfl
theorem gi64_53 : gx_ins 64 53 = some (false, .aload_n 0, 0) := rfl
theorem gi64_54 : gx_ins 64 54 = some (false, .getfield 41, 0) := rfl
theorem gi64_57 : gx_ins 64 57 = some (false, .bipush 24, 0) := rfl
theorem gi64_59 : gx_ins 64 59 = some (false, .aload_n 0, 0) := rfl
theorem gi64_60 : gx_ins 64 60 = some (false, .getfield 44, 0) := rfl
theorem gi64_63 : gx_ins 64 63 = some (false, .iload 5, 0) := rfl
theorem gi64_65 : gx_ins 64 65 = some (false, .iaload, 0) := rfl
theorem gi64_66 : gx_ins 64 66 = some (false, .imul, 0) := rfl
theorem gi64_67 : gx_ins 64 67 = some (false, .iload 5, 0) := rfl
theorem gi64_69 : gx_ins 64 69 = some (false, .iadd, 0) := rfl
theorem gi64_70 : gx_ins 64 70 = some (false, .iaload, 0) := rfl
theorem gi64_71 : gx_ins 64 71 = some (false, .goto 5, 76) := rfl
theorem gi64_74 : gx_ins 64 74 = some (false, .iload 4, 0) := rfl
theorem gi64_76 : gx_ins 64 76 = some (false, .istore 4, 0) := rfl
theorem gi64_78 : gx_ins 64 78 = some (false, .aload_n 0, 0) := rfl
theorem gi64_79 : gx_ins 64 79 = some (false, .getfield 44, 0) := rfl
theorem gi64_82 : gx_ins 64 82 = some (false, .iload 5, 0) := rfl
theorem gi64_84 : gx_ins 64 84 = some (false, .iaload, 0) := rfl
theorem gi64_85 : gx_ins 64 85 = some (false, .istore 5, 0) := rfl
theorem gi64_87 : gx_ins 64 87 = some (false, .goto (-64), 23) := rfl
theorem gi64_90 : gx_ins 64 90 = some (false, .bipush 23, 0) := rfl
theorem gi64_92 : gx_ins 64 92 = some (false, .istore 5, 0) := rfl
theorem gi64_94 : gx_ins 64 94 = some (true, .iload 5, 0) := rfl
theorem gi64_96 : gx_ins 64 96 = some (false, .bipush 22, 0) := rfl
theorem gi64_98 : gx_ins 64 98 = some (false, .if_icmp .eq 61, 159) := rfl
theorem gi64_101 : gx_ins 64 101 = some (false, .aload_n 0, 0) := rfl
theorem gi64_102 : gx_ins 64 102 = some (false, .getfield 41, 0) := rfl
theorem gi64_105 : gx_ins 64 105 = some (false, .bipush 24, 0) := rfl
theorem gi64_107 : gx_ins 64 107 = some (false, .aload_n 0, 0) := rfl
theorem gi64_108 : gx_ins 64 108 = some (false, .getfield 44, 0) := rfl
theorem gi64_111 : gx_ins 64 111 = some (false, .iload 5, 0) := rfl
theorem gi64_113 : gx_ins 64 113 = some (false, .iaload, 0) := rfl
theorem gi64_114 : gx_ins 64 114 = some (false, .imul, 0) := rfl
theorem gi64_115 : gx_ins 64 115 = some (false, .iload 5, 0) := rfl
theorem gi64_117 : gx_ins 64 117 = some (false, .iadd, 0) := rfl
theorem gi64_118 : gx_ins 64 118 = some (false, .dup2, 0) := rfl
theorem gi64_119 : gx_ins 64 119 = some (false, .iaload, 0) := rfl
theorem gi64_120 : gx_ins 64 120 = some (false, .iload 4, 0) := rfl
theorem gi64_122 : gx_ins 64 122 = some (false, .isub, 0) := rfl
theorem gi64_123 : gx_ins 64 123 = some (false, .iastore, 0) := rfl
theorem gi64_124 : gx_ins 64 124 = some (false, .aload_n 0, 0) := rfl
theorem gi64_125 : gx_ins 64 125 = some (false, .getfield 41, 0) := rfl
theorem gi64_128 : gx_ins 64 128 = some (false, .bipush 24, 0) := rfl
theorem gi64_130 : gx_ins 64 130 = some (false, .iload 5, 0) := rfl
theorem gi64_132 : gx_ins 64 132 = some (false, .imul, 0) := rfl
theorem gi64_133 : gx_ins 64 133 = some (false, .aload_n 0, 0) := rfl
theorem gi64_134 : gx_ins 64 134 = some (false, .getfield 44, 0) := rfl
theorem gi64_137 : gx_ins 64 137 = some (false, .iload 5, 0) := rfl
theorem gi64_139 : gx_ins 64 139 = some (false, .iaload, 0) := rfl
theorem gi64_140 : gx_ins 64 140 = some (false, .iadd, 0) := rfl
theorem gi64_141 : gx_ins 64 141 = some (false, .dup2, 0) := rfl
theorem gi64_142 : gx_ins 64 142 = some (false, .iaload, 0) := rfl
theorem gi64_143 : gx_ins 64 143 = some (false, .iload 4, 0) := rfl
theorem gi64_145 : gx_ins 64 145 = some (false, .iadd, 0) := rfl
theorem gi64_146 : gx_ins 64 146 = some (false, .iastore, 0) := rfl
theorem gi64_147 : gx_ins 64 147 = some (false, .aload_n 0, 0) := rfl
theorem gi64_148 : gx_ins 64 148 = some (false, .getfield 44, 0) := rfl
theorem gi64_151 : gx_ins 64 151 = some (false, .iload 5, 0) := rfl
theorem gi64_153 : gx_ins 64 153 = some (false, .iaload, 0) := rfl
theorem gi64_154 : gx_ins 64 154 = some (false, .istore 5, 0) := rfl
theorem gi64_156 : gx_ins 64 156 = some (false, .goto (-62), 94) := rfl
theorem gi64_159 : gx_ins 64 159 = some (false, .iload_n 3, 0) := rfl
theorem gi64_160 : gx_ins 64 160 = some (false, .iload 4, 0) := rfl
theorem gi64_162 : gx_ins 64 162 = some (false, .iadd, 0) := rfl
theorem gi64_163 : gx_ins 64 163 = some (false, .istore_n 3, 0) := rfl
theorem gi64_164 : gx_ins 64 164 = some (false, .goto (-156), 8) := rfl
theorem gi64_167 : gx_ins 64 167 = some (false, .iload_n 3, 0) := rfl
theorem gi64_168 : gx_ins 64 168 = some (false, .aload_n 0, 0) := rfl
theorem gi64_169 : gx_ins 64 169 = some (false, .getfield 80, 0) := rfl
theorem gi64_172 : gx_ins 64 172 = some (false, .if_icmp .ne 7, 179) := rfl
theorem gi64_175 : gx_ins 64 175 = some (false, .iconst 1, 0) := rfl
theorem gi64_176 : gx_ins 64 176 = some (false, .goto 4, 180) := rfl
theorem gi64_179 : gx_ins 64 179 = some (false, .iconst 0, 0) := rfl
theorem gi64_180 : gx_ins 64 180 = some (false, .ireturn, 0) := rfl
theorem gi65_0 : gx_ins 65 0 = some (false, .iconst 0, 0) := rfl
theorem gi65_1 : gx_ins 65 1 = some (false, .istore_n 1, 0) := rfl
theorem gi65_2 : gx_ins 65 2 = some (true, .iload_n 1, 0) := rfl
theorem gi65_3 : gx_ins 65 3 = some (false, .aload_n 0, 0) := rfl
theorem gi65_4 : gx_ins 65 4 = some (false, .getfield 84, 0) := rfl
theorem gi65_7 : gx_ins 65 7 = some (false, .if_icmp .ge 33, 40) := rfl
theorem gi65_10 : gx_ins 65 10 = some (false, .aload_n 0, 0) := rfl
theorem gi65_11 : gx_ins 65 11 = some (false, .getfield 32, 0) := rfl
theorem gi65_14 : gx_ins 65 14 = some (false, .iload_n 1, 0) := rfl
theorem gi65_15 : gx_ins 65 15 = some (false, .aload_n 0, 0) := rfl
theorem gi65_16 : gx_ins 65 16 = some (false, .getfield 22, 0) := rfl
theorem gi65_19 : gx_ins 65 19 = some (false, .iload_n 1, 0) := rfl
theorem gi65_20 : gx_ins 65 20 = some (false, .iaload, 0) := rfl
theorem gi65_21 : gx_ins 65 21 = some (false, .iastore, 0) := rfl
theorem gi65_22 : gx_ins 65 22 = some (false, .aload_n 0, 0) := rfl
theorem gi65_23 : gx_ins 65 23 = some (false, .getfield 35, 0) := rfl
theorem gi65_26 : gx_ins 65 26 = some (false, .iload_n 1, 0) := rfl
theorem gi65_27 : gx_ins 65 27 = some (false, .aload_n 0, 0) := rfl
theorem gi65_28 : gx_ins 65 28 = some (false, .getfield 25, 0) := rfl
theorem gi65_31 : gx_ins 65 31 = some (false, .iload_n 1, 0) := rfl
theorem gi65_32 : gx_ins 65 32 = some (false, .iaload, 0) := rfl
theorem gi65_33 : gx_ins 65 33 = some (false, .iastore, 0) := rfl
theorem gi65_34 : gx_ins 65 34 = some (false, .iinc 1 1, 0) := rfl
theorem gi65_37 : gx_ins 65 37 = some (false, .goto (-35), 2) := rfl
theorem gi65_40 : gx_ins 65 40 = some (false, .iconst 0, 0) := rfl
theorem gi65_41 : gx_ins 65 41 = some (false, .istore_n 1, 0) := rfl
theorem gi65_42 : gx_ins 65 42 = some (true, .iload_n 1, 0) := rfl
theorem gi65_43 : gx_ins 65 43 = some (false, .aload_n 0, 0) := rfl
theorem gi65_44 : gx_ins 65 44 = some (false, .getfield 91, 0) := rfl
theorem gi65_47 : gx_ins 65 47 = some (false, .if_icmp .ge 21, 68) := rfl
theorem gi65_50 : gx_ins 65 50 = some (false, .aload_n 0, 0) := rfl
theorem gi65_51 : gx_ins 65 51 = some (false, .getfield 38, 0) := rfl
theorem gi65_54 : gx_ins 65 54 = some (false, .iload_n 1, 0) := rfl
theorem gi65_55 : gx_ins 65 55 = some (false, .aload_n 0, 0) := rfl
theorem gi65_56 : gx_ins 65 56 = some (false, .getfield 7, 0) := rfl
theorem gi65_59 : gx_ins 65 59 = some (false, .iload_n 1, 0) := rfl
theorem gi65_60 : gx_ins 65 60 = some (false, .iaload, 0) := rfl
theorem gi65_61 : gx_ins 65 61 = some (false, .iastore, 0) := rfl
theorem gi65_62 : gx_ins 65 62 = some (false, .iinc 1 1, 0) := rfl
theorem gi65_65 : gx_ins 65 65 = some (false, .goto (-23), 42) := rfl
theorem gi65_68 : gx_ins 65 68 = some (false, .return_, 0) := rfl
theorem gi66_0 : gx_ins 66 0 = some (false, .iconst 0, 0) := rfl
theorem gi66_1 : gx_ins 66 1 = some (false, .istore_n 1, 0) := rfl
theorem gi66_2 : gx_ins 66 2 = some (false, .ldc 94, 0) := rfl
theorem gi66_4 : gx_ins 66 4 = some (false, .istore_n 2, 0) := rfl
theorem gi66_5 : gx_ins 66 5 = some (true, .iload_n 2, 0) := rfl
theorem gi66_6 : gx_ins 66 6 = some (false, .iload_n 1, 0) := rfl
theorem gi66_7 : gx_ins 66 7 = some (false, .isub, 0) := rfl
theorem gi66_8 : gx_ins 66 8 = some (false, .iconst 1, 0) := rfl
theorem gi66_9 : gx_ins 66 9 = some (false, .if_icmp .le 29, 38) := rfl
theorem gi66_12 : gx_ins 66 12 = some (false, .iload_n 1, 0) := rfl
theorem gi66_13 : gx_ins 66 13 = some (false, .iload_n 2, 0) := rfl
theorem gi66_14 : gx_ins 66 14 = some (false, .iadd, 0) := rfl
theorem gi66_15 : gx_ins 66 15 = some (false, .iconst 2, 0) := rfl
theorem gi66_16 : gx_ins 66 16 = some (false, .idiv, 0) := rfl
theorem gi66_17 : gx_ins 66 17 = some (false, .istore_n 3, 0) := rfl
theorem gi66_18 : gx_ins 66 18 = some (false, .aload_n 0, 0) := rfl
theorem gi66_19 : gx_ins 66 19 = some (false, .iload_n 3, 0) := rfl
theorem gi66_20 : gx_ins 66 20 = some (false, .ldc 94, 0) := rfl
theorem gi66_22 : gx_ins 66 22 = some (false, .invokevirtual 103, 0) := rfl
theorem gi66_25 : gx_ins 66 25 = some (false, .ifCond .eq 8, 33) := rfl
theorem gi66_28 : gx_ins 66 28 = some (false, .iload_n 3, 0) := rfl
theorem gi66_29 : gx_ins 66 29 = some (false, .istore_n 1, 0) := rfl
theorem gi66_30 : gx_ins 66 30 = some (false, .goto 5, 35) := rfl
theorem gi66_33 : gx_ins 66 33 = some (false, .iload_n 3, 0) := rfl
theorem gi66_34 : gx_ins 66 34 = some (false, .istore_n 2, 0) := rfl
theorem gi66_35 : gx_ins 66 35 = some (false, .goto (-30), 5) := rfl
theorem gi66_38 : gx_ins 66 38 = some (false, .iload_n 1, 0) := rfl
theorem gi66_39 : gx_ins 66 39 = some (false, .ireturn, 0) := rfl
theorem gi67_0 : gx_ins 67 0 = some (false, .iconst (-1), 0) := rfl
theorem gi67_1 : gx_ins 67 1 = some (false, .istore_n 1, 0) := rfl
theorem gi67_2 : gx_ins 67 2 = some (false, .ldc 94, 0) := rfl
theorem gi67_4 : gx_ins 67 4 = some (false, .istore_n 2, 0) := rfl
theorem gi67_5 : gx_ins 67 5 = some (true, .iload_n 2, 0) := rfl
theorem gi67_6 : gx_ins 67 6 = some (false, .iload_n 1, 0) := rfl
theorem gi67_7 : gx_ins 67 7 = some (false, .isub, 0) := rfl
theorem gi67_8 : gx_ins 67 8 = some (false, .iconst 1, 0) := rfl
theorem gi67_9 : gx_ins 67 9 = some (false, .if_icmp .le 28, 37) := rfl
theorem gi67_12 : gx_ins 67 12 = some (false, .iload_n 1, 0) := rfl
theorem gi67_13 : gx_ins 67 13 = some (false, .iload_n 2, 0) := rfl
theorem gi67_14 : gx_ins 67 14 = some (false, .iadd, 0) := rfl
theorem gi67_15 : gx_ins 67 15 = some (false, .iconst 2, 0) := rfl
theorem gi67_16 : gx_ins 67 16 = some (false, .idiv, 0) := rfl
theorem gi67_17 : gx_ins 67 17 = some (false, .istore_n 3, 0) := rfl
theorem gi67_18 : gx_ins 67 18 = some (false, .aload_n 0, 0) := rfl
theorem gi67_19 : gx_ins 67 19 = some (false, .iconst 0, 0) := rfl
theorem gi67_20 : gx_ins 67 20 = some (false, .iload_n 3, 0) := rfl
theorem gi67_21 : gx_ins 67 21 = some (false, .invokevirtual 103, 0) := rfl
theorem gi67_24 : gx_ins 67 24 = some (false, .ifCond .eq 8, 32) := rfl
theorem gi67_27 : gx_ins 67 27 = some (false, .iload_n 3, 0) := rfl
theorem gi67_28 : gx_ins 67 28 = some (false, .istore_n 2, 0) := rfl
theorem gi67_29 : gx_ins 67 29 = some (false, .goto 5, 34) := rfl
theorem gi67_32 : gx_ins 67 32 = some (false, .iload_n 3, 0) := rfl
theorem gi67_33 : gx_ins 67 33 = some (false, .istore_n 1, 0) := rfl
theorem gi67_34 : gx_ins 67 34 = some (false, .goto (-29), 5) := rfl
theorem gi67_37 : gx_ins 67 37 = some (false, .iload_n 2, 0) := rfl
theorem gi67_38 : gx_ins 67 38 = some (false, .ireturn, 0) := rfl
theorem gi68_0 : gx_ins 68 0 = some (false, .aload_n 0, 0) := rfl
theorem gi68_1 : gx_ins 68 1 = some (false, .invokevirtual 107, 0) := rfl
theorem gi68_4 : gx_ins 68 4 = some (false, .aload_n 0, 0) := rfl
theorem gi68_5 : gx_ins 68 5 = some (false, .getfield 50, 0) := rfl
theorem gi68_8 : gx_ins 68 8 = some (false, .iload_n 1, 0) := rfl
theorem gi68_9 : gx_ins 68 9 = some (false, .iload_n 1, 0) := rfl
theorem gi68_10 : gx_ins 68 10 = some (false, .ifCond .ne 10, 20) := rfl
theorem gi68_13 : gx_ins 68 13 = some (false, .aload_n 0, 0) := rfl
theorem gi68_14 : gx_ins 68 14 = some (false, .invokevirtual 110, 0) := rfl
theorem gi68_17 : gx_ins 68 17 = some (false, .goto 7, 24) := rfl
theorem gi68_20 : gx_ins 68 20 = some (false, .aload_n 0, 0) := rfl
theorem gi68_21 : gx_ins 68 21 = some (false, .invokevirtual 114, 0) := rfl
theorem gi68_24 : gx_ins 68 24 = some (false, .iastore, 0) := rfl
theorem gi68_25 : gx_ins 68 25 = some (false, .iconst 0, 0) := rfl
theorem gi68_26 : gx_ins 68 26 = some (false, .istore_n 2, 0) := rfl
theorem gi68_27 : gx_ins 68 27 = some (true, .iload_n 2, 0) := rfl
theorem gi68_28 : gx_ins 68 28 = some (false, .aload_n 0, 0) := rfl
theorem gi68_29 : gx_ins 68 29 = some (false, .getfield 84, 0) := rfl
theorem gi68_32 : gx_ins 68 32 = some (false, .if_icmp .ge 123, 155) := rfl
theorem gi68_35 : gx_ins 68 35 = some (false, .aload_n 0, 0) := rfl
theorem gi68_36 : gx_ins 68 36 = some (false, .getfield 28, 0) := rfl
theorem gi68_39 : gx_ins 68 39 = some (false, .iload_n 2, 0) := rfl
theorem gi68_40 : gx_ins 68 40 = some (false, .baload, 0) := rfl
theorem gi68_41 : gx_ins 68 41 = some (false, .ifCond .ne 6, 47) := rfl
theorem gi68_44 : gx_ins 68 44 = some (false, .goto 105, 149) := rfl
theorem gi68_47 : gx_ins 68 47 = some (false, .aload_n 0, 0) := rfl
theorem gi68_48 : gx_ins 68 48 = some (false, .getfield 32, 0) := rfl
theorem gi68_51 : gx_ins 68 51 = some (false, .iload_n 2, 0) := rfl
theorem gi68_52 : gx_ins 68 52 = some (false, .iaload, 0) := rfl
theorem gi68_53 : gx_ins 68 53 = some (false, .iconst 1, 0) := rfl
theorem gi68_54 : gx_ins 68 54 = some (false, .isub, 0) := rfl
theorem gi68_55 : gx_ins 68 55 = some (false, .istore_n 3, 0) := rfl
theorem gi68_56 : gx_ins 68 56 = some (false, .aload_n 0, 0) := rfl
theorem gi68_57 : gx_ins 68 57 = some (false, .getfield 35, 0) := rfl
theorem gi68_60 : gx_ins 68 60 = some (false, .iload_n 2, 0) := rfl
theorem gi68_61 : gx_ins 68 61 = some (false, .iaload, 0) := rfl
theorem gi68_62 : gx_ins 68 62 = some (false, .istore 4, 0) := rfl
theorem gi68_64 : gx_ins 68 64 = some (true, .iload 4, 0) := rfl
theorem gi68_66 : gx_ins 68 66 = some (false, .iload_n 3, 0) := rfl
theorem gi68_67 : gx_ins 68 67 = some (false, .isub, 0) := rfl
theorem gi68_68 : gx_ins 68 68 = some (false, .iconst 1, 0) := rfl
theorem gi68_69 : gx_ins 68 69 = some (false, .if_icmp .le 51, 120) := rfl
theorem gi68_72 : gx_ins 68 72 = some (false, .iload_n 3, 0) := rfl
theorem gi68_73 : gx_ins 68 73 = some (false, .iload 4, 0) := rfl
theorem gi68_75 : gx_ins 68 75 = some (false, .iadd, 0) := rfl
theorem gi68_76 : gx_ins 68 76 = some (false, .iconst 2, 0) := rfl
theorem gi68_77 : gx_ins 68 77 = some (false, .idiv, 0) := rfl
theorem gi68_78 : gx_ins 68 78 = some (false, .istore 5, 0) := rfl
theorem gi68_80 : gx_ins 68 80 = some (false, .aload_n 0, 0) := rfl
theorem gi68_81 : gx_ins 68 81 = some (false, .getfield 35, 0) := rfl
theorem gi68_84 : gx_ins 68 84 = some (false, .iload_n 2, 0) := rfl
theorem gi68_85 : gx_ins 68 85 = some (false, .iload 5, 0) := rfl
theorem gi68_87 : gx_ins 68 87 = some (false, .iastore, 0) := rfl
theorem gi68_88 : gx_ins 68 88 = some (false, .aload_n 0, 0) := rfl
theorem gi68_89 : gx_ins 68 89 = some (false, .aload_n 0, 0) := rfl
theorem gi68_90 : gx_ins 68 90 = some (false, .getfield 50, 0) := rfl
theorem gi68_93 : gx_ins 68 93 = some (false, .iload_n 1, 0) := rfl
theorem gi68_94 : gx_ins 68 94 = some (false, .iaload, 0) := rfl
theorem gi68_95 : gx_ins 68 95 = some (false, .aload_n 0, 0) := rfl
theorem gi68_96 : gx_ins 68 96 = some (false, .getfield 50, 0) := rfl
theorem gi68_99 : gx_ins 68 99 = some (false, .iload_n 1, 0) := rfl
theorem gi68_100 : gx_ins 68 100 = some (false, .iaload, 0) := rfl
theorem gi68_101 : gx_ins 68 101 = some (false, .invokevirtual 103, 0) := rfl
theorem gi68_104 : gx_ins 68 104 = some (false, .ifCond .eq 10, 114) := rfl
theorem gi68_107 : gx_ins 68 107 = some (false, .iload 5, 0) := rfl
theorem gi68_109 : gx_ins 68 109 = some (false, .istore 4, 0) := rfl
theorem gi68_111 : gx_ins 68 111 = some (false, .goto 6, 117) := rfl
theorem gi68_114 : gx_ins 68 114 = some (false, .iload 5, 0) := rfl
theorem gi68_116 : gx_ins 68 116 = some (false, .istore_n 3, 0) := rfl
theorem gi68_117 : gx_ins 68 117 = some (false, .goto (-53), 64) := rfl
theorem gi68_120 : gx_ins 68 120 = some (false, .aload_n 0, 0) := rfl
theorem gi68_121 : gx_ins 68 121 = some (false, .getfield 32, 0) := rfl
theorem gi68_124 : gx_ins 68 124 = some (false, .iload_n 2, 0) := rfl
theorem gi68_125 : gx_ins 68 125 = some (false, .iload 4, 0) := rfl
theorem gi68_127 : gx_ins 68 127 = some (false, .iastore, 0) := rfl
theorem gi68_128 : gx_ins 68 128 = some (false, .aload_n 0, 0) := rfl
theorem gi68_129 : gx_ins 68 129 = some (false, .getfield 35, 0) := rfl
theorem gi68_132 : gx_ins 68 132 = some (false, .iload_n 2, 0) := rfl
theorem gi68_133 : gx_ins 68 133 = some (false, .iload 4, 0) := rfl
theorem gi68_135 : gx_ins 68 135 = some (false, .iastore, 0) := rfl
theorem gi68_136 : gx_ins 68 136 = some (false, .aload_n 0, 0) := rfl
theorem gi68_137 : gx_ins 68 137 = some (false, .getfield 53, 0) := rfl
theorem gi68_140 : gx_ins 68 140 = some (false, .bipush 40, 0) := rfl
theorem gi68_142 : gx_ins 68 142 = some (false, .iload_n 1, 0) := rfl
theorem gi68_143 : gx_ins 68 143 = some (false, .imul, 0) := rfl
theorem gi68_144 : gx_ins 68 144 = some (false, .iload_n 2, 0) := rfl
theorem gi68_145 : gx_ins 68 145 = some (false, .iadd, 0) := rfl
theorem gi68_146 : gx_ins 68 146 = some (false, .iload 4, 0) := rfl
theorem gi68_148 : gx_ins 68 148 = some (false, .iastore, 0) := rfl
theorem gi68_149 : gx_ins 68 149 = some (false, .iinc 2 1, 0) := rfl
theorem gi68_152 : gx_ins 68 152 = some (false, .goto (-125), 27) := rfl
theorem gi68_155 : gx_ins 68 155 = some (false, .return_, 0) := rfl
theorem gi69_0 : gx_ins 69 0 = some (false, .aload_n 0, 0) := rfl
theorem gi69_1 : gx_ins 69 1 = some (false, .invokevirtual 107, 0) := rfl
theorem gi69_4 : gx_ins 69 4 = some (false, .aload_n 0, 0) := rfl
theorem gi69_5 : gx_ins 69 5 = some (false, .getfield 84, 0) := rfl
theorem gi69_8 : gx_ins 69 8 = some (false, .iconst 1, 0) := rfl
theorem gi69_9 : gx_ins 69 9 = some (false, .isub, 0) := rfl
theorem gi69_10 : gx_ins 69 10 = some (false, .istore_n 1, 0) := rfl
theorem gi69_11 : gx_ins 69 11 = some (true, .iload_n 1, 0) := rfl
theorem gi69_12 : gx_ins 69 12 = some (false, .ifCond .lt 73, 85) := rfl
theorem gi69_15 : gx_ins 69 15 = some (false, .aload_n 0, 0) := rfl
theorem gi69_16 : gx_ins 69 16 = some (false, .getfield 56, 0) := rfl
theorem gi69_19 : gx_ins 69 19 = some (false, .iload_n 1, 0) := rfl
theorem gi69_20 : gx_ins 69 20 = some (false, .iconst 0, 0) := rfl
theorem gi69_21 : gx_ins 69 21 = some (false, .bastore, 0) := rfl
theorem gi69_22 : gx_ins 69 22 = some (false, .aload_n 0, 0) := rfl
theorem gi69_23 : gx_ins 69 23 = some (false, .getfield 28, 0) := rfl
theorem gi69_26 : gx_ins 69 26 = some (false, .iload_n 1, 0) := rfl
theorem gi69_27 : gx_ins 69 27 = some (false, .baload, 0) := rfl
theorem gi69_28 : gx_ins 69 28 = some (false, .ifCond .eq 51, 79) := rfl
theorem gi69_31 : gx_ins 69 31 = some (false, .aload_n 0, 0) := rfl
theorem gi69_32 : gx_ins 69 32 = some (false, .getfield 22, 0) := rfl
theorem gi69_35 : gx_ins 69 35 = some (false, .iload_n 1, 0) := rfl
theorem gi69_36 : gx_ins 69 36 = some (false, .iaload, 0) := rfl
theorem gi69_37 : gx_ins 69 37 = some (false, .ifCond .ne 6, 43) := rfl
theorem gi69_40 : gx_ins 69 40 = some (false, .goto 39, 79) := rfl
theorem gi69_43 : gx_ins 69 43 = some (false, .aload_n 0, 0) := rfl
theorem gi69_44 : gx_ins 69 44 = some (false, .getfield 32, 0) := rfl
theorem gi69_47 : gx_ins 69 47 = some (false, .iload_n 1, 0) := rfl
theorem gi69_48 : gx_ins 69 48 = some (false, .iconst 0, 0) := rfl
theorem gi69_49 : gx_ins 69 49 = some (false, .iastore, 0) := rfl
theorem gi69_50 : gx_ins 69 50 = some (false, .aload_n 0, 0) := rfl
theorem gi69_51 : gx_ins 69 51 = some (false, .iconst 0, 0) := rfl
theorem gi69_52 : gx_ins 69 52 = some (false, .ldc 94, 0) := rfl
theorem gi69_54 : gx_ins 69 54 = some (false, .invokevirtual 103, 0) := rfl
theorem gi69_57 : gx_ins 69 57 = some (false, .ifCond .eq 22, 79) := rfl
theorem gi69_60 : gx_ins 69 60 = some (false, .aload_n 0, 0) := rfl
theorem gi69_61 : gx_ins 69 61 = some (false, .getfield 32, 0) := rfl
theorem gi69_64 : gx_ins 69 64 = some (false, .iload_n 1, 0) := rfl
theorem gi69_65 : gx_ins 69 65 = some (false, .aload_n 0, 0) := rfl
theorem gi69_66 : gx_ins 69 66 = some (false, .getfield 22, 0) := rfl
theorem gi69_69 : gx_ins 69 69 = some (false, .iload_n 1, 0) := rfl
theorem gi69_70 : gx_ins 69 70 = some (false, .iaload, 0) := rfl
theorem gi69_71 : gx_ins 69 71 = some (false, .iastore, 0) := rfl
theorem gi69_72 : gx_ins 69 72 = some (false, .aload_n 0, 0) := rfl
theorem gi69_73 : gx_ins 69 73 = some (false, .getfield 56, 0) := rfl
theorem gi69_76 : gx_ins 69 76 = some (false, .iload_n 1, 0) := rfl
theorem gi69_77 : gx_ins 69 77 = some (false, .iconst 1, 0) := rfl
theorem gi69_78 : gx_ins 69 78 = some (false, .bastore, 0) := rfl
theorem gi69_79 : gx_ins 69 79 = some (false, .iinc 1 (-1), 0) := rfl
theorem gi69_82 : gx_ins 69 82 = some (false, .goto (-71), 11) := rfl
theorem gi69_85 : gx_ins 69 85 = some (false, .return_, 0) := rfl
theorem gi70_0 : gx_ins 70 0 = some (false, .aload_n 0, 0) := rfl
theorem gi70_1 : gx_ins 70 1 = some (false, .getfield 117, 0) := rfl
theorem gi70_4 : gx_ins 70 4 = some (false, .ifCond .eq 4, 8) := rfl
theorem gi70_7 : gx_ins 70 7 = some (false, .return_, 0) := rfl
theorem gi70_8 : gx_ins 70 8 = some (false, .aload_n 0, 0) := rfl
theorem gi70_9 : gx_ins 70 9 = some (false, .iconst 1, 0) := rfl
theorem gi70_10 : gx_ins 70 10 = some (false, .putfield 117, 0) := rfl
theorem gi70_13 : gx_ins 70 13 = some (false, .aload_n 0, 0) := rfl
theorem gi70_14 : gx_ins 70 14 = some (false, .invokevirtual 107, 0) := rfl
theorem gi70_17 : gx_ins 70 17 = some (false, .aload_n 0, 0) := rfl
theorem gi70_18 : gx_ins 70 18 = some (false, .aload_n 0, 0) := rfl
theorem gi70_19 : gx_ins 70 19 = some (false, .iconst 0, 0) := rfl
theorem gi70_20 : gx_ins 70 20 = some (false, .ldc 94, 0) := rfl
theorem gi70_22 : gx_ins 70 22 = some (false, .invokevirtual 103, 0) := rfl
theorem gi70_25 : gx_ins 70 25 = some (false, .putfield 121, 0) := rfl
theorem gi70_28 : gx_ins 70 28 = some (false, .aload_n 0, 0) := rfl
theorem gi70_29 : gx_ins 70 29 = some (false, .getfield 121, 0) := rfl
theorem gi70_32 : gx_ins 70 32 = some (false, .ifCond .eq 20, 52) := rfl
theorem gi70_35 : gx_ins 70 35 = some (false, .aload_n 0, 0) := rfl
theorem gi70_36 : gx_ins 70 36 = some (false, .iconst 0, 0) := rfl
theorem gi70_37 : gx_ins 70 37 = some (false, .invokevirtual 124, 0) := rfl
theorem gi70_40 : gx_ins 70 40 = some (false, .aload_n 0, 0) := rfl
theorem gi70_41 : gx_ins 70 41 = some (false, .iconst 1, 0) := rfl
theorem gi70_42 : gx_ins 70 42 = some (false, .invokevirtual 124, 0) := rfl
theorem gi70_45 : gx_ins 70 45 = some (false, .aload_n 0, 0) := rfl
theorem gi70_46 : gx_ins 70 46 = some (false, .invokevirtual 128, 0) := rfl
theorem gi70_49 : gx_ins 70 49 = some (false, .goto 7, 56) := rfl
theorem gi70_52 : gx_ins 70 52 = some (false, .aload_n 0, 0) := rfl
theorem gi70_53 : gx_ins 70 53 = some (false, .invokevirtual 131, 0) := rfl
theorem gi70_56 : gx_ins 70 56 = some (false, .return_, 0) := rfl
theorem gi71_0 : gx_ins 71 0 = some (false, .iconst 0, 0) := rfl
theorem gi71_1 : gx_ins 71 1 = some (false, .istore_n 3, 0) := rfl
theorem gi71_2 : gx_ins 71 2 = some (false, .iconst 0, 0) := rfl
theorem gi71_3 : gx_ins 71 3 = some (false, .istore 4, 0) := rfl
theorem gi71_5 : gx_ins 71 5 = some (true, .iload 4, 0) := rfl
theorem gi71_7 : gx_ins 71 7 = some (false, .aload_n 0, 0) := rfl
theorem gi71_8 : gx_ins 71 8 = some (false, .getfield 84, 0) := rfl
theorem gi71_11 : gx_ins 71 11 = some (false, .if_icmp .ge 49, 60) := rfl
theorem gi71_14 : gx_ins 71 14 = some (false, .iload_n 3, 0) := rfl
theorem gi71_15 : gx_ins 71 15 = some (false, .aload_n 0, 0) := rfl
theorem gi71_16 : gx_ins 71 16 = some (false, .getfield 28, 0) := rfl
theorem gi71_19 : gx_ins 71 19 = some (false, .iload 4, 0) := rfl
theorem gi71_21 : gx_ins 71 21 = some (false, .baload, 0) := rfl
theorem gi71_22 : gx_ins 71 22 = some (false, .ifCond .eq 29, 51) := rfl
theorem gi71_25 : gx_ins 71 25 = some (false, .aload_n 0, 0) := rfl
theorem gi71_26 : gx_ins 71 26 = some (false, .getfield 19, 0) := rfl
theorem gi71_29 : gx_ins 71 29 = some (false, .iload 4, 0) := rfl
theorem gi71_31 : gx_ins 71 31 = some (false, .iaload, 0) := rfl
theorem gi71_32 : gx_ins 71 32 = some (false, .iload_n 2, 0) := rfl
theorem gi71_33 : gx_ins 71 33 = some (false, .if_icmp .ne 18, 51) := rfl
theorem gi71_36 : gx_ins 71 36 = some (false, .aload_n 0, 0) := rfl
theorem gi71_37 : gx_ins 71 37 = some (false, .getfield 53, 0) := rfl
theorem gi71_40 : gx_ins 71 40 = some (false, .bipush 40, 0) := rfl
theorem gi71_42 : gx_ins 71 42 = some (false, .iload_n 1, 0) := rfl
theorem gi71_43 : gx_ins 71 43 = some (false, .imul, 0) := rfl
theorem gi71_44 : gx_ins 71 44 = some (false, .iload 4, 0) := rfl
theorem gi71_46 : gx_ins 71 46 = some (false, .iadd, 0) := rfl
theorem gi71_47 : gx_ins 71 47 = some (false, .iaload, 0) := rfl
theorem gi71_48 : gx_ins 71 48 = some (false, .goto 4, 52) := rfl
theorem gi71_51 : gx_ins 71 51 = some (false, .iconst 0, 0) := rfl
theorem gi71_52 : gx_ins 71 52 = some (false, .iadd, 0) := rfl
theorem gi71_53 : gx_ins 71 53 = some (false, .istore_n 3, 0) := rfl
theorem gi71_54 : gx_ins 71 54 = some (false, .iinc 4 1, 0) := rfl
theorem gi71_57 : gx_ins 71 57 = some (false, .goto (-52), 5) := rfl
theorem gi71_60 : gx_ins 71 60 = some (false, .iload_n 3, 0) := rfl
theorem gi71_61 : gx_ins 71 61 = some (false, .ireturn, 0) := rfl
theorem gi72_0 : gx_ins 72 0 = some (false, .iconst 0, 0) := rfl
theorem gi72_1 : gx_ins 72 1 = some (false, .istore_n 3, 0) := rfl
theorem gi72_2 : gx_ins 72 2 = some (false, .iconst 0, 0) := rfl
theorem gi72_3 : gx_ins 72 3 = some (false, .istore 4, 0) := rfl
theorem gi72_5 : gx_ins 72 5 = some (true, .iload 4, 0) := rfl
theorem gi72_7 : gx_ins 72 7 = some (false, .aload_n 0, 0) := rfl
theorem gi72_8 : gx_ins 72 8 = some (false, .getfield 84, 0) := rfl
theorem gi72_11 : gx_ins 72 11 = some (false, .if_icmp .ge 49, 60) := rfl
theorem gi72_14 : gx_ins 72 14 = some (false, .iload_n 3, 0) := rfl
theorem gi72_15 : gx_ins 72 15 = some (false, .aload_n 0, 0) := rfl
theorem gi72_16 : gx_ins 72 16 = some (false, .getfield 28, 0) := rfl
theorem gi72_19 : gx_ins 72 19 = some (false, .iload 4, 0) := rfl
theorem gi72_21 : gx_ins 72 21 = some (false, .baload, 0) := rfl
theorem gi72_22 : gx_ins 72 22 = some (false, .ifCond .eq 29, 51) := rfl
theorem gi72_25 : gx_ins 72 25 = some (false, .aload_n 0, 0) := rfl
theorem gi72_26 : gx_ins 72 26 = some (false, .getfield 16, 0) := rfl
theorem gi72_29 : gx_ins 72 29 = some (false, .iload 4, 0) := rfl
theorem gi72_31 : gx_ins 72 31 = some (false, .iaload, 0) := rfl
theorem gi72_32 : gx_ins 72 32 = some (false, .iload_n 2, 0) := rfl
theorem gi72_33 : gx_ins 72 33 = some (false, .if_icmp .ne 18, 51) := rfl
theorem gi72_36 : gx_ins 72 36 = some (false, .aload_n 0, 0) := rfl
theorem gi72_37 : gx_ins 72 37 = some (false, .getfield 53, 0) := rfl
theorem gi72_40 : gx_ins 72 40 = some (false, .bipush 40, 0) := rfl
theorem gi72_42 : gx_ins 72 42 = some (false, .iload_n 1, 0) := rfl
theorem gi72_43 : gx_ins 72 43 = some (false, .imul, 0) := rfl
theorem gi72_44 : gx_ins 72 44 = some (false, .iload 4, 0) := rfl
theorem gi72_46 : gx_ins 72 46 = some (false, .iadd, 0) := rfl
theorem gi72_47 : gx_ins 72 47 = some (false, .iaload, 0) := rfl
theorem gi72_48 : gx_ins 72 48 = some (false, .goto 4, 52) := rfl
theorem gi72_51 : gx_ins 72 51 = some (false, .iconst 0, 0) := rfl
theorem gi72_52 : gx_ins 72 52 = some (false, .iadd, 0) := rfl
theorem gi72_53 : gx_ins 72 53 = some (false, .istore_n 3, 0) := rfl
theorem gi72_54 : gx_ins 72 54 = some (false, .iinc 4 1, 0) := rfl
theorem gi72_57 : gx_ins 72 57 = some (false, .goto (-52), 5) := rfl
theorem gi72_60 : gx_ins 72 60 = some (false, .iload_n 3, 0) := rfl
theorem gi72_61 : gx_ins 72 61 = some (false, .ireturn, 0) := rfl
theorem gi73_0 : gx_ins 73 0 = some (false, .iconst 0, 0) := rfl
theorem gi73_1 : gx_ins 73 1 = some (false, .istore_n 2, 0) := rfl
theorem gi73_2 : gx_ins 73 2 = some (true, .aload_n 0, 0) := rfl
theorem gi73_3 : gx_ins 73 3 = some (false, .getfield 28, 0) := rfl
theorem gi73_6 : gx_ins 73 6 = some (false, .iload_n 2, 0) := rfl
theorem gi73_7 : gx_ins 73 7 = some (false, .baload, 0) := rfl
theorem gi73_8 : gx_ins 73 8 = some (false, .ifCond .eq 22, 30) := rfl
theorem gi73_11 : gx_ins 73 11 = some (false, .aload_n 0, 0) := rfl
theorem gi73_12 : gx_ins 73 12 = some (false, .getfield 16, 0) := rfl
theorem gi73_15 : gx_ins 73 15 = some (false, .iload_n 2, 0) := rfl
theorem gi73_16 : gx_ins 73 16 = some (false, .iaload, 0) := rfl
theorem gi73_17 : gx_ins 73 17 = some (false, .iload_n 1, 0) := rfl
theorem gi73_18 : gx_ins 73 18 = some (false, .if_icmp .ne 12, 30) := rfl
theorem gi73_21 : gx_ins 73 21 = some (false, .aload_n 0, 0) := rfl
theorem gi73_22 : gx_ins 73 22 = some (false, .getfield 68, 0) := rfl
theorem gi73_25 : gx_ins 73 25 = some (false, .iload_n 2, 0) := rfl
theorem gi73_26 : gx_ins 73 26 = some (false, .iaload, 0) := rfl
theorem gi73_27 : gx_ins 73 27 = some (false, .ifCond .ne 9, 36) := rfl
theorem gi73_30 : gx_ins 73 30 = some (false, .iinc 2 1, 0) := rfl
theorem gi73_33 : gx_ins 73 33 = some (false, .goto (-31), 2) := rfl
theorem gi73_36 : gx_ins 73 36 = some (false, .iload_n 2, 0) := rfl
theorem gi73_37 : gx_ins 73 37 = some (false, .ireturn, 0) := rfl
theorem gi74_0 : gx_ins 74 0 = some (false, .ldc 94, 0) := rfl
theorem gi74_2 : gx_ins 74 2 = some (false, .istore_n 3, 0) := rfl
theorem gi74_3 : gx_ins 74 3 = some (false, .iload_n 1, 0) := rfl
theorem gi74_4 : gx_ins 74 4 = some (false, .istore 4, 0) := rfl
theorem gi74_6 : gx_ins 74 6 = some (true, .iload 4, 0) := rfl
theorem gi74_8 : gx_ins 74 8 = some (false, .iload_n 2, 0) := rfl
theorem gi74_9 : gx_ins 74 9 = some (false, .if_icmp .ge 42, 51) := rfl
theorem gi74_12 : gx_ins 74 12 = some (false, .aload_n 0, 0) := rfl
theorem gi74_13 : gx_ins 74 13 = some (false, .getfield 68, 0) := rfl
theorem gi74_16 : gx_ins 74 16 = some (false, .aload_n 0, 0) := rfl
theorem gi74_17 : gx_ins 74 17 = some (false, .getfield 74, 0) := rfl
theorem gi74_20 : gx_ins 74 20 = some (false, .iload 4, 0) := rfl
theorem gi74_22 : gx_ins 74 22 = some (false, .iaload, 0) := rfl
theorem gi74_23 : gx_ins 74 23 = some (false, .iaload, 0) := rfl
theorem gi74_24 : gx_ins 74 24 = some (false, .iload_n 3, 0) := rfl
theorem gi74_25 : gx_ins 74 25 = some (false, .if_icmp .ge 18, 43) := rfl
theorem gi74_28 : gx_ins 74 28 = some (false, .aload_n 0, 0) := rfl
theorem gi74_29 : gx_ins 74 29 = some (false, .getfield 68, 0) := rfl
theorem gi74_32 : gx_ins 74 32 = some (false, .aload_n 0, 0) := rfl
theorem gi74_33 : gx_ins 74 33 = some (false, .getfield 74, 0) := rfl
theorem gi74_36 : gx_ins 74 36 = some (false, .iload 4, 0) := rfl
theorem gi74_38 : gx_ins 74 38 = some (false, .iaload, 0) := rfl
theorem gi74_39 : gx_ins 74 39 = some (false, .iaload, 0) := rfl
theorem gi74_40 : gx_ins 74 40 = some (false, .goto 4, 44) := rfl
theorem gi74_43 : gx_ins 74 43 = some (false, .iload_n 3, 0) := rfl
theorem gi74_44 : gx_ins 74 44 = some (false, .istore_n 3, 0) := rfl
theorem gi74_45 : gx_ins 74 45 = some (false, .iinc 4 1, 0) := rfl
theorem gi74_48 : gx_ins 74 48 = some (false, .goto (-42), 6) := rfl
theorem gi74_51 : gx_ins 74 51 = some (false, .iload_n 3, 0) := rfl
theorem gi74_52 : gx_ins 74 52 = some (false, .ireturn, 0) := rfl
theorem gi75_0 : gx_ins 75 0 = some (false, .iload_n 1, 0) := rfl
theorem gi75_1 : gx_ins 75 1 = some (false, .istore 4, 0) := rfl
theorem gi75_3 : gx_ins 75 3 = some (true, .iload 4, 0) := rfl
theorem gi75_5 : gx_ins 75 5 = some (false, .iload_n 2, 0) := rfl
theorem gi75_6 : gx_ins 75 6 = some (false, .if_icmp .ge 25, 31) := rfl
theorem gi75_9 : gx_ins 75 9 = some (false, .aload_n 0, 0) := rfl
theorem gi75_10 : gx_ins 75 10 = some (false, .getfield 68, 0) := rfl
theorem gi75_13 : gx_ins 75 13 = some (false, .aload_n 0, 0) := rfl
theorem gi75_14 : gx_ins 75 14 = some (false, .getfield 74, 0) := rfl
theorem gi75_17 : gx_ins 75 17 = some (false, .iload 4, 0) := rfl
theorem gi75_19 : gx_ins 75 19 = some (false, .iaload, 0) := rfl
theorem gi75_20 : gx_ins 75 20 = some (false, .dup2, 0) := rfl
theorem gi75_21 : gx_ins 75 21 = some (false, .iaload, 0) := rfl
theorem gi75_22 : gx_ins 75 22 = some (false, .iload_n 3, 0) := rfl
theorem gi75_23 : gx_ins 75 23 = some (false, .isub, 0) := rfl
theorem gi75_24 : gx_ins 75 24 = some (false, .iastore, 0) := rfl
theorem gi75_25 : gx_ins 75 25 = some (false, .iinc 4 1, 0) := rfl
theorem gi75_28 : gx_ins 75 28 = some (false, .goto (-25), 3) := rfl
theorem gi75_31 : gx_ins 75 31 = some (false, .return_, 0) := rfl
theorem gi76_0 : gx_ins 76 0 = some (false, .aload_n 0, 0) := rfl
theorem gi76_1 : gx_ins 76 1 = some (false, .iconst 0, 0) := rfl
theorem gi76_2 : gx_ins 76 2 = some (false, .putfield 134, 0) := rfl
theorem gi76_5 : gx_ins 76 5 = some (false, .iconst 0, 0) := rfl
theorem gi76_6 : gx_ins 76 6 = some (false, .istore_n 1, 0) := rfl
theorem gi76_7 : gx_ins 76 7 = some (true, .iload_n 1, 0) := rfl
theorem gi76_8 : gx_ins 76 8 = some (false, .aload_n 0, 0) := rfl
theorem gi76_9 : gx_ins 76 9 = some (false, .getfield 84, 0) := rfl
theorem gi76_12 : gx_ins 76 12 = some (false, .if_icmp .ge 34, 46) := rfl
theorem gi76_15 : gx_ins 76 15 = some (false, .aload_n 0, 0) := rfl
theorem gi76_16 : gx_ins 76 16 = some (false, .getfield 68, 0) := rfl
theorem gi76_19 : gx_ins 76 19 = some (false, .iload_n 1, 0) := rfl
theorem gi76_20 : gx_ins 76 20 = some (false, .aload_n 0, 0) := rfl
theorem gi76_21 : gx_ins 76 21 = some (false, .getfield 28, 0) := rfl
theorem gi76_24 : gx_ins 76 24 = some (false, .iload_n 1, 0) := rfl
theorem gi76_25 : gx_ins 76 25 = some (false, .baload, 0) := rfl
theorem gi76_26 : gx_ins 76 26 = some (false, .ifCond .eq 12, 38) := rfl
theorem gi76_29 : gx_ins 76 29 = some (false, .aload_n 0, 0) := rfl
theorem gi76_30 : gx_ins 76 30 = some (false, .getfield 53, 0) := rfl
theorem gi76_33 : gx_ins 76 33 = some (false, .iload_n 1, 0) := rfl
theorem gi76_34 : gx_ins 76 34 = some (false, .iaload, 0) := rfl
theorem gi76_35 : gx_ins 76 35 = some (false, .goto 4, 39) := rfl
theorem gi76_38 : gx_ins 76 38 = some (false, .iconst 0, 0) := rfl
theorem gi76_39 : gx_ins 76 39 = some (false, .iastore, 0) := rfl
theorem gi76_40 : gx_ins 76 40 = some (false, .iinc 1 1, 0) := rfl
theorem gi76_43 : gx_ins 76 43 = some (false, .goto (-36), 7) := rfl
theorem gi76_46 : gx_ins 76 46 = some (false, .iconst 0, 0) := rfl
theorem gi76_47 : gx_ins 76 47 = some (false, .istore_n 1, 0) := rfl
theorem gi76_48 : gx_ins 76 48 = some (true, .iload_n 1, 0) := rfl
theorem gi76_49 : gx_ins 76 49 = some (false, .aload_n 0, 0) := rfl
theorem gi76_50 : gx_ins 76 50 = some (false, .getfield 91, 0) := rfl
theorem gi76_53 : gx_ins 76 53 = some (false, .if_icmp .ge 68, 121) := rfl
theorem gi76_56 : gx_ins 76 56 = some (false, .aload_n 0, 0) := rfl
theorem gi76_57 : gx_ins 76 57 = some (false, .getfield 71, 0) := rfl
theorem gi76_60 : gx_ins 76 60 = some (false, .iload_n 1, 0) := rfl
theorem gi76_61 : gx_ins 76 61 = some (false, .aload_n 0, 0) := rfl
theorem gi76_62 : gx_ins 76 62 = some (false, .getfield 7, 0) := rfl
theorem gi76_65 : gx_ins 76 65 = some (false, .iload_n 1, 0) := rfl
theorem gi76_66 : gx_ins 76 66 = some (false, .iaload, 0) := rfl
theorem gi76_67 : gx_ins 76 67 = some (false, .iconst 1, 0) := rfl
theorem gi76_68 : gx_ins 76 68 = some (false, .if_icmp .ne 19, 87) := rfl
theorem gi76_71 : gx_ins 76 71 = some (false, .aload_n 0, 0) := rfl
theorem gi76_72 : gx_ins 76 72 = some (false, .iconst 0, 0) := rfl
theorem gi76_73 : gx_ins 76 73 = some (false, .iload_n 1, 0) := rfl
theorem gi76_74 : gx_ins 76 74 = some (false, .invokevirtual 137, 0) := rfl
theorem gi76_77 : gx_ins 76 77 = some (false, .aload_n 0, 0) := rfl
theorem gi76_78 : gx_ins 76 78 = some (false, .iconst 0, 0) := rfl
theorem gi76_79 : gx_ins 76 79 = some (false, .iload_n 1, 0) := rfl
theorem gi76_80 : gx_ins 76 80 = some (false, .invokevirtual 141, 0) := rfl
theorem gi76_83 : gx_ins 76 83 = some (false, .isub, 0) := rfl
theorem gi76_84 : gx_ins 76 84 = some (false, .goto 30, 114) := rfl
theorem gi76_87 : gx_ins 76 87 = some (false, .aload_n 0, 0) := rfl
theorem gi76_88 : gx_ins 76 88 = some (false, .getfield 7, 0) := rfl
theorem gi76_91 : gx_ins 76 91 = some (false, .iload_n 1, 0) := rfl
theorem gi76_92 : gx_ins 76 92 = some (false, .iaload, 0) := rfl
theorem gi76_93 : gx_ins 76 93 = some (false, .iconst 2, 0) := rfl
theorem gi76_94 : gx_ins 76 94 = some (false, .if_icmp .ne 19, 113) := rfl
theorem gi76_97 : gx_ins 76 97 = some (false, .aload_n 0, 0) := rfl
theorem gi76_98 : gx_ins 76 98 = some (false, .iconst 0, 0) := rfl
theorem gi76_99 : gx_ins 76 99 = some (false, .iload_n 1, 0) := rfl
theorem gi76_100 : gx_ins 76 100 = some (false, .invokevirtual 141, 0) := rfl
theorem gi76_103 : gx_ins 76 103 = some (false, .aload_n 0, 0) := rfl
theorem gi76_104 : gx_ins 76 104 = some (false, .iconst 0, 0) := rfl
theorem gi76_105 : gx_ins 76 105 = some (false, .iload_n 1, 0) := rfl
theorem gi76_106 : gx_ins 76 106 = some (false, .invokevirtual 137, 0) := rfl
theorem gi76_109 : gx_ins 76 109 = some (false, .isub, 0) := rfl
theorem gi76_110 : gx_ins 76 110 = some (false, .goto 4, 114) := rfl
theorem gi76_113 : gx_ins 76 113 = some (false, .iconst 0, 0) := rfl
theorem gi76_114 : gx_ins 76 114 = some (false, .iastore, 0) := rfl
theorem gi76_115 : gx_ins 76 115 = some (false, .iinc 1 1, 0) := rfl
theorem gi76_118 : gx_ins 76 118 = some (false, .goto (-70), 48) := rfl
theorem gi76_121 : gx_ins 76 121 = some (false, .aload_n 0, 0) := rfl
theorem gi76_122 : gx_ins 76 122 = some (false, .invokevirtual 144, 0) := rfl
theorem gi76_125 : gx_ins 76 125 = some (false, .istore_n 1, 0) := rfl
theorem gi76_126 : gx_ins 76 126 = some (true, .iload_n 1, 0) := rfl
theorem gi76_127 : gx_ins 76 127 = some (false, .ifCond .lt 16, 143) := rfl
theorem gi76_130 : gx_ins 76 130 = some (false, .aload_n 0, 0) := rfl
theorem gi76_131 : gx_ins 76 131 = some (false, .iload_n 1, 0) := rfl
theorem gi76_132 : gx_ins 76 132 = some (false, .invokevirtual 147, 0) := rfl
theorem gi76_135 : gx_ins 76 135 = some (false, .aload_n 0, 0) := rfl
theorem gi76_136 : gx_ins 76 136 = some (false, .invokevirtual 144, 0) := rfl
theorem gi76_139 : gx_ins 76 139 = some (false, .istore_n 1, 0) := rfl
theorem gi76_140 : gx_ins 76 140 = some (false, .goto (-14), 126) := rfl
theorem gi76_143 : gx_ins 76 143 = some (false, .return_, 0) := rfl
theorem gi77_0 : gx_ins 77 0 = some (false, .iconst 0, 0) := rfl
theorem gi77_1 : gx_ins 77 1 = some (false, .istore_n 1, 0) := rfl
theorem gi77_2 : gx_ins 77 2 = some (true, .iload_n 1, 0) := rfl
theorem gi77_3 : gx_ins 77 3 = some (false, .aload_n 0, 0) := rfl
theorem gi77_4 : gx_ins 77 4 = some (false, .getfield 91, 0) := rfl
theorem gi77_7 : gx_ins 77 7 = some (false, .if_icmp .ge 30, 37) := rfl
theorem gi77_10 : gx_ins 77 10 = some (false, .aload_n 0, 0) := rfl
theorem gi77_11 : gx_ins 77 11 = some (false, .getfield 7, 0) := rfl
theorem gi77_14 : gx_ins 77 14 = some (false, .iload_n 1, 0) := rfl
theorem gi77_15 : gx_ins 77 15 = some (false, .iaload, 0) := rfl
theorem gi77_16 : gx_ins 77 16 = some (false, .iconst 1, 0) := rfl
theorem gi77_17 : gx_ins 77 17 = some (false, .if_icmp .ne 14, 31) := rfl
theorem gi77_20 : gx_ins 77 20 = some (false, .aload_n 0, 0) := rfl
theorem gi77_21 : gx_ins 77 21 = some (false, .getfield 71, 0) := rfl
theorem gi77_24 : gx_ins 77 24 = some (false, .iload_n 1, 0) := rfl
theorem gi77_25 : gx_ins 77 25 = some (false, .iaload, 0) := rfl
theorem gi77_26 : gx_ins 77 26 = some (false, .ifCond .le 5, 31) := rfl
theorem gi77_29 : gx_ins 77 29 = some (false, .iload_n 1, 0) := rfl
theorem gi77_30 : gx_ins 77 30 = some (false, .ireturn, 0) := rfl
theorem gi77_31 : gx_ins 77 31 = some (false, .iinc 1 1, 0) := rfl
theorem gi77_34 : gx_ins 77 34 = some (false, .goto (-32), 2) := rfl
theorem gi77_37 : gx_ins 77 37 = some (false, .iconst (-1), 0) := rfl
theorem gi77_38 : gx_ins 77 38 = some (false, .ireturn, 0) := rfl
theorem gi78_0 : gx_ins 78 0 = some (false, .iconst 0, 0) := rfl
theorem gi78_1 : gx_ins 78 1 = some (false, .istore_n 2, 0) := rfl
theorem gi78_2 : gx_ins 78 2 = some (true, .iload_n 2, 0) := rfl
theorem gi78_3 : gx_ins 78 3 = some (false, .aload_n 0, 0) := rfl
theorem gi78_4 : gx_ins 78 4 = some (false, .getfield 91, 0) := rfl
theorem gi78_7 : gx_ins 78 7 = some (false, .if_icmp .ge 16, 23) := rfl
theorem gi78_10 : gx_ins 78 10 = some (false, .aload_n 0, 0) := rfl
theorem gi78_11 : gx_ins 78 11 = some (false, .getfield 77, 0) := rfl
theorem gi78_14 : gx_ins 78 14 = some (false, .iload_n 2, 0) := rfl
theorem gi78_15 : gx_ins 78 15 = some (false, .iconst (-1), 0) := rfl
theorem gi78_16 : gx_ins 78 16 = some (false, .iastore, 0) := rfl
theorem gi78_17 : gx_ins 78 17 = some (false, .iinc 2 1, 0) := rfl
theorem gi78_20 : gx_ins 78 20 = some (false, .goto (-18), 2) := rfl
theorem gi78_23 : gx_ins 78 23 = some (false, .iconst 0, 0) := rfl
theorem gi78_24 : gx_ins 78 24 = some (false, .istore_n 2, 0) := rfl
theorem gi78_25 : gx_ins 78 25 = some (false, .iload_n 1, 0) := rfl
theorem gi78_26 : gx_ins 78 26 = some (false, .istore_n 3, 0) := rfl
theorem gi78_27 : gx_ins 78 27 = some (false, .aload_n 0, 0) := rfl
theorem gi78_28 : gx_ins 78 28 = some (false, .getfield 77, 0) := rfl
theorem gi78_31 : gx_ins 78 31 = some (false, .iload_n 3, 0) := rfl
theorem gi78_32 : gx_ins 78 32 = some (false, .iconst 0, 0) := rfl
theorem gi78_33 : gx_ins 78 33 = some (false, .iastore, 0) := rfl
theorem gi78_34 : gx_ins 78 34 = some (true, .aload_n 0, 0) := rfl
theorem gi78_35 : gx_ins 78 35 = some (false, .getfield 7, 0) := rfl
theorem gi78_38 : gx_ins 78 38 = some (false, .iload_n 3, 0) := rfl
theorem gi78_39 : gx_ins 78 39 = some (false, .iaload, 0) := rfl
theorem gi78_40 : gx_ins 78 40 = some (false, .iconst 2, 0) := rfl
theorem gi78_41 : gx_ins 78 41 = some (false, .if_icmp .ne 12, 53) := rfl
theorem gi78_44 : gx_ins 78 44 = some (false, .aload_n 0, 0) := rfl
theorem gi78_45 : gx_ins 78 45 = some (false, .getfield 71, 0) := rfl
theorem gi78_48 : gx_ins 78 48 = some (false, .iload_n 3, 0) := rfl
theorem gi78_49 : gx_ins 78 49 = some (false, .iaload, 0) := rfl
theorem gi78_50 : gx_ins 78 50 = some (false, .ifCond .ne 71, 121) := rfl
theorem gi78_53 : gx_ins 78 53 = some (false, .aload_n 0, 0) := rfl
theorem gi78_54 : gx_ins 78 54 = some (false, .iload_n 3, 0) := rfl
theorem gi78_55 : gx_ins 78 55 = some (false, .invokevirtual 150, 0) := rfl
theorem gi78_58 : gx_ins 78 58 = some (false, .istore 4, 0) := rfl
theorem gi78_60 : gx_ins 78 60 = some (false, .aload_n 0, 0) := rfl
theorem gi78_61 : gx_ins 78 61 = some (false, .getfield 74, 0) := rfl
theorem gi78_64 : gx_ins 78 64 = some (false, .iload_n 2, 0) := rfl
theorem gi78_65 : gx_ins 78 65 = some (false, .iload 4, 0) := rfl
theorem gi78_67 : gx_ins 78 67 = some (false, .iastore, 0) := rfl
theorem gi78_68 : gx_ins 78 68 = some (false, .iinc 2 1, 0) := rfl
theorem gi78_71 : gx_ins 78 71 = some (false, .aload_n 0, 0) := rfl
theorem gi78_72 : gx_ins 78 72 = some (false, .getfield 19, 0) := rfl
theorem gi78_75 : gx_ins 78 75 = some (false, .iload 4, 0) := rfl
theorem gi78_77 : gx_ins 78 77 = some (false, .iaload, 0) := rfl
theorem gi78_78 : gx_ins 78 78 = some (false, .istore_n 3, 0) := rfl
theorem gi78_79 : gx_ins 78 79 = some (false, .aload_n 0, 0) := rfl
theorem gi78_80 : gx_ins 78 80 = some (false, .getfield 77, 0) := rfl
theorem gi78_83 : gx_ins 78 83 = some (false, .iload_n 3, 0) := rfl
theorem gi78_84 : gx_ins 78 84 = some (false, .iaload, 0) := rfl
theorem gi78_85 : gx_ins 78 85 = some (false, .ifCond .lt 26, 111) := rfl
theorem gi78_88 : gx_ins 78 88 = some (false, .aload_n 0, 0) := rfl
theorem gi78_89 : gx_ins 78 89 = some (false, .aload_n 0, 0) := rfl
theorem gi78_90 : gx_ins 78 90 = some (false, .getfield 77, 0) := rfl
theorem gi78_93 : gx_ins 78 93 = some (false, .iload_n 3, 0) := rfl
theorem gi78_94 : gx_ins 78 94 = some (false, .iaload, 0) := rfl
theorem gi78_95 : gx_ins 78 95 = some (false, .iload_n 2, 0) := rfl
theorem gi78_96 : gx_ins 78 96 = some (false, .aload_n 0, 0) := rfl
theorem gi78_97 : gx_ins 78 97 = some (false, .aload_n 0, 0) := rfl
theorem gi78_98 : gx_ins 78 98 = some (false, .getfield 77, 0) := rfl
theorem gi78_101 : gx_ins 78 101 = some (false, .iload_n 3, 0) := rfl
theorem gi78_102 : gx_ins 78 102 = some (false, .iaload, 0) := rfl
theorem gi78_103 : gx_ins 78 103 = some (false, .iload_n 2, 0) := rfl
theorem gi78_104 : gx_ins 78 104 = some (false, .invokevirtual 154, 0) := rfl
theorem gi78_107 : gx_ins 78 107 = some (false, .invokevirtual 157, 0) := rfl
theorem gi78_110 : gx_ins 78 110 = some (false, .return_, 0) := rfl
theorem gi78_111 : gx_ins 78 111 = some (false, .aload_n 0, 0) := rfl
theorem gi78_112 : gx_ins 78 112 = some (false, .getfield 77, 0) := rfl
theorem gi78_115 : gx_ins 78 115 = some (false, .iload_n 3, 0) := rfl
theorem gi78_116 : gx_ins 78 116 = some (false, .iload_n 2, 0) := rfl
theorem gi78_117 : gx_ins 78 117 = some (false, .iastore, 0) := rfl
theorem gi78_118 : gx_ins 78 118 = some (false, .goto (-84), 34) := rfl
theorem gi78_121 : gx_ins 78 121 = some (false, .aload_n 0, 0) := rfl
theorem gi78_122 : gx_ins 78 122 = some (false, .iconst 0, 0) := rfl
theorem gi78_123 : gx_ins 78 123 = some (false, .iload_n 2, 0) := rfl
theorem gi78_124 : gx_ins 78 124 = some (false, .invokevirtual 154, 0) := rfl
theorem gi78_127 : gx_ins 78 127 = some (false, .istore 4, 0) := rfl
theorem gi78_129 : gx_ins 78 129 = some (false, .aload_n 0, 0) := rfl
theorem gi78_130 : gx_ins 78 130 = some (false, .getfield 71, 0) := rfl
theorem gi78_133 : gx_ins 78 133 = some (false, .iload_n 1, 0) := rfl
theorem gi78_134 : gx_ins 78 134 = some (false, .iaload, 0) := rfl
theorem gi78_135 : gx_ins 78 135 = some (false, .iload 4, 0) := rfl
theorem gi78_137 : gx_ins 78 137 = some (false, .if_icmp .ge 12, 149) := rfl
theorem gi78_140 : gx_ins 78 140 = some (false, .aload_n 0, 0) := rfl
theorem gi78_141 : gx_ins 78 141 = some (false, .getfield 71, 0) := rfl
theorem gi78_144 : gx_ins 78 144 = some (false, .iload_n 1, 0) := rfl
theorem gi78_145 : gx_ins 78 145 = some (false, .iaload, 0) := rfl
theorem gi78_146 : gx_ins 78 146 = some (false, .goto 5, 151) := rfl
theorem gi78_149 : gx_ins 78 149 = some (false, .iload 4, 0) := rfl
theorem gi78_151 : gx_ins 78 151 = some (false, .istore 4, 0) := rfl
theorem gi78_153 : gx_ins 78 153 = some (false, .aload_n 0, 0) := rfl
theorem gi78_154 : gx_ins 78 154 = some (false, .getfield 71, 0) := rfl
theorem gi78_157 : gx_ins 78 157 = some (false, .iload_n 3, 0) := rfl
theorem gi78_158 : gx_ins 78 158 = some (false, .iaload, 0) := rfl
theorem gi78_159 : gx_ins 78 159 = some (false, .iload 4, 0) := rfl
theorem gi78_161 : gx_ins 78 161 = some (false, .if_icmp .ge 12, 173) := rfl
theorem gi78_164 : gx_ins 78 164 = some (false, .aload_n 0, 0) := rfl
theorem gi78_165 : gx_ins 78 165 = some (false, .getfield 71, 0) := rfl
theorem gi78_168 : gx_ins 78 168 = some (false, .iload_n 3, 0) := rfl
theorem gi78_169 : gx_ins 78 169 = some (false, .iaload, 0) := rfl
theorem gi78_170 : gx_ins 78 170 = some (false, .goto 5, 175) := rfl
theorem gi78_173 : gx_ins 78 173 = some (false, .iload 4, 0) := rfl
theorem gi78_175 : gx_ins 78 175 = some (false, .istore 4, 0) := rfl
theorem gi78_177 : gx_ins 78 177 = some (false, .aload_n 0, 0) := rfl
theorem gi78_178 : gx_ins 78 178 = some (false, .iconst 0, 0) := rfl
theorem gi78_179 : gx_ins 78 179 = some (false, .iload_n 2, 0) := rfl
theorem gi78_180 : gx_ins 78 180 = some (false, .iload 4, 0) := rfl
theorem gi78_182 : gx_ins 78 182 = some (false, .invokevirtual 157, 0) := rfl
theorem gi78_185 : gx_ins 78 185 = some (false, .aload_n 0, 0) := rfl
theorem gi78_186 : gx_ins 78 186 = some (false, .getfield 71, 0) := rfl
theorem gi78_189 : gx_ins 78 189 = some (false, .iload_n 1, 0) := rfl
theorem gi78_190 : gx_ins 78 190 = some (false, .dup2, 0) := rfl
theorem gi78_191 : gx_ins 78 191 = some (false, .iaload, 0) := rfl
theorem gi78_192 : gx_ins 78 192 = some (false, .iload 4, 0) := rfl
theorem gi78_194 : gx_ins 78 194 = some (false, .isub, 0) := rfl
theorem gi78_195 : gx_ins 78 195 = some (false, .iastore, 0) := rfl
theorem gi78_196 : gx_ins 78 196 = some (false, .aload_n 0, 0) := rfl
theorem gi78_197 : gx_ins 78 197 = some (false, .getfield 71, 0) := rfl
theorem gi78_200 : gx_ins 78 200 = some (false, .iload_n 3, 0) := rfl
theorem gi78_201 : gx_ins 78 201 = some (false, .dup2, 0) := rfl
theorem gi78_202 : gx_ins 78 202 = some (false, .iaload, 0) := rfl
theorem gi78_203 : gx_ins 78 203 = some (false, .iload 4, 0) := rfl
theorem gi78_205 : gx_ins 78 205 = some (false, .isub, 0) := rfl
theorem gi78_206 : gx_ins 78 206 = some (false, .iastore, 0) := rfl
theorem gi78_207 : gx_ins 78 207 = some (false, .aload_n 0, 0) := rfl
theorem gi78_208 : gx_ins 78 208 = some (false, .getfield 59, 0) := rfl
theorem gi78_211 : gx_ins 78 211 = some (false, .aload_n 0, 0) := rfl
theorem gi78_212 : gx_ins 78 212 = some (false, .getfield 134, 0) := rfl
theorem gi78_215 : gx_ins 78 215 = some (false, .iload 4, 0) := rfl
theorem gi78_217 : gx_ins 78 217 = some (false, .iastore, 0) := rfl
theorem gi78_218 : gx_ins 78 218 = some (false, .aload_n 0, 0) := rfl
theorem gi78_219 : gx_ins 78 219 = some (false, .getfield 62, 0) := rfl
theorem gi78_222 : gx_ins 78 222 = some (false, .aload_n 0, 0) := rfl
theorem gi78_223 : gx_ins 78 223 = some (false, .getfield 134, 0) := rfl
theorem gi78_226 : gx_ins 78 226 = some (false, .iload_n 2, 0) := rfl
theorem gi78_227 : gx_ins 78 227 = some (false, .iastore, 0) := rfl
theorem gi78_228 : gx_ins 78 228 = some (false, .iconst 0, 0) := rfl
theorem gi78_229 : gx_ins 78 229 = some (false, .istore 5, 0) := rfl
theorem gi78_231 : gx_ins 78 231 = some (true, .iload 5, 0) := rfl
theorem gi78_233 : gx_ins 78 233 = some (false, .iload_n 2, 0) := rfl
theorem gi78_234 : gx_ins 78 234 = some (false, .if_icmp .ge 31, 265) := rfl
theorem gi78_237 : gx_ins 78 237 = some (false, .aload_n 0, 0) := rfl
theorem gi78_238 : gx_ins 78 238 = some (false, .getfield 65, 0) := rfl
theorem gi78_241 : gx_ins 78 241 = some (false, .bipush 10, 0) := rfl
theorem gi78_243 : gx_ins 78 243 = some (false, .aload_n 0, 0) := rfl
theorem gi78_244 : gx_ins 78 244 = some (false, .getfield 134, 0) := rfl
theorem gi78_247 : gx_ins 78 247 = some (false, .imul, 0) := rfl
theorem gi78_248 : gx_ins 78 248 = some (false, .iload 5, 0) := rfl
theorem gi78_250 : gx_ins 78 250 = some (false, .iadd, 0) := rfl
theorem gi78_251 : gx_ins 78 251 = some (false, .aload_n 0, 0) := rfl
theorem gi78_252 : gx_ins 78 252 = some (false, .getfield 74, 0) := rfl
theorem gi78_255 : gx_ins 78 255 = some (false, .iload 5, 0) := rfl
theorem gi78_257 : gx_ins 78 257 = some (false, .iaload, 0) := rfl
theorem gi78_258 : gx_ins 78 258 = some (false, .iastore, 0) := rfl
theorem gi78_259 : gx_ins 78 259 = some (false, .iinc 5 1, 0) := rfl
theorem gi78_262 : gx_ins 78 262 = some (false, .goto (-31), 231) := rfl
theorem gi78_265 : gx_ins 78 265 = some (false, .aload_n 0, 0) := rfl
theorem gi78_266 : gx_ins 78 266 = some (false, .dup, 0) := rfl
theorem gi78_267 : gx_ins 78 267 = some (false, .getfield 134, 0) := rfl
theorem gi78_270 : gx_ins 78 270 = some (false, .iconst 1, 0) := rfl
theorem gi78_271 : gx_ins 78 271 = some (false, .iadd, 0) := rfl
theorem gi78_272 : gx_ins 78 272 = some (false, .putfield 134, 0) := rfl
theorem gi78_275 : gx_ins 78 275 = some (false, .return_, 0) := rfl
theorem gi79_0 : gx_ins 79 0 = some (false, .iload_n 1, 0) := rfl
theorem gi79_1 : gx_ins 79 1 = some (false, .ifCond .lt 15, 16) := rfl
theorem gi79_4 : gx_ins 79 4 = some (false, .iload_n 1, 0) := rfl
theorem gi79_5 : gx_ins 79 5 = some (false, .aload_n 0, 0) := rfl
theorem gi79_6 : gx_ins 79 6 = some (false, .getfield 91, 0) := rfl
theorem gi79_9 : gx_ins 79 9 = some (false, .if_icmp .ge 7, 16) := rfl
theorem gi79_12 : gx_ins 79 12 = some (false, .iconst 1, 0) := rfl
theorem gi79_13 : gx_ins 79 13 = some (false, .goto 4, 17) := rfl
theorem gi79_16 : gx_ins 79 16 = some (false, .iconst 0, 0) := rfl
theorem gi79_17 : gx_ins 79 17 = some (false, .ireturn, 0) := rfl
theorem gi80_0 : gx_ins 80 0 = some (false, .iload_n 1, 0) := rfl
theorem gi80_1 : gx_ins 80 1 = some (false, .ifCond .lt 24, 25) := rfl
theorem gi80_4 : gx_ins 80 4 = some (false, .iload_n 1, 0) := rfl
theorem gi80_5 : gx_ins 80 5 = some (false, .aload_n 0, 0) := rfl
theorem gi80_6 : gx_ins 80 6 = some (false, .getfield 84, 0) := rfl
theorem gi80_9 : gx_ins 80 9 = some (false, .if_icmp .ge 16, 25) := rfl
theorem gi80_12 : gx_ins 80 12 = some (false, .aload_n 0, 0) := rfl
theorem gi80_13 : gx_ins 80 13 = some (false, .getfield 28, 0) := rfl
theorem gi80_16 : gx_ins 80 16 = some (false, .iload_n 1, 0) := rfl
theorem gi80_17 : gx_ins 80 17 = some (false, .baload, 0) := rfl
theorem gi80_18 : gx_ins 80 18 = some (false, .ifCond .eq 7, 25) := rfl
theorem gi80_21 : gx_ins 80 21 = some (false, .iconst 1, 0) := rfl
theorem gi80_22 : gx_ins 80 22 = some (false, .goto 4, 26) := rfl
theorem gi80_25 : gx_ins 80 25 = some (false, .iconst 0, 0) := rfl
theorem gi80_26 : gx_ins 80 26 = some (false, .ireturn, 0) := rfl
theorem gi81_0 : gx_ins 81 0 = some (false, .iload_n 0, 0) := rfl
theorem gi81_1 : gx_ins 81 1 = some (false, .ifCond .lt 19, 20) := rfl
theorem gi81_4 : gx_ins 81 4 = some (false, .iload_n 1, 0) := rfl
theorem gi81_5 : gx_ins 81 5 = some (false, .sipush 1000, 0) := rfl
theorem gi81_8 : gx_ins 81 8 = some (false, .if_icmp .gt 12, 20) := rfl
theorem gi81_11 : gx_ins 81 11 = some (false, .iload_n 0, 0) := rfl
theorem gi81_12 : gx_ins 81 12 = some (false, .iload_n 1, 0) := rfl
theorem gi81_13 : gx_ins 81 13 = some (false, .if_icmp .gt 7, 20) := rfl
theorem gi81_16 : gx_ins 81 16 = some (false, .iconst 1, 0) := rfl
theorem gi81_17 : gx_ins 81 17 = some (false, .goto 4, 21) := rfl
theorem gi81_20 : gx_ins 81 20 = some (false, .iconst 0, 0) := rfl
theorem gi81_21 : gx_ins 81 21 = some (false, .ireturn, 0) := rfl
theorem gi82_0 : gx_ins 82 0 = some (false, .aload_n 0, 0) := rfl
theorem gi82_1 : gx_ins 82 1 = some (false, .getfield 91, 0) := rfl
theorem gi82_4 : gx_ins 82 4 = some (false, .bipush 10, 0) := rfl
theorem gi82_6 : gx_ins 82 6 = some (false, .if_icmp .ne 6, 12) := rfl
theorem gi82_9 : gx_ins 82 9 = some (false, .bipush (-4), 0) := rfl
theorem gi82_11 : gx_ins 82 11 = some (false, .ireturn, 0) := rfl
theorem gi82_12 : gx_ins 82 12 = some (false, .aload_n 0, 0) := rfl
theorem gi82_13 : gx_ins 82 13 = some (false, .getfield 7, 0) := rfl
theorem gi82_16 : gx_ins 82 16 = some (false, .aload_n 0, 0) := rfl
theorem gi82_17 : gx_ins 82 17 = some (false, .getfield 91, 0) := rfl
theorem gi82_20 : gx_ins 82 20 = some (false, .iconst 0, 0) := rfl
theorem gi82_21 : gx_ins 82 21 = some (false, .iastore, 0) := rfl
theorem gi82_22 : gx_ins 82 22 = some (false, .aload_n 0, 0) := rfl
theorem gi82_23 : gx_ins 82 23 = some (false, .getfield 13, 0) := rfl
theorem gi82_26 : gx_ins 82 26 = some (false, .aload_n 0, 0) := rfl
theorem gi82_27 : gx_ins 82 27 = some (false, .getfield 91, 0) := rfl
theorem gi82_30 : gx_ins 82 30 = some (false, .iconst (-1), 0) := rfl
theorem gi82_31 : gx_ins 82 31 = some (false, .iastore, 0) := rfl
theorem gi82_32 : gx_ins 82 32 = some (false, .aload_n 0, 0) := rfl
theorem gi82_33 : gx_ins 82 33 = some (false, .dup, 0) := rfl
theorem gi82_34 : gx_ins 82 34 = some (false, .getfield 91, 0) := rfl
theorem gi82_37 : gx_ins 82 37 = some (false, .iconst 1, 0) := rfl
theorem gi82_38 : gx_ins 82 38 = some (false, .iadd, 0) := rfl
theorem gi82_39 : gx_ins 82 39 = some (false, .putfield 91, 0) := rfl
theorem gi82_42 : gx_ins 82 42 = some (false, .aload_n 0, 0) := rfl
theorem gi82_43 : gx_ins 82 43 = some (false, .iconst 0, 0) := rfl
theorem gi82_44 : gx_ins 82 44 = some (false, .putfield 117, 0) := rfl
theorem gi82_47 : gx_ins 82 47 = some (false, .aload_n 0, 0) := rfl
theorem gi82_48 : gx_ins 82 48 = some (false, .getfield 91, 0) := rfl
theorem gi82_51 : gx_ins 82 51 = some (false, .iconst 1, 0) := rfl
theorem gi82_52 : gx_ins 82 52 = some (false, .isub, 0) := rfl
theorem gi82_53 : gx_ins 82 53 = some (false, .ireturn, 0) := rfl
theorem gi83_0 : gx_ins 83 0 = some (false, .aload_n 0, 0) := rfl
theorem gi83_1 : gx_ins 83 1 = some (false, .iload_n 1, 0) := rfl
theorem gi83_2 : gx_ins 83 2 = some (false, .invokevirtual 161, 0) := rfl
theorem gi83_5 : gx_ins 83 5 = some (false, .ifCond .ne 5, 10) := rfl
theorem gi83_8 : gx_ins 83 8 = some (false, .iconst (-1), 0) := rfl
theorem gi83_9 : gx_ins 83 9 = some (false, .ireturn, 0) := rfl
theorem gi83_10 : gx_ins 83 10 = some (false, .iload_n 2, 0) := rfl
theorem gi83_11 : gx_ins 83 11 = some (false, .ifCond .lt 8, 19) := rfl
theorem gi83_14 : gx_ins 83 14 = some (false, .iload_n 2, 0) := rfl
theorem gi83_15 : gx_ins 83 15 = some (false, .iconst 2, 0) := rfl
theorem gi83_16 : gx_ins 83 16 = some (false, .if_icmp .le 6, 22) := rfl
theorem gi83_19 : gx_ins 83 19 = some (false, .bipush (-2), 0) := rfl
theorem gi83_21 : gx_ins 83 21 = some (false, .ireturn, 0) := rfl
theorem gi83_22 : gx_ins 83 22 = some (false, .aload_n 0, 0) := rfl
theorem gi83_23 : gx_ins 83 23 = some (false, .getfield 7, 0) := rfl
theorem gi83_26 : gx_ins 83 26 = some (false, .iload_n 1, 0) := rfl
theorem gi83_27 : gx_ins 83 27 = some (false, .iaload, 0) := rfl
theorem gi83_28 : gx_ins 83 28 = some (false, .istore_n 3, 0) := rfl
theorem gi83_29 : gx_ins 83 29 = some (false, .aload_n 0, 0) := rfl
theorem gi83_30 : gx_ins 83 30 = some (false, .getfield 7, 0) := rfl
theorem gi83_33 : gx_ins 83 33 = some (false, .iload_n 1, 0) := rfl
theorem gi83_34 : gx_ins 83 34 = some (false, .iload_n 2, 0) := rfl
theorem gi83_35 : gx_ins 83 35 = some (false, .iastore, 0) := rfl
theorem gi83_36 : gx_ins 83 36 = some (false, .aload_n 0, 0) := rfl
theorem gi83_37 : gx_ins 83 37 = some (false, .iconst 0, 0) := rfl
theorem gi83_38 : gx_ins 83 38 = some (false, .putfield 117, 0) := rfl
theorem gi83_41 : gx_ins 83 41 = some (false, .iload_n 3, 0) := rfl
theorem gi83_42 : gx_ins 83 42 = some (false, .ireturn, 0) := rfl
theorem gi84_0 : gx_ins 84 0 = some (false, .aload_n 0, 0) := rfl
theorem gi84_1 : gx_ins 84 1 = some (false, .iload_n 1, 0) := rfl
theorem gi84_2 : gx_ins 84 2 = some (false, .invokevirtual 161, 0) := rfl
theorem gi84_5 : gx_ins 84 5 = some (false, .ifCond .ne 5, 10) := rfl
theorem gi84_8 : gx_ins 84 8 = some (false, .iconst (-1), 0) := rfl
theorem gi84_9 : gx_ins 84 9 = some (false, .ireturn, 0) := rfl
theorem gi84_10 : gx_ins 84 10 = some (false, .iload_n 2, 0) := rfl
theorem gi84_11 : gx_ins 84 11 = some (false, .iconst (-1), 0) := rfl
theorem gi84_12 : gx_ins 84 12 = some (false, .if_icmp .lt 9, 21) := rfl
theorem gi84_15 : gx_ins 84 15 = some (false, .iload_n 2, 0) := rfl
theorem gi84_16 : gx_ins 84 16 = some (false, .ldc 165, 0) := rfl
theorem gi84_18 : gx_ins 84 18 = some (false, .if_icmp .le 6, 24) := rfl
theorem gi84_21 : gx_ins 84 21 = some (false, .bipush (-2), 0) := rfl
theorem gi84_23 : gx_ins 84 23 = some (false, .ireturn, 0) := rfl
theorem gi84_24 : gx_ins 84 24 = some (false, .aload_n 0, 0) := rfl
theorem gi84_25 : gx_ins 84 25 = some (false, .getfield 13, 0) := rfl
theorem gi84_28 : gx_ins 84 28 = some (false, .iload_n 1, 0) := rfl
theorem gi84_29 : gx_ins 84 29 = some (false, .iload_n 2, 0) := rfl
theorem gi84_30 : gx_ins 84 30 = some (false, .iastore, 0) := rfl
theorem gi84_31 : gx_ins 84 31 = some (false, .aload_n 0, 0) := rfl
theorem gi84_32 : gx_ins 84 32 = some (false, .iconst 0, 0) := rfl
theorem gi84_33 : gx_ins 84 33 = some (false, .putfield 117, 0) := rfl
theorem gi84_36 : gx_ins 84 36 = some (false, .iconst 1, 0) := rfl
theorem gi84_37 : gx_ins 84 37 = some (false, .ireturn, 0) := rfl
theorem gi85_0 : gx_ins 85 0 = some (false, .aload_n 0, 0) := rfl
theorem gi85_1 : gx_ins 85 1 = some (false, .iload_n 1, 0) := rfl
theorem gi85_2 : gx_ins 85 2 = some (false, .invokevirtual 161, 0) := rfl
theorem gi85_5 : gx_ins 85 5 = some (false, .ifCond .eq 16, 21) := rfl
theorem gi85_8 : gx_ins 85 8 = some (false, .aload_n 0, 0) := rfl
theorem gi85_9 : gx_ins 85 9 = some (false, .iload_n 2, 0) := rfl
theorem gi85_10 : gx_ins 85 10 = some (false, .invokevirtual 161, 0) := rfl
theorem gi85_13 : gx_ins 85 13 = some (false, .ifCond .eq 8, 21) := rfl
theorem gi85_16 : gx_ins 85 16 = some (false, .iload_n 1, 0) := rfl
theorem gi85_17 : gx_ins 85 17 = some (false, .iload_n 2, 0) := rfl
theorem gi85_18 : gx_ins 85 18 = some (false, .if_icmp .ne 5, 23) := rfl
theorem gi85_21 : gx_ins 85 21 = some (false, .iconst (-1), 0) := rfl
theorem gi85_22 : gx_ins 85 22 = some (false, .ireturn, 0) := rfl
theorem gi85_23 : gx_ins 85 23 = some (false, .iload_n 3, 0) := rfl
theorem gi85_24 : gx_ins 85 24 = some (false, .iload 4, 0) := rfl
theorem gi85_26 : gx_ins 85 26 = some (false, .invokestatic 166, 0) := rfl
theorem gi85_29 : gx_ins 85 29 = some (false, .ifCond .ne 6, 35) := rfl
theorem gi85_32 : gx_ins 85 32 = some (false, .bipush (-2), 0) := rfl
theorem gi85_34 : gx_ins 85 34 = some (false, .ireturn, 0) := rfl
theorem gi85_35 : gx_ins 85 35 = some (false, .aload_n 0, 0) := rfl
theorem gi85_36 : gx_ins 85 36 = some (false, .getfield 84, 0) := rfl
theorem gi85_39 : gx_ins 85 39 = some (false, .bipush 40, 0) := rfl
theorem gi85_41 : gx_ins 85 41 = some (false, .if_icmp .ne 6, 47) := rfl
theorem gi85_44 : gx_ins 85 44 = some (false, .bipush (-4), 0) := rfl
theorem gi85_46 : gx_ins 85 46 = some (false, .ireturn, 0) := rfl
theorem gi85_47 : gx_ins 85 47 = some (false, .aload_n 0, 0) := rfl
theorem gi85_48 : gx_ins 85 48 = some (false, .getfield 16, 0) := rfl
theorem gi85_51 : gx_ins 85 51 = some (false, .aload_n 0, 0) := rfl
theorem gi85_52 : gx_ins 85 52 = some (false, .getfield 84, 0) := rfl
theorem gi85_55 : gx_ins 85 55 = some (false, .iload_n 1, 0) := rfl
theorem gi85_56 : gx_ins 85 56 = some (false, .iastore, 0) := rfl
theorem gi85_57 : gx_ins 85 57 = some (false, .aload_n 0, 0) := rfl
theorem gi85_58 : gx_ins 85 58 = some (false, .getfield 19, 0) := rfl
theorem gi85_61 : gx_ins 85 61 = some (false, .aload_n 0, 0) := rfl
theorem gi85_62 : gx_ins 85 62 = some (false, .getfield 84, 0) := rfl
theorem gi85_65 : gx_ins 85 65 = some (false, .iload_n 2, 0) := rfl
theorem gi85_66 : gx_ins 85 66 = some (false, .iastore, 0) := rfl
theorem gi85_67 : gx_ins 85 67 = some (false, .aload_n 0, 0) := rfl
theorem gi85_68 : gx_ins 85 68 = some (false, .getfield 22, 0) := rfl
theorem gi85_71 : gx_ins 85 71 = some (false, .aload_n 0, 0) := rfl
theorem gi85_72 : gx_ins 85 72 = some (false, .getfield 84, 0) := rfl
theorem gi85_75 : gx_ins 85 75 = some (false, .iload_n 3, 0) := rfl
theorem gi85_76 : gx_ins 85 76 = some (false, .iastore, 0) := rfl
theorem gi85_77 : gx_ins 85 77 = some (false, .aload_n 0, 0) := rfl
theorem gi85_78 : gx_ins 85 78 = some (false, .getfield 25, 0) := rfl
theorem gi85_81 : gx_ins 85 81 = some (false, .aload_n 0, 0) := rfl
theorem gi85_82 : gx_ins 85 82 = some (false, .getfield 84, 0) := rfl
theorem gi85_85 : gx_ins 85 85 = some (false, .iload 4, 0) := rfl
theorem gi85_87 : gx_ins 85 87 = some (false, .iastore, 0) := rfl
theorem gi85_88 : gx_ins 85 88 = some (false, .aload_n 0, 0) := rfl
theorem gi85_89 : gx_ins 85 89 = some (false, .getfield 28, 0) := rfl
theorem gi85_92 : gx_ins 85 92 = some (false, .aload_n 0, 0) := rfl
theorem gi85_93 : gx_ins 85 93 = some (false, .getfield 84, 0) := rfl
theorem gi85_96 : gx_ins 85 96 = some (false, .iconst 1, 0) := rfl
theorem gi85_97 : gx_ins 85 97 = some (false, .bastore, 0) := rfl
theorem gi85_98 : gx_ins 85 98 = some (false, .aload_n 0, 0) := rfl
theorem gi85_99 : gx_ins 85 99 = some (false, .dup, 0) := rfl
theorem gi85_100 : gx_ins 85 100 = some (false, .getfield 84, 0) := rfl
theorem gi85_103 : gx_ins 85 103 = some (false, .iconst 1, 0) := rfl
theorem gi85_104 : gx_ins 85 104 = some (false, .iadd, 0) := rfl
theorem gi85_105 : gx_ins 85 105 = some (false, .putfield 84, 0) := rfl
theorem gi85_108 : gx_ins 85 108 = some (false, .aload_n 0, 0) := rfl
theorem gi85_109 : gx_ins 85 109 = some (false, .iconst 0, 0) := rfl
theorem gi85_110 : gx_ins 85 110 = some (false, .putfield 117, 0) := rfl
theorem gi85_113 : gx_ins 85 113 = some (false, .aload_n 0, 0) := rfl
theorem gi85_114 : gx_ins 85 114 = some (false, .getfield 84, 0) := rfl
theorem gi85_117 : gx_ins 85 117 = some (false, .iconst 1, 0) := rfl
theorem gi85_118 : gx_ins 85 118 = some (false, .isub, 0) := rfl
theorem gi85_119 : gx_ins 85 119 = some (false, .ireturn, 0) := rfl
theorem gi86_0 : gx_ins 86 0 = some (false, .aload_n 0, 0) := rfl
theorem gi86_1 : gx_ins 86 1 = some (false, .iload_n 1, 0) := rfl
theorem gi86_2 : gx_ins 86 2 = some (false, .invokevirtual 169, 0) := rfl
theorem gi86_5 : gx_ins 86 5 = some (false, .ifCond .ne 5, 10) := rfl
theorem gi86_8 : gx_ins 86 8 = some (false, .iconst (-1), 0) := rfl
theorem gi86_9 : gx_ins 86 9 = some (false, .ireturn, 0) := rfl
theorem gi86_10 : gx_ins 86 10 = some (false, .iload_n 2, 0) := rfl
theorem gi86_11 : gx_ins 86 11 = some (false, .iload_n 3, 0) := rfl
theorem gi86_12 : gx_ins 86 12 = some (false, .invokestatic 166, 0) := rfl
theorem gi86_15 : gx_ins 86 15 = some (false, .ifCond .ne 6, 21) := rfl
theorem gi86_18 : gx_ins 86 18 = some (false, .bipush (-2), 0) := rfl
theorem gi86_20 : gx_ins 86 20 = some (false, .ireturn, 0) := rfl
theorem gi86_21 : gx_ins 86 21 = some (false, .aload_n 0, 0) := rfl
theorem gi86_22 : gx_ins 86 22 = some (false, .getfield 22, 0) := rfl
theorem gi86_25 : gx_ins 86 25 = some (false, .iload_n 1, 0) := rfl
theorem gi86_26 : gx_ins 86 26 = some (false, .iload_n 2, 0) := rfl
theorem gi86_27 : gx_ins 86 27 = some (false, .iastore, 0) := rfl
theorem gi86_28 : gx_ins 86 28 = some (false, .aload_n 0, 0) := rfl
theorem gi86_29 : gx_ins 86 29 = some (false, .getfield 25, 0) := rfl
theorem gi86_32 : gx_ins 86 32 = some (false, .iload_n 1, 0) := rfl
theorem gi86_33 : gx_ins 86 33 = some (false, .iload_n 3, 0) := rfl
theorem gi86_34 : gx_ins 86 34 = some (false, .iastore, 0) := rfl
theorem gi86_35 : gx_ins 86 35 = some (false, .aload_n 0, 0) := rfl
theorem gi86_36 : gx_ins 86 36 = some (false, .iconst 0, 0) := rfl
theorem gi86_37 : gx_ins 86 37 = some (false, .putfield 117, 0) := rfl
theorem gi86_40 : gx_ins 86 40 = some (false, .iconst 1, 0) := rfl
theorem gi86_41 : gx_ins 86 41 = some (false, .ireturn, 0) := rfl
theorem gi87_0 : gx_ins 87 0 = some (false, .aload_n 0, 0) := rfl
theorem gi87_1 : gx_ins 87 1 = some (false, .iload_n 1, 0) := rfl
theorem gi87_2 : gx_ins 87 2 = some (false, .invokevirtual 169, 0) := rfl
theorem gi87_5 : gx_ins 87 5 = some (false, .ifCond .ne 5, 10) := rfl
theorem gi87_8 : gx_ins 87 8 = some (false, .iconst (-1), 0) := rfl
theorem gi87_9 : gx_ins 87 9 = some (false, .ireturn, 0) := rfl
theorem gi87_10 : gx_ins 87 10 = some (false, .aload_n 0, 0) := rfl
theorem gi87_11 : gx_ins 87 11 = some (false, .getfield 28, 0) := rfl
theorem gi87_14 : gx_ins 87 14 = some (false, .iload_n 1, 0) := rfl
theorem gi87_15 : gx_ins 87 15 = some (false, .iconst 0, 0) := rfl
theorem gi87_16 : gx_ins 87 16 = some (false, .bastore, 0) := rfl
theorem gi87_17 : gx_ins 87 17 = some (false, .aload_n 0, 0) := rfl
theorem gi87_18 : gx_ins 87 18 = some (false, .iconst 0, 0) := rfl
theorem gi87_19 : gx_ins 87 19 = some (false, .putfield 117, 0) := rfl
theorem gi87_22 : gx_ins 87 22 = some (false, .iconst 0, 0) := rfl
theorem gi87_23 : gx_ins 87 23 = some (false, .istore_n 2, 0) := rfl
theorem gi87_24 : gx_ins 87 24 = some (false, .iconst 0, 0) := rfl
theorem gi87_25 : gx_ins 87 25 = some (false, .istore_n 3, 0) := rfl
theorem gi87_26 : gx_ins 87 26 = some (true, .iload_n 3, 0) := rfl
theorem gi87_27 : gx_ins 87 27 = some (false, .aload_n 0, 0) := rfl
theorem gi87_28 : gx_ins 87 28 = some (false, .getfield 84, 0) := rfl
theorem gi87_31 : gx_ins 87 31 = some (false, .if_icmp .ge 26, 57) := rfl
theorem gi87_34 : gx_ins 87 34 = some (false, .iload_n 2, 0) := rfl
theorem gi87_35 : gx_ins 87 35 = some (false, .aload_n 0, 0) := rfl
theorem gi87_36 : gx_ins 87 36 = some (false, .getfield 28, 0) := rfl
theorem gi87_39 : gx_ins 87 39 = some (false, .iload_n 3, 0) := rfl
theorem gi87_40 : gx_ins 87 40 = some (false, .baload, 0) := rfl
theorem gi87_41 : gx_ins 87 41 = some (false, .ifCond .eq 7, 48) := rfl
theorem gi87_44 : gx_ins 87 44 = some (false, .iconst 1, 0) := rfl
theorem gi87_45 : gx_ins 87 45 = some (false, .goto 4, 49) := rfl
theorem gi87_48 : gx_ins 87 48 = some (false, .iconst 0, 0) := rfl
theorem gi87_49 : gx_ins 87 49 = some (false, .iadd, 0) := rfl
theorem gi87_50 : gx_ins 87 50 = some (false, .istore_n 2, 0) := rfl
theorem gi87_51 : gx_ins 87 51 = some (false, .iinc 3 1, 0) := rfl
theorem gi87_54 : gx_ins 87 54 = some (false, .goto (-28), 26) := rfl
theorem gi87_57 : gx_ins 87 57 = some (false, .iload_n 2, 0) := rfl
theorem gi87_58 : gx_ins 87 58 = some (false, .ireturn, 0) := rfl
theorem gi88_0 : gx_ins 88 0 = some (false, .aload_n 0, 0) := rfl
theorem gi88_1 : gx_ins 88 1 = some (false, .getfield 91, 0) := rfl
theorem gi88_4 : gx_ins 88 4 = some (false, .istore_n 1, 0) := rfl
theorem gi88_5 : gx_ins 88 5 = some (false, .aload_n 0, 0) := rfl
theorem gi88_6 : gx_ins 88 6 = some (false, .iconst 0, 0) := rfl
theorem gi88_7 : gx_ins 88 7 = some (false, .putfield 91, 0) := rfl
theorem gi88_10 : gx_ins 88 10 = some (false, .aload_n 0, 0) := rfl
theorem gi88_11 : gx_ins 88 11 = some (false, .iconst 0, 0) := rfl
theorem gi88_12 : gx_ins 88 12 = some (false, .putfield 84, 0) := rfl
theorem gi88_15 : gx_ins 88 15 = some (false, .aload_n 0, 0) := rfl
theorem gi88_16 : gx_ins 88 16 = some (false, .iconst 0, 0) := rfl
theorem gi88_17 : gx_ins 88 17 = some (false, .putfield 117, 0) := rfl
theorem gi88_20 : gx_ins 88 20 = some (false, .iload_n 1, 0) := rfl
theorem gi88_21 : gx_ins 88 21 = some (false, .ireturn, 0) := rfl
theorem gi89_0 : gx_ins 89 0 = some (false, .aload_n 0, 0) := rfl
theorem gi89_1 : gx_ins 89 1 = some (false, .invokevirtual 172, 0) := rfl
theorem gi89_4 : gx_ins 89 4 = some (false, .aload_n 0, 0) := rfl
theorem gi89_5 : gx_ins 89 5 = some (false, .getfield 121, 0) := rfl
theorem gi89_8 : gx_ins 89 8 = some (false, .ifCond .eq 7, 15) := rfl
theorem gi89_11 : gx_ins 89 11 = some (false, .iconst 1, 0) := rfl
theorem gi89_12 : gx_ins 89 12 = some (false, .goto 4, 16) := rfl
theorem gi89_15 : gx_ins 89 15 = some (false, .iconst 0, 0) := rfl
theorem gi89_16 : gx_ins 89 16 = some (false, .ireturn, 0) := rfl
theorem gi90_0 : gx_ins 90 0 = some (false, .iload_n 0, 0) := rfl
theorem gi90_1 : gx_ins 90 1 = some (false, .ifCond .eq 8, 9) := rfl
theorem gi90_4 : gx_ins 90 4 = some (false, .iload_n 0, 0) := rfl
theorem gi90_5 : gx_ins 90 5 = some (false, .iconst 1, 0) := rfl
theorem gi90_6 : gx_ins 90 6 = some (false, .if_icmp .ne 7, 13) := rfl
theorem gi90_9 : gx_ins 90 9 = some (false, .iconst 1, 0) := rfl
theorem gi90_10 : gx_ins 90 10 = some (false, .goto 4, 14) := rfl
theorem gi90_13 : gx_ins 90 13 = some (false, .iconst 0, 0) := rfl
theorem gi90_14 : gx_ins 90 14 = some (false, .ireturn, 0) := rfl
theorem gi91_0 : gx_ins 91 0 = some (false, .iload_n 1, 0) := rfl
theorem gi91_1 : gx_ins 91 1 = some (false, .invokestatic 175, 0) := rfl
theorem gi91_4 : gx_ins 91 4 = some (false, .ifCond .ne 5, 9) := rfl
theorem gi91_7 : gx_ins 91 7 = some (false, .iconst (-1), 0) := rfl
theorem gi91_8 : gx_ins 91 8 = some (false, .ireturn, 0) := rfl
theorem gi91_9 : gx_ins 91 9 = some (false, .aload_n 0, 0) := rfl
theorem gi91_10 : gx_ins 91 10 = some (false, .invokevirtual 172, 0) := rfl
theorem gi91_13 : gx_ins 91 13 = some (false, .aload_n 0, 0) := rfl
theorem gi91_14 : gx_ins 91 14 = some (false, .getfield 121, 0) := rfl
theorem gi91_17 : gx_ins 91 17 = some (false, .ifCond .eq 12, 29) := rfl
theorem gi91_20 : gx_ins 91 20 = some (false, .aload_n 0, 0) := rfl
theorem gi91_21 : gx_ins 91 21 = some (false, .getfield 50, 0) := rfl
theorem gi91_24 : gx_ins 91 24 = some (false, .iload_n 1, 0) := rfl
theorem gi91_25 : gx_ins 91 25 = some (false, .iaload, 0) := rfl
theorem gi91_26 : gx_ins 91 26 = some (false, .goto 5, 31) := rfl
theorem gi91_29 : gx_ins 91 29 = some (false, .bipush (-3), 0) := rfl
theorem gi91_31 : gx_ins 91 31 = some (false, .ireturn, 0) := rfl
theorem gi92_0 : gx_ins 92 0 = some (false, .iload_n 1, 0) := rfl
theorem gi92_1 : gx_ins 92 1 = some (false, .invokestatic 175, 0) := rfl
theorem gi92_4 : gx_ins 92 4 = some (false, .ifCond .eq 11, 15) := rfl
theorem gi92_7 : gx_ins 92 7 = some (false, .aload_n 0, 0) := rfl
theorem gi92_8 : gx_ins 92 8 = some (false, .iload_n 2, 0) := rfl
theorem gi92_9 : gx_ins 92 9 = some (false, .invokevirtual 169, 0) := rfl
theorem gi92_12 : gx_ins 92 12 = some (false, .ifCond .ne 5, 17) := rfl
theorem gi92_15 : gx_ins 92 15 = some (false, .iconst (-1), 0) := rfl
theorem gi92_16 : gx_ins 92 16 = some (false, .ireturn, 0) := rfl
theorem gi92_17 : gx_ins 92 17 = some (false, .aload_n 0, 0) := rfl
theorem gi92_18 : gx_ins 92 18 = some (false, .invokevirtual 172, 0) := rfl
theorem gi92_21 : gx_ins 92 21 = some (false, .aload_n 0, 0) := rfl
theorem gi92_22 : gx_ins 92 22 = some (false, .getfield 121, 0) := rfl
theorem gi92_25 : gx_ins 92 25 = some (false, .ifCond .eq 17, 42) := rfl
theorem gi92_28 : gx_ins 92 28 = some (false, .aload_n 0, 0) := rfl
theorem gi92_29 : gx_ins 92 29 = some (false, .getfield 53, 0) := rfl
theorem gi92_32 : gx_ins 92 32 = some (false, .bipush 40, 0) := rfl
theorem gi92_34 : gx_ins 92 34 = some (false, .iload_n 1, 0) := rfl
theorem gi92_35 : gx_ins 92 35 = some (false, .imul, 0) := rfl
theorem gi92_36 : gx_ins 92 36 = some (false, .iload_n 2, 0) := rfl
theorem gi92_37 : gx_ins 92 37 = some (false, .iadd, 0) := rfl
theorem gi92_38 : gx_ins 92 38 = some (false, .iaload, 0) := rfl
theorem gi92_39 : gx_ins 92 39 = some (false, .goto 5, 44) := rfl
theorem gi92_42 : gx_ins 92 42 = some (false, .bipush (-3), 0) := rfl
theorem gi92_44 : gx_ins 92 44 = some (false, .ireturn, 0) := rfl
theorem gi93_0 : gx_ins 93 0 = some (false, .iload_n 1, 0) := rfl
theorem gi93_1 : gx_ins 93 1 = some (false, .invokestatic 175, 0) := rfl
theorem gi93_4 : gx_ins 93 4 = some (false, .ifCond .eq 11, 15) := rfl
theorem gi93_7 : gx_ins 93 7 = some (false, .aload_n 0, 0) := rfl
theorem gi93_8 : gx_ins 93 8 = some (false, .iload_n 2, 0) := rfl
theorem gi93_9 : gx_ins 93 9 = some (false, .invokevirtual 161, 0) := rfl
theorem gi93_12 : gx_ins 93 12 = some (false, .ifCond .ne 5, 17) := rfl
theorem gi93_15 : gx_ins 93 15 = some (false, .iconst (-1), 0) := rfl
theorem gi93_16 : gx_ins 93 16 = some (false, .ireturn, 0) := rfl
theorem gi93_17 : gx_ins 93 17 = some (false, .aload_n 0, 0) := rfl
theorem gi93_18 : gx_ins 93 18 = some (false, .invokevirtual 172, 0) := rfl
theorem gi93_21 : gx_ins 93 21 = some (false, .aload_n 0, 0) := rfl
theorem gi93_22 : gx_ins 93 22 = some (false, .getfield 121, 0) := rfl
theorem gi93_25 : gx_ins 93 25 = some (false, .ifCond .ne 6, 31) := rfl
theorem gi93_28 : gx_ins 93 28 = some (false, .bipush (-3), 0) := rfl
theorem gi93_30 : gx_ins 93 30 = some (false, .ireturn, 0) := rfl
theorem gi93_31 : gx_ins 93 31 = some (false, .aload_n 0, 0) := rfl
theorem gi93_32 : gx_ins 93 32 = some (false, .iload_n 1, 0) := rfl
theorem gi93_33 : gx_ins 93 33 = some (false, .iload_n 2, 0) := rfl
theorem gi93_34 : gx_ins 93 34 = some (false, .invokevirtual 141, 0) := rfl
theorem gi93_37 : gx_ins 93 37 = some (false, .istore_n 3, 0) := rfl
theorem gi93_38 : gx_ins 93 38 = some (false, .aload_n 0, 0) := rfl
theorem gi93_39 : gx_ins 93 39 = some (false, .iload_n 1, 0) := rfl
theorem gi93_40 : gx_ins 93 40 = some (false, .iload_n 2, 0) := rfl
theorem gi93_41 : gx_ins 93 41 = some (false, .invokevirtual 137, 0) := rfl
theorem gi93_44 : gx_ins 93 44 = some (false, .istore 4, 0) := rfl
theorem gi93_46 : gx_ins 93 46 = some (false, .iload_n 3, 0) := rfl
theorem gi93_47 : gx_ins 93 47 = some (false, .iload 4, 0) := rfl
theorem gi93_49 : gx_ins 93 49 = some (false, .if_icmp .le 7, 56) := rfl
theorem gi93_52 : gx_ins 93 52 = some (false, .iload_n 3, 0) := rfl
theorem gi93_53 : gx_ins 93 53 = some (false, .goto 5, 58) := rfl
theorem gi93_56 : gx_ins 93 56 = some (false, .iload 4, 0) := rfl
theorem gi93_58 : gx_ins 93 58 = some (false, .ireturn, 0) := rfl
theorem gi94_0 : gx_ins 94 0 = some (false, .aload_n 0, 0) := rfl
theorem gi94_1 : gx_ins 94 1 = some (false, .iload_n 1, 0) := rfl
theorem gi94_2 : gx_ins 94 2 = some (false, .invokevirtual 161, 0) := rfl
theorem gi94_5 : gx_ins 94 5 = some (false, .ifCond .ne 5, 10) := rfl
theorem gi94_8 : gx_ins 94 8 = some (false, .iconst (-1), 0) := rfl
theorem gi94_9 : gx_ins 94 9 = some (false, .ireturn, 0) := rfl
theorem gi94_10 : gx_ins 94 10 = some (false, .aload_n 0, 0) := rfl
theorem gi94_11 : gx_ins 94 11 = some (false, .getfield 7, 0) := rfl
theorem gi94_14 : gx_ins 94 14 = some (false, .iload_n 1, 0) := rfl
theorem gi94_15 : gx_ins 94 15 = some (false, .iaload, 0) := rfl
theorem gi94_16 : gx_ins 94 16 = some (false, .ifCond .eq 6, 22) := rfl
theorem gi94_19 : gx_ins 94 19 = some (false, .bipush (-2), 0) := rfl
theorem gi94_21 : gx_ins 94 21 = some (false, .ireturn, 0) := rfl
theorem gi94_22 : gx_ins 94 22 = some (false, .aload_n 0, 0) := rfl
theorem gi94_23 : gx_ins 94 23 = some (false, .invokevirtual 172, 0) := rfl
theorem gi94_26 : gx_ins 94 26 = some (false, .aload_n 0, 0) := rfl
theorem gi94_27 : gx_ins 94 27 = some (false, .getfield 121, 0) := rfl
theorem gi94_30 : gx_ins 94 30 = some (false, .ifCond .ne 6, 36) := rfl
theorem gi94_33 : gx_ins 94 33 = some (false, .bipush (-3), 0) := rfl
theorem gi94_35 : gx_ins 94 35 = some (false, .ireturn, 0) := rfl
theorem gi94_36 : gx_ins 94 36 = some (false, .aload_n 0, 0) := rfl
theorem gi94_37 : gx_ins 94 37 = some (false, .invokevirtual 107, 0) := rfl
theorem gi94_40 : gx_ins 94 40 = some (false, .aload_n 0, 0) := rfl
theorem gi94_41 : gx_ins 94 41 = some (false, .getfield 38, 0) := rfl
theorem gi94_44 : gx_ins 94 44 = some (false, .iload_n 1, 0) := rfl
theorem gi94_45 : gx_ins 94 45 = some (false, .iload_n 2, 0) := rfl
theorem gi94_46 : gx_ins 94 46 = some (false, .iastore, 0) := rfl
theorem gi94_47 : gx_ins 94 47 = some (false, .aload_n 0, 0) := rfl
theorem gi94_48 : gx_ins 94 48 = some (false, .aload_n 0, 0) := rfl
theorem gi94_49 : gx_ins 94 49 = some (false, .getfield 50, 0) := rfl
theorem gi94_52 : gx_ins 94 52 = some (false, .iconst 0, 0) := rfl
theorem gi94_53 : gx_ins 94 53 = some (false, .iaload, 0) := rfl
theorem gi94_54 : gx_ins 94 54 = some (false, .iconst 1, 0) := rfl
theorem gi94_55 : gx_ins 94 55 = some (false, .iadd, 0) := rfl
theorem gi94_56 : gx_ins 94 56 = some (false, .ldc 94, 0) := rfl
theorem gi94_58 : gx_ins 94 58 = some (false, .invokevirtual 103, 0) := rfl
theorem gi94_61 : gx_ins 94 61 = some (false, .ifCond .eq 7, 68) := rfl
theorem gi94_64 : gx_ins 94 64 = some (false, .iconst 1, 0) := rfl
theorem gi94_65 : gx_ins 94 65 = some (false, .goto 4, 69) := rfl
theorem gi94_68 : gx_ins 94 68 = some (false, .iconst 0, 0) := rfl
theorem gi94_69 : gx_ins 94 69 = some (false, .ireturn, 0) := rfl
theorem gi95_0 : gx_ins 95 0 = some (false, .aload_n 0, 0) := rfl
theorem gi95_1 : gx_ins 95 1 = some (false, .iload_n 1, 0) := rfl
theorem gi95_2 : gx_ins 95 2 = some (false, .iconst 2, 0) := rfl
theorem gi95_3 : gx_ins 95 3 = some (false, .invokevirtual 178, 0) := rfl
theorem gi95_6 : gx_ins 95 6 = some (false, .ireturn, 0) := rfl
theorem gi96_0 : gx_ins 96 0 = some (false, .aload_n 0, 0) := rfl
theorem gi96_1 : gx_ins 96 1 = some (false, .iload_n 1, 0) := rfl
theorem gi96_2 : gx_ins 96 2 = some (false, .iconst 1, 0) := rfl
theorem gi96_3 : gx_ins 96 3 = some (false, .invokevirtual 178, 0) := rfl
theorem gi96_6 : gx_ins 96 6 = some (false, .ireturn, 0) := rfl
theorem gi97_0 : gx_ins 97 0 = some (false, .aload_n 0, 0) := rfl
theorem gi97_1 : gx_ins 97 1 = some (false, .iload_n 1, 0) := rfl
theorem gi97_2 : gx_ins 97 2 = some (false, .invokevirtual 169, 0) := rfl
theorem gi97_5 : gx_ins 97 5 = some (false, .ifCond .ne 5, 10) := rfl
theorem gi97_8 : gx_ins 97 8 = some (false, .iconst (-1), 0) := rfl
theorem gi97_9 : gx_ins 97 9 = some (false, .ireturn, 0) := rfl
theorem gi97_10 : gx_ins 97 10 = some (false, .aload_n 0, 0) := rfl
theorem gi97_11 : gx_ins 97 11 = some (false, .invokevirtual 172, 0) := rfl
theorem gi97_14 : gx_ins 97 14 = some (false, .aload_n 0, 0) := rfl
theorem gi97_15 : gx_ins 97 15 = some (false, .getfield 121, 0) := rfl
theorem gi97_18 : gx_ins 97 18 = some (false, .ifCond .ne 6, 24) := rfl
theorem gi97_21 : gx_ins 97 21 = some (false, .bipush (-3), 0) := rfl
theorem gi97_23 : gx_ins 97 23 = some (false, .ireturn, 0) := rfl
theorem gi97_24 : gx_ins 97 24 = some (false, .aload_n 0, 0) := rfl
theorem gi97_25 : gx_ins 97 25 = some (false, .invokevirtual 107, 0) := rfl
theorem gi97_28 : gx_ins 97 28 = some (false, .aload_n 0, 0) := rfl
theorem gi97_29 : gx_ins 97 29 = some (false, .getfield 35, 0) := rfl
theorem gi97_32 : gx_ins 97 32 = some (false, .iload_n 1, 0) := rfl
theorem gi97_33 : gx_ins 97 33 = some (false, .dup2, 0) := rfl
theorem gi97_34 : gx_ins 97 34 = some (false, .iaload, 0) := rfl
theorem gi97_35 : gx_ins 97 35 = some (false, .iconst 1, 0) := rfl
theorem gi97_36 : gx_ins 97 36 = some (false, .iadd, 0) := rfl
theorem gi97_37 : gx_ins 97 37 = some (false, .iastore, 0) := rfl
theorem gi97_38 : gx_ins 97 38 = some (false, .aload_n 0, 0) := rfl
theorem gi97_39 : gx_ins 97 39 = some (false, .aload_n 0, 0) := rfl
theorem gi97_40 : gx_ins 97 40 = some (false, .getfield 50, 0) := rfl
theorem gi97_43 : gx_ins 97 43 = some (false, .iconst 0, 0) := rfl
theorem gi97_44 : gx_ins 97 44 = some (false, .iaload, 0) := rfl
theorem gi97_45 : gx_ins 97 45 = some (false, .iconst 1, 0) := rfl
theorem gi97_46 : gx_ins 97 46 = some (false, .iadd, 0) := rfl
theorem gi97_47 : gx_ins 97 47 = some (false, .ldc 94, 0) := rfl
theorem gi97_49 : gx_ins 97 49 = some (false, .invokevirtual 103, 0) := rfl
theorem gi97_52 : gx_ins 97 52 = some (false, .ifCond .eq 7, 59) := rfl
theorem gi97_55 : gx_ins 97 55 = some (false, .iconst 1, 0) := rfl
theorem gi97_56 : gx_ins 97 56 = some (false, .goto 4, 60) := rfl
theorem gi97_59 : gx_ins 97 59 = some (false, .iconst 0, 0) := rfl
theorem gi97_60 : gx_ins 97 60 = some (false, .ireturn, 0) := rfl
theorem gi98_0 : gx_ins 98 0 = some (false, .aload_n 0, 0) := rfl
theorem gi98_1 : gx_ins 98 1 = some (false, .invokevirtual 172, 0) := rfl
theorem gi98_4 : gx_ins 98 4 = some (false, .aload_n 0, 0) := rfl
theorem gi98_5 : gx_ins 98 5 = some (false, .getfield 121, 0) := rfl
theorem gi98_8 : gx_ins 98 8 = some (false, .ifCond .eq 6, 14) := rfl
theorem gi98_11 : gx_ins 98 11 = some (false, .bipush (-2), 0) := rfl
theorem gi98_13 : gx_ins 98 13 = some (false, .ireturn, 0) := rfl
theorem gi98_14 : gx_ins 98 14 = some (false, .iconst 0, 0) := rfl
theorem gi98_15 : gx_ins 98 15 = some (false, .istore_n 2, 0) := rfl
theorem gi98_16 : gx_ins 98 16 = some (false, .iconst 0, 0) := rfl
theorem gi98_17 : gx_ins 98 17 = some (false, .istore_n 3, 0) := rfl
theorem gi98_18 : gx_ins 98 18 = some (true, .iload_n 3, 0) := rfl
theorem gi98_19 : gx_ins 98 19 = some (false, .aload_n 0, 0) := rfl
theorem gi98_20 : gx_ins 98 20 = some (false, .getfield 84, 0) := rfl
theorem gi98_23 : gx_ins 98 23 = some (false, .if_icmp .ge 28, 51) := rfl
theorem gi98_26 : gx_ins 98 26 = some (false, .aload_n 0, 0) := rfl
theorem gi98_27 : gx_ins 98 27 = some (false, .getfield 56, 0) := rfl
theorem gi98_30 : gx_ins 98 30 = some (false, .iload_n 3, 0) := rfl
theorem gi98_31 : gx_ins 98 31 = some (false, .baload, 0) := rfl
theorem gi98_32 : gx_ins 98 32 = some (false, .ifCond .eq 13, 45) := rfl
theorem gi98_35 : gx_ins 98 35 = some (false, .iload_n 2, 0) := rfl
theorem gi98_36 : gx_ins 98 36 = some (false, .iload_n 1, 0) := rfl
theorem gi98_37 : gx_ins 98 37 = some (false, .if_icmp .ne 5, 42) := rfl
theorem gi98_40 : gx_ins 98 40 = some (false, .iload_n 3, 0) := rfl
theorem gi98_41 : gx_ins 98 41 = some (false, .ireturn, 0) := rfl
theorem gi98_42 : gx_ins 98 42 = some (false, .iinc 2 1, 0) := rfl
theorem gi98_45 : gx_ins 98 45 = some (false, .iinc 3 1, 0) := rfl
theorem gi98_48 : gx_ins 98 48 = some (false, .goto (-30), 18) := rfl
theorem gi98_51 : gx_ins 98 51 = some (false, .iconst (-1), 0) := rfl
theorem gi98_52 : gx_ins 98 52 = some (false, .ireturn, 0) := rfl
theorem gi99_0 : gx_ins 99 0 = some (false, .aload_n 0, 0) := rfl
theorem gi99_1 : gx_ins 99 1 = some (false, .invokevirtual 172, 0) := rfl
theorem gi99_4 : gx_ins 99 4 = some (false, .aload_n 0, 0) := rfl
theorem gi99_5 : gx_ins 99 5 = some (false, .getfield 121, 0) := rfl
theorem gi99_8 : gx_ins 99 8 = some (false, .ifCond .eq 10, 18) := rfl
theorem gi99_11 : gx_ins 99 11 = some (false, .aload_n 0, 0) := rfl
theorem gi99_12 : gx_ins 99 12 = some (false, .getfield 134, 0) := rfl
theorem gi99_15 : gx_ins 99 15 = some (false, .goto 5, 20) := rfl
theorem gi99_18 : gx_ins 99 18 = some (false, .bipush (-3), 0) := rfl
theorem gi99_20 : gx_ins 99 20 = some (false, .ireturn, 0) := rfl
theorem gi100_0 : gx_ins 100 0 = some (false, .aload_n 0, 0) := rfl
theorem gi100_1 : gx_ins 100 1 = some (false, .invokevirtual 172, 0) := rfl
theorem gi100_4 : gx_ins 100 4 = some (false, .aload_n 0, 0) := rfl
theorem gi100_5 : gx_ins 100 5 = some (false, .getfield 121, 0) := rfl
theorem gi100_8 : gx_ins 100 8 = some (false, .ifCond .ne 6, 14) := rfl
theorem gi100_11 : gx_ins 100 11 = some (false, .bipush (-3), 0) := rfl
theorem gi100_13 : gx_ins 100 13 = some (false, .ireturn, 0) := rfl
theorem gi100_14 : gx_ins 100 14 = some (false, .iload_n 1, 0) := rfl
theorem gi100_15 : gx_ins 100 15 = some (false, .ifCond .lt 11, 26) := rfl
theorem gi100_18 : gx_ins 100 18 = some (false, .iload_n 1, 0) := rfl
theorem gi100_19 : gx_ins 100 19 = some (false, .aload_n 0, 0) := rfl
theorem gi100_20 : gx_ins 100 20 = some (false, .getfield 134, 0) := rfl
theorem gi100_23 : gx_ins 100 23 = some (false, .if_icmp .lt 5, 28) := rfl
theorem gi100_26 : gx_ins 100 26 = some (false, .iconst (-1), 0) := rfl
theorem gi100_27 : gx_ins 100 27 = some (false, .ireturn, 0) := rfl
theorem gi100_28 : gx_ins 100 28 = some (false, .iload_n 2, 0) := rfl
theorem gi100_29 : gx_ins 100 29 = some (false, .ifCond .ge 6, 35) := rfl
theorem gi100_32 : gx_ins 100 32 = some (false, .bipush (-2), 0) := rfl
theorem gi100_34 : gx_ins 100 34 = some (false, .ireturn, 0) := rfl
theorem gi100_35 : gx_ins 100 35 = some (false, .iload_n 2, 0) := rfl
theorem gi100_36 : gx_ins 100 36 = some (false, .ifCond .ne 12, 48) := rfl
theorem gi100_39 : gx_ins 100 39 = some (false, .aload_n 0, 0) := rfl
theorem gi100_40 : gx_ins 100 40 = some (false, .getfield 59, 0) := rfl
theorem gi100_43 : gx_ins 100 43 = some (false, .iload_n 1, 0) := rfl
theorem gi100_44 : gx_ins 100 44 = some (false, .iaload, 0) := rfl
theorem gi100_45 : gx_ins 100 45 = some (false, .goto 46, 91) := rfl
theorem gi100_48 : gx_ins 100 48 = some (false, .iload_n 2, 0) := rfl
theorem gi100_49 : gx_ins 100 49 = some (false, .iconst 1, 0) := rfl
theorem gi100_50 : gx_ins 100 50 = some (false, .if_icmp .ne 12, 62) := rfl
theorem gi100_53 : gx_ins 100 53 = some (false, .aload_n 0, 0) := rfl
theorem gi100_54 : gx_ins 100 54 = some (false, .getfield 62, 0) := rfl
theorem gi100_57 : gx_ins 100 57 = some (false, .iload_n 1, 0) := rfl
theorem gi100_58 : gx_ins 100 58 = some (false, .iaload, 0) := rfl
theorem gi100_59 : gx_ins 100 59 = some (false, .goto 32, 91) := rfl
theorem gi100_62 : gx_ins 100 62 = some (false, .iload_n 2, 0) := rfl
theorem gi100_63 : gx_ins 100 63 = some (false, .iconst 2, 0) := rfl
theorem gi100_64 : gx_ins 100 64 = some (false, .isub, 0) := rfl
theorem gi100_65 : gx_ins 100 65 = some (false, .aload_n 0, 0) := rfl
theorem gi100_66 : gx_ins 100 66 = some (false, .getfield 62, 0) := rfl
theorem gi100_69 : gx_ins 100 69 = some (false, .iload_n 1, 0) := rfl
theorem gi100_70 : gx_ins 100 70 = some (false, .iaload, 0) := rfl
theorem gi100_71 : gx_ins 100 71 = some (false, .if_icmp .ge 19, 90) := rfl
theorem gi100_74 : gx_ins 100 74 = some (false, .aload_n 0, 0) := rfl
theorem gi100_75 : gx_ins 100 75 = some (false, .getfield 65, 0) := rfl
theorem gi100_78 : gx_ins 100 78 = some (false, .bipush 10, 0) := rfl
theorem gi100_80 : gx_ins 100 80 = some (false, .iload_n 1, 0) := rfl
theorem gi100_81 : gx_ins 100 81 = some (false, .imul, 0) := rfl
theorem gi100_82 : gx_ins 100 82 = some (false, .iload_n 2, 0) := rfl
theorem gi100_83 : gx_ins 100 83 = some (false, .iadd, 0) := rfl
theorem gi100_84 : gx_ins 100 84 = some (false, .iconst 2, 0) := rfl
theorem gi100_85 : gx_ins 100 85 = some (false, .isub, 0) := rfl
theorem gi100_86 : gx_ins 100 86 = some (false, .iaload, 0) := rfl
theorem gi100_87 : gx_ins 100 87 = some (false, .goto 4, 91) := rfl
theorem gi100_90 : gx_ins 100 90 = some (false, .iconst (-1), 0) := rfl
theorem gi100_91 : gx_ins 100 91 = some (false, .ireturn, 0) := rfl
theorem gi101_0 : gx_ins 101 0 = some (false, .iload_n 0, 0) := rfl
theorem gi101_1 : gx_ins 101 1 = some (false, .ifCond .ge 8, 9) := rfl
theorem gi101_4 : gx_ins 101 4 = some (false, .iload_n 0, 0) := rfl
theorem gi101_5 : gx_ins 101 5 = some (false, .ineg, 0) := rfl
theorem gi101_6 : gx_ins 101 6 = some (false, .goto 4, 10) := rfl
theorem gi101_9 : gx_ins 101 9 = some (false, .iload_n 0, 0) := rfl
theorem gi101_10 : gx_ins 101 10 = some (false, .ireturn, 0) := rfl
theorem gi102_0 : gx_ins 102 0 = some (false, .iload_n 0, 0) := rfl
theorem gi102_1 : gx_ins 102 1 = some (false, .iload_n 1, 0) := rfl
theorem gi102_2 : gx_ins 102 2 = some (false, .if_icmp .lt 7, 9) := rfl
theorem gi102_5 : gx_ins 102 5 = some (false, .iload_n 0, 0) := rfl
theorem gi102_6 : gx_ins 102 6 = some (false, .goto 4, 10) := rfl
theorem gi102_9 : gx_ins 102 9 = some (false, .iload_n 1, 0) := rfl
theorem gi102_10 : gx_ins 102 10 = some (false, .ireturn, 0) := rfl
theorem gi103_0 : gx_ins 103 0 = some (false, .iload_n 0, 0) := rfl
theorem gi103_1 : gx_ins 103 1 = some (false, .iload_n 1, 0) := rfl
theorem gi103_2 : gx_ins 103 2 = some (false, .if_icmp .gt 7, 9) := rfl
theorem gi103_5 : gx_ins 103 5 = some (false, .iload_n 0, 0) := rfl
theorem gi103_6 : gx_ins 103 6 = some (false, .goto 4, 10) := rfl
theorem gi103_9 : gx_ins 103 9 = some (false, .iload_n 1, 0) := rfl
theorem gi103_10 : gx_ins 103 10 = some (false, .ireturn, 0) := rfl
theorem gi104_0 : gx_ins 104 0 = some (false, .iconst 0, 0) := rfl
theorem gi104_1 : gx_ins 104 1 = some (false, .istore_n 2, 0) := rfl
theorem gi104_2 : gx_ins 104 2 = some (false, .aload_n 0, 0) := rfl
theorem gi104_3 : gx_ins 104 3 = some (false, .arraylength, 0) := rfl
theorem gi104_4 : gx_ins 104 4 = some (false, .istore_n 3, 0) := rfl
theorem gi104_5 : gx_ins 104 5 = some (true, .iload_n 2, 0) := rfl
theorem gi104_6 : gx_ins 104 6 = some (false, .iload_n 3, 0) := rfl
theorem gi104_7 : gx_ins 104 7 = some (false, .if_icmp .ge 13, 20) := rfl
theorem gi104_10 : gx_ins 104 10 = some (false, .aload_n 0, 0) := rfl
theorem gi104_11 : gx_ins 104 11 = some (false, .iload_n 2, 0) := rfl
theorem gi104_12 : gx_ins 104 12 = some (false, .iload_n 1, 0) := rfl
theorem gi104_13 : gx_ins 104 13 = some (false, .iastore, 0) := rfl
theorem gi104_14 : gx_ins 104 14 = some (false, .iinc 2 1, 0) := rfl
theorem gi104_17 : gx_ins 104 17 = some (false, .goto (-12), 5) := rfl
theorem gi104_20 : gx_ins 104 20 = some (false, .return_, 0) := rfl
