theorem dX2_init_0 : decode cX2_init 0 = .ok (.aload_n 0, 1) := by decide +kernel
theorem dX2_init_1 : decode cX2_init 1 = .ok (.invokespecial 3, 3) := by decide +kernel
theorem dX2_init_4 : decode cX2_init 4 = .ok (.aload_n 0, 1) := by decide +kernel
theorem dX2_init_5 : decode cX2_init 5 = .ok (.sipush 160, 3) := by decide +kernel
theorem dX2_init_8 : decode cX2_init 8 = .ok (.newarray .int, 2) := by decide +kernel
theorem dX2_init_10 : decode cX2_init 10 = .ok (.putfield 9, 3) := by decide +kernel
theorem dX2_init_13 : decode cX2_init 13 = .ok (.aload_n 0, 1) := by decide +kernel
theorem dX2_init_14 : decode cX2_init 14 = .ok (.new 15, 3) := by decide +kernel
theorem dX2_init_17 : decode cX2_init 17 = .ok (.dup, 1) := by decide +kernel
theorem dX2_init_18 : decode cX2_init 18 = .ok (.invokespecial 17, 3) := by decide +kernel
theorem dX2_init_21 : decode cX2_init 21 = .ok (.putfield 18, 3) := by decide +kernel
theorem dX2_init_24 : decode cX2_init 24 = .ok (.aload_n 0, 1) := by decide +kernel
theorem dX2_init_25 : decode cX2_init 25 = .ok (.iconst 0, 1) := by decide +kernel
theorem dX2_init_26 : decode cX2_init 26 = .ok (.putfield 22, 3) := by decide +kernel
theorem dX2_init_29 : decode cX2_init 29 = .ok (.aload_n 0, 1) := by decide +kernel
theorem dX2_init_30 : decode cX2_init 30 = .ok (.iconst 0, 1) := by decide +kernel
theorem dX2_init_31 : decode cX2_init 31 = .ok (.putfield 26, 3) := by decide +kernel
theorem dX2_init_34 : decode cX2_init 34 = .ok (.aload_n 0, 1) := by decide +kernel
theorem dX2_init_35 : decode cX2_init 35 = .ok (.bipush 22, 2) := by decide +kernel
theorem dX2_init_37 : decode cX2_init 37 = .ok (.putfield 31, 3) := by decide +kernel
theorem dX2_init_40 : decode cX2_init 40 = .ok (.aload_n 0, 1) := by decide +kernel
theorem dX2_init_41 : decode cX2_init 41 = .ok (.iconst 0, 1) := by decide +kernel
theorem dX2_init_42 : decode cX2_init 42 = .ok (.putfield 34, 3) := by decide +kernel
theorem dX2_init_45 : decode cX2_init 45 = .ok (.aload_n 0, 1) := by decide +kernel
theorem dX2_init_46 : decode cX2_init 46 = .ok (.iconst 0, 1) := by decide +kernel
theorem dX2_init_47 : decode cX2_init 47 = .ok (.putfield 37, 3) := by decide +kernel
theorem dX2_init_50 : decode cX2_init 50 = .ok (.return_, 1) := by decide +kernel
theorem dX2_append_0 : decode cX2_append 0 = .ok (.aload_n 0, 1) := by decide +kernel
theorem dX2_append_1 : decode cX2_append 1 = .ok (.getfield 22, 3) := by decide +kernel
theorem dX2_append_4 : decode cX2_append 4 = .ok (.sipush 160, 3) := by decide +kernel
theorem dX2_append_7 : decode cX2_append 7 = .ok (.if_icmp .ge 23, 3) := by decide +kernel
theorem dX2_append_10 : decode cX2_append 10 = .ok (.aload_n 0, 1) := by decide +kernel
theorem dX2_append_11 : decode cX2_append 11 = .ok (.getfield 9, 3) := by decide +kernel
theorem dX2_append_14 : decode cX2_append 14 = .ok (.aload_n 0, 1) := by decide +kernel
theorem dX2_append_15 : decode cX2_append 15 = .ok (.getfield 22, 3) := by decide +kernel
theorem dX2_append_18 : decode cX2_append 18 = .ok (.iload_n 1, 1) := by decide +kernel
theorem dX2_append_19 : decode cX2_append 19 = .ok (.iastore, 1) := by decide +kernel
theorem dX2_append_20 : decode cX2_append 20 = .ok (.aload_n 0, 1) := by decide +kernel
theorem dX2_append_21 : decode cX2_append 21 = .ok (.dup, 1) := by decide +kernel
theorem dX2_append_22 : decode cX2_append 22 = .ok (.getfield 22, 3) := by decide +kernel
theorem dX2_append_25 : decode cX2_append 25 = .ok (.iconst 1, 1) := by decide +kernel
theorem dX2_append_26 : decode cX2_append 26 = .ok (.iadd, 1) := by decide +kernel
theorem dX2_append_27 : decode cX2_append 27 = .ok (.putfield 22, 3) := by decide +kernel
theorem dX2_append_30 : decode cX2_append 30 = .ok (.return_, 1) := by decide +kernel
theorem dX2_readInto_0 : decode cX2_readInto 0 = .ok (.aload_n 0, 1) := by decide +kernel
theorem dX2_readInto_1 : decode cX2_readInto 1 = .ok (.getfield 18, 3) := by decide +kernel
theorem dX2_readInto_4 : decode cX2_readInto 4 = .ok (.invokevirtual 40, 3) := by decide +kernel
theorem dX2_readInto_7 : decode cX2_readInto 7 = .ok (.aload_n 0, 1) := by decide +kernel
theorem dX2_readInto_8 : decode cX2_readInto 8 = .ok (.iconst 0, 1) := by decide +kernel
theorem dX2_readInto_9 : decode cX2_readInto 9 = .ok (.putfield 26, 3) := by decide +kernel
theorem dX2_readInto_12 : decode cX2_readInto 12 = .ok (.aload_n 0, 1) := by decide +kernel
theorem dX2_readInto_13 : decode cX2_readInto 13 = .ok (.invokevirtual 43, 3) := by decide +kernel
theorem dX2_readInto_16 : decode cX2_readInto 16 = .ok (.iconst 1, 1) := by decide +kernel
theorem dX2_readInto_17 : decode cX2_readInto 17 = .ok (.istore_n 2, 1) := by decide +kernel
theorem dX2_readInto_18 : decode cX2_readInto 18 = .ok (.iconst 0, 1) := by decide +kernel
theorem dX2_readInto_19 : decode cX2_readInto 19 = .ok (.istore_n 3, 1) := by decide +kernel
theorem dX2_readInto_20 : decode cX2_readInto 20 = .ok (.iload_n 3, 1) := by decide +kernel
theorem dX2_readInto_21 : decode cX2_readInto 21 = .ok (.iconst 3, 1) := by decide +kernel
theorem dX2_readInto_22 : decode cX2_readInto 22 = .ok (.if_icmp .ge 55, 3) := by decide +kernel
theorem dX2_readInto_25 : decode cX2_readInto 25 = .ok (.iload_n 2, 1) := by decide +kernel
theorem dX2_readInto_26 : decode cX2_readInto 26 = .ok (.ifCond .eq 51, 3) := by decide +kernel
theorem dX2_readInto_29 : decode cX2_readInto 29 = .ok (.aload_n 0, 1) := by decide +kernel
theorem dX2_readInto_30 : decode cX2_readInto 30 = .ok (.bipush 6, 2) := by decide +kernel
theorem dX2_readInto_32 : decode cX2_readInto 32 = .ok (.iload_n 3, 1) := by decide +kernel
theorem dX2_readInto_33 : decode cX2_readInto 33 = .ok (.iadd, 1) := by decide +kernel
theorem dX2_readInto_34 : decode cX2_readInto 34 = .ok (.invokevirtual 46, 3) := by decide +kernel
theorem dX2_readInto_37 : decode cX2_readInto 37 = .ok (.ifCond .eq 24, 3) := by decide +kernel
theorem dX2_readInto_40 : decode cX2_readInto 40 = .ok (.aload_n 0, 1) := by decide +kernel
theorem dX2_readInto_41 : decode cX2_readInto 41 = .ok (.iconst 0, 1) := by decide +kernel
theorem dX2_readInto_42 : decode cX2_readInto 42 = .ok (.invokevirtual 50, 3) := by decide +kernel
theorem dX2_readInto_45 : decode cX2_readInto 45 = .ok (.ifCond .eq 16, 3) := by decide +kernel
theorem dX2_readInto_48 : decode cX2_readInto 48 = .ok (.aload_n 0, 1) := by decide +kernel
theorem dX2_readInto_49 : decode cX2_readInto 49 = .ok (.bipush 14, 2) := by decide +kernel
theorem dX2_readInto_51 : decode cX2_readInto 51 = .ok (.invokevirtual 46, 3) := by decide +kernel
theorem dX2_readInto_54 : decode cX2_readInto 54 = .ok (.ifCond .eq 7, 3) := by decide +kernel
theorem dX2_readInto_57 : decode cX2_readInto 57 = .ok (.iconst 1, 1) := by decide +kernel
theorem dX2_readInto_58 : decode cX2_readInto 58 = .ok (.goto 4, 3) := by decide +kernel
theorem dX2_readInto_61 : decode cX2_readInto 61 = .ok (.iconst 0, 1) := by decide +kernel
theorem dX2_readInto_62 : decode cX2_readInto 62 = .ok (.istore_n 2, 1) := by decide +kernel
theorem dX2_readInto_63 : decode cX2_readInto 63 = .ok (.aload_n 0, 1) := by decide +kernel
theorem dX2_readInto_64 : decode cX2_readInto 64 = .ok (.getfield 18, 3) := by decide +kernel
theorem dX2_readInto_67 : decode cX2_readInto 67 = .ok (.iload_n 3, 1) := by decide +kernel
theorem dX2_readInto_68 : decode cX2_readInto 68 = .ok (.invokevirtual 53, 3) := by decide +kernel
theorem dX2_readInto_71 : decode cX2_readInto 71 = .ok (.iinc 3 1, 3) := by decide +kernel
theorem dX2_readInto_74 : decode cX2_readInto 74 = .ok (.goto (-54), 3) := by decide +kernel
theorem dX2_readInto_77 : decode cX2_readInto 77 = .ok (.aload_n 0, 1) := by decide +kernel
theorem dX2_readInto_78 : decode cX2_readInto 78 = .ok (.iconst 0, 1) := by decide +kernel
theorem dX2_readInto_79 : decode cX2_readInto 79 = .ok (.putfield 22, 3) := by decide +kernel
theorem dX2_readInto_82 : decode cX2_readInto 82 = .ok (.iload_n 2, 1) := by decide +kernel
theorem dX2_readInto_83 : decode cX2_readInto 83 = .ok (.ifCond .eq 12, 3) := by decide +kernel
theorem dX2_readInto_86 : decode cX2_readInto 86 = .ok (.aload_n 0, 1) := by decide +kernel
theorem dX2_readInto_87 : decode cX2_readInto 87 = .ok (.getfield 31, 3) := by decide +kernel
theorem dX2_readInto_90 : decode cX2_readInto 90 = .ok (.bipush 22, 2) := by decide +kernel
theorem dX2_readInto_92 : decode cX2_readInto 92 = .ok (.if_icmp .eq 8, 3) := by decide +kernel
theorem dX2_readInto_95 : decode cX2_readInto 95 = .ok (.aload_n 0, 1) := by decide +kernel
theorem dX2_readInto_96 : decode cX2_readInto 96 = .ok (.getfield 34, 3) := by decide +kernel
theorem dX2_readInto_99 : decode cX2_readInto 99 = .ok (.ireturn, 1) := by decide +kernel
theorem dX2_readInto_100 : decode cX2_readInto 100 = .ok (.aload_n 1, 1) := by decide +kernel
theorem dX2_readInto_101 : decode cX2_readInto 101 = .ok (.aload_n 0, 1) := by decide +kernel
theorem dX2_readInto_102 : decode cX2_readInto 102 = .ok (.getfield 18, 3) := by decide +kernel
theorem dX2_readInto_105 : decode cX2_readInto 105 = .ok (.invokevirtual 57, 3) := by decide +kernel
theorem dX2_readInto_108 : decode cX2_readInto 108 = .ok (.iconst (-1), 1) := by decide +kernel
theorem dX2_readInto_109 : decode cX2_readInto 109 = .ok (.ireturn, 1) := by decide +kernel
theorem dX2_pass_0 : decode cX2_pass 0 = .ok (.aload_n 0, 1) := by decide +kernel
theorem dX2_pass_1 : decode cX2_pass 1 = .ok (.getfield 31, 3) := by decide +kernel
theorem dX2_pass_4 : decode cX2_pass 4 = .ok (.iload_n 1, 1) := by decide +kernel
theorem dX2_pass_5 : decode cX2_pass 5 = .ok (.if_icmp .eq 5, 3) := by decide +kernel
theorem dX2_pass_8 : decode cX2_pass 8 = .ok (.iconst 0, 1) := by decide +kernel
theorem dX2_pass_9 : decode cX2_pass 9 = .ok (.ireturn, 1) := by decide +kernel
theorem dX2_pass_10 : decode cX2_pass 10 = .ok (.aload_n 0, 1) := by decide +kernel
theorem dX2_pass_11 : decode cX2_pass 11 = .ok (.invokevirtual 43, 3) := by decide +kernel
theorem dX2_pass_14 : decode cX2_pass 14 = .ok (.iconst 1, 1) := by decide +kernel
theorem dX2_pass_15 : decode cX2_pass 15 = .ok (.ireturn, 1) := by decide +kernel
theorem dX2_readExpression_0 : decode cX2_readExpression 0 = .ok (.aload_n 0, 1) := by decide +kernel
theorem dX2_readExpression_1 : decode cX2_readExpression 1 = .ok (.iload_n 1, 1) := by decide +kernel
theorem dX2_readExpression_2 : decode cX2_readExpression 2 = .ok (.invokevirtual 61, 3) := by decide +kernel
theorem dX2_readExpression_5 : decode cX2_readExpression 5 = .ok (.istore_n 2, 1) := by decide +kernel
theorem dX2_readExpression_6 : decode cX2_readExpression 6 = .ok (.iconst 0, 1) := by decide +kernel
theorem dX2_readExpression_7 : decode cX2_readExpression 7 = .ok (.istore_n 3, 1) := by decide +kernel
theorem dX2_readExpression_8 : decode cX2_readExpression 8 = .ok (.iload_n 3, 1) := by decide +kernel
theorem dX2_readExpression_9 : decode cX2_readExpression 9 = .ok (.sipush 160, 3) := by decide +kernel
theorem dX2_readExpression_12 : decode cX2_readExpression 12 = .ok (.if_icmp .ge 41, 3) := by decide +kernel
theorem dX2_readExpression_15 : decode cX2_readExpression 15 = .ok (.iload_n 2, 1) := by decide +kernel
theorem dX2_readExpression_16 : decode cX2_readExpression 16 = .ok (.ifCond .eq 37, 3) := by decide +kernel
theorem dX2_readExpression_19 : decode cX2_readExpression 19 = .ok (.aload_n 0, 1) := by decide +kernel
theorem dX2_readExpression_20 : decode cX2_readExpression 20 = .ok (.getfield 31, 3) := by decide +kernel
theorem dX2_readExpression_23 : decode cX2_readExpression 23 = .ok (.bipush 9, 2) := by decide +kernel
theorem dX2_readExpression_25 : decode cX2_readExpression 25 = .ok (.if_icmp .ne 28, 3) := by decide +kernel
theorem dX2_readExpression_28 : decode cX2_readExpression 28 = .ok (.aload_n 0, 1) := by decide +kernel
theorem dX2_readExpression_29 : decode cX2_readExpression 29 = .ok (.invokevirtual 43, 3) := by decide +kernel
theorem dX2_readExpression_32 : decode cX2_readExpression 32 = .ok (.aload_n 0, 1) := by decide +kernel
theorem dX2_readExpression_33 : decode cX2_readExpression 33 = .ok (.iload_n 1, 1) := by decide +kernel
theorem dX2_readExpression_34 : decode cX2_readExpression 34 = .ok (.invokevirtual 61, 3) := by decide +kernel
theorem dX2_readExpression_37 : decode cX2_readExpression 37 = .ok (.istore_n 2, 1) := by decide +kernel
theorem dX2_readExpression_38 : decode cX2_readExpression 38 = .ok (.aload_n 0, 1) := by decide +kernel
theorem dX2_readExpression_39 : decode cX2_readExpression 39 = .ok (.getfield 18, 3) := by decide +kernel
theorem dX2_readExpression_42 : decode cX2_readExpression 42 = .ok (.bipush 9, 2) := by decide +kernel
theorem dX2_readExpression_44 : decode cX2_readExpression 44 = .ok (.invokevirtual 64, 3) := by decide +kernel
theorem dX2_readExpression_47 : decode cX2_readExpression 47 = .ok (.iinc 3 1, 3) := by decide +kernel
theorem dX2_readExpression_50 : decode cX2_readExpression 50 = .ok (.goto (-42), 3) := by decide +kernel
theorem dX2_readExpression_53 : decode cX2_readExpression 53 = .ok (.iload_n 2, 1) := by decide +kernel
theorem dX2_readExpression_54 : decode cX2_readExpression 54 = .ok (.ireturn, 1) := by decide +kernel
theorem dX2_readConjunction_0 : decode cX2_readConjunction 0 = .ok (.aload_n 0, 1) := by decide +kernel
theorem dX2_readConjunction_1 : decode cX2_readConjunction 1 = .ok (.iload_n 1, 1) := by decide +kernel
theorem dX2_readConjunction_2 : decode cX2_readConjunction 2 = .ok (.invokevirtual 67, 3) := by decide +kernel
theorem dX2_readConjunction_5 : decode cX2_readConjunction 5 = .ok (.istore_n 2, 1) := by decide +kernel
theorem dX2_readConjunction_6 : decode cX2_readConjunction 6 = .ok (.iconst 0, 1) := by decide +kernel
theorem dX2_readConjunction_7 : decode cX2_readConjunction 7 = .ok (.istore_n 3, 1) := by decide +kernel
theorem dX2_readConjunction_8 : decode cX2_readConjunction 8 = .ok (.iload_n 3, 1) := by decide +kernel
theorem dX2_readConjunction_9 : decode cX2_readConjunction 9 = .ok (.sipush 160, 3) := by decide +kernel
theorem dX2_readConjunction_12 : decode cX2_readConjunction 12 = .ok (.if_icmp .ge 41, 3) := by decide +kernel
theorem dX2_readConjunction_15 : decode cX2_readConjunction 15 = .ok (.iload_n 2, 1) := by decide +kernel
theorem dX2_readConjunction_16 : decode cX2_readConjunction 16 = .ok (.ifCond .eq 37, 3) := by decide +kernel
theorem dX2_readConjunction_19 : decode cX2_readConjunction 19 = .ok (.aload_n 0, 1) := by decide +kernel
theorem dX2_readConjunction_20 : decode cX2_readConjunction 20 = .ok (.getfield 31, 3) := by decide +kernel
theorem dX2_readConjunction_23 : decode cX2_readConjunction 23 = .ok (.bipush 10, 2) := by decide +kernel
theorem dX2_readConjunction_25 : decode cX2_readConjunction 25 = .ok (.if_icmp .ne 28, 3) := by decide +kernel
theorem dX2_readConjunction_28 : decode cX2_readConjunction 28 = .ok (.aload_n 0, 1) := by decide +kernel
theorem dX2_readConjunction_29 : decode cX2_readConjunction 29 = .ok (.invokevirtual 43, 3) := by decide +kernel
theorem dX2_readConjunction_32 : decode cX2_readConjunction 32 = .ok (.aload_n 0, 1) := by decide +kernel
theorem dX2_readConjunction_33 : decode cX2_readConjunction 33 = .ok (.iload_n 1, 1) := by decide +kernel
theorem dX2_readConjunction_34 : decode cX2_readConjunction 34 = .ok (.invokevirtual 67, 3) := by decide +kernel
theorem dX2_readConjunction_37 : decode cX2_readConjunction 37 = .ok (.istore_n 2, 1) := by decide +kernel
theorem dX2_readConjunction_38 : decode cX2_readConjunction 38 = .ok (.aload_n 0, 1) := by decide +kernel
theorem dX2_readConjunction_39 : decode cX2_readConjunction 39 = .ok (.getfield 18, 3) := by decide +kernel
theorem dX2_readConjunction_42 : decode cX2_readConjunction 42 = .ok (.bipush 10, 2) := by decide +kernel
theorem dX2_readConjunction_44 : decode cX2_readConjunction 44 = .ok (.invokevirtual 64, 3) := by decide +kernel
theorem dX2_readConjunction_47 : decode cX2_readConjunction 47 = .ok (.iinc 3 1, 3) := by decide +kernel
theorem dX2_readConjunction_50 : decode cX2_readConjunction 50 = .ok (.goto (-42), 3) := by decide +kernel
theorem dX2_readConjunction_53 : decode cX2_readConjunction 53 = .ok (.iload_n 2, 1) := by decide +kernel
theorem dX2_readConjunction_54 : decode cX2_readConjunction 54 = .ok (.ireturn, 1) := by decide +kernel
theorem dX2_readNegation_0 : decode cX2_readNegation 0 = .ok (.aload_n 0, 1) := by decide +kernel
theorem dX2_readNegation_1 : decode cX2_readNegation 1 = .ok (.getfield 31, 3) := by decide +kernel
theorem dX2_readNegation_4 : decode cX2_readNegation 4 = .ok (.bipush 11, 2) := by decide +kernel
theorem dX2_readNegation_6 : decode cX2_readNegation 6 = .ok (.if_icmp .eq 9, 3) := by decide +kernel
theorem dX2_readNegation_9 : decode cX2_readNegation 9 = .ok (.aload_n 0, 1) := by decide +kernel
theorem dX2_readNegation_10 : decode cX2_readNegation 10 = .ok (.iload_n 1, 1) := by decide +kernel
theorem dX2_readNegation_11 : decode cX2_readNegation 11 = .ok (.invokevirtual 70, 3) := by decide +kernel
theorem dX2_readNegation_14 : decode cX2_readNegation 14 = .ok (.ireturn, 1) := by decide +kernel
theorem dX2_readNegation_15 : decode cX2_readNegation 15 = .ok (.iload_n 1, 1) := by decide +kernel
theorem dX2_readNegation_16 : decode cX2_readNegation 16 = .ok (.iconst 5, 1) := by decide +kernel
theorem dX2_readNegation_17 : decode cX2_readNegation 17 = .ok (.if_icmp .lt 5, 3) := by decide +kernel
theorem dX2_readNegation_20 : decode cX2_readNegation 20 = .ok (.iconst 0, 1) := by decide +kernel
theorem dX2_readNegation_21 : decode cX2_readNegation 21 = .ok (.ireturn, 1) := by decide +kernel
theorem dX2_readNegation_22 : decode cX2_readNegation 22 = .ok (.aload_n 0, 1) := by decide +kernel
theorem dX2_readNegation_23 : decode cX2_readNegation 23 = .ok (.invokevirtual 43, 3) := by decide +kernel
theorem dX2_readNegation_26 : decode cX2_readNegation 26 = .ok (.aload_n 0, 1) := by decide +kernel
theorem dX2_readNegation_27 : decode cX2_readNegation 27 = .ok (.iload_n 1, 1) := by decide +kernel
theorem dX2_readNegation_28 : decode cX2_readNegation 28 = .ok (.iconst 1, 1) := by decide +kernel
theorem dX2_readNegation_29 : decode cX2_readNegation 29 = .ok (.iadd, 1) := by decide +kernel
theorem dX2_readNegation_30 : decode cX2_readNegation 30 = .ok (.invokevirtual 67, 3) := by decide +kernel
theorem dX2_readNegation_33 : decode cX2_readNegation 33 = .ok (.istore_n 2, 1) := by decide +kernel
theorem dX2_readNegation_34 : decode cX2_readNegation 34 = .ok (.aload_n 0, 1) := by decide +kernel
theorem dX2_readNegation_35 : decode cX2_readNegation 35 = .ok (.getfield 18, 3) := by decide +kernel
theorem dX2_readNegation_38 : decode cX2_readNegation 38 = .ok (.bipush 11, 2) := by decide +kernel
theorem dX2_readNegation_40 : decode cX2_readNegation 40 = .ok (.invokevirtual 64, 3) := by decide +kernel
theorem dX2_readNegation_43 : decode cX2_readNegation 43 = .ok (.iload_n 2, 1) := by decide +kernel
theorem dX2_readNegation_44 : decode cX2_readNegation 44 = .ok (.ireturn, 1) := by decide +kernel
theorem dX2_readComparison_0 : decode cX2_readComparison 0 = .ok (.aload_n 0, 1) := by decide +kernel
theorem dX2_readComparison_1 : decode cX2_readComparison 1 = .ok (.iload_n 1, 1) := by decide +kernel
theorem dX2_readComparison_2 : decode cX2_readComparison 2 = .ok (.invokevirtual 73, 3) := by decide +kernel
theorem dX2_readComparison_5 : decode cX2_readComparison 5 = .ok (.istore_n 2, 1) := by decide +kernel
theorem dX2_readComparison_6 : decode cX2_readComparison 6 = .ok (.aload_n 0, 1) := by decide +kernel
theorem dX2_readComparison_7 : decode cX2_readComparison 7 = .ok (.getfield 31, 3) := by decide +kernel
theorem dX2_readComparison_10 : decode cX2_readComparison 10 = .ok (.istore_n 3, 1) := by decide +kernel
theorem dX2_readComparison_11 : decode cX2_readComparison 11 = .ok (.iload_n 2, 1) := by decide +kernel
theorem dX2_readComparison_12 : decode cX2_readComparison 12 = .ok (.ifCond .eq 33, 3) := by decide +kernel
theorem dX2_readComparison_15 : decode cX2_readComparison 15 = .ok (.iload_n 3, 1) := by decide +kernel
theorem dX2_readComparison_16 : decode cX2_readComparison 16 = .ok (.bipush 18, 2) := by decide +kernel
theorem dX2_readComparison_18 : decode cX2_readComparison 18 = .ok (.if_icmp .eq 9, 3) := by decide +kernel
theorem dX2_readComparison_21 : decode cX2_readComparison 21 = .ok (.iload_n 3, 1) := by decide +kernel
theorem dX2_readComparison_22 : decode cX2_readComparison 22 = .ok (.bipush 19, 2) := by decide +kernel
theorem dX2_readComparison_24 : decode cX2_readComparison 24 = .ok (.if_icmp .ne 21, 3) := by decide +kernel
theorem dX2_readComparison_27 : decode cX2_readComparison 27 = .ok (.aload_n 0, 1) := by decide +kernel
theorem dX2_readComparison_28 : decode cX2_readComparison 28 = .ok (.invokevirtual 43, 3) := by decide +kernel
theorem dX2_readComparison_31 : decode cX2_readComparison 31 = .ok (.aload_n 0, 1) := by decide +kernel
theorem dX2_readComparison_32 : decode cX2_readComparison 32 = .ok (.iload_n 1, 1) := by decide +kernel
theorem dX2_readComparison_33 : decode cX2_readComparison 33 = .ok (.invokevirtual 73, 3) := by decide +kernel
theorem dX2_readComparison_36 : decode cX2_readComparison 36 = .ok (.istore_n 2, 1) := by decide +kernel
theorem dX2_readComparison_37 : decode cX2_readComparison 37 = .ok (.aload_n 0, 1) := by decide +kernel
theorem dX2_readComparison_38 : decode cX2_readComparison 38 = .ok (.getfield 18, 3) := by decide +kernel
theorem dX2_readComparison_41 : decode cX2_readComparison 41 = .ok (.iload_n 3, 1) := by decide +kernel
theorem dX2_readComparison_42 : decode cX2_readComparison 42 = .ok (.invokevirtual 64, 3) := by decide +kernel
theorem dX2_readComparison_45 : decode cX2_readComparison 45 = .ok (.iload_n 2, 1) := by decide +kernel
theorem dX2_readComparison_46 : decode cX2_readComparison 46 = .ok (.ireturn, 1) := by decide +kernel
theorem dX2_readSum_0 : decode cX2_readSum 0 = .ok (.aload_n 0, 1) := by decide +kernel
theorem dX2_readSum_1 : decode cX2_readSum 1 = .ok (.iload_n 1, 1) := by decide +kernel
theorem dX2_readSum_2 : decode cX2_readSum 2 = .ok (.invokevirtual 76, 3) := by decide +kernel
theorem dX2_readSum_5 : decode cX2_readSum 5 = .ok (.istore_n 2, 1) := by decide +kernel
theorem dX2_readSum_6 : decode cX2_readSum 6 = .ok (.iconst 0, 1) := by decide +kernel
theorem dX2_readSum_7 : decode cX2_readSum 7 = .ok (.istore_n 3, 1) := by decide +kernel
theorem dX2_readSum_8 : decode cX2_readSum 8 = .ok (.iload_n 3, 1) := by decide +kernel
theorem dX2_readSum_9 : decode cX2_readSum 9 = .ok (.sipush 160, 3) := by decide +kernel
theorem dX2_readSum_12 : decode cX2_readSum 12 = .ok (.if_icmp .ge 56, 3) := by decide +kernel
theorem dX2_readSum_15 : decode cX2_readSum 15 = .ok (.iload_n 2, 1) := by decide +kernel
theorem dX2_readSum_16 : decode cX2_readSum 16 = .ok (.ifCond .eq 52, 3) := by decide +kernel
theorem dX2_readSum_19 : decode cX2_readSum 19 = .ok (.aload_n 0, 1) := by decide +kernel
theorem dX2_readSum_20 : decode cX2_readSum 20 = .ok (.getfield 31, 3) := by decide +kernel
theorem dX2_readSum_23 : decode cX2_readSum 23 = .ok (.bipush 15, 2) := by decide +kernel
theorem dX2_readSum_25 : decode cX2_readSum 25 = .ok (.if_icmp .eq 12, 3) := by decide +kernel
theorem dX2_readSum_28 : decode cX2_readSum 28 = .ok (.aload_n 0, 1) := by decide +kernel
theorem dX2_readSum_29 : decode cX2_readSum 29 = .ok (.getfield 31, 3) := by decide +kernel
theorem dX2_readSum_32 : decode cX2_readSum 32 = .ok (.bipush 16, 2) := by decide +kernel
theorem dX2_readSum_34 : decode cX2_readSum 34 = .ok (.if_icmp .ne 34, 3) := by decide +kernel
theorem dX2_readSum_37 : decode cX2_readSum 37 = .ok (.aload_n 0, 1) := by decide +kernel
theorem dX2_readSum_38 : decode cX2_readSum 38 = .ok (.getfield 31, 3) := by decide +kernel
theorem dX2_readSum_41 : decode cX2_readSum 41 = .ok (.istore 4, 2) := by decide +kernel
theorem dX2_readSum_43 : decode cX2_readSum 43 = .ok (.aload_n 0, 1) := by decide +kernel
theorem dX2_readSum_44 : decode cX2_readSum 44 = .ok (.invokevirtual 43, 3) := by decide +kernel
theorem dX2_readSum_47 : decode cX2_readSum 47 = .ok (.aload_n 0, 1) := by decide +kernel
theorem dX2_readSum_48 : decode cX2_readSum 48 = .ok (.iload_n 1, 1) := by decide +kernel
theorem dX2_readSum_49 : decode cX2_readSum 49 = .ok (.invokevirtual 76, 3) := by decide +kernel
theorem dX2_readSum_52 : decode cX2_readSum 52 = .ok (.istore_n 2, 1) := by decide +kernel
theorem dX2_readSum_53 : decode cX2_readSum 53 = .ok (.aload_n 0, 1) := by decide +kernel
theorem dX2_readSum_54 : decode cX2_readSum 54 = .ok (.getfield 18, 3) := by decide +kernel
theorem dX2_readSum_57 : decode cX2_readSum 57 = .ok (.iload 4, 2) := by decide +kernel
theorem dX2_readSum_59 : decode cX2_readSum 59 = .ok (.invokevirtual 64, 3) := by decide +kernel
theorem dX2_readSum_62 : decode cX2_readSum 62 = .ok (.iinc 3 1, 3) := by decide +kernel
theorem dX2_readSum_65 : decode cX2_readSum 65 = .ok (.goto (-57), 3) := by decide +kernel
theorem dX2_readSum_68 : decode cX2_readSum 68 = .ok (.iload_n 2, 1) := by decide +kernel
theorem dX2_readSum_69 : decode cX2_readSum 69 = .ok (.ireturn, 1) := by decide +kernel
theorem dX2_readTerm_0 : decode cX2_readTerm 0 = .ok (.aload_n 0, 1) := by decide +kernel
theorem dX2_readTerm_1 : decode cX2_readTerm 1 = .ok (.iload_n 1, 1) := by decide +kernel
theorem dX2_readTerm_2 : decode cX2_readTerm 2 = .ok (.invokevirtual 79, 3) := by decide +kernel
theorem dX2_readTerm_5 : decode cX2_readTerm 5 = .ok (.istore_n 2, 1) := by decide +kernel
theorem dX2_readTerm_6 : decode cX2_readTerm 6 = .ok (.iconst 0, 1) := by decide +kernel
theorem dX2_readTerm_7 : decode cX2_readTerm 7 = .ok (.istore_n 3, 1) := by decide +kernel
theorem dX2_readTerm_8 : decode cX2_readTerm 8 = .ok (.iload_n 3, 1) := by decide +kernel
theorem dX2_readTerm_9 : decode cX2_readTerm 9 = .ok (.sipush 160, 3) := by decide +kernel
theorem dX2_readTerm_12 : decode cX2_readTerm 12 = .ok (.if_icmp .ge 41, 3) := by decide +kernel
theorem dX2_readTerm_15 : decode cX2_readTerm 15 = .ok (.iload_n 2, 1) := by decide +kernel
theorem dX2_readTerm_16 : decode cX2_readTerm 16 = .ok (.ifCond .eq 37, 3) := by decide +kernel
theorem dX2_readTerm_19 : decode cX2_readTerm 19 = .ok (.aload_n 0, 1) := by decide +kernel
theorem dX2_readTerm_20 : decode cX2_readTerm 20 = .ok (.getfield 31, 3) := by decide +kernel
theorem dX2_readTerm_23 : decode cX2_readTerm 23 = .ok (.bipush 17, 2) := by decide +kernel
theorem dX2_readTerm_25 : decode cX2_readTerm 25 = .ok (.if_icmp .ne 28, 3) := by decide +kernel
theorem dX2_readTerm_28 : decode cX2_readTerm 28 = .ok (.aload_n 0, 1) := by decide +kernel
theorem dX2_readTerm_29 : decode cX2_readTerm 29 = .ok (.invokevirtual 43, 3) := by decide +kernel
theorem dX2_readTerm_32 : decode cX2_readTerm 32 = .ok (.aload_n 0, 1) := by decide +kernel
theorem dX2_readTerm_33 : decode cX2_readTerm 33 = .ok (.iload_n 1, 1) := by decide +kernel
theorem dX2_readTerm_34 : decode cX2_readTerm 34 = .ok (.invokevirtual 79, 3) := by decide +kernel
theorem dX2_readTerm_37 : decode cX2_readTerm 37 = .ok (.istore_n 2, 1) := by decide +kernel
theorem dX2_readTerm_38 : decode cX2_readTerm 38 = .ok (.aload_n 0, 1) := by decide +kernel
theorem dX2_readTerm_39 : decode cX2_readTerm 39 = .ok (.getfield 18, 3) := by decide +kernel
theorem dX2_readTerm_42 : decode cX2_readTerm 42 = .ok (.bipush 17, 2) := by decide +kernel
theorem dX2_readTerm_44 : decode cX2_readTerm 44 = .ok (.invokevirtual 64, 3) := by decide +kernel
theorem dX2_readTerm_47 : decode cX2_readTerm 47 = .ok (.iinc 3 1, 3) := by decide +kernel
theorem dX2_readTerm_50 : decode cX2_readTerm 50 = .ok (.goto (-42), 3) := by decide +kernel
theorem dX2_readTerm_53 : decode cX2_readTerm 53 = .ok (.iload_n 2, 1) := by decide +kernel
theorem dX2_readTerm_54 : decode cX2_readTerm 54 = .ok (.ireturn, 1) := by decide +kernel
theorem dX2_readOne_0 : decode cX2_readOne 0 = .ok (.aload_n 0, 1) := by decide +kernel
theorem dX2_readOne_1 : decode cX2_readOne 1 = .ok (.getfield 31, 3) := by decide +kernel
theorem dX2_readOne_4 : decode cX2_readOne 4 = .ok (.bipush 21, 2) := by decide +kernel
theorem dX2_readOne_6 : decode cX2_readOne 6 = .ok (.if_icmp .ne 20, 3) := by decide +kernel
theorem dX2_readOne_9 : decode cX2_readOne 9 = .ok (.aload_n 0, 1) := by decide +kernel
theorem dX2_readOne_10 : decode cX2_readOne 10 = .ok (.getfield 18, 3) := by decide +kernel
theorem dX2_readOne_13 : decode cX2_readOne 13 = .ok (.aload_n 0, 1) := by decide +kernel
theorem dX2_readOne_14 : decode cX2_readOne 14 = .ok (.getfield 37, 3) := by decide +kernel
theorem dX2_readOne_17 : decode cX2_readOne 17 = .ok (.invokevirtual 82, 3) := by decide +kernel
theorem dX2_readOne_20 : decode cX2_readOne 20 = .ok (.aload_n 0, 1) := by decide +kernel
theorem dX2_readOne_21 : decode cX2_readOne 21 = .ok (.invokevirtual 43, 3) := by decide +kernel
theorem dX2_readOne_24 : decode cX2_readOne 24 = .ok (.iconst 1, 1) := by decide +kernel
theorem dX2_readOne_25 : decode cX2_readOne 25 = .ok (.ireturn, 1) := by decide +kernel
theorem dX2_readOne_26 : decode cX2_readOne 26 = .ok (.aload_n 0, 1) := by decide +kernel
theorem dX2_readOne_27 : decode cX2_readOne 27 = .ok (.getfield 31, 3) := by decide +kernel
theorem dX2_readOne_30 : decode cX2_readOne 30 = .ok (.iconst 0, 1) := by decide +kernel
theorem dX2_readOne_31 : decode cX2_readOne 31 = .ok (.iconst 5, 1) := by decide +kernel
theorem dX2_readOne_32 : decode cX2_readOne 32 = .ok (.invokestatic 85, 3) := by decide +kernel
theorem dX2_readOne_35 : decode cX2_readOne 35 = .ok (.ifCond .eq 20, 3) := by decide +kernel
theorem dX2_readOne_38 : decode cX2_readOne 38 = .ok (.aload_n 0, 1) := by decide +kernel
theorem dX2_readOne_39 : decode cX2_readOne 39 = .ok (.getfield 18, 3) := by decide +kernel
theorem dX2_readOne_42 : decode cX2_readOne 42 = .ok (.aload_n 0, 1) := by decide +kernel
theorem dX2_readOne_43 : decode cX2_readOne 43 = .ok (.getfield 31, 3) := by decide +kernel
theorem dX2_readOne_46 : decode cX2_readOne 46 = .ok (.invokevirtual 64, 3) := by decide +kernel
theorem dX2_readOne_49 : decode cX2_readOne 49 = .ok (.aload_n 0, 1) := by decide +kernel
theorem dX2_readOne_50 : decode cX2_readOne 50 = .ok (.invokevirtual 43, 3) := by decide +kernel
theorem dX2_readOne_53 : decode cX2_readOne 53 = .ok (.iconst 1, 1) := by decide +kernel
theorem dX2_readOne_54 : decode cX2_readOne 54 = .ok (.ireturn, 1) := by decide +kernel
theorem dX2_readOne_55 : decode cX2_readOne 55 = .ok (.iload_n 1, 1) := by decide +kernel
theorem dX2_readOne_56 : decode cX2_readOne 56 = .ok (.iconst 5, 1) := by decide +kernel
theorem dX2_readOne_57 : decode cX2_readOne 57 = .ok (.if_icmp .lt 5, 3) := by decide +kernel
theorem dX2_readOne_60 : decode cX2_readOne 60 = .ok (.iconst 0, 1) := by decide +kernel
theorem dX2_readOne_61 : decode cX2_readOne 61 = .ok (.ireturn, 1) := by decide +kernel
theorem dX2_readOne_62 : decode cX2_readOne 62 = .ok (.aload_n 0, 1) := by decide +kernel
theorem dX2_readOne_63 : decode cX2_readOne 63 = .ok (.getfield 31, 3) := by decide +kernel
theorem dX2_readOne_66 : decode cX2_readOne 66 = .ok (.bipush 16, 2) := by decide +kernel
theorem dX2_readOne_68 : decode cX2_readOne 68 = .ok (.if_icmp .ne 26, 3) := by decide +kernel
theorem dX2_readOne_71 : decode cX2_readOne 71 = .ok (.aload_n 0, 1) := by decide +kernel
theorem dX2_readOne_72 : decode cX2_readOne 72 = .ok (.invokevirtual 43, 3) := by decide +kernel
theorem dX2_readOne_75 : decode cX2_readOne 75 = .ok (.aload_n 0, 1) := by decide +kernel
theorem dX2_readOne_76 : decode cX2_readOne 76 = .ok (.iload_n 1, 1) := by decide +kernel
theorem dX2_readOne_77 : decode cX2_readOne 77 = .ok (.iconst 1, 1) := by decide +kernel
theorem dX2_readOne_78 : decode cX2_readOne 78 = .ok (.iadd, 1) := by decide +kernel
theorem dX2_readOne_79 : decode cX2_readOne 79 = .ok (.invokevirtual 79, 3) := by decide +kernel
theorem dX2_readOne_82 : decode cX2_readOne 82 = .ok (.istore_n 2, 1) := by decide +kernel
theorem dX2_readOne_83 : decode cX2_readOne 83 = .ok (.aload_n 0, 1) := by decide +kernel
theorem dX2_readOne_84 : decode cX2_readOne 84 = .ok (.getfield 18, 3) := by decide +kernel
theorem dX2_readOne_87 : decode cX2_readOne 87 = .ok (.bipush 20, 2) := by decide +kernel
theorem dX2_readOne_89 : decode cX2_readOne 89 = .ok (.invokevirtual 64, 3) := by decide +kernel
theorem dX2_readOne_92 : decode cX2_readOne 92 = .ok (.iload_n 2, 1) := by decide +kernel
theorem dX2_readOne_93 : decode cX2_readOne 93 = .ok (.ireturn, 1) := by decide +kernel
theorem dX2_readOne_94 : decode cX2_readOne 94 = .ok (.aload_n 0, 1) := by decide +kernel
theorem dX2_readOne_95 : decode cX2_readOne 95 = .ok (.bipush 12, 2) := by decide +kernel
theorem dX2_readOne_97 : decode cX2_readOne 97 = .ok (.invokevirtual 46, 3) := by decide +kernel
theorem dX2_readOne_100 : decode cX2_readOne 100 = .ok (.ifCond .eq 26, 3) := by decide +kernel
theorem dX2_readOne_103 : decode cX2_readOne 103 = .ok (.aload_n 0, 1) := by decide +kernel
theorem dX2_readOne_104 : decode cX2_readOne 104 = .ok (.iload_n 1, 1) := by decide +kernel
theorem dX2_readOne_105 : decode cX2_readOne 105 = .ok (.iconst 1, 1) := by decide +kernel
theorem dX2_readOne_106 : decode cX2_readOne 106 = .ok (.iadd, 1) := by decide +kernel
theorem dX2_readOne_107 : decode cX2_readOne 107 = .ok (.invokevirtual 50, 3) := by decide +kernel
theorem dX2_readOne_110 : decode cX2_readOne 110 = .ok (.ifCond .eq 16, 3) := by decide +kernel
theorem dX2_readOne_113 : decode cX2_readOne 113 = .ok (.aload_n 0, 1) := by decide +kernel
theorem dX2_readOne_114 : decode cX2_readOne 114 = .ok (.bipush 13, 2) := by decide +kernel
theorem dX2_readOne_116 : decode cX2_readOne 116 = .ok (.invokevirtual 46, 3) := by decide +kernel
theorem dX2_readOne_119 : decode cX2_readOne 119 = .ok (.ifCond .eq 7, 3) := by decide +kernel
theorem dX2_readOne_122 : decode cX2_readOne 122 = .ok (.iconst 1, 1) := by decide +kernel
theorem dX2_readOne_123 : decode cX2_readOne 123 = .ok (.goto 4, 3) := by decide +kernel
theorem dX2_readOne_126 : decode cX2_readOne 126 = .ok (.iconst 0, 1) := by decide +kernel
theorem dX2_readOne_127 : decode cX2_readOne 127 = .ok (.ireturn, 1) := by decide +kernel
theorem dX2_step_0 : decode cX2_step 0 = .ok (.aload_n 0, 1) := by decide +kernel
theorem dX2_step_1 : decode cX2_step 1 = .ok (.getfield 26, 3) := by decide +kernel
theorem dX2_step_4 : decode cX2_step 4 = .ok (.aload_n 0, 1) := by decide +kernel
theorem dX2_step_5 : decode cX2_step 5 = .ok (.getfield 22, 3) := by decide +kernel
theorem dX2_step_8 : decode cX2_step 8 = .ok (.if_icmp .ge 44, 3) := by decide +kernel
theorem dX2_step_11 : decode cX2_step 11 = .ok (.aload_n 0, 1) := by decide +kernel
theorem dX2_step_12 : decode cX2_step 12 = .ok (.getfield 9, 3) := by decide +kernel
theorem dX2_step_15 : decode cX2_step 15 = .ok (.aload_n 0, 1) := by decide +kernel
theorem dX2_step_16 : decode cX2_step 16 = .ok (.getfield 26, 3) := by decide +kernel
theorem dX2_step_19 : decode cX2_step 19 = .ok (.iaload, 1) := by decide +kernel
theorem dX2_step_20 : decode cX2_step 20 = .ok (.bipush 32, 2) := by decide +kernel
theorem dX2_step_22 : decode cX2_step 22 = .ok (.if_icmp .eq 17, 3) := by decide +kernel
theorem dX2_step_25 : decode cX2_step 25 = .ok (.aload_n 0, 1) := by decide +kernel
theorem dX2_step_26 : decode cX2_step 26 = .ok (.getfield 9, 3) := by decide +kernel
theorem dX2_step_29 : decode cX2_step 29 = .ok (.aload_n 0, 1) := by decide +kernel
theorem dX2_step_30 : decode cX2_step 30 = .ok (.getfield 26, 3) := by decide +kernel
theorem dX2_step_33 : decode cX2_step 33 = .ok (.iaload, 1) := by decide +kernel
theorem dX2_step_34 : decode cX2_step 34 = .ok (.bipush 10, 2) := by decide +kernel
theorem dX2_step_36 : decode cX2_step 36 = .ok (.if_icmp .ne 16, 3) := by decide +kernel
theorem dX2_step_39 : decode cX2_step 39 = .ok (.aload_n 0, 1) := by decide +kernel
theorem dX2_step_40 : decode cX2_step 40 = .ok (.dup, 1) := by decide +kernel
theorem dX2_step_41 : decode cX2_step 41 = .ok (.getfield 26, 3) := by decide +kernel
theorem dX2_step_44 : decode cX2_step 44 = .ok (.iconst 1, 1) := by decide +kernel
theorem dX2_step_45 : decode cX2_step 45 = .ok (.iadd, 1) := by decide +kernel
theorem dX2_step_46 : decode cX2_step 46 = .ok (.putfield 26, 3) := by decide +kernel
theorem dX2_step_49 : decode cX2_step 49 = .ok (.goto (-49), 3) := by decide +kernel
theorem dX2_step_52 : decode cX2_step 52 = .ok (.aload_n 0, 1) := by decide +kernel
theorem dX2_step_53 : decode cX2_step 53 = .ok (.aload_n 0, 1) := by decide +kernel
theorem dX2_step_54 : decode cX2_step 54 = .ok (.getfield 26, 3) := by decide +kernel
theorem dX2_step_57 : decode cX2_step 57 = .ok (.putfield 34, 3) := by decide +kernel
theorem dX2_step_60 : decode cX2_step 60 = .ok (.aload_n 0, 1) := by decide +kernel
theorem dX2_step_61 : decode cX2_step 61 = .ok (.getfield 26, 3) := by decide +kernel
theorem dX2_step_64 : decode cX2_step 64 = .ok (.aload_n 0, 1) := by decide +kernel
theorem dX2_step_65 : decode cX2_step 65 = .ok (.getfield 22, 3) := by decide +kernel
theorem dX2_step_68 : decode cX2_step 68 = .ok (.if_icmp .lt 12, 3) := by decide +kernel
theorem dX2_step_71 : decode cX2_step 71 = .ok (.aload_n 0, 1) := by decide +kernel
theorem dX2_step_72 : decode cX2_step 72 = .ok (.bipush 22, 2) := by decide +kernel
theorem dX2_step_74 : decode cX2_step 74 = .ok (.putfield 31, 3) := by decide +kernel
theorem dX2_step_77 : decode cX2_step 77 = .ok (.goto 98, 3) := by decide +kernel
theorem dX2_step_80 : decode cX2_step 80 = .ok (.aload_n 0, 1) := by decide +kernel
theorem dX2_step_81 : decode cX2_step 81 = .ok (.getfield 9, 3) := by decide +kernel
theorem dX2_step_84 : decode cX2_step 84 = .ok (.aload_n 0, 1) := by decide +kernel
theorem dX2_step_85 : decode cX2_step 85 = .ok (.getfield 26, 3) := by decide +kernel
theorem dX2_step_88 : decode cX2_step 88 = .ok (.iaload, 1) := by decide +kernel
theorem dX2_step_89 : decode cX2_step 89 = .ok (.invokestatic 89, 3) := by decide +kernel
theorem dX2_step_92 : decode cX2_step 92 = .ok (.ifCond .eq 14, 3) := by decide +kernel
theorem dX2_step_95 : decode cX2_step 95 = .ok (.aload_n 0, 1) := by decide +kernel
theorem dX2_step_96 : decode cX2_step 96 = .ok (.aload_n 0, 1) := by decide +kernel
theorem dX2_step_97 : decode cX2_step 97 = .ok (.invokevirtual 92, 3) := by decide +kernel
theorem dX2_step_100 : decode cX2_step 100 = .ok (.putfield 31, 3) := by decide +kernel
theorem dX2_step_103 : decode cX2_step 103 = .ok (.goto 72, 3) := by decide +kernel
theorem dX2_step_106 : decode cX2_step 106 = .ok (.aload_n 0, 1) := by decide +kernel
theorem dX2_step_107 : decode cX2_step 107 = .ok (.getfield 9, 3) := by decide +kernel
theorem dX2_step_110 : decode cX2_step 110 = .ok (.aload_n 0, 1) := by decide +kernel
theorem dX2_step_111 : decode cX2_step 111 = .ok (.getfield 26, 3) := by decide +kernel
theorem dX2_step_114 : decode cX2_step 114 = .ok (.iaload, 1) := by decide +kernel
theorem dX2_step_115 : decode cX2_step 115 = .ok (.invokestatic 96, 3) := by decide +kernel
theorem dX2_step_118 : decode cX2_step 118 = .ok (.ifCond .eq 14, 3) := by decide +kernel
theorem dX2_step_121 : decode cX2_step 121 = .ok (.aload_n 0, 1) := by decide +kernel
theorem dX2_step_122 : decode cX2_step 122 = .ok (.aload_n 0, 1) := by decide +kernel
theorem dX2_step_123 : decode cX2_step 123 = .ok (.invokevirtual 99, 3) := by decide +kernel
theorem dX2_step_126 : decode cX2_step 126 = .ok (.putfield 31, 3) := by decide +kernel
theorem dX2_step_129 : decode cX2_step 129 = .ok (.goto 46, 3) := by decide +kernel
theorem dX2_step_132 : decode cX2_step 132 = .ok (.ldc 102, 2) := by decide +kernel
theorem dX2_step_134 : decode cX2_step 134 = .ok (.aload_n 0, 1) := by decide +kernel
theorem dX2_step_135 : decode cX2_step 135 = .ok (.getfield 9, 3) := by decide +kernel
theorem dX2_step_138 : decode cX2_step 138 = .ok (.aload_n 0, 1) := by decide +kernel
theorem dX2_step_139 : decode cX2_step 139 = .ok (.getfield 26, 3) := by decide +kernel
theorem dX2_step_142 : decode cX2_step 142 = .ok (.iaload, 1) := by decide +kernel
theorem dX2_step_143 : decode cX2_step 143 = .ok (.i2c, 1) := by decide +kernel
theorem dX2_step_144 : decode cX2_step 144 = .ok (.invokevirtual 104, 3) := by decide +kernel
theorem dX2_step_147 : decode cX2_step 147 = .ok (.istore_n 1, 1) := by decide +kernel
theorem dX2_step_148 : decode cX2_step 148 = .ok (.aload_n 0, 1) := by decide +kernel
theorem dX2_step_149 : decode cX2_step 149 = .ok (.iload_n 1, 1) := by decide +kernel
theorem dX2_step_150 : decode cX2_step 150 = .ok (.ifCond .ge 8, 3) := by decide +kernel
theorem dX2_step_153 : decode cX2_step 153 = .ok (.bipush 23, 2) := by decide +kernel
theorem dX2_step_155 : decode cX2_step 155 = .ok (.goto 7, 3) := by decide +kernel
theorem dX2_step_158 : decode cX2_step 158 = .ok (.bipush 12, 2) := by decide +kernel
theorem dX2_step_160 : decode cX2_step 160 = .ok (.iload_n 1, 1) := by decide +kernel
theorem dX2_step_161 : decode cX2_step 161 = .ok (.iadd, 1) := by decide +kernel
theorem dX2_step_162 : decode cX2_step 162 = .ok (.putfield 31, 3) := by decide +kernel
theorem dX2_step_165 : decode cX2_step 165 = .ok (.aload_n 0, 1) := by decide +kernel
theorem dX2_step_166 : decode cX2_step 166 = .ok (.dup, 1) := by decide +kernel
theorem dX2_step_167 : decode cX2_step 167 = .ok (.getfield 26, 3) := by decide +kernel
theorem dX2_step_170 : decode cX2_step 170 = .ok (.iconst 1, 1) := by decide +kernel
theorem dX2_step_171 : decode cX2_step 171 = .ok (.iadd, 1) := by decide +kernel
theorem dX2_step_172 : decode cX2_step 172 = .ok (.putfield 26, 3) := by decide +kernel
theorem dX2_step_175 : decode cX2_step 175 = .ok (.return_, 1) := by decide +kernel
theorem dX2_passWord_0 : decode cX2_passWord 0 = .ok (.aload_n 0, 1) := by decide +kernel
theorem dX2_passWord_1 : decode cX2_passWord 1 = .ok (.getfield 26, 3) := by decide +kernel
theorem dX2_passWord_4 : decode cX2_passWord 4 = .ok (.aload_n 0, 1) := by decide +kernel
theorem dX2_passWord_5 : decode cX2_passWord 5 = .ok (.getfield 22, 3) := by decide +kernel
theorem dX2_passWord_8 : decode cX2_passWord 8 = .ok (.if_icmp .ge 31, 3) := by decide +kernel
theorem dX2_passWord_11 : decode cX2_passWord 11 = .ok (.aload_n 0, 1) := by decide +kernel
theorem dX2_passWord_12 : decode cX2_passWord 12 = .ok (.getfield 9, 3) := by decide +kernel
theorem dX2_passWord_15 : decode cX2_passWord 15 = .ok (.aload_n 0, 1) := by decide +kernel
theorem dX2_passWord_16 : decode cX2_passWord 16 = .ok (.getfield 26, 3) := by decide +kernel
theorem dX2_passWord_19 : decode cX2_passWord 19 = .ok (.iaload, 1) := by decide +kernel
theorem dX2_passWord_20 : decode cX2_passWord 20 = .ok (.invokestatic 89, 3) := by decide +kernel
theorem dX2_passWord_23 : decode cX2_passWord 23 = .ok (.ifCond .eq 16, 3) := by decide +kernel
theorem dX2_passWord_26 : decode cX2_passWord 26 = .ok (.aload_n 0, 1) := by decide +kernel
theorem dX2_passWord_27 : decode cX2_passWord 27 = .ok (.dup, 1) := by decide +kernel
theorem dX2_passWord_28 : decode cX2_passWord 28 = .ok (.getfield 26, 3) := by decide +kernel
theorem dX2_passWord_31 : decode cX2_passWord 31 = .ok (.iconst 1, 1) := by decide +kernel
theorem dX2_passWord_32 : decode cX2_passWord 32 = .ok (.iadd, 1) := by decide +kernel
theorem dX2_passWord_33 : decode cX2_passWord 33 = .ok (.putfield 26, 3) := by decide +kernel
theorem dX2_passWord_36 : decode cX2_passWord 36 = .ok (.goto (-36), 3) := by decide +kernel
theorem dX2_passWord_39 : decode cX2_passWord 39 = .ok (.iconst 0, 1) := by decide +kernel
theorem dX2_passWord_40 : decode cX2_passWord 40 = .ok (.istore_n 1, 1) := by decide +kernel
theorem dX2_passWord_41 : decode cX2_passWord 41 = .ok (.iload_n 1, 1) := by decide +kernel
theorem dX2_passWord_42 : decode cX2_passWord 42 = .ok (.bipush 12, 2) := by decide +kernel
theorem dX2_passWord_44 : decode cX2_passWord 44 = .ok (.if_icmp .ge 22, 3) := by decide +kernel
theorem dX2_passWord_47 : decode cX2_passWord 47 = .ok (.aload_n 0, 1) := by decide +kernel
theorem dX2_passWord_48 : decode cX2_passWord 48 = .ok (.iload_n 1, 1) := by decide +kernel
theorem dX2_passWord_49 : decode cX2_passWord 49 = .ok (.invokestatic 110, 3) := by decide +kernel
theorem dX2_passWord_52 : decode cX2_passWord 52 = .ok (.invokevirtual 114, 3) := by decide +kernel
theorem dX2_passWord_55 : decode cX2_passWord 55 = .ok (.ifCond .eq 5, 3) := by decide +kernel
theorem dX2_passWord_58 : decode cX2_passWord 58 = .ok (.iload_n 1, 1) := by decide +kernel
theorem dX2_passWord_59 : decode cX2_passWord 59 = .ok (.ireturn, 1) := by decide +kernel
theorem dX2_passWord_60 : decode cX2_passWord 60 = .ok (.iinc 1 1, 3) := by decide +kernel
theorem dX2_passWord_63 : decode cX2_passWord 63 = .ok (.goto (-22), 3) := by decide +kernel
theorem dX2_passWord_66 : decode cX2_passWord 66 = .ok (.bipush 23, 2) := by decide +kernel
theorem dX2_passWord_68 : decode cX2_passWord 68 = .ok (.ireturn, 1) := by decide +kernel
theorem dX2_isSpelled_0 : decode cX2_isSpelled 0 = .ok (.aload_n 1, 1) := by decide +kernel
theorem dX2_isSpelled_1 : decode cX2_isSpelled 1 = .ok (.invokevirtual 118, 3) := by decide +kernel
theorem dX2_isSpelled_4 : decode cX2_isSpelled 4 = .ok (.aload_n 0, 1) := by decide +kernel
theorem dX2_isSpelled_5 : decode cX2_isSpelled 5 = .ok (.getfield 26, 3) := by decide +kernel
theorem dX2_isSpelled_8 : decode cX2_isSpelled 8 = .ok (.aload_n 0, 1) := by decide +kernel
theorem dX2_isSpelled_9 : decode cX2_isSpelled 9 = .ok (.getfield 34, 3) := by decide +kernel
theorem dX2_isSpelled_12 : decode cX2_isSpelled 12 = .ok (.isub, 1) := by decide +kernel
theorem dX2_isSpelled_13 : decode cX2_isSpelled 13 = .ok (.if_icmp .eq 5, 3) := by decide +kernel
theorem dX2_isSpelled_16 : decode cX2_isSpelled 16 = .ok (.iconst 0, 1) := by decide +kernel
theorem dX2_isSpelled_17 : decode cX2_isSpelled 17 = .ok (.ireturn, 1) := by decide +kernel
theorem dX2_isSpelled_18 : decode cX2_isSpelled 18 = .ok (.iconst 0, 1) := by decide +kernel
theorem dX2_isSpelled_19 : decode cX2_isSpelled 19 = .ok (.istore_n 2, 1) := by decide +kernel
theorem dX2_isSpelled_20 : decode cX2_isSpelled 20 = .ok (.iload_n 2, 1) := by decide +kernel
theorem dX2_isSpelled_21 : decode cX2_isSpelled 21 = .ok (.aload_n 1, 1) := by decide +kernel
theorem dX2_isSpelled_22 : decode cX2_isSpelled 22 = .ok (.invokevirtual 118, 3) := by decide +kernel
theorem dX2_isSpelled_25 : decode cX2_isSpelled 25 = .ok (.if_icmp .ge 30, 3) := by decide +kernel
theorem dX2_isSpelled_28 : decode cX2_isSpelled 28 = .ok (.aload_n 1, 1) := by decide +kernel
theorem dX2_isSpelled_29 : decode cX2_isSpelled 29 = .ok (.iload_n 2, 1) := by decide +kernel
theorem dX2_isSpelled_30 : decode cX2_isSpelled 30 = .ok (.invokevirtual 121, 3) := by decide +kernel
theorem dX2_isSpelled_33 : decode cX2_isSpelled 33 = .ok (.aload_n 0, 1) := by decide +kernel
theorem dX2_isSpelled_34 : decode cX2_isSpelled 34 = .ok (.getfield 9, 3) := by decide +kernel
theorem dX2_isSpelled_37 : decode cX2_isSpelled 37 = .ok (.aload_n 0, 1) := by decide +kernel
theorem dX2_isSpelled_38 : decode cX2_isSpelled 38 = .ok (.getfield 34, 3) := by decide +kernel
theorem dX2_isSpelled_41 : decode cX2_isSpelled 41 = .ok (.iload_n 2, 1) := by decide +kernel
theorem dX2_isSpelled_42 : decode cX2_isSpelled 42 = .ok (.iadd, 1) := by decide +kernel
theorem dX2_isSpelled_43 : decode cX2_isSpelled 43 = .ok (.iaload, 1) := by decide +kernel
theorem dX2_isSpelled_44 : decode cX2_isSpelled 44 = .ok (.if_icmp .eq 5, 3) := by decide +kernel
theorem dX2_isSpelled_47 : decode cX2_isSpelled 47 = .ok (.iconst 0, 1) := by decide +kernel
theorem dX2_isSpelled_48 : decode cX2_isSpelled 48 = .ok (.ireturn, 1) := by decide +kernel
theorem dX2_isSpelled_49 : decode cX2_isSpelled 49 = .ok (.iinc 2 1, 3) := by decide +kernel
theorem dX2_isSpelled_52 : decode cX2_isSpelled 52 = .ok (.goto (-32), 3) := by decide +kernel
theorem dX2_isSpelled_55 : decode cX2_isSpelled 55 = .ok (.iconst 1, 1) := by decide +kernel
theorem dX2_isSpelled_56 : decode cX2_isSpelled 56 = .ok (.ireturn, 1) := by decide +kernel
theorem dX2_passNumber_0 : decode cX2_passNumber 0 = .ok (.aload_n 0, 1) := by decide +kernel
theorem dX2_passNumber_1 : decode cX2_passNumber 1 = .ok (.iconst 0, 1) := by decide +kernel
theorem dX2_passNumber_2 : decode cX2_passNumber 2 = .ok (.putfield 37, 3) := by decide +kernel
theorem dX2_passNumber_5 : decode cX2_passNumber 5 = .ok (.aload_n 0, 1) := by decide +kernel
theorem dX2_passNumber_6 : decode cX2_passNumber 6 = .ok (.getfield 26, 3) := by decide +kernel
theorem dX2_passNumber_9 : decode cX2_passNumber 9 = .ok (.aload_n 0, 1) := by decide +kernel
theorem dX2_passNumber_10 : decode cX2_passNumber 10 = .ok (.getfield 22, 3) := by decide +kernel
theorem dX2_passNumber_13 : decode cX2_passNumber 13 = .ok (.if_icmp .ge 55, 3) := by decide +kernel
theorem dX2_passNumber_16 : decode cX2_passNumber 16 = .ok (.aload_n 0, 1) := by decide +kernel
theorem dX2_passNumber_17 : decode cX2_passNumber 17 = .ok (.getfield 9, 3) := by decide +kernel
theorem dX2_passNumber_20 : decode cX2_passNumber 20 = .ok (.aload_n 0, 1) := by decide +kernel
theorem dX2_passNumber_21 : decode cX2_passNumber 21 = .ok (.getfield 26, 3) := by decide +kernel
theorem dX2_passNumber_24 : decode cX2_passNumber 24 = .ok (.iaload, 1) := by decide +kernel
theorem dX2_passNumber_25 : decode cX2_passNumber 25 = .ok (.invokestatic 96, 3) := by decide +kernel
theorem dX2_passNumber_28 : decode cX2_passNumber 28 = .ok (.ifCond .eq 40, 3) := by decide +kernel
theorem dX2_passNumber_31 : decode cX2_passNumber 31 = .ok (.aload_n 0, 1) := by decide +kernel
theorem dX2_passNumber_32 : decode cX2_passNumber 32 = .ok (.aload_n 0, 1) := by decide +kernel
theorem dX2_passNumber_33 : decode cX2_passNumber 33 = .ok (.getfield 37, 3) := by decide +kernel
theorem dX2_passNumber_36 : decode cX2_passNumber 36 = .ok (.bipush 10, 2) := by decide +kernel
theorem dX2_passNumber_38 : decode cX2_passNumber 38 = .ok (.imul, 1) := by decide +kernel
theorem dX2_passNumber_39 : decode cX2_passNumber 39 = .ok (.aload_n 0, 1) := by decide +kernel
theorem dX2_passNumber_40 : decode cX2_passNumber 40 = .ok (.getfield 9, 3) := by decide +kernel
theorem dX2_passNumber_43 : decode cX2_passNumber 43 = .ok (.aload_n 0, 1) := by decide +kernel
theorem dX2_passNumber_44 : decode cX2_passNumber 44 = .ok (.getfield 26, 3) := by decide +kernel
theorem dX2_passNumber_47 : decode cX2_passNumber 47 = .ok (.iaload, 1) := by decide +kernel
theorem dX2_passNumber_48 : decode cX2_passNumber 48 = .ok (.bipush 48, 2) := by decide +kernel
theorem dX2_passNumber_50 : decode cX2_passNumber 50 = .ok (.isub, 1) := by decide +kernel
theorem dX2_passNumber_51 : decode cX2_passNumber 51 = .ok (.iadd, 1) := by decide +kernel
theorem dX2_passNumber_52 : decode cX2_passNumber 52 = .ok (.putfield 37, 3) := by decide +kernel
theorem dX2_passNumber_55 : decode cX2_passNumber 55 = .ok (.aload_n 0, 1) := by decide +kernel
theorem dX2_passNumber_56 : decode cX2_passNumber 56 = .ok (.dup, 1) := by decide +kernel
theorem dX2_passNumber_57 : decode cX2_passNumber 57 = .ok (.getfield 26, 3) := by decide +kernel
theorem dX2_passNumber_60 : decode cX2_passNumber 60 = .ok (.iconst 1, 1) := by decide +kernel
theorem dX2_passNumber_61 : decode cX2_passNumber 61 = .ok (.iadd, 1) := by decide +kernel
theorem dX2_passNumber_62 : decode cX2_passNumber 62 = .ok (.putfield 26, 3) := by decide +kernel
theorem dX2_passNumber_65 : decode cX2_passNumber 65 = .ok (.goto (-60), 3) := by decide +kernel
theorem dX2_passNumber_68 : decode cX2_passNumber 68 = .ok (.aload_n 0, 1) := by decide +kernel
theorem dX2_passNumber_69 : decode cX2_passNumber 69 = .ok (.getfield 26, 3) := by decide +kernel
theorem dX2_passNumber_72 : decode cX2_passNumber 72 = .ok (.aload_n 0, 1) := by decide +kernel
theorem dX2_passNumber_73 : decode cX2_passNumber 73 = .ok (.getfield 34, 3) := by decide +kernel
theorem dX2_passNumber_76 : decode cX2_passNumber 76 = .ok (.isub, 1) := by decide +kernel
theorem dX2_passNumber_77 : decode cX2_passNumber 77 = .ok (.iconst 4, 1) := by decide +kernel
theorem dX2_passNumber_78 : decode cX2_passNumber 78 = .ok (.if_icmp .le 8, 3) := by decide +kernel
theorem dX2_passNumber_81 : decode cX2_passNumber 81 = .ok (.bipush 23, 2) := by decide +kernel
theorem dX2_passNumber_83 : decode cX2_passNumber 83 = .ok (.goto 5, 3) := by decide +kernel
theorem dX2_passNumber_86 : decode cX2_passNumber 86 = .ok (.bipush 21, 2) := by decide +kernel
theorem dX2_passNumber_88 : decode cX2_passNumber 88 = .ok (.ireturn, 1) := by decide +kernel
theorem dX2_isLetter_0 : decode cX2_isLetter 0 = .ok (.iload_n 0, 1) := by decide +kernel
theorem dX2_isLetter_1 : decode cX2_isLetter 1 = .ok (.bipush 97, 2) := by decide +kernel
theorem dX2_isLetter_3 : decode cX2_isLetter 3 = .ok (.if_icmp .lt 13, 3) := by decide +kernel
theorem dX2_isLetter_6 : decode cX2_isLetter 6 = .ok (.iload_n 0, 1) := by decide +kernel
theorem dX2_isLetter_7 : decode cX2_isLetter 7 = .ok (.bipush 122, 2) := by decide +kernel
theorem dX2_isLetter_9 : decode cX2_isLetter 9 = .ok (.if_icmp .gt 7, 3) := by decide +kernel
theorem dX2_isLetter_12 : decode cX2_isLetter 12 = .ok (.iconst 1, 1) := by decide +kernel
theorem dX2_isLetter_13 : decode cX2_isLetter 13 = .ok (.goto 4, 3) := by decide +kernel
theorem dX2_isLetter_16 : decode cX2_isLetter 16 = .ok (.iconst 0, 1) := by decide +kernel
theorem dX2_isLetter_17 : decode cX2_isLetter 17 = .ok (.ireturn, 1) := by decide +kernel
theorem dX2_isDigit_0 : decode cX2_isDigit 0 = .ok (.iload_n 0, 1) := by decide +kernel
theorem dX2_isDigit_1 : decode cX2_isDigit 1 = .ok (.bipush 48, 2) := by decide +kernel
theorem dX2_isDigit_3 : decode cX2_isDigit 3 = .ok (.if_icmp .lt 13, 3) := by decide +kernel
theorem dX2_isDigit_6 : decode cX2_isDigit 6 = .ok (.iload_n 0, 1) := by decide +kernel
theorem dX2_isDigit_7 : decode cX2_isDigit 7 = .ok (.bipush 57, 2) := by decide +kernel
theorem dX2_isDigit_9 : decode cX2_isDigit 9 = .ok (.if_icmp .gt 7, 3) := by decide +kernel
theorem dX2_isDigit_12 : decode cX2_isDigit 12 = .ok (.iconst 1, 1) := by decide +kernel
theorem dX2_isDigit_13 : decode cX2_isDigit 13 = .ok (.goto 4, 3) := by decide +kernel
theorem dX2_isDigit_16 : decode cX2_isDigit 16 = .ok (.iconst 0, 1) := by decide +kernel
theorem dX2_isDigit_17 : decode cX2_isDigit 17 = .ok (.ireturn, 1) := by decide +kernel
